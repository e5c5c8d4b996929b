set_option maxHeartbeats 4000000 in
set_option maxRecDepth 100000 in
theorem c_X9_goodFromD (l : Launch) (dC : Nat → ClassId) (dI : Nat → Nat → Nat) (cI cZ cQ : ClassId) (h0 : Nat) (ho : Nat) (hd : Nat) (f_h0 : List Value) (o5 : Nat) (o6 : Nat) (o7 : Nat) (o10 : Nat) (o11 : Nat) (o12 : Nat) (f_ho : List Value) (a3 : Nat) (f_hd : List Value) (fa3 : Nat → Int32) (fo5 : Nat → Int32) (fo6 : Nat → Int32) (fo7 : Nat → Int32) (fo10 : Nat → Int32) (fo11 : Nat → Int32) (fo12 : Nat → Int32) (j : Nat) (k : Nat) (a0 : Int32) (sz : Nat) (e_h0_0 : fAt f_h0 0 = some (.ref ho)) (e_h0_1 : fAt f_h0 1 = some (.ref hd)) (e_ho_5 : fAt f_ho 5 = some (.ref o5)) (e_ho_6 : fAt f_ho 6 = some (.ref o6)) (e_ho_7 : fAt f_ho 7 = some (.ref o7)) (e_ho_10 : fAt f_ho 10 = some (.ref o10)) (e_ho_11 : fAt f_ho 11 = some (.ref o11)) (e_ho_12 : fAt f_ho 12 = some (.ref o12)) (e_hd_3 : fAt f_hd 3 = some (.ref a3)) (hj : j < 8) (hk : k < 4) : Met l yX9_goodFrom wsX9_goodFrom ({ frames := 2, cells := 0, slots := 0, locals := 85 }) (va_Pc [.ref h0, .int (nI j), .int (nI k), .int a0] (fun U => U.heap.size = sz ∧ va_P (dC, dI) vwCl [(h0, .inr (9, f_h0)), (ho, .inr (5, f_ho)), (hd, .inr (1, f_hd)), (a3, .inl (cI, 8, .inl fa3)), (o5, .inl (cI, 8, .inl fo5)), (o6, .inl (cI, 8, .inl fo6)), (o7, .inl (cI, 8, .inl fo7)), (o10, .inl (cI, 4, .inl fo10)), (o11, .inl (cI, 4, .inl fo11)), (o12, .inl (cI, 4, .inl fo12))] U.heap ∧ va_K (dC, dI) vwCl (tys0 cI cZ cQ) U ∧ xN U)) (va_Qi (fun (r : Int32) (u : Nat → Nat) => r = nI (gdM lcB (wrF (fo5 j) (fo6 j) (fo7 j) (fo10 k) (fo11 k)) (fo12 k) (fa3 j) a0 999)) (fun (_ : Nat → Nat) (_ : State) => True) (fun _ : Nat => False)) 0 0 (fun _ : Nat => False) := by
  refine Met.ofW (cc := cX9_goodFrom) (maxL := 7) (ret := (some .int)) (by decide) rfl ?_
  intro p e s m args below meth c s₁ B hml hv
  obtain ⟨rfl, hsz, hP, hK, hN⟩ := hv
  have hx := B.exec
  have hb := B.bytes
  have hr := B.returns
  have hts := atoms_spec (ws := wsX9_goodFrom) B.pre
  have hown : s.vm.findClass RX9 = some m.cls := findClass_of_methodNamed B.named
  have hlocks := B.notSynchronized
  have hi_X1 : ∀ w ∈ u_ws RX1 TX1 8, w ∈ wsX9_goodFrom := fun _ h => List.mem_cons_of_mem _ (List.mem_append_left _ (List.mem_append_right _ (h)))
  have hi_X9 : ∀ w ∈ u_ws RX9 TX9 3, w ∈ wsX9_goodFrom := fun _ h => List.mem_cons_of_mem _ (List.mem_append_left _ (List.mem_append_left _ (List.mem_append_right _ (h))))
  subst hsz
  have hS : va_S (fun _ : Nat => False) s.heap s.heap [] := va_S.rf
  have hl := lv_entry ([.ref h0, .int (nI j), .int (nI k), .int a0]) (n := 7) (Nat.le_of_ble_eq_true rfl)
  rw [lg_entry_eq]
  generalize (lg_sl ([.ref h0, .int (nI j), .int (nI k), .int a0]) ++ List.replicate (7 - (lg_sl ([.ref h0, .int (nI j), .int (nI k), .int a0])).length) Slot.unset).toArray = ls at hl ⊢
  have hl : lv_has ls 7 [(0, .ref h0), (1, .int (nI j)), (2, .int (nI k)), (3, .int a0)] := hl
  refine lv_aload_n hx hb dX9_goodFrom_0 rfl (lv_at hl 0 rfl) ?_
  refine va_get (D := (dC, dI)) (ci := 9) (v := .ref ho) (C := RX9) (T := TX9) (N := 3) hx hb hts hi_X9 hown hK hP 0 rfl rfl 0 (by decide) (hts (.fieldLink RX9 15 "LeftQuills$Trials" "office" "LLeftQuills$Office;") (wmx 1 rfl)) (fun _ h9 => h9) e_h0_0 dX9_goodFrom_1 ?_
  refine lv_iload_n hx hb dX9_goodFrom_4 rfl (lv_at hl 2 rfl) ?_
  refine lv_aload_n hx hb dX9_goodFrom_5 rfl (lv_at hl 0 rfl) ?_
  refine va_get (D := (dC, dI)) (ci := 9) (v := .ref hd) (C := RX9) (T := TX9) (N := 3) hx hb hts hi_X9 hown hK hP 0 rfl rfl 1 (by decide) (hts (.fieldLink RX9 19 "LeftQuills$Trials" "desk" "LLeftQuills$Desk;") (wmx 2 rfl)) (fun _ h9 => h9) e_h0_1 dX9_goodFrom_6 ?_
  refine va_get (D := (dC, dI)) (ci := 1) (v := .ref a3) (C := RX1) (T := TX1) (N := 8) hx hb hts hi_X1 hown hK hP 2 rfl rfl 3 (by decide) (hts (.fieldLink RX9 32 "LeftQuills$Desk" "nib" "[I") (wmx 3 rfl)) (fun _ h9 => h9) e_hd_3 dX9_goodFrom_9 ?_
  refine lv_iload_n hx hb dX9_goodFrom_12 rfl (lv_at hl 1 rfl) ?_
  refine va_iald hx hb hK hP 3 0 rfl rfl (vp_in_nI (n := j) (N := 8) (by omega) (by decide)) dX9_goodFrom_13 ?_
  refine W.eq (g2 := F0 m 14 ls [.int (fa3 j), .int (nI k), .ref ho]) (congrArg (fun y9 => F0 m 14 ls (.int (fa3 y9) :: [.int (nI k), .ref ho])) ((nI_clamp (n := j) (by omega)))) ?_
  have hPc := hP.sub (ws' := [(ho, .inr (5, f_ho)), (o12, .inl (cI, 4, .inl fo12))]) [1, 9] rfl
  refine va_calli (va_runV (As := [.int (nI k), .int (fa3 j)]) (rest := []) ⟨hx, hb, hml, hown, hts⟩ (c_X5_likesNibD l dC dI cI cZ cQ ho o12 f_ho fo12 k (fa3 j) s.heap.size e_ho_12 (by omega)) (cwV 2 hts gX9_goodFrom_X5_likesNib rfl rfl rfl hd_X5_likesNib_RX5 ⟨Nat.le_of_ble_eq_true rfl, Nat.le_of_ble_eq_true rfl⟩) (pv_R (va_recv hK hP (ci := 5) (q0 := 1) rfl rfl) hK hPc) rfl rfl hl.1 rfl (lv_room (Nat.le_of_ble_eq_true rfl)) dX9_goodFrom_14 ⟨Nat.le_of_ble_eq_true rfl, Nat.le_of_ble_eq_true rfl⟩) hS (fun q _ h => False.elim h) (fun q h => False.elim h) (fun r1 u2 t H1 locs ht hvm hw3 hB hz1 hk1 hS => ?_)
  have hP := hP.kept (fun k q hk => hk1 q.1 (hP k q hk).lt (fun h => h))
  clear hz1 hk1 hPc
  generalize H1 = H at hP hS ht ⊢
  try dsimp only at hw3
  rcases hw3 with ⟨rfl, hw3⟩ | ⟨rfl, hw3⟩
  ·
    refine lv_if_ne (tgt := 22) hx hb dX9_goodFrom_17 (by decide) (fun c4 => ?_) (fun c4 => ?_)
    rotate_left
    · exact absurd c4 (by decide)
    clear c4
    refine lv_aload_n hx hb dX9_goodFrom_22 rfl (lv_at hl 0 rfl) ?_
    refine va_get (D := (dC, dI)) (ci := 9) (v := .ref ho) (C := RX9) (T := TX9) (N := 3) hx hb hts hi_X9 hown hK hP 0 rfl rfl 0 (by decide) (hts (.fieldLink RX9 15 "LeftQuills$Trials" "office" "LLeftQuills$Office;") (wmx 1 rfl)) (fun _ h9 => h9) e_h0_0 dX9_goodFrom_23 ?_
    refine lv_iload_n hx hb dX9_goodFrom_26 rfl (lv_at hl 1 rfl) ?_
    refine lv_iload_n hx hb dX9_goodFrom_27 rfl (lv_at hl 2 rfl) ?_
    have hPc := hP.sub (ws' := [(ho, .inr (5, f_ho)), (o5, .inl (cI, 8, .inl fo5)), (o6, .inl (cI, 8, .inl fo6)), (o7, .inl (cI, 8, .inl fo7)), (o10, .inl (cI, 4, .inl fo10)), (o11, .inl (cI, 4, .inl fo11))]) [1, 4, 5, 6, 7, 8] rfl
    refine va_calli (va_runV (As := [.int (nI j), .int (nI k)]) (rest := []) ⟨hx, hb, hml, hown, hts⟩ (c_X5_wearD l dC dI cI cZ cQ ho o5 o6 o7 o10 o11 f_ho fo5 fo6 fo7 fo10 fo11 j k H.size e_ho_5 e_ho_6 e_ho_7 e_ho_10 e_ho_11 (by omega) (by omega)) (cwV 2 hts gX9_goodFrom_X5_wear rfl rfl rfl hd_X5_wear_RX5 ⟨Nat.le_of_ble_eq_true rfl, Nat.le_of_ble_eq_true rfl⟩) (pv_R (va_recv hK hP (ci := 5) (q0 := 1) rfl rfl) hK hPc) rfl rfl hl.1 rfl (lv_room (Nat.le_of_ble_eq_true rfl)) dX9_goodFrom_28 ⟨Nat.le_of_ble_eq_true rfl, Nat.le_of_ble_eq_true rfl⟩) hS (fun q _ h => False.elim h) (fun q h => False.elim h) (fun r5 u6 t H1 locs ht hvm hw7 hB hz1 hk1 hS => ?_)
    have hP := hP.kept (fun k q hk => hk1 q.1 (hP k q hk).lt (fun h => h))
    clear hz1 hk1 hPc
    generalize H1 = H at hP hS ht ⊢
    try dsimp only at hw7
    subst hw7
    refine lv_istore (lv' := [(4, .int (wrF (fo5 j) (fo6 j) (fo7 j) (fo10 k) (fo11 k))), (0, .ref h0), (1, .int (nI j)), (2, .int (nI k)), (3, .int a0)]) hx hb dX9_goodFrom_31 hl (by decide) rfl (fun ls hl => ?_)
    refine lv_iload_n hx hb dX9_goodFrom_33 rfl (lv_at hl 4 rfl) ?_
    refine lv_iload hx hb dX9_goodFrom_34 (lv_at hl 0 rfl) ?_
    have hPc := hP.sub (ws' := []) [] rfl
    refine va_calli (va_runSN (As := [.int a0, .int (wrF (fo5 j) (fo6 j) (fo7 j) (fo10 k) (fo11 k))]) (rest := []) ⟨hx, hb, hml, hown, hts⟩ (c_X10_softerByD l dC dI cI cZ cQ a0 (wrF (fo5 j) (fo6 j) (fo7 j) (fo10 k) (fo11 k)) H.size ) ⟨va_cnB 2 hts gX9_goodFrom_X10_softerBy_n45 rfl rfl rfl (hN.n_X9_45) (hts (.initialized RX10) (wmx 35 rfl)) (by decide +kernel) ⟨Nat.le_of_ble_eq_true rfl, Nat.le_of_ble_eq_true rfl⟩, hts (.static yX10_softerBy) (by decide +kernel), trivial⟩ (ps_R hK hPc) rfl rfl hl.1 rfl (lv_room (Nat.le_of_ble_eq_true rfl)) dX9_goodFrom_36 ⟨Nat.le_of_ble_eq_true rfl, Nat.le_of_ble_eq_true rfl⟩) hS (fun q _ h => False.elim h) (fun q h => False.elim h) (fun r8 u9 t H1 locs ht hvm hw10 hB hz1 hk1 hS => ?_)
    have hP := hP.kept (fun k q hk => hk1 q.1 (hP k q hk).lt (fun h => h))
    clear hz1 hk1 hPc
    generalize H1 = H at hP hS ht ⊢
    try dsimp only at hw10
    subst hw10
    refine lv_istore (lv' := [(5, .int (sbF a0 (wrF (fo5 j) (fo6 j) (fo7 j) (fo10 k) (fo11 k)))), (4, .int (wrF (fo5 j) (fo6 j) (fo7 j) (fo10 k) (fo11 k))), (0, .ref h0), (1, .int (nI j)), (2, .int (nI k)), (3, .int a0)]) hx hb dX9_goodFrom_39 hl (by decide) rfl (fun ls hl => ?_)
    refine lv_iconst (v := 0) hx hb dX9_goodFrom_41 (by decide) ?_
    refine lv_istore (lv' := [(6, .int 0), (5, .int (sbF a0 (wrF (fo5 j) (fo6 j) (fo7 j) (fo10 k) (fo11 k)))), (4, .int (wrF (fo5 j) (fo6 j) (fo7 j) (fo10 k) (fo11 k))), (0, .ref h0), (1, .int (nI j)), (2, .int (nI k)), (3, .int a0)]) hx hb dX9_goodFrom_42 hl (by decide) rfl (fun ls hl => ?_)
    refine (fun (K : ∀ (d44 : Nat) (k44 : Nat) (a44_5 : Int32) (H : Heap) (locs : List Loc) (ls : Array Slot), k44 + d44 = 999 → k44 + gpN (wrF (fo5 j) (fo6 j) (fo7 j) (fo10 k) (fo11 k)) (999 - k44) a44_5 = gpN (wrF (fo5 j) (fo6 j) (fo7 j) (fo10 k) (fo11 k)) 999 (sbF a0 (wrF (fo5 j) (fo6 j) (fo7 j) (fo10 k) (fo11 k))) → va_P (dC, dI) vwCl [(h0, .inr (9, f_h0)), (ho, .inr (5, f_ho)), (hd, .inr (1, f_hd)), (a3, .inl (cI, 8, .inl fa3)), (o5, .inl (cI, 8, .inl fo5)), (o6, .inl (cI, 8, .inl fo6)), (o7, .inl (cI, 8, .inl fo7)), (o10, .inl (cI, 4, .inl fo10)), (o11, .inl (cI, 4, .inl fo11)), (o12, .inl (cI, 4, .inl fo12))] H → va_S (fun _ : Nat => False) s.heap H locs → lv_has ls 7 [(6, .int (nI k44)), (5, .int a44_5), (4, .int (wrF (fo5 j) (fo6 j) (fo7 j) (fo10 k) (fo11 k))), (0, .ref h0), (1, .int (nI j)), (2, .int (nI k)), (3, .int a0)] → W p l e _ s m _ below meth c H locs _ _ _ (F0 m 44 ls [])) => K 999 0 (sbF a0 (wrF (fo5 j) (fo6 j) (fo7 j) (fo10 k) (fo11 k))) _ _ _ (by omega) (Nat.zero_add _) hP hS (lv_sub hl [0, 1, 2, 3, 4, 5, 6] rfl)) ?_
    intro d44
    induction d44 with
    | zero =>
      intro k44 a44_5 H locs ls hk44 hv44_0 hP hS hl
      refine lv_iload hx hb dX9_goodFrom_44 (lv_at hl 0 rfl) ?_
      refine lv_sipush (v := 999) hx hb dX9_goodFrom_46 (by decide) ?_
      refine lv_icmp_ge (tgt := 74) hx hb dX9_goodFrom_49 (by decide) (fun c11 => ?_) (fun c11 => ?_)
      ·
        have c11 : 999 ≤ k44 := (nI_leI (a := 999) (b := k44) (by omega) (by omega)).mp c11
        refine lv_iload hx hb dX9_goodFrom_74 (lv_at hl 0 rfl) ?_
        exact W.iret (v := nI k44) hx hb hr (fun t ht hW => ⟨⟨nI k44, (fun _ => 0), rfl, (congrArg nI ((gp_full (by omega) hv44_0).trans (if_pos hw3).symm)), trivial⟩, hS.F ht⟩) hS.2.2 dX9_goodFrom_76
      ·
        have c11 : ¬ 999 ≤ k44 := fun h => c11 ((nI_leI (a := 999) (b := k44) (by omega) (by omega)).mpr h)
        omega
    | succ d44 ih44 =>
      intro k44 a44_5 H locs ls hk44 hv44_0 hP hS hl
      refine lv_iload hx hb dX9_goodFrom_44 (lv_at hl 0 rfl) ?_
      refine lv_sipush (v := 999) hx hb dX9_goodFrom_46 (by decide) ?_
      refine lv_icmp_ge (tgt := 74) hx hb dX9_goodFrom_49 (by decide) (fun c12 => ?_) (fun c12 => ?_)
      ·
        have c12 : 999 ≤ k44 := (nI_leI (a := 999) (b := k44) (by omega) (by omega)).mp c12
        omega
      ·
        have c12 : ¬ 999 ≤ k44 := fun h => c12 ((nI_leI (a := 999) (b := k44) (by omega) (by omega)).mpr h)
        refine lv_iload hx hb dX9_goodFrom_52 (lv_at hl 1 rfl) ?_
        refine lv_bipush (v := 50) hx hb dX9_goodFrom_54 (by decide) ?_
        refine lv_icmp_gt (tgt := 74) hx hb dX9_goodFrom_56 (by decide) (fun c13 => ?_) (fun c13 => ?_)
        ·
          refine lv_iload hx hb dX9_goodFrom_74 (lv_at hl 0 rfl) ?_
          exact W.iret (v := nI k44) hx hb hr (fun t ht hW => ⟨⟨nI k44, (fun _ => 0), rfl, (congrArg nI ((gp_end (by first | exact fa_ltn c13 | exact c13 | exact fun h9 => absurd h9 (fa_ltn c13)) hv44_0).trans (if_pos hw3).symm)), trivial⟩, hS.F ht⟩) hS.2.2 dX9_goodFrom_76
        ·
          refine lv_iinc (v := nI (k44 + 1)) (lv' := [(6, .int (nI (k44 + 1))), (5, .int a44_5), (4, .int (wrF (fo5 j) (fo6 j) (fo7 j) (fo10 k) (fo11 k))), (0, .ref h0), (1, .int (nI j)), (2, .int (nI k)), (3, .int a0)]) hx hb dX9_goodFrom_59 hl (k := 0) rfl ((rfl : nI k44 + Int32.ofInt 1 = nI k44 + 1).trans (nI_add k44 1)) (by decide) rfl (fun ls hl => ?_)
          refine lv_iload hx hb dX9_goodFrom_62 (lv_at hl 1 rfl) ?_
          refine lv_iload hx hb dX9_goodFrom_64 (lv_at hl 2 rfl) ?_
          have hPc := hP.sub (ws' := []) [] rfl
          refine va_calli (va_runSN (As := [.int a44_5, .int (wrF (fo5 j) (fo6 j) (fo7 j) (fo10 k) (fo11 k))]) (rest := []) ⟨hx, hb, hml, hown, hts⟩ (c_X10_softerByD l dC dI cI cZ cQ a44_5 (wrF (fo5 j) (fo6 j) (fo7 j) (fo10 k) (fo11 k)) H.size ) ⟨va_cnB 2 hts gX9_goodFrom_X10_softerBy_n45 rfl rfl rfl (hN.n_X9_45) (hts (.initialized RX10) (wmx 35 rfl)) (by decide +kernel) ⟨Nat.le_of_ble_eq_true rfl, Nat.le_of_ble_eq_true rfl⟩, hts (.static yX10_softerBy) (by decide +kernel), trivial⟩ (ps_R hK hPc) rfl rfl hl.1 rfl (lv_room (Nat.le_of_ble_eq_true rfl)) dX9_goodFrom_66 ⟨Nat.le_of_ble_eq_true rfl, Nat.le_of_ble_eq_true rfl⟩) hS (fun q _ h => False.elim h) (fun q h => False.elim h) (fun r14 u15 t H1 locs ht hvm hw16 hB hz1 hk1 hS => ?_)
          have hP := hP.kept (fun k q hk => hk1 q.1 (hP k q hk).lt (fun h => h))
          clear hz1 hk1 hPc
          generalize H1 = H at hP hS ht ⊢
          try dsimp only at hw16
          subst hw16
          refine lv_istore (lv' := [(5, .int (sbF a44_5 (wrF (fo5 j) (fo6 j) (fo7 j) (fo10 k) (fo11 k)))), (6, .int (nI (k44 + 1))), (4, .int (wrF (fo5 j) (fo6 j) (fo7 j) (fo10 k) (fo11 k))), (0, .ref h0), (1, .int (nI j)), (2, .int (nI k)), (3, .int a0)]) hx hb dX9_goodFrom_69 hl (by decide) rfl (fun ls hl => ?_)
          refine lv_goto (tgt := 44) hx hb dX9_goodFrom_71 (by decide) ?_
          exact ih44 (k44 + 1) (sbF a44_5 (wrF (fo5 j) (fo6 j) (fo7 j) (fo10 k) (fo11 k))) _ _ _ (by omega) (gp_step (by omega) (by first | exact fa_nlt c13 | exact c13) hv44_0) hP hS (lv_sub hl [1, 0, 2, 3, 4, 5, 6] rfl)
  ·
    refine lv_if_ne (tgt := 22) hx hb dX9_goodFrom_17 (by decide) (fun c17 => ?_) (fun c17 => ?_)
    · exact absurd c17 (by decide)
    clear c17
    refine lv_iconst (v := 0) hx hb dX9_goodFrom_20 (by decide) ?_
    exact W.iret (v := 0) hx hb hr (fun t ht hW => ⟨⟨0, (fun _ => 0), rfl, (congrArg nI (if_neg hw3).symm), trivial⟩, hS.F ht⟩) hS.2.2 dX9_goodFrom_21
set_option maxHeartbeats 4000000 in
set_option maxRecDepth 100000 in
theorem c_X9_goodNowD (l : Launch) (dC : Nat → ClassId) (dI : Nat → Nat → Nat) (cI cZ cQ : ClassId) (h0 : Nat) (ho : Nat) (hd : Nat) (f_h0 : List Value) (o5 : Nat) (o6 : Nat) (o7 : Nat) (o10 : Nat) (o11 : Nat) (o12 : Nat) (f_ho : List Value) (a3 : Nat) (a4 : Nat) (f_hd : List Value) (fa3 : Nat → Int32) (fa4 : Nat → Int32) (fo5 : Nat → Int32) (fo6 : Nat → Int32) (fo7 : Nat → Int32) (fo10 : Nat → Int32) (fo11 : Nat → Int32) (fo12 : Nat → Int32) (j : Nat) (k : Nat) (sz : Nat) (e_h0_0 : fAt f_h0 0 = some (.ref ho)) (e_h0_1 : fAt f_h0 1 = some (.ref hd)) (e_ho_5 : fAt f_ho 5 = some (.ref o5)) (e_ho_6 : fAt f_ho 6 = some (.ref o6)) (e_ho_7 : fAt f_ho 7 = some (.ref o7)) (e_ho_10 : fAt f_ho 10 = some (.ref o10)) (e_ho_11 : fAt f_ho 11 = some (.ref o11)) (e_ho_12 : fAt f_ho 12 = some (.ref o12)) (e_hd_3 : fAt f_hd 3 = some (.ref a3)) (e_hd_4 : fAt f_hd 4 = some (.ref a4)) (hj : j < 8) (hk : k < 4) : Met l yX9_goodNow wsX9_goodNow ({ frames := 3, cells := 0, slots := 0, locals := 111 }) (va_Pc [.ref h0, .int (nI j), .int (nI k)] (fun U => U.heap.size = sz ∧ va_P (dC, dI) vwCl [(h0, .inr (9, f_h0)), (ho, .inr (5, f_ho)), (hd, .inr (1, f_hd)), (a3, .inl (cI, 8, .inl fa3)), (a4, .inl (cI, 8, .inl fa4)), (o5, .inl (cI, 8, .inl fo5)), (o6, .inl (cI, 8, .inl fo6)), (o7, .inl (cI, 8, .inl fo7)), (o10, .inl (cI, 4, .inl fo10)), (o11, .inl (cI, 4, .inl fo11)), (o12, .inl (cI, 4, .inl fo12))] U.heap ∧ va_K (dC, dI) vwCl (tys0 cI cZ cQ) U ∧ xN U)) (va_Qi (fun (r : Int32) (u : Nat → Nat) => r = nI (gdM lcB (wrF (fo5 j) (fo6 j) (fo7 j) (fo10 k) (fo11 k)) (fo12 k) (fa3 j) (fa4 j) 999)) (fun (_ : Nat → Nat) (_ : State) => True) (fun _ : Nat => False)) 0 0 (fun _ : Nat => False) := by
  refine Met.ofW (cc := cX9_goodNow) (maxL := 3) (ret := (some .int)) (by decide) rfl ?_
  intro p e s m args below meth c s₁ B hml hv
  obtain ⟨rfl, hsz, hP, hK, hN⟩ := hv
  have hx := B.exec
  have hb := B.bytes
  have hr := B.returns
  have hts := atoms_spec (ws := wsX9_goodNow) B.pre
  have hown : s.vm.findClass RX9 = some m.cls := findClass_of_methodNamed B.named
  have hlocks := B.notSynchronized
  have hi_X1 : ∀ w ∈ u_ws RX1 TX1 8, w ∈ wsX9_goodNow := fun _ h => List.mem_cons_of_mem _ (List.mem_append_left _ (List.mem_append_right _ (h)))
  have hi_X9 : ∀ w ∈ u_ws RX9 TX9 3, w ∈ wsX9_goodNow := fun _ h => List.mem_cons_of_mem _ (List.mem_append_left _ (List.mem_append_left _ (List.mem_append_right _ (h))))
  subst hsz
  have hS : va_S (fun _ : Nat => False) s.heap s.heap [] := va_S.rf
  have hl := lv_entry ([.ref h0, .int (nI j), .int (nI k)]) (n := 3) (Nat.le_of_ble_eq_true rfl)
  rw [lg_entry_eq]
  generalize (lg_sl ([.ref h0, .int (nI j), .int (nI k)]) ++ List.replicate (3 - (lg_sl ([.ref h0, .int (nI j), .int (nI k)])).length) Slot.unset).toArray = ls at hl ⊢
  have hl : lv_has ls 3 [(0, .ref h0), (1, .int (nI j)), (2, .int (nI k))] := hl
  refine lv_aload_n hx hb dX9_goodNow_0 rfl (lv_at hl 0 rfl) ?_
  refine lv_iload_n hx hb dX9_goodNow_1 rfl (lv_at hl 1 rfl) ?_
  refine lv_iload_n hx hb dX9_goodNow_2 rfl (lv_at hl 2 rfl) ?_
  refine lv_aload_n hx hb dX9_goodNow_3 rfl (lv_at hl 0 rfl) ?_
  refine va_get (D := (dC, dI)) (ci := 9) (v := .ref hd) (C := RX9) (T := TX9) (N := 3) hx hb hts hi_X9 hown hK hP 0 rfl rfl 1 (by decide) (hts (.fieldLink RX9 19 "LeftQuills$Trials" "desk" "LLeftQuills$Desk;") (wmx 1 rfl)) (fun _ h9 => h9) e_h0_1 dX9_goodNow_4 ?_
  refine va_get (D := (dC, dI)) (ci := 1) (v := .ref a4) (C := RX1) (T := TX1) (N := 8) hx hb hts hi_X1 hown hK hP 2 rfl rfl 4 (by decide) (hts (.fieldLink RX9 23 "LeftQuills$Desk" "softness" "[I") (wmx 2 rfl)) (fun _ h9 => h9) e_hd_4 dX9_goodNow_7 ?_
  refine lv_iload_n hx hb dX9_goodNow_10 rfl (lv_at hl 1 rfl) ?_
  refine va_iald hx hb hK hP 4 0 rfl rfl (vp_in_nI (n := j) (N := 8) (by omega) (by decide)) dX9_goodNow_11 ?_
  refine W.eq (g2 := F0 m 12 ls [.int (fa4 j), .int (nI k), .int (nI j), .ref h0]) (congrArg (fun y9 => F0 m 12 ls (.int (fa4 y9) :: [.int (nI k), .int (nI j), .ref h0])) ((nI_clamp (n := j) (by omega)))) ?_
  have hPc := hP.sub (ws' := [(h0, .inr (9, f_h0)), (ho, .inr (5, f_ho)), (hd, .inr (1, f_hd)), (a3, .inl (cI, 8, .inl fa3)), (o5, .inl (cI, 8, .inl fo5)), (o6, .inl (cI, 8, .inl fo6)), (o7, .inl (cI, 8, .inl fo7)), (o10, .inl (cI, 4, .inl fo10)), (o11, .inl (cI, 4, .inl fo11)), (o12, .inl (cI, 4, .inl fo12))]) [0, 1, 2, 3, 5, 6, 7, 8, 9, 10] rfl
  refine va_calli (va_runV (As := [.int (nI j), .int (nI k), .int (fa4 j)]) (rest := []) ⟨hx, hb, hml, hown, hts⟩ (c_X9_goodFromD l dC dI cI cZ cQ h0 ho hd f_h0 o5 o6 o7 o10 o11 o12 f_ho a3 f_hd fa3 fo5 fo6 fo7 fo10 fo11 fo12 j k (fa4 j) s.heap.size e_h0_0 e_h0_1 e_ho_5 e_ho_6 e_ho_7 e_ho_10 e_ho_11 e_ho_12 e_hd_3 (by omega) (by omega)) (cwV 3 hts gX9_goodNow_X9_goodFrom rfl rfl rfl hd_X9_goodFrom_RX9 ⟨Nat.le_of_ble_eq_true rfl, Nat.le_of_ble_eq_true rfl⟩) ⟨fun a U g mk q => by obtain ⟨q0, q1, qP, qK, qN⟩ := q; exact ⟨q0, q1, qP, va_K.moved (u := U) (U := U.calling g mk a) (Vm.Alike.refl U.vm) qK, qN.calling⟩, va_recv hK hP (ci := 9) (q0 := 0) rfl rfl, fun U hU hW => ⟨rfl, by rw [hU], by rw [hU]; exact hPc, va_K.moved hW.alike hK, hN.warm hW⟩⟩ rfl rfl hl.1 rfl (lv_room (Nat.le_of_ble_eq_true rfl)) dX9_goodNow_12 ⟨Nat.le_of_ble_eq_true rfl, Nat.le_of_ble_eq_true rfl⟩) hS (fun q _ h => False.elim h) (fun q h => False.elim h) (fun r1 u2 t H1 locs ht hvm hw3 hB hz1 hk1 hS => ?_)
  have hP := hP.kept (fun k q hk => hk1 q.1 (hP k q hk).lt (fun h => h))
  clear hz1 hk1 hPc
  generalize H1 = H at hP hS ht ⊢
  try dsimp only at hw3
  obtain ⟨w4, hw4, ew4, rfl⟩ := nat_ix gdM_le hw3
  exact W.iret (v := nI w4) hx hb hr (fun t ht hW => ⟨⟨nI w4, (fun _ => 0), rfl, (congrArg nI ew4.out), trivial⟩, hS.F ht⟩) hS.2.2 dX9_goodNow_15
set_option maxHeartbeats 4000000 in
set_option maxRecDepth 100000 in
theorem c_X11_pagesFromD (l : Launch) (dC : Nat → ClassId) (dI : Nat → Nat → Nat) (cI cZ cQ : ClassId) (h0 : Nat) (m3 : Nat) (m4 : Nat) (m5 : Nat) (m7 : Nat) (m8 : Nat) (m9 : Nat) (m10 : Nat) (f_h0 : List Value) (fm3 : Nat → Int32) (fm4 : Nat → Int32) (fm5 : Nat → Int32) (fm7 : Nat → Int32) (fm8 : Nat → Int32) (fm9 : Nat → Int32) (fm10 : Nat → Int32) (a0 : Int32) (j : Nat) (k : Nat) (mo : Nat) (nq : Nat) (sz : Nat) (e_h0_3 : fAt f_h0 3 = some (.ref m3)) (e_h0_4 : fAt f_h0 4 = some (.ref m4)) (e_h0_5 : fAt f_h0 5 = some (.ref m5)) (e_h0_7 : fAt f_h0 7 = some (.ref m7)) (e_h0_8 : fAt f_h0 8 = some (.ref m8)) (e_h0_9 : fAt f_h0 9 = some (.ref m9)) (e_h0_10 : fAt f_h0 10 = some (.ref m10)) (hnq : nq ≤ 8) (hci : cIn fm5 nq) (hj : j < nq) (hk : k < 4) (hmo : mo ≤ 999) : Met l yX11_pagesFrom wsX11_pagesFrom ({ frames := 3, cells := 0, slots := 0, locals := 109 }) (va_Pc [.ref h0, .int a0, .int (nI j), .int (nI k), .int (nI mo)] (fun U => U.heap.size = sz ∧ va_P (dC, dI) vwCl [(h0, .inr (11, f_h0)), (m3, .inl (cI, 8, .inl fm3)), (m4, .inl (cI, 8, .inl fm4)), (m5, .inl (cI, 8, .inl fm5)), (m7, .inl (cI, 4, .inl fm7)), (m8, .inl (cI, 4, .inl fm8)), (m9, .inl (cI, 4, .inl fm9)), (m10, .inl (cI, 34, .inl fm10))] U.heap ∧ va_K (dC, dI) vwCl (tys0 cI cZ cQ) U)) (va_Qi (fun (r : Int32) (u : Nat → Nat) => r = nI (gdM lmB (wrF (fm3 j) (fm4 j) (fm5 j) (fm7 k) (fm8 k)) (fm9 k) (fm10 (8 + j)) a0 mo)) (fun (_ : Nat → Nat) (_ : State) => True) (fun _ : Nat => False)) 0 0 (fun _ : Nat => False) := by
  refine Met.ofW (cc := cX11_pagesFrom) (maxL := 7) (ret := (some .int)) (by decide) rfl ?_
  intro p e s m args below meth c s₁ B hml hv
  obtain ⟨rfl, hsz, hP, hK⟩ := hv
  have hx := B.exec
  have hb := B.bytes
  have hr := B.returns
  have hts := atoms_spec (ws := wsX11_pagesFrom) B.pre
  have hown : s.vm.findClass RX11 = some m.cls := findClass_of_methodNamed B.named
  have hlocks := B.notSynchronized
  have hi_X11 : ∀ w ∈ u_ws RX11 TX11 46, w ∈ wsX11_pagesFrom := fun _ h => List.mem_cons_of_mem _ (List.mem_append_right _ (h))
  subst hsz
  have hS : va_S (fun _ : Nat => False) s.heap s.heap [] := va_S.rf
  have hl := lv_entry ([.ref h0, .int a0, .int (nI j), .int (nI k), .int (nI mo)]) (n := 7) (Nat.le_of_ble_eq_true rfl)
  rw [lg_entry_eq]
  generalize (lg_sl ([.ref h0, .int a0, .int (nI j), .int (nI k), .int (nI mo)]) ++ List.replicate (7 - (lg_sl ([.ref h0, .int a0, .int (nI j), .int (nI k), .int (nI mo)])).length) Slot.unset).toArray = ls at hl ⊢
  have hl : lv_has ls 7 [(0, .ref h0), (1, .int a0), (2, .int (nI j)), (3, .int (nI k)), (4, .int (nI mo))] := hl
  refine lv_iconst (v := 0) hx hb dX11_pagesFrom_0 (by decide) ?_
  refine lv_istore (lv' := [(5, .int 0), (0, .ref h0), (1, .int a0), (2, .int (nI j)), (3, .int (nI k)), (4, .int (nI mo))]) hx hb dX11_pagesFrom_1 hl (by decide) rfl (fun ls hl => ?_)
  refine lv_aload_n hx hb dX11_pagesFrom_3 rfl (lv_at hl 1 rfl) ?_
  refine lv_iload_n hx hb dX11_pagesFrom_4 rfl (lv_at hl 2 rfl) ?_
  refine lv_iload_n hx hb dX11_pagesFrom_5 rfl (lv_at hl 3 rfl) ?_
  refine lv_iload_n hx hb dX11_pagesFrom_6 rfl (lv_at hl 4 rfl) ?_
  have hPc := hP.sub (ws' := [(h0, .inr (11, f_h0)), (m3, .inl (cI, 8, .inl fm3)), (m4, .inl (cI, 8, .inl fm4)), (m5, .inl (cI, 8, .inl fm5)), (m7, .inl (cI, 4, .inl fm7)), (m8, .inl (cI, 4, .inl fm8))]) [0, 1, 2, 3, 4, 5] rfl
  refine va_calli (va_runV (As := [.int a0, .int (nI j), .int (nI k)]) (rest := []) ⟨hx, hb, hml, hown, hts⟩ (c_X11_softBehindD l dC dI cI cZ cQ h0 m3 m4 m5 m7 m8 f_h0 fm3 fm4 fm5 fm7 fm8 a0 j k nq s.heap.size e_h0_3 e_h0_4 e_h0_5 e_h0_7 e_h0_8 (by omega) (by first | assumption | decide) (by omega) (by omega)) (cwV 3 hts gX11_pagesFrom_X11_softBehind rfl rfl rfl hd_X11_softBehind_RX11 ⟨Nat.le_of_ble_eq_true rfl, Nat.le_of_ble_eq_true rfl⟩) (pv_R (va_recv hK hP (ci := 11) (q0 := 0) rfl rfl) hK hPc) rfl rfl hl.1 rfl (lv_room (Nat.le_of_ble_eq_true rfl)) dX11_pagesFrom_7 ⟨Nat.le_of_ble_eq_true rfl, Nat.le_of_ble_eq_true rfl⟩) hS (fun q _ h => False.elim h) (fun q h => False.elim h) (fun r1 u2 t H1 locs ht hvm hw3 hB hz1 hk1 hS => ?_)
  have hP := hP.kept (fun k q hk => hk1 q.1 (hP k q hk).lt (fun h => h))
  clear hz1 hk1 hPc
  generalize H1 = H at hP hS ht ⊢
  try dsimp only at hw3
  subst hw3
  refine lv_istore (lv' := [(6, .int (sbF a0 (wrF (fm3 j) (fm4 j) (fm5 j) (fm7 k) (fm8 k)))), (5, .int 0), (0, .ref h0), (1, .int a0), (2, .int (nI j)), (3, .int (nI k)), (4, .int (nI mo))]) hx hb dX11_pagesFrom_10 hl (by decide) rfl (fun ls hl => ?_)
  refine (fun (K : ∀ (d12 : Nat) (k12 : Nat) (a12_6 : Int32) (H : Heap) (locs : List Loc) (ls : Array Slot), k12 + d12 = mo → (Hid (lmB (fm10 (8 + j)) (fm9 k) = true → k12 + gpN (wrF (fm3 j) (fm4 j) (fm5 j) (fm7 k) (fm8 k)) (mo - k12) a12_6 = gpN (wrF (fm3 j) (fm4 j) (fm5 j) (fm7 k) (fm8 k)) mo (sbF a0 (wrF (fm3 j) (fm4 j) (fm5 j) (fm7 k) (fm8 k))))) → (Hid (¬ lmB (fm10 (8 + j)) (fm9 k) = true → k12 = 0)) → va_P (dC, dI) vwCl [(h0, .inr (11, f_h0)), (m3, .inl (cI, 8, .inl fm3)), (m4, .inl (cI, 8, .inl fm4)), (m5, .inl (cI, 8, .inl fm5)), (m7, .inl (cI, 4, .inl fm7)), (m8, .inl (cI, 4, .inl fm8)), (m9, .inl (cI, 4, .inl fm9)), (m10, .inl (cI, 34, .inl fm10))] H → va_S (fun _ : Nat => False) s.heap H locs → lv_has ls 7 [(5, .int (nI k12)), (6, .int a12_6), (0, .ref h0), (1, .int a0), (2, .int (nI j)), (3, .int (nI k)), (4, .int (nI mo))] → W p l e _ s m _ below meth c H locs _ _ _ (F0 m 12 ls [])) => K mo 0 (sbF a0 (wrF (fm3 j) (fm4 j) (fm5 j) (fm7 k) (fm8 k))) _ _ _ (by omega) (Hid.mk (fun _ => Nat.zero_add _)) (Hid.mk (fun _ => rfl)) hP hS (lv_sub hl [1, 0, 2, 3, 4, 5, 6] rfl)) ?_
  intro d12
  induction d12 with
  | zero =>
    intro k12 a12_6 H locs ls hk12 hv12_0 hv12_1 hP hS hl
    refine lv_iload hx hb dX11_pagesFrom_12 (lv_at hl 0 rfl) ?_
    refine lv_iload hx hb dX11_pagesFrom_14 (lv_at hl 6 rfl) ?_
    refine lv_icmp_ge (tgt := 59) hx hb dX11_pagesFrom_16 (by decide) (fun c4 => ?_) (fun c4 => ?_)
    ·
      have c4 : mo ≤ k12 := (nI_leI (a := mo) (b := k12) (by omega) (by omega)).mp c4
      refine lv_iload hx hb dX11_pagesFrom_59 (lv_at hl 0 rfl) ?_
      exact W.iret (v := nI k12) hx hb hr (fun t ht hW => ⟨⟨nI k12, (fun _ => 0), rfl, (gd_x hv12_0 hv12_1 (Or.inl (by omega))), trivial⟩, hS.F ht⟩) hS.2.2 dX11_pagesFrom_61
    ·
      have c4 : ¬ mo ≤ k12 := fun h => c4 ((nI_leI (a := mo) (b := k12) (by omega) (by omega)).mpr h)
      omega
  | succ d12 ih12 =>
    intro k12 a12_6 H locs ls hk12 hv12_0 hv12_1 hP hS hl
    refine lv_iload hx hb dX11_pagesFrom_12 (lv_at hl 0 rfl) ?_
    refine lv_iload hx hb dX11_pagesFrom_14 (lv_at hl 6 rfl) ?_
    refine lv_icmp_ge (tgt := 59) hx hb dX11_pagesFrom_16 (by decide) (fun c5 => ?_) (fun c5 => ?_)
    ·
      have c5 : mo ≤ k12 := (nI_leI (a := mo) (b := k12) (by omega) (by omega)).mp c5
      omega
    ·
      have c5 : ¬ mo ≤ k12 := fun h => c5 ((nI_leI (a := mo) (b := k12) (by omega) (by omega)).mpr h)
      refine lv_iload hx hb dX11_pagesFrom_19 (lv_at hl 1 rfl) ?_
      refine lv_bipush (v := 50) hx hb dX11_pagesFrom_21 (by decide) ?_
      refine lv_icmp_gt (tgt := 59) hx hb dX11_pagesFrom_23 (by decide) (fun c6 => ?_) (fun c6 => ?_)
      ·
        refine lv_iload hx hb dX11_pagesFrom_59 (lv_at hl 0 rfl) ?_
        exact W.iret (v := nI k12) hx hb hr (fun t ht hW => ⟨⟨nI k12, (fun _ => 0), rfl, (gd_x hv12_0 hv12_1 (Or.inr (Or.inl (by first | exact fa_ltn c6 | exact c6)))), trivial⟩, hS.F ht⟩) hS.2.2 dX11_pagesFrom_61
      ·
        refine lv_aload_n hx hb dX11_pagesFrom_26 rfl (lv_at hl 2 rfl) ?_
        refine lv_aload_n hx hb dX11_pagesFrom_27 rfl (lv_at hl 2 rfl) ?_
        refine va_get (D := (dC, dI)) (ci := 11) (v := .ref m10) (C := RX11) (T := TX11) (N := 46) hx hb hts hi_X11 hown hK hP 0 rfl rfl 10 (by decide) (hts (.fieldLink RX11 28 "LeftQuillsModel" "now" "[I") (wmx 1 rfl)) (fun _ h9 => h9) e_h0_10 dX11_pagesFrom_28 ?_
        refine lv_bipush (v := 8) hx hb dX11_pagesFrom_31 (by decide) ?_
        refine lv_iload_n hx hb dX11_pagesFrom_33 rfl (lv_at hl 4 rfl) ?_
        refine lv_iadd hx hb dX11_pagesFrom_34 ?_
        refine lv_topi (fun z7 ez7 => ?_)
        obtain rfl : z7 = nI (8 + j) := ez7.trans (nI_add 8 j)
        refine va_iald hx hb hK hP 7 0 rfl rfl (vp_in_nI (n := 8 + j) (N := 34) (by omega) (by decide)) dX11_pagesFrom_35 ?_
        refine W.eq (g2 := F0 m 36 ls [.int (fm10 (8 + j)), .ref h0]) (congrArg (fun y9 => F0 m 36 ls (.int (fm10 y9) :: [.ref h0])) ((nI_clamp (n := 8 + j) (by omega)))) ?_
        refine lv_iload_n hx hb dX11_pagesFrom_36 rfl (lv_at hl 5 rfl) ?_
        have hPc := hP.sub (ws' := [(h0, .inr (11, f_h0)), (m9, .inl (cI, 4, .inl fm9))]) [0, 6] rfl
        refine va_calli (va_runV (As := [.int (fm10 (8 + j)), .int (nI k)]) (rest := []) ⟨hx, hb, hml, hown, hts⟩ (c_X11_suitsD l dC dI cI cZ cQ h0 m9 f_h0 fm9 (fm10 (8 + j)) k H.size e_h0_9 (by omega)) (cwV 2 hts gX11_pagesFrom_X11_suits rfl rfl rfl hd_X11_suits_RX11 ⟨Nat.le_of_ble_eq_true rfl, Nat.le_of_ble_eq_true rfl⟩) (pv_R (va_recv hK hP (ci := 11) (q0 := 0) rfl rfl) hK hPc) rfl rfl hl.1 rfl (lv_room (Nat.le_of_ble_eq_true rfl)) dX11_pagesFrom_37 ⟨Nat.le_of_ble_eq_true rfl, Nat.le_of_ble_eq_true rfl⟩) hS (fun q _ h => False.elim h) (fun q h => False.elim h) (fun r8 u9 t H1 locs ht hvm hw10 hB hz1 hk1 hS => ?_)
        have hP := hP.kept (fun k q hk => hk1 q.1 (hP k q hk).lt (fun h => h))
        clear hz1 hk1 hPc
        generalize H1 = H at hP hS ht ⊢
        try dsimp only at hw10
        rcases hw10 with ⟨rfl, hw10⟩ | ⟨rfl, hw10⟩
        ·
          refine lv_if_eq (tgt := 59) hx hb dX11_pagesFrom_40 (by decide) (fun c11 => ?_) (fun c11 => ?_)
          · exact absurd c11 (by decide)
          clear c11
          refine lv_iinc (v := nI (k12 + 1)) (lv' := [(5, .int (nI (k12 + 1))), (6, .int a12_6), (0, .ref h0), (1, .int a0), (2, .int (nI j)), (3, .int (nI k)), (4, .int (nI mo))]) hx hb dX11_pagesFrom_43 hl (k := 0) rfl ((rfl : nI k12 + Int32.ofInt 1 = nI k12 + 1).trans (nI_add k12 1)) (by decide) rfl (fun ls hl => ?_)
          refine lv_aload_n hx hb dX11_pagesFrom_46 rfl (lv_at hl 2 rfl) ?_
          refine lv_iload hx hb dX11_pagesFrom_47 (lv_at hl 1 rfl) ?_
          refine lv_iload_n hx hb dX11_pagesFrom_49 rfl (lv_at hl 4 rfl) ?_
          refine lv_iload_n hx hb dX11_pagesFrom_50 rfl (lv_at hl 5 rfl) ?_
          have hPc := hP.sub (ws' := [(h0, .inr (11, f_h0)), (m3, .inl (cI, 8, .inl fm3)), (m4, .inl (cI, 8, .inl fm4)), (m5, .inl (cI, 8, .inl fm5)), (m7, .inl (cI, 4, .inl fm7)), (m8, .inl (cI, 4, .inl fm8))]) [0, 1, 2, 3, 4, 5] rfl
          refine va_calli (va_runV (As := [.int a12_6, .int (nI j), .int (nI k)]) (rest := []) ⟨hx, hb, hml, hown, hts⟩ (c_X11_softBehindD l dC dI cI cZ cQ h0 m3 m4 m5 m7 m8 f_h0 fm3 fm4 fm5 fm7 fm8 a12_6 j k nq H.size e_h0_3 e_h0_4 e_h0_5 e_h0_7 e_h0_8 (by omega) (by first | assumption | decide) (by omega) (by omega)) (cwV 3 hts gX11_pagesFrom_X11_softBehind rfl rfl rfl hd_X11_softBehind_RX11 ⟨Nat.le_of_ble_eq_true rfl, Nat.le_of_ble_eq_true rfl⟩) (pv_R (va_recv hK hP (ci := 11) (q0 := 0) rfl rfl) hK hPc) rfl rfl hl.1 rfl (lv_room (Nat.le_of_ble_eq_true rfl)) dX11_pagesFrom_51 ⟨Nat.le_of_ble_eq_true rfl, Nat.le_of_ble_eq_true rfl⟩) hS (fun q _ h => False.elim h) (fun q h => False.elim h) (fun r12 u13 t H1 locs ht hvm hw14 hB hz1 hk1 hS => ?_)
          have hP := hP.kept (fun k q hk => hk1 q.1 (hP k q hk).lt (fun h => h))
          clear hz1 hk1 hPc
          generalize H1 = H at hP hS ht ⊢
          try dsimp only at hw14
          subst hw14
          refine lv_istore (lv' := [(6, .int (sbF a12_6 (wrF (fm3 j) (fm4 j) (fm5 j) (fm7 k) (fm8 k)))), (5, .int (nI (k12 + 1))), (0, .ref h0), (1, .int a0), (2, .int (nI j)), (3, .int (nI k)), (4, .int (nI mo))]) hx hb dX11_pagesFrom_54 hl (by decide) rfl (fun ls hl => ?_)
          refine lv_goto (tgt := 12) hx hb dX11_pagesFrom_56 (by decide) ?_
          exact ih12 (k12 + 1) (sbF a12_6 (wrF (fm3 j) (fm4 j) (fm5 j) (fm7 k) (fm8 k))) _ _ _ (by omega) (Hid.mk (fun _ => gp_step (by omega) (by first | exact fa_nlt c6 | exact c6) (hv12_0.out hw10))) (Hid.mk (fun h9 => absurd hw10 h9)) hP hS (lv_sub hl [1, 0, 2, 3, 4, 5, 6] rfl)
        ·
          refine lv_if_eq (tgt := 59) hx hb dX11_pagesFrom_40 (by decide) (fun c15 => ?_) (fun c15 => ?_)
          rotate_left
          · exact absurd c15 (by decide)
          clear c15
          refine lv_iload hx hb dX11_pagesFrom_59 (lv_at hl 0 rfl) ?_
          exact W.iret (v := nI k12) hx hb hr (fun t ht hW => ⟨⟨nI k12, (fun _ => 0), rfl, (gd_x hv12_0 hv12_1 (Or.inr (Or.inr hw10))), trivial⟩, hS.F ht⟩) hS.2.2 dX11_pagesFrom_61
set_option maxHeartbeats 4000000 in
set_option maxRecDepth 100000 in
theorem c_X11_goodNowD (l : Launch) (dC : Nat → ClassId) (dI : Nat → Nat → Nat) (cI cZ cQ : ClassId) (h0 : Nat) (m3 : Nat) (m4 : Nat) (m5 : Nat) (m7 : Nat) (m8 : Nat) (m9 : Nat) (m10 : Nat) (f_h0 : List Value) (fm3 : Nat → Int32) (fm4 : Nat → Int32) (fm5 : Nat → Int32) (fm7 : Nat → Int32) (fm8 : Nat → Int32) (fm9 : Nat → Int32) (fm10 : Nat → Int32) (j : Nat) (k : Nat) (nq : Nat) (sz : Nat) (e_h0_3 : fAt f_h0 3 = some (.ref m3)) (e_h0_4 : fAt f_h0 4 = some (.ref m4)) (e_h0_5 : fAt f_h0 5 = some (.ref m5)) (e_h0_7 : fAt f_h0 7 = some (.ref m7)) (e_h0_8 : fAt f_h0 8 = some (.ref m8)) (e_h0_9 : fAt f_h0 9 = some (.ref m9)) (e_h0_10 : fAt f_h0 10 = some (.ref m10)) (hnq : nq ≤ 8) (hci : cIn fm5 nq) (hj : j < nq) (hk : k < 4) : Met l yX11_goodNow wsX11_goodNow ({ frames := 4, cells := 0, slots := 0, locals := 135 }) (va_Pc [.ref h0, .int (nI j), .int (nI k)] (fun U => U.heap.size = sz ∧ va_P (dC, dI) vwCl [(h0, .inr (11, f_h0)), (m3, .inl (cI, 8, .inl fm3)), (m4, .inl (cI, 8, .inl fm4)), (m5, .inl (cI, 8, .inl fm5)), (m7, .inl (cI, 4, .inl fm7)), (m8, .inl (cI, 4, .inl fm8)), (m9, .inl (cI, 4, .inl fm9)), (m10, .inl (cI, 34, .inl fm10))] U.heap ∧ va_K (dC, dI) vwCl (tys0 cI cZ cQ) U)) (va_Qi (fun (r : Int32) (u : Nat → Nat) => r = nI (gdM lmB (wrF (fm3 j) (fm4 j) (fm5 j) (fm7 k) (fm8 k)) (fm9 k) (fm10 (8 + j)) (fm10 (16 + j)) 999)) (fun (_ : Nat → Nat) (_ : State) => True) (fun _ : Nat => False)) 0 0 (fun _ : Nat => False) := by
  refine Met.ofW (cc := cX11_goodNow) (maxL := 3) (ret := (some .int)) (by decide) rfl ?_
  intro p e s m args below meth c s₁ B hml hv
  obtain ⟨rfl, hsz, hP, hK⟩ := hv
  have hx := B.exec
  have hb := B.bytes
  have hr := B.returns
  have hts := atoms_spec (ws := wsX11_goodNow) B.pre
  have hown : s.vm.findClass RX11 = some m.cls := findClass_of_methodNamed B.named
  have hlocks := B.notSynchronized
  have hi_X11 : ∀ w ∈ u_ws RX11 TX11 46, w ∈ wsX11_goodNow := fun _ h => List.mem_cons_of_mem _ (List.mem_append_right _ (h))
  subst hsz
  have hS : va_S (fun _ : Nat => False) s.heap s.heap [] := va_S.rf
  have hl := lv_entry ([.ref h0, .int (nI j), .int (nI k)]) (n := 3) (Nat.le_of_ble_eq_true rfl)
  rw [lg_entry_eq]
  generalize (lg_sl ([.ref h0, .int (nI j), .int (nI k)]) ++ List.replicate (3 - (lg_sl ([.ref h0, .int (nI j), .int (nI k)])).length) Slot.unset).toArray = ls at hl ⊢
  have hl : lv_has ls 3 [(0, .ref h0), (1, .int (nI j)), (2, .int (nI k))] := hl
  refine lv_aload_n hx hb dX11_goodNow_0 rfl (lv_at hl 0 rfl) ?_
  refine lv_aload_n hx hb dX11_goodNow_1 rfl (lv_at hl 0 rfl) ?_
  refine va_get (D := (dC, dI)) (ci := 11) (v := .ref m10) (C := RX11) (T := TX11) (N := 46) hx hb hts hi_X11 hown hK hP 0 rfl rfl 10 (by decide) (hts (.fieldLink RX11 28 "LeftQuillsModel" "now" "[I") (wmx 1 rfl)) (fun _ h9 => h9) e_h0_10 dX11_goodNow_2 ?_
  refine lv_bipush (v := 16) hx hb dX11_goodNow_5 (by decide) ?_
  refine lv_iload_n hx hb dX11_goodNow_7 rfl (lv_at hl 1 rfl) ?_
  refine lv_iadd hx hb dX11_goodNow_8 ?_
  refine lv_topi (fun z1 ez1 => ?_)
  obtain rfl : z1 = nI (16 + j) := ez1.trans (nI_add 16 j)
  refine va_iald hx hb hK hP 7 0 rfl rfl (vp_in_nI (n := 16 + j) (N := 34) (by omega) (by decide)) dX11_goodNow_9 ?_
  refine W.eq (g2 := F0 m 10 ls [.int (fm10 (16 + j)), .ref h0]) (congrArg (fun y9 => F0 m 10 ls (.int (fm10 y9) :: [.ref h0])) ((nI_clamp (n := 16 + j) (by omega)))) ?_
  refine lv_iload_n hx hb dX11_goodNow_10 rfl (lv_at hl 1 rfl) ?_
  refine lv_iload_n hx hb dX11_goodNow_11 rfl (lv_at hl 2 rfl) ?_
  refine lv_sipush (v := 999) hx hb dX11_goodNow_12 (by decide) ?_
  have hPc := hP.sub (ws' := [(h0, .inr (11, f_h0)), (m3, .inl (cI, 8, .inl fm3)), (m4, .inl (cI, 8, .inl fm4)), (m5, .inl (cI, 8, .inl fm5)), (m7, .inl (cI, 4, .inl fm7)), (m8, .inl (cI, 4, .inl fm8)), (m9, .inl (cI, 4, .inl fm9)), (m10, .inl (cI, 34, .inl fm10))]) [0, 1, 2, 3, 4, 5, 6, 7] rfl
  refine va_calli (va_runV (As := [.int (fm10 (16 + j)), .int (nI j), .int (nI k), .int 999]) (rest := []) ⟨hx, hb, hml, hown, hts⟩ (c_X11_pagesFromD l dC dI cI cZ cQ h0 m3 m4 m5 m7 m8 m9 m10 f_h0 fm3 fm4 fm5 fm7 fm8 fm9 fm10 (fm10 (16 + j)) j k 999 nq s.heap.size e_h0_3 e_h0_4 e_h0_5 e_h0_7 e_h0_8 e_h0_9 e_h0_10 (by omega) (by first | assumption | decide) (by omega) (by omega) (by omega)) (cwV 4 hts gX11_goodNow_X11_pagesFrom rfl rfl rfl hd_X11_pagesFrom_RX11 ⟨Nat.le_of_ble_eq_true rfl, Nat.le_of_ble_eq_true rfl⟩) (pv_R (va_recv hK hP (ci := 11) (q0 := 0) rfl rfl) hK hPc) rfl rfl hl.1 rfl (lv_room (Nat.le_of_ble_eq_true rfl)) dX11_goodNow_15 ⟨Nat.le_of_ble_eq_true rfl, Nat.le_of_ble_eq_true rfl⟩) hS (fun q _ h => False.elim h) (fun q h => False.elim h) (fun r2 u3 t H1 locs ht hvm hw4 hB hz1 hk1 hS => ?_)
  have hP := hP.kept (fun k q hk => hk1 q.1 (hP k q hk).lt (fun h => h))
  clear hz1 hk1 hPc
  generalize H1 = H at hP hS ht ⊢
  try dsimp only at hw4
  obtain ⟨w5, hw5, ew5, rfl⟩ := nat_ix gdM_le hw4
  exact W.iret (v := nI w5) hx hb hr (fun t ht hW => ⟨⟨nI w5, (fun _ => 0), rfl, (congrArg nI ew5.out), trivial⟩, hS.F ht⟩) hS.2.2 dX11_goodNow_18
