set_option maxHeartbeats 4000000 in
set_option maxRecDepth 100000 in
theorem c_X9_goodFrom (l : Launch) (dC : Nat → ClassId) (dI : Nat → Nat → Nat) (cI cZ cQ : ClassId) (h0 : Nat) (ho : Nat) (hd : Nat) (f_h0 : List Value) (o5 : Nat) (o6 : Nat) (o7 : Nat) (o10 : Nat) (o11 : Nat) (o12 : Nat) (f_ho : List Value) (a3 : Nat) (f_hd : List Value) (fa3 : Nat → Int32) (fo5 : Nat → Int32) (fo6 : Nat → Int32) (fo7 : Nat → Int32) (fo10 : Nat → Int32) (fo11 : Nat → Int32) (fo12 : Nat → Int32) (j : Nat) (k : Nat) (a0 : Int32) (sz : Nat) (e_h0_0 : fAt f_h0 0 = some (.ref ho)) (e_h0_1 : fAt f_h0 1 = some (.ref hd)) (e_ho_5 : fAt f_ho 5 = some (.ref o5)) (e_ho_6 : fAt f_ho 6 = some (.ref o6)) (e_ho_7 : fAt f_ho 7 = some (.ref o7)) (e_ho_10 : fAt f_ho 10 = some (.ref o10)) (e_ho_11 : fAt f_ho 11 = some (.ref o11)) (e_ho_12 : fAt f_ho 12 = some (.ref o12)) (e_hd_3 : fAt f_hd 3 = some (.ref a3)) (hj : j < 8) (hk : k < 4) : Met l yX9_goodFrom wsX9_goodFrom ({ frames := 2, cells := 0, slots := 0, locals := 85 }) (va_Pc [.ref h0, .int (nI j), .int (nI k), .int a0] (fun U => U.heap.size = sz ∧ va_P (dC, dI) vwCl [(h0, .inr (9, f_h0)), (ho, .inr (5, f_ho)), (hd, .inr (1, f_hd)), (a3, .inl (cI, 8, .inl fa3)), (o5, .inl (cI, 8, .inl fo5)), (o6, .inl (cI, 8, .inl fo6)), (o7, .inl (cI, 8, .inl fo7)), (o10, .inl (cI, 4, .inl fo10)), (o11, .inl (cI, 4, .inl fo11)), (o12, .inl (cI, 4, .inl fo12))] U.heap ∧ va_K (dC, dI) vwCl (tys0 cI cZ cQ) U ∧ xN U)) (va_Qi (fun (r : Int32) (u : Nat → Nat) => True) (fun (_ : Nat → Nat) (_ : State) => True) (fun _ : Nat => False)) 0 0 (fun _ : Nat => False) := by
  refine Met.ofW (cc := cX9_goodFrom) (maxL := 7) (ret := (some .int)) (by decide) rfl ?_
  intro p e s m args below meth c s₁ B hml hv
  obtain ⟨rfl, hsz, hP, hK, hN⟩ := hv
  have hx := B.exec
  have hb := B.bytes
  have hr := B.returns
  have hts := atoms_spec (ws := wsX9_goodFrom) B.pre
  have hown : s.vm.findClass RX9 = some m.cls := findClass_of_methodNamed B.named
  have hlocks := B.notSynchronized
  have hi_X1 : ∀ w ∈ u_ws RX1 TX1 8, w ∈ wsX9_goodFrom := fun _ h => List.mem_cons_of_mem _ (List.mem_append_left _ (List.mem_append_right _ (h)))
  have hi_X9 : ∀ w ∈ u_ws RX9 TX9 3, w ∈ wsX9_goodFrom := fun _ h => List.mem_cons_of_mem _ (List.mem_append_left _ (List.mem_append_left _ (List.mem_append_right _ (h))))
  subst hsz
  have hS : va_S (fun _ : Nat => False) s.heap s.heap [] := va_S.rf
  have hl := lv_entry ([.ref h0, .int (nI j), .int (nI k), .int a0]) (n := 7) (Nat.le_of_ble_eq_true rfl)
  rw [lg_entry_eq]
  generalize (lg_sl ([.ref h0, .int (nI j), .int (nI k), .int a0]) ++ List.replicate (7 - (lg_sl ([.ref h0, .int (nI j), .int (nI k), .int a0])).length) Slot.unset).toArray = ls at hl ⊢
  have hl : lv_has ls 7 [(0, .ref h0), (1, .int (nI j)), (2, .int (nI k)), (3, .int a0)] := hl
  refine lv_aload_n hx hb dX9_goodFrom_0 rfl (lv_at hl 0 rfl) ?_
  refine va_get (D := (dC, dI)) (ci := 9) (v := .ref ho) (C := RX9) (T := TX9) (N := 3) hx hb hts hi_X9 hown hK hP 0 rfl rfl 0 (by decide) (hts (.fieldLink RX9 15 "LeftQuills$Trials" "office" "LLeftQuills$Office;") (wmx 1 rfl)) (fun _ h9 => h9) e_h0_0 dX9_goodFrom_1 ?_
  refine lv_iload_n hx hb dX9_goodFrom_4 rfl (lv_at hl 2 rfl) ?_
  refine lv_aload_n hx hb dX9_goodFrom_5 rfl (lv_at hl 0 rfl) ?_
  refine va_get (D := (dC, dI)) (ci := 9) (v := .ref hd) (C := RX9) (T := TX9) (N := 3) hx hb hts hi_X9 hown hK hP 0 rfl rfl 1 (by decide) (hts (.fieldLink RX9 19 "LeftQuills$Trials" "desk" "LLeftQuills$Desk;") (wmx 2 rfl)) (fun _ h9 => h9) e_h0_1 dX9_goodFrom_6 ?_
  refine va_get (D := (dC, dI)) (ci := 1) (v := .ref a3) (C := RX1) (T := TX1) (N := 8) hx hb hts hi_X1 hown hK hP 2 rfl rfl 3 (by decide) (hts (.fieldLink RX9 32 "LeftQuills$Desk" "nib" "[I") (wmx 3 rfl)) (fun _ h9 => h9) e_hd_3 dX9_goodFrom_9 ?_
  refine lv_iload_n hx hb dX9_goodFrom_12 rfl (lv_at hl 1 rfl) ?_
  refine va_iald hx hb hK hP 3 0 rfl rfl (vp_in_nI (n := j) (N := 8) (by omega) (by decide)) dX9_goodFrom_13 ?_
  refine W.eq (g2 := F0 m 14 ls [.int (fa3 j), .int (nI k), .ref ho]) (congrArg (fun y9 => F0 m 14 ls (.int (fa3 y9) :: [.int (nI k), .ref ho])) ((nI_clamp (n := j) (by omega)))) ?_
  have hPc := hP.sub (ws' := [(ho, .inr (5, f_ho)), (o12, .inl (cI, 4, .inl fo12))]) [1, 9] rfl
  refine va_calli (va_runV (As := [.int (nI k), .int (fa3 j)]) (rest := []) ⟨hx, hb, hml, hown, hts⟩ (c_X5_likesNib l dC dI cI cZ cQ ho o12 f_ho fo12 k (fa3 j) s.heap.size e_ho_12 (by omega)) (cwV 2 hts gX9_goodFrom_X5_likesNib rfl rfl rfl hd_X5_likesNib_RX5 ⟨Nat.le_of_ble_eq_true rfl, Nat.le_of_ble_eq_true rfl⟩) (pv_R (va_recv hK hP (ci := 5) (q0 := 1) rfl rfl) hK hPc) rfl rfl hl.1 rfl (lv_room (Nat.le_of_ble_eq_true rfl)) dX9_goodFrom_14 ⟨Nat.le_of_ble_eq_true rfl, Nat.le_of_ble_eq_true rfl⟩) hS (fun q _ h => False.elim h) (fun q h => False.elim h) (fun r1 u2 t H1 locs ht hvm hw3 hB hz1 hk1 hS => ?_)
  have hP := hP.kept (fun k q hk => hk1 q.1 (hP k q hk).lt (fun h => h))
  clear hz1 hk1 hPc
  generalize H1 = H at hP hS ht ⊢
  try dsimp only at hw3
  rcases hw3 with rfl | rfl
  ·
    refine lv_if_ne (tgt := 22) hx hb dX9_goodFrom_17 (by decide) (fun c4 => ?_) (fun c4 => ?_)
    rotate_left
    · exact absurd c4 (by decide)
    clear c4
    refine lv_aload_n hx hb dX9_goodFrom_22 rfl (lv_at hl 0 rfl) ?_
    refine va_get (D := (dC, dI)) (ci := 9) (v := .ref ho) (C := RX9) (T := TX9) (N := 3) hx hb hts hi_X9 hown hK hP 0 rfl rfl 0 (by decide) (hts (.fieldLink RX9 15 "LeftQuills$Trials" "office" "LLeftQuills$Office;") (wmx 1 rfl)) (fun _ h9 => h9) e_h0_0 dX9_goodFrom_23 ?_
    refine lv_iload_n hx hb dX9_goodFrom_26 rfl (lv_at hl 1 rfl) ?_
    refine lv_iload_n hx hb dX9_goodFrom_27 rfl (lv_at hl 2 rfl) ?_
    have hPc := hP.sub (ws' := [(ho, .inr (5, f_ho)), (o5, .inl (cI, 8, .inl fo5)), (o6, .inl (cI, 8, .inl fo6)), (o7, .inl (cI, 8, .inl fo7)), (o10, .inl (cI, 4, .inl fo10)), (o11, .inl (cI, 4, .inl fo11))]) [1, 4, 5, 6, 7, 8] rfl
    refine va_calli (va_runV (As := [.int (nI j), .int (nI k)]) (rest := []) ⟨hx, hb, hml, hown, hts⟩ (c_X5_wear l dC dI cI cZ cQ ho o5 o6 o7 o10 o11 f_ho fo5 fo6 fo7 fo10 fo11 j k H.size e_ho_5 e_ho_6 e_ho_7 e_ho_10 e_ho_11 (by omega) (by omega)) (cwV 2 hts gX9_goodFrom_X5_wear rfl rfl rfl hd_X5_wear_RX5 ⟨Nat.le_of_ble_eq_true rfl, Nat.le_of_ble_eq_true rfl⟩) (pv_R (va_recv hK hP (ci := 5) (q0 := 1) rfl rfl) hK hPc) rfl rfl hl.1 rfl (lv_room (Nat.le_of_ble_eq_true rfl)) dX9_goodFrom_28 ⟨Nat.le_of_ble_eq_true rfl, Nat.le_of_ble_eq_true rfl⟩) hS (fun q _ h => False.elim h) (fun q h => False.elim h) (fun r5 u6 t H1 locs ht hvm hw7 hB hz1 hk1 hS => ?_)
    have hP := hP.kept (fun k q hk => hk1 q.1 (hP k q hk).lt (fun h => h))
    clear hz1 hk1 hPc
    generalize H1 = H at hP hS ht ⊢
    try dsimp only at hw7
    refine lv_istore (lv' := [(4, .int r5), (0, .ref h0), (1, .int (nI j)), (2, .int (nI k)), (3, .int a0)]) hx hb dX9_goodFrom_31 hl (by decide) rfl (fun ls hl => ?_)
    refine lv_iload_n hx hb dX9_goodFrom_33 rfl (lv_at hl 4 rfl) ?_
    refine lv_iload hx hb dX9_goodFrom_34 (lv_at hl 0 rfl) ?_
    have hPc := hP.sub (ws' := []) [] rfl
    refine va_calli (va_runSN (As := [.int a0, .int r5]) (rest := []) ⟨hx, hb, hml, hown, hts⟩ (c_X10_softerBy l dC dI cI cZ cQ a0 r5 H.size ) ⟨va_cnB 2 hts gX9_goodFrom_X10_softerBy_n45 rfl rfl rfl (hN.n_X9_45) (hts (.initialized RX10) (wmx 35 rfl)) (by decide +kernel) ⟨Nat.le_of_ble_eq_true rfl, Nat.le_of_ble_eq_true rfl⟩, hts (.static yX10_softerBy) (by decide +kernel), trivial⟩ (ps_R hK hPc) rfl rfl hl.1 rfl (lv_room (Nat.le_of_ble_eq_true rfl)) dX9_goodFrom_36 ⟨Nat.le_of_ble_eq_true rfl, Nat.le_of_ble_eq_true rfl⟩) hS (fun q _ h => False.elim h) (fun q h => False.elim h) (fun r8 u9 t H1 locs ht hvm hw10 hB hz1 hk1 hS => ?_)
    have hP := hP.kept (fun k q hk => hk1 q.1 (hP k q hk).lt (fun h => h))
    clear hz1 hk1 hPc
    generalize H1 = H at hP hS ht ⊢
    try dsimp only at hw10
    refine lv_istore (lv' := [(5, .int r8), (4, .int r5), (0, .ref h0), (1, .int (nI j)), (2, .int (nI k)), (3, .int a0)]) hx hb dX9_goodFrom_39 hl (by decide) rfl (fun ls hl => ?_)
    refine lv_iconst (v := 0) hx hb dX9_goodFrom_41 (by decide) ?_
    refine lv_istore (lv' := [(6, .int 0), (5, .int r8), (4, .int r5), (0, .ref h0), (1, .int (nI j)), (2, .int (nI k)), (3, .int a0)]) hx hb dX9_goodFrom_42 hl (by decide) rfl (fun ls hl => ?_)
    refine (fun (K : ∀ (d44 : Nat) (k44 : Nat) (a44_5 : Int32) (H : Heap) (locs : List Loc) (ls : Array Slot), k44 + d44 = 999 → va_P (dC, dI) vwCl [(h0, .inr (9, f_h0)), (ho, .inr (5, f_ho)), (hd, .inr (1, f_hd)), (a3, .inl (cI, 8, .inl fa3)), (o5, .inl (cI, 8, .inl fo5)), (o6, .inl (cI, 8, .inl fo6)), (o7, .inl (cI, 8, .inl fo7)), (o10, .inl (cI, 4, .inl fo10)), (o11, .inl (cI, 4, .inl fo11)), (o12, .inl (cI, 4, .inl fo12))] H → va_S (fun _ : Nat => False) s.heap H locs → lv_has ls 7 [(6, .int (nI k44)), (5, .int a44_5), (4, .int r5), (0, .ref h0), (1, .int (nI j)), (2, .int (nI k)), (3, .int a0)] → W p l e _ s m _ below meth c H locs _ _ _ (F0 m 44 ls [])) => K 999 0 r8 _ _ _ (by omega) hP hS (lv_sub hl [0, 1, 2, 3, 4, 5, 6] rfl)) ?_
    intro d44
    induction d44 with
    | zero =>
      intro k44 a44_5 H locs ls hk44 hP hS hl
      refine lv_iload hx hb dX9_goodFrom_44 (lv_at hl 0 rfl) ?_
      refine lv_sipush (v := 999) hx hb dX9_goodFrom_46 (by decide) ?_
      refine lv_icmp_ge (tgt := 74) hx hb dX9_goodFrom_49 (by decide) (fun c11 => ?_) (fun c11 => ?_)
      ·
        have c11 : 999 ≤ k44 := (nI_leI (a := 999) (b := k44) (by omega) (by omega)).mp c11
        refine lv_iload hx hb dX9_goodFrom_74 (lv_at hl 0 rfl) ?_
        exact W.iret (v := nI k44) hx hb hr (fun t ht hW => ⟨⟨nI k44, (fun _ => 0), rfl, trivial, trivial⟩, hS.F ht⟩) hS.2.2 dX9_goodFrom_76
      ·
        have c11 : ¬ 999 ≤ k44 := fun h => c11 ((nI_leI (a := 999) (b := k44) (by omega) (by omega)).mpr h)
        omega
    | succ d44 ih44 =>
      intro k44 a44_5 H locs ls hk44 hP hS hl
      refine lv_iload hx hb dX9_goodFrom_44 (lv_at hl 0 rfl) ?_
      refine lv_sipush (v := 999) hx hb dX9_goodFrom_46 (by decide) ?_
      refine lv_icmp_ge (tgt := 74) hx hb dX9_goodFrom_49 (by decide) (fun c12 => ?_) (fun c12 => ?_)
      ·
        have c12 : 999 ≤ k44 := (nI_leI (a := 999) (b := k44) (by omega) (by omega)).mp c12
        omega
      ·
        have c12 : ¬ 999 ≤ k44 := fun h => c12 ((nI_leI (a := 999) (b := k44) (by omega) (by omega)).mpr h)
        refine lv_iload hx hb dX9_goodFrom_52 (lv_at hl 1 rfl) ?_
        refine lv_bipush (v := 50) hx hb dX9_goodFrom_54 (by decide) ?_
        refine lv_icmp_gt (tgt := 74) hx hb dX9_goodFrom_56 (by decide) (fun c13 => ?_) (fun c13 => ?_)
        ·
          refine lv_iload hx hb dX9_goodFrom_74 (lv_at hl 0 rfl) ?_
          exact W.iret (v := nI k44) hx hb hr (fun t ht hW => ⟨⟨nI k44, (fun _ => 0), rfl, trivial, trivial⟩, hS.F ht⟩) hS.2.2 dX9_goodFrom_76
        ·
          refine lv_iinc (v := nI (k44 + 1)) (lv' := [(6, .int (nI (k44 + 1))), (5, .int a44_5), (4, .int r5), (0, .ref h0), (1, .int (nI j)), (2, .int (nI k)), (3, .int a0)]) hx hb dX9_goodFrom_59 hl (k := 0) rfl ((rfl : nI k44 + Int32.ofInt 1 = nI k44 + 1).trans (nI_add k44 1)) (by decide) rfl (fun ls hl => ?_)
          refine lv_iload hx hb dX9_goodFrom_62 (lv_at hl 1 rfl) ?_
          refine lv_iload hx hb dX9_goodFrom_64 (lv_at hl 2 rfl) ?_
          have hPc := hP.sub (ws' := []) [] rfl
          refine va_calli (va_runSN (As := [.int a44_5, .int r5]) (rest := []) ⟨hx, hb, hml, hown, hts⟩ (c_X10_softerBy l dC dI cI cZ cQ a44_5 r5 H.size ) ⟨va_cnB 2 hts gX9_goodFrom_X10_softerBy_n45 rfl rfl rfl (hN.n_X9_45) (hts (.initialized RX10) (wmx 35 rfl)) (by decide +kernel) ⟨Nat.le_of_ble_eq_true rfl, Nat.le_of_ble_eq_true rfl⟩, hts (.static yX10_softerBy) (by decide +kernel), trivial⟩ (ps_R hK hPc) rfl rfl hl.1 rfl (lv_room (Nat.le_of_ble_eq_true rfl)) dX9_goodFrom_66 ⟨Nat.le_of_ble_eq_true rfl, Nat.le_of_ble_eq_true rfl⟩) hS (fun q _ h => False.elim h) (fun q h => False.elim h) (fun r14 u15 t H1 locs ht hvm hw16 hB hz1 hk1 hS => ?_)
          have hP := hP.kept (fun k q hk => hk1 q.1 (hP k q hk).lt (fun h => h))
          clear hz1 hk1 hPc
          generalize H1 = H at hP hS ht ⊢
          try dsimp only at hw16
          refine lv_istore (lv' := [(5, .int r14), (6, .int (nI (k44 + 1))), (4, .int r5), (0, .ref h0), (1, .int (nI j)), (2, .int (nI k)), (3, .int a0)]) hx hb dX9_goodFrom_69 hl (by decide) rfl (fun ls hl => ?_)
          refine lv_goto (tgt := 44) hx hb dX9_goodFrom_71 (by decide) ?_
          exact ih44 (k44 + 1) r14 _ _ _ (by omega) hP hS (lv_sub hl [1, 0, 2, 3, 4, 5, 6] rfl)
  ·
    refine lv_if_ne (tgt := 22) hx hb dX9_goodFrom_17 (by decide) (fun c17 => ?_) (fun c17 => ?_)
    · exact absurd c17 (by decide)
    clear c17
    refine lv_iconst (v := 0) hx hb dX9_goodFrom_20 (by decide) ?_
    exact W.iret (v := 0) hx hb hr (fun t ht hW => ⟨⟨0, (fun _ => 0), rfl, trivial, trivial⟩, hS.F ht⟩) hS.2.2 dX9_goodFrom_21
set_option maxHeartbeats 4000000 in
set_option maxRecDepth 100000 in
theorem c_X9_goodNow (l : Launch) (dC : Nat → ClassId) (dI : Nat → Nat → Nat) (cI cZ cQ : ClassId) (h0 : Nat) (ho : Nat) (hd : Nat) (f_h0 : List Value) (o5 : Nat) (o6 : Nat) (o7 : Nat) (o10 : Nat) (o11 : Nat) (o12 : Nat) (f_ho : List Value) (a3 : Nat) (a4 : Nat) (f_hd : List Value) (fa3 : Nat → Int32) (fa4 : Nat → Int32) (fo5 : Nat → Int32) (fo6 : Nat → Int32) (fo7 : Nat → Int32) (fo10 : Nat → Int32) (fo11 : Nat → Int32) (fo12 : Nat → Int32) (j : Nat) (k : Nat) (sz : Nat) (e_h0_0 : fAt f_h0 0 = some (.ref ho)) (e_h0_1 : fAt f_h0 1 = some (.ref hd)) (e_ho_5 : fAt f_ho 5 = some (.ref o5)) (e_ho_6 : fAt f_ho 6 = some (.ref o6)) (e_ho_7 : fAt f_ho 7 = some (.ref o7)) (e_ho_10 : fAt f_ho 10 = some (.ref o10)) (e_ho_11 : fAt f_ho 11 = some (.ref o11)) (e_ho_12 : fAt f_ho 12 = some (.ref o12)) (e_hd_3 : fAt f_hd 3 = some (.ref a3)) (e_hd_4 : fAt f_hd 4 = some (.ref a4)) (hj : j < 8) (hk : k < 4) : Met l yX9_goodNow wsX9_goodNow ({ frames := 3, cells := 0, slots := 0, locals := 111 }) (va_Pc [.ref h0, .int (nI j), .int (nI k)] (fun U => U.heap.size = sz ∧ va_P (dC, dI) vwCl [(h0, .inr (9, f_h0)), (ho, .inr (5, f_ho)), (hd, .inr (1, f_hd)), (a3, .inl (cI, 8, .inl fa3)), (a4, .inl (cI, 8, .inl fa4)), (o5, .inl (cI, 8, .inl fo5)), (o6, .inl (cI, 8, .inl fo6)), (o7, .inl (cI, 8, .inl fo7)), (o10, .inl (cI, 4, .inl fo10)), (o11, .inl (cI, 4, .inl fo11)), (o12, .inl (cI, 4, .inl fo12))] U.heap ∧ va_K (dC, dI) vwCl (tys0 cI cZ cQ) U ∧ xN U)) (va_Qi (fun (r : Int32) (u : Nat → Nat) => True) (fun (_ : Nat → Nat) (_ : State) => True) (fun _ : Nat => False)) 0 0 (fun _ : Nat => False) := by
  refine Met.ofW (cc := cX9_goodNow) (maxL := 3) (ret := (some .int)) (by decide) rfl ?_
  intro p e s m args below meth c s₁ B hml hv
  obtain ⟨rfl, hsz, hP, hK, hN⟩ := hv
  have hx := B.exec
  have hb := B.bytes
  have hr := B.returns
  have hts := atoms_spec (ws := wsX9_goodNow) B.pre
  have hown : s.vm.findClass RX9 = some m.cls := findClass_of_methodNamed B.named
  have hlocks := B.notSynchronized
  have hi_X1 : ∀ w ∈ u_ws RX1 TX1 8, w ∈ wsX9_goodNow := fun _ h => List.mem_cons_of_mem _ (List.mem_append_left _ (List.mem_append_right _ (h)))
  have hi_X9 : ∀ w ∈ u_ws RX9 TX9 3, w ∈ wsX9_goodNow := fun _ h => List.mem_cons_of_mem _ (List.mem_append_left _ (List.mem_append_left _ (List.mem_append_right _ (h))))
  subst hsz
  have hS : va_S (fun _ : Nat => False) s.heap s.heap [] := va_S.rf
  have hl := lv_entry ([.ref h0, .int (nI j), .int (nI k)]) (n := 3) (Nat.le_of_ble_eq_true rfl)
  rw [lg_entry_eq]
  generalize (lg_sl ([.ref h0, .int (nI j), .int (nI k)]) ++ List.replicate (3 - (lg_sl ([.ref h0, .int (nI j), .int (nI k)])).length) Slot.unset).toArray = ls at hl ⊢
  have hl : lv_has ls 3 [(0, .ref h0), (1, .int (nI j)), (2, .int (nI k))] := hl
  refine lv_aload_n hx hb dX9_goodNow_0 rfl (lv_at hl 0 rfl) ?_
  refine lv_iload_n hx hb dX9_goodNow_1 rfl (lv_at hl 1 rfl) ?_
  refine lv_iload_n hx hb dX9_goodNow_2 rfl (lv_at hl 2 rfl) ?_
  refine lv_aload_n hx hb dX9_goodNow_3 rfl (lv_at hl 0 rfl) ?_
  refine va_get (D := (dC, dI)) (ci := 9) (v := .ref hd) (C := RX9) (T := TX9) (N := 3) hx hb hts hi_X9 hown hK hP 0 rfl rfl 1 (by decide) (hts (.fieldLink RX9 19 "LeftQuills$Trials" "desk" "LLeftQuills$Desk;") (wmx 1 rfl)) (fun _ h9 => h9) e_h0_1 dX9_goodNow_4 ?_
  refine va_get (D := (dC, dI)) (ci := 1) (v := .ref a4) (C := RX1) (T := TX1) (N := 8) hx hb hts hi_X1 hown hK hP 2 rfl rfl 4 (by decide) (hts (.fieldLink RX9 23 "LeftQuills$Desk" "softness" "[I") (wmx 2 rfl)) (fun _ h9 => h9) e_hd_4 dX9_goodNow_7 ?_
  refine lv_iload_n hx hb dX9_goodNow_10 rfl (lv_at hl 1 rfl) ?_
  refine va_iald hx hb hK hP 4 0 rfl rfl (vp_in_nI (n := j) (N := 8) (by omega) (by decide)) dX9_goodNow_11 ?_
  refine W.eq (g2 := F0 m 12 ls [.int (fa4 j), .int (nI k), .int (nI j), .ref h0]) (congrArg (fun y9 => F0 m 12 ls (.int (fa4 y9) :: [.int (nI k), .int (nI j), .ref h0])) ((nI_clamp (n := j) (by omega)))) ?_
  have hPc := hP.sub (ws' := [(h0, .inr (9, f_h0)), (ho, .inr (5, f_ho)), (hd, .inr (1, f_hd)), (a3, .inl (cI, 8, .inl fa3)), (o5, .inl (cI, 8, .inl fo5)), (o6, .inl (cI, 8, .inl fo6)), (o7, .inl (cI, 8, .inl fo7)), (o10, .inl (cI, 4, .inl fo10)), (o11, .inl (cI, 4, .inl fo11)), (o12, .inl (cI, 4, .inl fo12))]) [0, 1, 2, 3, 5, 6, 7, 8, 9, 10] rfl
  refine va_calli (va_runV (As := [.int (nI j), .int (nI k), .int (fa4 j)]) (rest := []) ⟨hx, hb, hml, hown, hts⟩ (c_X9_goodFrom l dC dI cI cZ cQ h0 ho hd f_h0 o5 o6 o7 o10 o11 o12 f_ho a3 f_hd fa3 fo5 fo6 fo7 fo10 fo11 fo12 j k (fa4 j) s.heap.size e_h0_0 e_h0_1 e_ho_5 e_ho_6 e_ho_7 e_ho_10 e_ho_11 e_ho_12 e_hd_3 (by omega) (by omega)) (cwV 3 hts gX9_goodNow_X9_goodFrom rfl rfl rfl hd_X9_goodFrom_RX9 ⟨Nat.le_of_ble_eq_true rfl, Nat.le_of_ble_eq_true rfl⟩) ⟨fun a U g mk q => by obtain ⟨q0, q1, qP, qK, qN⟩ := q; exact ⟨q0, q1, qP, va_K.moved (u := U) (U := U.calling g mk a) (Vm.Alike.refl U.vm) qK, qN.calling⟩, va_recv hK hP (ci := 9) (q0 := 0) rfl rfl, fun U hU hW => ⟨rfl, by rw [hU], by rw [hU]; exact hPc, va_K.moved hW.alike hK, hN.warm hW⟩⟩ rfl rfl hl.1 rfl (lv_room (Nat.le_of_ble_eq_true rfl)) dX9_goodNow_12 ⟨Nat.le_of_ble_eq_true rfl, Nat.le_of_ble_eq_true rfl⟩) hS (fun q _ h => False.elim h) (fun q h => False.elim h) (fun r1 u2 t H1 locs ht hvm hw3 hB hz1 hk1 hS => ?_)
  have hP := hP.kept (fun k q hk => hk1 q.1 (hP k q hk).lt (fun h => h))
  clear hz1 hk1 hPc
  generalize H1 = H at hP hS ht ⊢
  try dsimp only at hw3
  exact W.iret (v := r1) hx hb hr (fun t ht hW => ⟨⟨r1, (fun _ => 0), rfl, trivial, trivial⟩, hS.F ht⟩) hS.2.2 dX9_goodNow_15
set_option maxHeartbeats 4000000 in
set_option maxRecDepth 100000 in
theorem c_X9_goodInLife (l : Launch) (dC : Nat → ClassId) (dI : Nat → Nat → Nat) (cI cZ cQ : ClassId) (h0 : Nat) (ho : Nat) (hd : Nat) (f_h0 : List Value) (o5 : Nat) (o6 : Nat) (o7 : Nat) (o10 : Nat) (o11 : Nat) (o12 : Nat) (f_ho : List Value) (a2 : Nat) (a3 : Nat) (a4 : Nat) (f_hd : List Value) (fa2 : Nat → Int32) (fa3 : Nat → Int32) (fa4 : Nat → Int32) (fo5 : Nat → Int32) (fo6 : Nat → Int32) (fo7 : Nat → Int32) (fo10 : Nat → Int32) (fo11 : Nat → Int32) (fo12 : Nat → Int32) (j : Nat) (k : Nat) (sz : Nat) (e_h0_0 : fAt f_h0 0 = some (.ref ho)) (e_h0_1 : fAt f_h0 1 = some (.ref hd)) (e_ho_5 : fAt f_ho 5 = some (.ref o5)) (e_ho_6 : fAt f_ho 6 = some (.ref o6)) (e_ho_7 : fAt f_ho 7 = some (.ref o7)) (e_ho_10 : fAt f_ho 10 = some (.ref o10)) (e_ho_11 : fAt f_ho 11 = some (.ref o11)) (e_ho_12 : fAt f_ho 12 = some (.ref o12)) (e_hd_2 : fAt f_hd 2 = some (.ref a2)) (e_hd_3 : fAt f_hd 3 = some (.ref a3)) (e_hd_4 : fAt f_hd 4 = some (.ref a4)) (hj : j < 8) (hk : k < 4) : Met l yX9_goodInLife wsX9_goodInLife ({ frames := 4, cells := 0, slots := 0, locals := 133 }) (va_Pc [.ref h0, .int (nI j), .int (nI k)] (fun U => U.heap.size = sz ∧ va_P (dC, dI) vwCl [(h0, .inr (9, f_h0)), (ho, .inr (5, f_ho)), (hd, .inr (1, f_hd)), (a2, .inl (cI, 8, .inl fa2)), (a3, .inl (cI, 8, .inl fa3)), (a4, .inl (cI, 8, .inl fa4)), (o5, .inl (cI, 8, .inl fo5)), (o6, .inl (cI, 8, .inl fo6)), (o7, .inl (cI, 8, .inl fo7)), (o10, .inl (cI, 4, .inl fo10)), (o11, .inl (cI, 4, .inl fo11)), (o12, .inl (cI, 4, .inl fo12))] U.heap ∧ va_K (dC, dI) vwCl (tys0 cI cZ cQ) U ∧ xN U)) (va_Qi (fun (r : Int32) (u : Nat → Nat) => True) (fun (_ : Nat → Nat) (_ : State) => True) (fun _ : Nat => False)) 0 0 (fun _ : Nat => False) := by
  refine Met.ofW (cc := cX9_goodInLife) (maxL := 6) (ret := (some .int)) (by decide) rfl ?_
  intro p e s m args below meth c s₁ B hml hv
  obtain ⟨rfl, hsz, hP, hK, hN⟩ := hv
  have hx := B.exec
  have hb := B.bytes
  have hr := B.returns
  have hts := atoms_spec (ws := wsX9_goodInLife) B.pre
  have hown : s.vm.findClass RX9 = some m.cls := findClass_of_methodNamed B.named
  have hlocks := B.notSynchronized
  have hi_X1 : ∀ w ∈ u_ws RX1 TX1 8, w ∈ wsX9_goodInLife := fun _ h => List.mem_cons_of_mem _ (List.mem_append_left _ (List.mem_append_right _ (h)))
  have hi_X9 : ∀ w ∈ u_ws RX9 TX9 3, w ∈ wsX9_goodInLife := fun _ h => List.mem_cons_of_mem _ (List.mem_append_left _ (List.mem_append_left _ (List.mem_append_right _ (h))))
  subst hsz
  have hS : va_S (fun _ : Nat => False) s.heap s.heap [] := va_S.rf
  have hl := lv_entry ([.ref h0, .int (nI j), .int (nI k)]) (n := 6) (Nat.le_of_ble_eq_true rfl)
  rw [lg_entry_eq]
  generalize (lg_sl ([.ref h0, .int (nI j), .int (nI k)]) ++ List.replicate (6 - (lg_sl ([.ref h0, .int (nI j), .int (nI k)])).length) Slot.unset).toArray = ls at hl ⊢
  have hl : lv_has ls 6 [(0, .ref h0), (1, .int (nI j)), (2, .int (nI k))] := hl
  refine lv_aload_n hx hb dX9_goodInLife_0 rfl (lv_at hl 0 rfl) ?_
  refine lv_iload_n hx hb dX9_goodInLife_1 rfl (lv_at hl 1 rfl) ?_
  refine lv_iload_n hx hb dX9_goodInLife_2 rfl (lv_at hl 2 rfl) ?_
  have hPc := hP.sub (ws' := [(h0, .inr (9, f_h0)), (ho, .inr (5, f_ho)), (hd, .inr (1, f_hd)), (a3, .inl (cI, 8, .inl fa3)), (a4, .inl (cI, 8, .inl fa4)), (o5, .inl (cI, 8, .inl fo5)), (o6, .inl (cI, 8, .inl fo6)), (o7, .inl (cI, 8, .inl fo7)), (o10, .inl (cI, 4, .inl fo10)), (o11, .inl (cI, 4, .inl fo11)), (o12, .inl (cI, 4, .inl fo12))]) [0, 1, 2, 4, 5, 6, 7, 8, 9, 10, 11] rfl
  refine va_calli (va_runV (As := [.int (nI j), .int (nI k)]) (rest := []) ⟨hx, hb, hml, hown, hts⟩ (c_X9_goodNow l dC dI cI cZ cQ h0 ho hd f_h0 o5 o6 o7 o10 o11 o12 f_ho a3 a4 f_hd fa3 fa4 fo5 fo6 fo7 fo10 fo11 fo12 j k s.heap.size e_h0_0 e_h0_1 e_ho_5 e_ho_6 e_ho_7 e_ho_10 e_ho_11 e_ho_12 e_hd_3 e_hd_4 (by omega) (by omega)) (cwV 2 hts gX9_goodInLife_X9_goodNow rfl rfl rfl hd_X9_goodNow_RX9 ⟨Nat.le_of_ble_eq_true rfl, Nat.le_of_ble_eq_true rfl⟩) ⟨fun a U g mk q => by obtain ⟨q0, q1, qP, qK, qN⟩ := q; exact ⟨q0, q1, qP, va_K.moved (u := U) (U := U.calling g mk a) (Vm.Alike.refl U.vm) qK, qN.calling⟩, va_recv hK hP (ci := 9) (q0 := 0) rfl rfl, fun U hU hW => ⟨rfl, by rw [hU], by rw [hU]; exact hPc, va_K.moved hW.alike hK, hN.warm hW⟩⟩ rfl rfl hl.1 rfl (lv_room (Nat.le_of_ble_eq_true rfl)) dX9_goodInLife_3 ⟨Nat.le_of_ble_eq_true rfl, Nat.le_of_ble_eq_true rfl⟩) hS (fun q _ h => False.elim h) (fun q h => False.elim h) (fun r1 u2 t H1 locs ht hvm hw3 hB hz1 hk1 hS => ?_)
  have hP := hP.kept (fun k q hk => hk1 q.1 (hP k q hk).lt (fun h => h))
  clear hz1 hk1 hPc
  generalize H1 = H at hP hS ht ⊢
  try dsimp only at hw3
  refine lv_istore_n (lv' := [(3, .int r1), (0, .ref h0), (1, .int (nI j)), (2, .int (nI k))]) hx hb dX9_goodInLife_6 rfl hl (by decide) rfl (fun ls hl => ?_)
  refine lv_aload_n hx hb dX9_goodInLife_7 rfl (lv_at hl 1 rfl) ?_
  refine lv_iload_n hx hb dX9_goodInLife_8 rfl (lv_at hl 2 rfl) ?_
  refine lv_iload_n hx hb dX9_goodInLife_9 rfl (lv_at hl 3 rfl) ?_
  refine lv_iconst (v := 0) hx hb dX9_goodInLife_10 (by decide) ?_
  have hPc := hP.sub (ws' := [(h0, .inr (9, f_h0)), (ho, .inr (5, f_ho)), (hd, .inr (1, f_hd)), (a3, .inl (cI, 8, .inl fa3)), (o5, .inl (cI, 8, .inl fo5)), (o6, .inl (cI, 8, .inl fo6)), (o7, .inl (cI, 8, .inl fo7)), (o10, .inl (cI, 4, .inl fo10)), (o11, .inl (cI, 4, .inl fo11)), (o12, .inl (cI, 4, .inl fo12))]) [0, 1, 2, 4, 6, 7, 8, 9, 10, 11] rfl
  refine va_calli (va_runV (As := [.int (nI j), .int (nI k), .int 0]) (rest := []) ⟨hx, hb, hml, hown, hts⟩ (c_X9_goodFrom l dC dI cI cZ cQ h0 ho hd f_h0 o5 o6 o7 o10 o11 o12 f_ho a3 f_hd fa3 fo5 fo6 fo7 fo10 fo11 fo12 j k 0 H.size e_h0_0 e_h0_1 e_ho_5 e_ho_6 e_ho_7 e_ho_10 e_ho_11 e_ho_12 e_hd_3 (by omega) (by omega)) (cwV 3 hts gX9_goodInLife_X9_goodFrom rfl rfl rfl hd_X9_goodFrom_RX9 ⟨Nat.le_of_ble_eq_true rfl, Nat.le_of_ble_eq_true rfl⟩) ⟨fun a U g mk q => by obtain ⟨q0, q1, qP, qK, qN⟩ := q; exact ⟨q0, q1, qP, va_K.moved (u := U) (U := U.calling g mk a) (Vm.Alike.refl U.vm) qK, qN.calling⟩, va_recv hK hP (ci := 9) (q0 := 0) rfl rfl, fun U hU hW => ⟨rfl, by rw [hU], by rw [hU]; exact hPc, va_K.moved hW.alike hK, hN.warm hW⟩⟩ rfl rfl hl.1 rfl (lv_room (Nat.le_of_ble_eq_true rfl)) dX9_goodInLife_11 ⟨Nat.le_of_ble_eq_true rfl, Nat.le_of_ble_eq_true rfl⟩) hS (fun q _ h => False.elim h) (fun q h => False.elim h) (fun r4 u5 t H1 locs ht hvm hw6 hB hz1 hk1 hS => ?_)
  have hP := hP.kept (fun k q hk => hk1 q.1 (hP k q hk).lt (fun h => h))
  clear hz1 hk1 hPc
  generalize H1 = H at hP hS ht ⊢
  try dsimp only at hw6
  refine lv_istore (lv' := [(4, .int r4), (3, .int r1), (0, .ref h0), (1, .int (nI j)), (2, .int (nI k))]) hx hb dX9_goodInLife_14 hl (by decide) rfl (fun ls hl => ?_)
  refine lv_aload_n hx hb dX9_goodInLife_16 rfl (lv_at hl 2 rfl) ?_
  refine va_get (D := (dC, dI)) (ci := 9) (v := .ref hd) (C := RX9) (T := TX9) (N := 3) hx hb hts hi_X9 hown hK hP 0 rfl rfl 1 (by decide) (hts (.fieldLink RX9 19 "LeftQuills$Trials" "desk" "LLeftQuills$Desk;") (wmx 1 rfl)) (fun _ h9 => h9) e_h0_1 dX9_goodInLife_17 ?_
  refine va_get (D := (dC, dI)) (ci := 1) (v := .ref a2) (C := RX1) (T := TX1) (N := 8) hx hb hts hi_X1 hown hK hP 2 rfl rfl 2 (by decide) (hts (.fieldLink RX9 51 "LeftQuills$Desk" "length" "[I") (wmx 2 rfl)) (fun _ h9 => h9) e_hd_2 dX9_goodInLife_20 ?_
  refine lv_iload_n hx hb dX9_goodInLife_23 rfl (lv_at hl 3 rfl) ?_
  refine va_iald hx hb hK hP 3 0 rfl rfl (vp_in_nI (n := j) (N := 8) (by omega) (by decide)) dX9_goodInLife_24 ?_
  refine W.eq (g2 := F0 m 25 ls [.int (fa2 j)]) (congrArg (fun y9 => F0 m 25 ls (.int (fa2 y9) :: [])) ((nI_clamp (n := j) (by omega)))) ?_
  refine lv_istore (lv' := [(5, .int (fa2 j)), (4, .int r4), (3, .int r1), (0, .ref h0), (1, .int (nI j)), (2, .int (nI k))]) hx hb dX9_goodInLife_25 hl (by decide) rfl (fun ls hl => ?_)
  refine (fun (K : ∀ (d27 : Nat) (z27_5 : Int32) (z27_3 : Int32) (H : Heap) (locs : List Loc) (ls : Array Slot), z27_5.toInt < 5 + 5 * (d27 : Int) → va_P (dC, dI) vwCl [(h0, .inr (9, f_h0)), (ho, .inr (5, f_ho)), (hd, .inr (1, f_hd)), (a2, .inl (cI, 8, .inl fa2)), (a3, .inl (cI, 8, .inl fa3)), (a4, .inl (cI, 8, .inl fa4)), (o5, .inl (cI, 8, .inl fo5)), (o6, .inl (cI, 8, .inl fo6)), (o7, .inl (cI, 8, .inl fo7)), (o10, .inl (cI, 4, .inl fo10)), (o11, .inl (cI, 4, .inl fo11)), (o12, .inl (cI, 4, .inl fo12))] H → va_S (fun _ : Nat => False) s.heap H locs → lv_has ls 6 [(5, .int z27_5), (3, .int z27_3), (4, .int r4), (0, .ref h0), (1, .int (nI j)), (2, .int (nI k))] → W p l e _ s m _ below meth c H locs _ _ _ (F0 m 27 ls [])) => K ((fa2 j).toInt.toNat) (fa2 j) r1 _ _ _ (by omega) hP hS (lv_sub hl [0, 2, 1, 3, 4, 5] rfl)) ?_
  intro d27
  induction d27 with
  | zero =>
    intro z27_5 z27_3 H locs ls hz27 hP hS hl
    refine lv_iload hx hb dX9_goodInLife_27 (lv_at hl 0 rfl) ?_
    refine lv_iconst (v := 5) hx hb dX9_goodInLife_29 (by decide) ?_
    refine lv_icmp_lt (tgt := 44) hx hb dX9_goodInLife_30 (by decide) (fun c7 => ?_) (fun c7 => ?_)
    rotate_left
    · exact (x_d5 c7 hz27).elim
    refine lv_sipush (v := 999) hx hb dX9_goodInLife_44 (by decide) ?_
    refine lv_iload_n hx hb dX9_goodInLife_47 rfl (lv_at hl 1 rfl) ?_
    refine va_mmin hx hb (hml.trans hl.1.symm) hown (hts (.methodLink RX9 54 Lib.Math.min.name) (wmx 3 rfl)) (hts (.static Lib.Math.min.name) (wmx 4 rfl)) (hts (.initialized "java/lang/Math") (wmx 5 rfl)) (hts (.code Lib.Math.min.name Lib.Math.min.code 2 (some .int)) (wmx 6 rfl)) (Nat.le_of_ble_eq_true rfl) (Nat.le_of_ble_eq_true rfl) (Nat.le_of_ble_eq_true rfl) (Nat.le_of_ble_eq_true rfl) dX9_goodInLife_48 ?_
    refine lv_topi (fun z8 ez8 => ?_)
    exact W.iret (v := z8) hx hb hr (fun t ht hW => ⟨⟨z8, (fun _ => 0), rfl, trivial, trivial⟩, hS.F ht⟩) hS.2.2 dX9_goodInLife_51
  | succ d27 ih27 =>
    intro z27_5 z27_3 H locs ls hz27 hP hS hl
    refine lv_iload hx hb dX9_goodInLife_27 (lv_at hl 0 rfl) ?_
    refine lv_iconst (v := 5) hx hb dX9_goodInLife_29 (by decide) ?_
    refine lv_icmp_lt (tgt := 44) hx hb dX9_goodInLife_30 (by decide) (fun c9 => ?_) (fun c9 => ?_)
    ·
      refine lv_sipush (v := 999) hx hb dX9_goodInLife_44 (by decide) ?_
      refine lv_iload_n hx hb dX9_goodInLife_47 rfl (lv_at hl 1 rfl) ?_
      refine va_mmin hx hb (hml.trans hl.1.symm) hown (hts (.methodLink RX9 54 Lib.Math.min.name) (wmx 3 rfl)) (hts (.static Lib.Math.min.name) (wmx 4 rfl)) (hts (.initialized "java/lang/Math") (wmx 5 rfl)) (hts (.code Lib.Math.min.name Lib.Math.min.code 2 (some .int)) (wmx 6 rfl)) (Nat.le_of_ble_eq_true rfl) (Nat.le_of_ble_eq_true rfl) (Nat.le_of_ble_eq_true rfl) (Nat.le_of_ble_eq_true rfl) dX9_goodInLife_48 ?_
      refine lv_topi (fun z10 ez10 => ?_)
      exact W.iret (v := z10) hx hb hr (fun t ht hW => ⟨⟨z10, (fun _ => 0), rfl, trivial, trivial⟩, hS.F ht⟩) hS.2.2 dX9_goodInLife_51
    ·
      refine lv_iload_n hx hb dX9_goodInLife_33 rfl (lv_at hl 1 rfl) ?_
      refine lv_iload hx hb dX9_goodInLife_34 (lv_at hl 2 rfl) ?_
      refine lv_iadd hx hb dX9_goodInLife_36 ?_
      refine lv_topi (fun z11 ez11 => ?_)
      refine lv_istore_n (lv' := [(3, .int z11), (5, .int z27_5), (4, .int r4), (0, .ref h0), (1, .int (nI j)), (2, .int (nI k))]) hx hb dX9_goodInLife_37 rfl hl (by decide) rfl (fun ls hl => ?_)
      obtain ⟨z12, ez12⟩ : ∃ y : Int32, y = z27_5 + (-5) := ⟨_, rfl⟩
      refine lv_iinc (v := z12) (lv' := [(5, .int z12), (3, .int z11), (4, .int r4), (0, .ref h0), (1, .int (nI j)), (2, .int (nI k))]) hx hb dX9_goodInLife_38 hl (k := 1) rfl (by rw [ez12]; rfl) (by decide) rfl (fun ls hl => ?_)
      refine lv_goto (tgt := 27) hx hb dX9_goodInLife_41 (by decide) ?_
      exact ih27 z12 z11 _ _ _ (x_m5 ez12 c9 hz27) hP hS (lv_sub hl [0, 1, 2, 3, 4, 5] rfl)
set_option maxHeartbeats 4000000 in
set_option maxRecDepth 100000 in
theorem c_X9_turnsDo (l : Launch) (dC : Nat → ClassId) (dI : Nat → Nat → Nat) (cI cZ cQ : ClassId) (h0 : Nat) (ts : Nat) (f_h0 : List Value) (fts : Nat → Int32) (n : Nat) (a0 : Int32) (a1 : Int32) (sz : Nat) (e_h0_2 : fAt f_h0 2 = some (.ref ts)) (hn : n ≤ 100) : Met l yX9_turnsDo wsX9_turnsDo ({ frames := 2, cells := 0, slots := 0, locals := 61 }) (va_Pc [.ref h0, .int (nI n), .int a0, .int a1] (fun U => U.heap.size = sz ∧ va_P (dC, dI) vwCl [(h0, .inr (9, f_h0)), (ts, .inl (cI, 9, .inl fts))] U.heap ∧ va_K (dC, dI) vwCl (tys0 cI cZ cQ) U ∧ va_D (fun _ => True) [(h0, .inr (9, f_h0)), (ts, .inl (cI, 9, .inl fts))] ∧ xN U)) (va_Qi (fun (r : Int32) (u : Nat → Nat) => r = 1 ∨ r = 0) (fun (_ : Nat → Nat) (t : State) => ∃ (gg0 : Nat → Int32) , va_P (dC, dI) vwCl [(h0, .inr (9, f_h0)), (ts, .inl (cI, 9, .inl gg0))] t.heap ∧ va_D (va_A [(h0, .inr (9, f_h0)), (ts, .inl (cI, 9, .inl fts))] sz) [(h0, .inr (9, f_h0)), (ts, .inl (cI, 9, .inl gg0))]) (va_A [(h0, .inr (9, f_h0)), (ts, .inl (cI, 9, .inl fts))] sz)) 0 0 (va_A [(h0, .inr (9, f_h0)), (ts, .inl (cI, 9, .inl fts))] sz) := by
  refine Met.ofW (cc := cX9_turnsDo) (maxL := 7) (ret := (some .boolean)) (by decide) rfl ?_
  intro p e s m args below meth c s₁ B hml hv
  obtain ⟨rfl, hsz, hP, hK, hD0, hN⟩ := hv
  have hx := B.exec
  have hb := B.bytes
  have hr := B.returns
  have hts := atoms_spec (ws := wsX9_turnsDo) B.pre
  have hown : s.vm.findClass RX9 = some m.cls := findClass_of_methodNamed B.named
  have hlocks := B.notSynchronized
  have hi_X9 : ∀ w ∈ u_ws RX9 TX9 3, w ∈ wsX9_turnsDo := fun _ h => List.mem_cons_of_mem _ (List.mem_append_right _ (h))
  subst hsz
  have hD := hD0.self (sz := s.heap.size)
  generalize hAe : va_A [(h0, .inr (9, f_h0)), (ts, .inl (cI, 9, .inl fts))] s.heap.size = A at hD ⊢
  have hA : ∀ q : Nat, s.heap.size ≤ q → A q := fun q h => by rw [← hAe]; exact Or.inr h
  have hS : va_S A s.heap s.heap [] := va_S.rf
  have hl := lv_entry ([.ref h0, .int (nI n), .int a0, .int a1]) (n := 7) (Nat.le_of_ble_eq_true rfl)
  rw [lg_entry_eq]
  generalize (lg_sl ([.ref h0, .int (nI n), .int a0, .int a1]) ++ List.replicate (7 - (lg_sl ([.ref h0, .int (nI n), .int a0, .int a1])).length) Slot.unset).toArray = ls at hl ⊢
  have hl : lv_has ls 7 [(0, .ref h0), (1, .int (nI n)), (2, .int a0), (3, .int a1)] := hl
  refine lv_iload_n hx hb dX9_turnsDo_0 rfl (lv_at hl 1 rfl) ?_
  refine lv_iconst (v := 1) hx hb dX9_turnsDo_1 (by decide) ?_
  refine lv_icmp_lt (tgt := 11) hx hb dX9_turnsDo_2 (by decide) (fun c1 => ?_) (fun c1 => ?_)
  ·
    have c1 : n < 1 := (nI_ltI (a := n) (b := 1) (by omega) (by omega)).mp c1
    refine lv_iconst (v := 0) hx hb dX9_turnsDo_11 (by decide) ?_
    have hP9 := hP.sub (ws' := [(h0, .inr (9, f_h0)), (ts, .inl (cI, 9, .inl fts))]) [0, 1] rfl
    have hD9 := hD.sub (ws' := [(h0, .inr (9, f_h0)), (ts, .inl (cI, 9, .inl fts))]) [0, 1] (by decide +kernel) rfl
    exact W.zret (v := 0) hx hb hr (rfl) (fun t ht hW => ⟨⟨0, (fun _ => 0), rfl, Or.inr rfl, ⟨fts, va_hq ht hP9, hD9⟩⟩, hS.F ht⟩) hS.2.2 dX9_turnsDo_12
  ·
    have c1 : ¬ n < 1 := fun h => c1 ((nI_ltI (a := n) (b := 1) (by omega) (by omega)).mpr h)
    refine lv_iload_n hx hb dX9_turnsDo_5 rfl (lv_at hl 1 rfl) ?_
    refine lv_bipush (v := 9) hx hb dX9_turnsDo_6 (by decide) ?_
    refine lv_icmp_le (tgt := 13) hx hb dX9_turnsDo_8 (by decide) (fun c2 => ?_) (fun c2 => ?_)
    ·
      have c2 : n ≤ 9 := (nI_leI (a := n) (b := 9) (by omega) (by omega)).mp c2
      refine lv_iconst (v := 0) hx hb dX9_turnsDo_13 (by decide) ?_
      refine lv_istore (lv' := [(4, .int 0), (0, .ref h0), (1, .int (nI n)), (2, .int a0), (3, .int a1)]) hx hb dX9_turnsDo_14 hl (by decide) rfl (fun ls hl => ?_)
      refine (fun (K : ∀ (d16 : Nat) (k16 : Nat) (f16_ts : Nat → Int32) (H : Heap) (locs : List Loc) (ls : Array Slot), k16 + d16 = n → va_P (dC, dI) vwCl [(h0, .inr (9, f_h0)), (ts, .inl (cI, 9, .inl f16_ts))] H → va_D A [(h0, .inr (9, f_h0)), (ts, .inl (cI, 9, .inl f16_ts))] → va_S A s.heap H locs → lv_has ls 7 [(4, .int (nI k16)), (0, .ref h0), (1, .int (nI n)), (2, .int a0), (3, .int a1)] → W p l e _ s m _ below meth c H locs _ _ _ (F0 m 16 ls [])) => K n 0 fts _ _ _ (by omega) hP hD hS (lv_sub hl [0, 1, 2, 3, 4] rfl)) ?_
      intro d16
      induction d16 with
      | zero =>
        intro k16 f16_ts H locs ls hk16 hP hD hS hl
        refine lv_iload hx hb dX9_turnsDo_16 (lv_at hl 0 rfl) ?_
        refine lv_iload_n hx hb dX9_turnsDo_18 rfl (lv_at hl 2 rfl) ?_
        refine lv_icmp_ge (tgt := 36) hx hb dX9_turnsDo_19 (by decide) (fun c3 => ?_) (fun c3 => ?_)
        ·
          have c3 : n ≤ k16 := (nI_leI (a := n) (b := k16) (by omega) (by omega)).mp c3
          refine lv_iconst (v := 0) hx hb dX9_turnsDo_36 (by decide) ?_
          refine lv_istore (lv' := [(4, .int 0), (0, .ref h0), (1, .int (nI n)), (2, .int a0), (3, .int a1)]) hx hb dX9_turnsDo_37 hl (by decide) rfl (fun ls hl => ?_)
          refine (fun (K : ∀ (d39 : Nat) (k39 : Nat) (f39_ts : Nat → Int32) (H : Heap) (locs : List Loc) (ls : Array Slot), k39 + d39 = 20 → va_P (dC, dI) vwCl [(h0, .inr (9, f_h0)), (ts, .inl (cI, 9, .inl f39_ts))] H → va_D A [(h0, .inr (9, f_h0)), (ts, .inl (cI, 9, .inl f39_ts))] → va_S A s.heap H locs → lv_has ls 7 [(4, .int (nI k39)), (0, .ref h0), (1, .int (nI n)), (2, .int a0), (3, .int a1)] → W p l e _ s m _ below meth c H locs _ _ _ (F0 m 39 ls [])) => K 20 0 f16_ts _ _ _ (by omega) hP hD hS (lv_sub hl [0, 1, 2, 3, 4] rfl)) ?_
          intro d39
          induction d39 with
          | zero =>
            intro k39 f39_ts H locs ls hk39 hP hD hS hl
            refine lv_iload hx hb dX9_turnsDo_39 (lv_at hl 0 rfl) ?_
            refine lv_bipush (v := 20) hx hb dX9_turnsDo_41 (by decide) ?_
            refine lv_icmp_ge (tgt := 126) hx hb dX9_turnsDo_43 (by decide) (fun c4 => ?_) (fun c4 => ?_)
            ·
              have c4 : 20 ≤ k39 := (nI_leI (a := 20) (b := k39) (by omega) (by omega)).mp c4
              refine lv_iconst (v := 1) hx hb dX9_turnsDo_126 (by decide) ?_
              have hP9 := hP.sub (ws' := [(h0, .inr (9, f_h0)), (ts, .inl (cI, 9, .inl f39_ts))]) [0, 1] rfl
              have hD9 := hD.sub (ws' := [(h0, .inr (9, f_h0)), (ts, .inl (cI, 9, .inl f39_ts))]) [0, 1] (by decide +kernel) rfl
              exact W.zret (v := 1) hx hb hr (rfl) (fun t ht hW => ⟨⟨1, (fun _ => 0), rfl, Or.inl rfl, ⟨f39_ts, va_hq ht hP9, hD9⟩⟩, hS.F ht⟩) hS.2.2 dX9_turnsDo_127
            ·
              have c4 : ¬ 20 ≤ k39 := fun h => c4 ((nI_leI (a := 20) (b := k39) (by omega) (by omega)).mpr h)
              omega
          | succ d39 ih39 =>
            intro k39 f39_ts H locs ls hk39 hP hD hS hl
            refine lv_iload hx hb dX9_turnsDo_39 (lv_at hl 0 rfl) ?_
            refine lv_bipush (v := 20) hx hb dX9_turnsDo_41 (by decide) ?_
            refine lv_icmp_ge (tgt := 126) hx hb dX9_turnsDo_43 (by decide) (fun c5 => ?_) (fun c5 => ?_)
            ·
              have c5 : 20 ≤ k39 := (nI_leI (a := 20) (b := k39) (by omega) (by omega)).mp c5
              omega
            ·
              have c5 : ¬ 20 ≤ k39 := fun h => c5 ((nI_leI (a := 20) (b := k39) (by omega) (by omega)).mpr h)
              refine lv_iload hx hb dX9_turnsDo_46 (lv_at hl 0 rfl) ?_
              refine lv_iload_n hx hb dX9_turnsDo_48 rfl (lv_at hl 2 rfl) ?_
              refine lv_irem hx hb dX9_turnsDo_49 (nI_ne0 (n := n) (by omega) (by omega)) ?_
              refine lv_topi (fun z6 ez6 => ?_)
              obtain ⟨w7, hw7, ew7⟩ : ∃ y : Nat, y < n ∧ y = k39 % n := ⟨_, Nat.mod_lt _ (by omega), rfl⟩
              obtain rfl : z6 = nI w7 := by rw [ew7]; exact ez6.trans (pk_rem (a := k39) (d := n) (by omega) (by omega) (by omega))
              refine lv_istore (lv' := [(5, .int (nI w7)), (4, .int (nI k39)), (0, .ref h0), (1, .int (nI n)), (2, .int a0), (3, .int a1)]) hx hb dX9_turnsDo_50 hl (by decide) rfl (fun ls hl => ?_)
              refine lv_iconst (v := 0) hx hb dX9_turnsDo_52 (by decide) ?_
              refine lv_istore (lv' := [(6, .int 0), (5, .int (nI w7)), (4, .int (nI k39)), (0, .ref h0), (1, .int (nI n)), (2, .int a0), (3, .int a1)]) hx hb dX9_turnsDo_53 hl (by decide) rfl (fun ls hl => ?_)
              refine (fun (K : ∀ (d55 : Nat) (k55 : Nat) (f55_ts : Nat → Int32) (H : Heap) (locs : List Loc) (ls : Array Slot), k55 + d55 = n → va_P (dC, dI) vwCl [(h0, .inr (9, f_h0)), (ts, .inl (cI, 9, .inl f55_ts))] H → va_D A [(h0, .inr (9, f_h0)), (ts, .inl (cI, 9, .inl f55_ts))] → va_S A s.heap H locs → lv_has ls 7 [(6, .int (nI k55)), (5, .int (nI w7)), (4, .int (nI k39)), (0, .ref h0), (1, .int (nI n)), (2, .int a0), (3, .int a1)] → W p l e _ s m _ below meth c H locs _ _ _ (F0 m 55 ls [])) => K n 0 f39_ts _ _ _ (by omega) hP hD hS (lv_sub hl [0, 1, 2, 3, 4, 5, 6] rfl)) ?_
              intro d55
              induction d55 with
              | zero =>
                intro k55 f55_ts H locs ls hk55 hP hD hS hl
                refine lv_iload hx hb dX9_turnsDo_55 (lv_at hl 0 rfl) ?_
                refine lv_iload_n hx hb dX9_turnsDo_57 rfl (lv_at hl 4 rfl) ?_
                refine lv_icmp_ge (tgt := 106) hx hb dX9_turnsDo_58 (by decide) (fun c8 => ?_) (fun c8 => ?_)
                ·
                  have c8 : n ≤ k55 := (nI_leI (a := n) (b := k55) (by omega) (by omega)).mp c8
                  refine lv_aload_n hx hb dX9_turnsDo_106 rfl (lv_at hl 3 rfl) ?_
                  refine va_get (D := (dC, dI)) (ci := 9) (v := .ref ts) (C := RX9) (T := TX9) (N := 3) hx hb hts hi_X9 hown hK hP 0 rfl rfl 2 (by decide) (hts (.fieldLink RX9 11 "LeftQuills$Trials" "turnSoftness" "[I") (wmx 1 rfl)) (fun _ h9 => h9) e_h0_2 dX9_turnsDo_107 ?_
                  refine lv_iload hx hb dX9_turnsDo_110 (lv_at hl 1 rfl) ?_
                  refine va_iald hx hb hK hP 1 0 rfl rfl (vp_in_nI (n := w7) (N := 9) (by omega) (by decide)) dX9_turnsDo_112 ?_
                  refine W.eq (g2 := F0 m 113 ls [.int (f55_ts w7)]) (congrArg (fun y9 => F0 m 113 ls (.int (f55_ts y9) :: [])) ((nI_clamp (n := w7) (by omega)))) ?_
                  refine lv_bipush (v := 50) hx hb dX9_turnsDo_113 (by decide) ?_
                  refine lv_icmp_le (tgt := 120) hx hb dX9_turnsDo_115 (by decide) (fun c9 => ?_) (fun c9 => ?_)
                  ·
                    refine lv_iinc (v := nI (k39 + 1)) (lv' := [(4, .int (nI (k39 + 1))), (6, .int (nI k55)), (5, .int (nI w7)), (0, .ref h0), (1, .int (nI n)), (2, .int a0), (3, .int a1)]) hx hb dX9_turnsDo_120 hl (k := 2) rfl ((rfl : nI k39 + Int32.ofInt 1 = nI k39 + 1).trans (nI_add k39 1)) (by decide) rfl (fun ls hl => ?_)
                    refine lv_goto (tgt := 39) hx hb dX9_turnsDo_123 (by decide) ?_
                    exact ih39 (k39 + 1) f55_ts _ _ _ (by omega) hP hD hS (lv_sub hl [0, 3, 4, 5, 6] rfl)
                  ·
                    refine lv_iconst (v := 0) hx hb dX9_turnsDo_118 (by decide) ?_
                    have hP9 := hP.sub (ws' := [(h0, .inr (9, f_h0)), (ts, .inl (cI, 9, .inl f55_ts))]) [0, 1] rfl
                    have hD9 := hD.sub (ws' := [(h0, .inr (9, f_h0)), (ts, .inl (cI, 9, .inl f55_ts))]) [0, 1] (by decide +kernel) rfl
                    exact W.zret (v := 0) hx hb hr (rfl) (fun t ht hW => ⟨⟨0, (fun _ => 0), rfl, Or.inr rfl, ⟨f55_ts, va_hq ht hP9, hD9⟩⟩, hS.F ht⟩) hS.2.2 dX9_turnsDo_119
                ·
                  have c8 : ¬ n ≤ k55 := fun h => c8 ((nI_leI (a := n) (b := k55) (by omega) (by omega)).mpr h)
                  omega
              | succ d55 ih55 =>
                intro k55 f55_ts H locs ls hk55 hP hD hS hl
                refine lv_iload hx hb dX9_turnsDo_55 (lv_at hl 0 rfl) ?_
                refine lv_iload_n hx hb dX9_turnsDo_57 rfl (lv_at hl 4 rfl) ?_
                refine lv_icmp_ge (tgt := 106) hx hb dX9_turnsDo_58 (by decide) (fun c10 => ?_) (fun c10 => ?_)
                ·
                  have c10 : n ≤ k55 := (nI_leI (a := n) (b := k55) (by omega) (by omega)).mp c10
                  omega
                ·
                  have c10 : ¬ n ≤ k55 := fun h => c10 ((nI_leI (a := n) (b := k55) (by omega) (by omega)).mpr h)
                  refine lv_aload_n hx hb dX9_turnsDo_61 rfl (lv_at hl 3 rfl) ?_
                  refine va_get (D := (dC, dI)) (ci := 9) (v := .ref ts) (C := RX9) (T := TX9) (N := 3) hx hb hts hi_X9 hown hK hP 0 rfl rfl 2 (by decide) (hts (.fieldLink RX9 11 "LeftQuills$Trials" "turnSoftness" "[I") (wmx 1 rfl)) (fun _ h9 => h9) e_h0_2 dX9_turnsDo_62 ?_
                  refine lv_iload hx hb dX9_turnsDo_65 (lv_at hl 0 rfl) ?_
                  refine lv_iload hx hb dX9_turnsDo_67 (lv_at hl 0 rfl) ?_
                  refine lv_iload hx hb dX9_turnsDo_69 (lv_at hl 1 rfl) ?_
                  refine lv_icmp_ne (tgt := 88) hx hb dX9_turnsDo_71 (by decide) (fun c11 => ?_) (fun c11 => ?_)
                  ·
                    have c11 : ¬ k55 = w7 := fun h => c11 ((nI_eq (a := k55) (b := w7) (by omega) (by omega)).mpr h)
                    refine lv_aload_n hx hb dX9_turnsDo_88 rfl (lv_at hl 3 rfl) ?_
                    refine va_get (D := (dC, dI)) (ci := 9) (v := .ref ts) (C := RX9) (T := TX9) (N := 3) hx hb hts hi_X9 hown hK hP 0 rfl rfl 2 (by decide) (hts (.fieldLink RX9 11 "LeftQuills$Trials" "turnSoftness" "[I") (wmx 1 rfl)) (fun _ h9 => h9) e_h0_2 dX9_turnsDo_89 ?_
                    refine lv_iload hx hb dX9_turnsDo_92 (lv_at hl 0 rfl) ?_
                    refine va_iald hx hb hK hP 1 0 rfl rfl (vp_in_nI (n := k55) (N := 9) (by omega) (by decide)) dX9_turnsDo_94 ?_
                    refine W.eq (g2 := F0 m 95 ls [.int (f55_ts k55), .int (nI k55), .ref ts]) (congrArg (fun y9 => F0 m 95 ls (.int (f55_ts y9) :: [.int (nI k55), .ref ts])) ((nI_clamp (n := k55) (by omega)))) ?_
                    refine lv_iconst (v := 1) hx hb dX9_turnsDo_95 (by decide) ?_
                    have hPc := hP.sub (ws' := []) [] rfl
                    refine va_calli (va_runSN (As := [.int (f55_ts k55), .int 1]) (rest := [.int (nI k55), .ref ts]) ⟨hx, hb, hml, hown, hts⟩ (c_X10_driedSoftness l dC dI cI cZ cQ (f55_ts k55) 1 H.size ) ⟨va_cnB 2 hts gX9_turnsDo_X10_driedSoftness_n63 rfl rfl rfl (hN.n_X9_63) (hts (.initialized RX10) (wmx 3 rfl)) (by decide +kernel) ⟨Nat.le_of_ble_eq_true rfl, Nat.le_of_ble_eq_true rfl⟩, hts (.static yX10_driedSoftness) (by decide +kernel), trivial⟩ (ps_R hK hPc) rfl rfl hl.1 rfl (lv_room (Nat.le_of_ble_eq_true rfl)) dX9_turnsDo_96 ⟨Nat.le_of_ble_eq_true rfl, Nat.le_of_ble_eq_true rfl⟩) hS (fun q _ h => False.elim h) (fun q h => False.elim h) (fun r12 u13 t H1 locs ht hvm hw14 hB hz1 hk1 hS => ?_)
                    have hP := hP.kept (fun k q hk => hk1 q.1 (hP k q hk).lt (fun h => h))
                    clear hz1 hk1 hPc
                    generalize H1 = H at hP hS ht ⊢
                    try dsimp only at hw14
                    refine va_iast hx hb hK hP hD hS 1 0 rfl rfl (vp_in_nI (n := k55) (N := 9) (by omega) (by decide)) dX9_turnsDo_99 (fun H locs hP hD hS => ?_)
                    generalize hgf15 : upd f55_ts ((nI k55).toNatClampNeg) r12 = f15 at hP hD
                    have hPD : pdW (dC, dI) vwCl A [(h0, .inr (9, f_h0)), (ts, .inl (cI, 9, .inl f15))] H := ⟨hP, hD⟩
                    have hP := hPD.1
                    have hD := hPD.2
                    clear hPD
                    refine lv_iinc (v := nI (k55 + 1)) (lv' := [(6, .int (nI (k55 + 1))), (5, .int (nI w7)), (4, .int (nI k39)), (0, .ref h0), (1, .int (nI n)), (2, .int a0), (3, .int a1)]) hx hb dX9_turnsDo_100 hl (k := 0) rfl ((rfl : nI k55 + Int32.ofInt 1 = nI k55 + 1).trans (nI_add k55 1)) (by decide) rfl (fun ls hl => ?_)
                    refine lv_goto (tgt := 55) hx hb dX9_turnsDo_103 (by decide) ?_
                    exact ih55 (k55 + 1) f15 _ _ _ (by omega) hP hD hS (lv_sub hl [0, 1, 2, 3, 4, 5, 6] rfl)
                  ·
                    have c11 : k55 = w7 := (nI_eq (a := k55) (b := w7) (by omega) (by omega)).mp c11
                    refine lv_aload_n hx hb dX9_turnsDo_74 rfl (lv_at hl 3 rfl) ?_
                    refine va_get (D := (dC, dI)) (ci := 9) (v := .ref ts) (C := RX9) (T := TX9) (N := 3) hx hb hts hi_X9 hown hK hP 0 rfl rfl 2 (by decide) (hts (.fieldLink RX9 11 "LeftQuills$Trials" "turnSoftness" "[I") (wmx 1 rfl)) (fun _ h9 => h9) e_h0_2 dX9_turnsDo_75 ?_
                    refine lv_iload hx hb dX9_turnsDo_78 (lv_at hl 0 rfl) ?_
                    refine va_iald hx hb hK hP 1 0 rfl rfl (vp_in_nI (n := k55) (N := 9) (by omega) (by decide)) dX9_turnsDo_80 ?_
                    refine W.eq (g2 := F0 m 81 ls [.int (f55_ts k55), .int (nI k55), .ref ts]) (congrArg (fun y9 => F0 m 81 ls (.int (f55_ts y9) :: [.int (nI k55), .ref ts])) ((nI_clamp (n := k55) (by omega)))) ?_
                    refine lv_iload_n hx hb dX9_turnsDo_81 rfl (lv_at hl 6 rfl) ?_
                    have hPc := hP.sub (ws' := []) [] rfl
                    refine va_calli (va_runSN (As := [.int (f55_ts k55), .int a1]) (rest := [.int (nI k55), .ref ts]) ⟨hx, hb, hml, hown, hts⟩ (c_X10_softerBy l dC dI cI cZ cQ (f55_ts k55) a1 H.size ) ⟨va_cnB 2 hts gX9_turnsDo_X10_softerBy_n45 rfl rfl rfl (hN.n_X9_45) (hts (.initialized RX10) (wmx 3 rfl)) (by decide +kernel) ⟨Nat.le_of_ble_eq_true rfl, Nat.le_of_ble_eq_true rfl⟩, hts (.static yX10_softerBy) (by decide +kernel), trivial⟩ (ps_R hK hPc) rfl rfl hl.1 rfl (lv_room (Nat.le_of_ble_eq_true rfl)) dX9_turnsDo_82 ⟨Nat.le_of_ble_eq_true rfl, Nat.le_of_ble_eq_true rfl⟩) hS (fun q _ h => False.elim h) (fun q h => False.elim h) (fun r16 u17 t H1 locs ht hvm hw18 hB hz1 hk1 hS => ?_)
                    have hP := hP.kept (fun k q hk => hk1 q.1 (hP k q hk).lt (fun h => h))
                    clear hz1 hk1 hPc
                    generalize H1 = H at hP hS ht ⊢
                    try dsimp only at hw18
                    refine lv_goto (tgt := 99) hx hb dX9_turnsDo_85 (by decide) ?_
                    refine va_iast hx hb hK hP hD hS 1 0 rfl rfl (vp_in_nI (n := k55) (N := 9) (by omega) (by decide)) dX9_turnsDo_99 (fun H locs hP hD hS => ?_)
                    generalize hgf19 : upd f55_ts ((nI k55).toNatClampNeg) r16 = f19 at hP hD
                    have hPD : pdW (dC, dI) vwCl A [(h0, .inr (9, f_h0)), (ts, .inl (cI, 9, .inl f19))] H := ⟨hP, hD⟩
                    have hP := hPD.1
                    have hD := hPD.2
                    clear hPD
                    refine lv_iinc (v := nI (k55 + 1)) (lv' := [(6, .int (nI (k55 + 1))), (5, .int (nI w7)), (4, .int (nI k39)), (0, .ref h0), (1, .int (nI n)), (2, .int a0), (3, .int a1)]) hx hb dX9_turnsDo_100 hl (k := 0) rfl ((rfl : nI k55 + Int32.ofInt 1 = nI k55 + 1).trans (nI_add k55 1)) (by decide) rfl (fun ls hl => ?_)
                    refine lv_goto (tgt := 55) hx hb dX9_turnsDo_103 (by decide) ?_
                    exact ih55 (k55 + 1) f19 _ _ _ (by omega) hP hD hS (lv_sub hl [0, 1, 2, 3, 4, 5, 6] rfl)
        ·
          have c3 : ¬ n ≤ k16 := fun h => c3 ((nI_leI (a := n) (b := k16) (by omega) (by omega)).mpr h)
          omega
      | succ d16 ih16 =>
        intro k16 f16_ts H locs ls hk16 hP hD hS hl
        refine lv_iload hx hb dX9_turnsDo_16 (lv_at hl 0 rfl) ?_
        refine lv_iload_n hx hb dX9_turnsDo_18 rfl (lv_at hl 2 rfl) ?_
        refine lv_icmp_ge (tgt := 36) hx hb dX9_turnsDo_19 (by decide) (fun c20 => ?_) (fun c20 => ?_)
        ·
          have c20 : n ≤ k16 := (nI_leI (a := n) (b := k16) (by omega) (by omega)).mp c20
          omega
        ·
          have c20 : ¬ n ≤ k16 := fun h => c20 ((nI_leI (a := n) (b := k16) (by omega) (by omega)).mpr h)
          refine lv_aload_n hx hb dX9_turnsDo_22 rfl (lv_at hl 1 rfl) ?_
          refine va_get (D := (dC, dI)) (ci := 9) (v := .ref ts) (C := RX9) (T := TX9) (N := 3) hx hb hts hi_X9 hown hK hP 0 rfl rfl 2 (by decide) (hts (.fieldLink RX9 11 "LeftQuills$Trials" "turnSoftness" "[I") (wmx 1 rfl)) (fun _ h9 => h9) e_h0_2 dX9_turnsDo_23 ?_
          refine lv_iload hx hb dX9_turnsDo_26 (lv_at hl 0 rfl) ?_
          refine lv_iload_n hx hb dX9_turnsDo_28 rfl (lv_at hl 3 rfl) ?_
          refine va_iast hx hb hK hP hD hS 1 0 rfl rfl (vp_in_nI (n := k16) (N := 9) (by omega) (by decide)) dX9_turnsDo_29 (fun H locs hP hD hS => ?_)
          generalize hgf21 : upd f16_ts ((nI k16).toNatClampNeg) a0 = f21 at hP hD
          have hPD : pdW (dC, dI) vwCl A [(h0, .inr (9, f_h0)), (ts, .inl (cI, 9, .inl f21))] H := ⟨hP, hD⟩
          have hP := hPD.1
          have hD := hPD.2
          clear hPD
          refine lv_iinc (v := nI (k16 + 1)) (lv' := [(4, .int (nI (k16 + 1))), (0, .ref h0), (1, .int (nI n)), (2, .int a0), (3, .int a1)]) hx hb dX9_turnsDo_30 hl (k := 0) rfl ((rfl : nI k16 + Int32.ofInt 1 = nI k16 + 1).trans (nI_add k16 1)) (by decide) rfl (fun ls hl => ?_)
          refine lv_goto (tgt := 16) hx hb dX9_turnsDo_33 (by decide) ?_
          exact ih16 (k16 + 1) f21 _ _ _ (by omega) hP hD hS (lv_sub hl [0, 1, 2, 3, 4] rfl)
    ·
      have c2 : ¬ n ≤ 9 := fun h => c2 ((nI_leI (a := n) (b := 9) (by omega) (by omega)).mpr h)
      refine lv_iconst (v := 0) hx hb dX9_turnsDo_11 (by decide) ?_
      have hP9 := hP.sub (ws' := [(h0, .inr (9, f_h0)), (ts, .inl (cI, 9, .inl fts))]) [0, 1] rfl
      have hD9 := hD.sub (ws' := [(h0, .inr (9, f_h0)), (ts, .inl (cI, 9, .inl fts))]) [0, 1] (by decide +kernel) rfl
      exact W.zret (v := 0) hx hb hr (rfl) (fun t ht hW => ⟨⟨0, (fun _ => 0), rfl, Or.inr rfl, ⟨fts, va_hq ht hP9, hD9⟩⟩, hS.F ht⟩) hS.2.2 dX9_turnsDo_12
set_option maxHeartbeats 4000000 in
set_option maxRecDepth 100000 in
theorem c_X9_fewestByTurns (l : Launch) (dC : Nat → ClassId) (dI : Nat → Nat → Nat) (cI cZ cQ : ClassId) (h0 : Nat) (ho : Nat) (hd : Nat) (ts : Nat) (f_h0 : List Value) (fts : Nat → Int32) (o5 : Nat) (o6 : Nat) (o7 : Nat) (o10 : Nat) (o11 : Nat) (o12 : Nat) (f_ho : List Value) (a3 : Nat) (a4 : Nat) (f_hd : List Value) (fa3 : Nat → Int32) (fa4 : Nat → Int32) (fo5 : Nat → Int32) (fo6 : Nat → Int32) (fo7 : Nat → Int32) (fo10 : Nat → Int32) (fo11 : Nat → Int32) (fo12 : Nat → Int32) (j : Nat) (k : Nat) (sz : Nat) (e_h0_0 : fAt f_h0 0 = some (.ref ho)) (e_h0_1 : fAt f_h0 1 = some (.ref hd)) (e_h0_2 : fAt f_h0 2 = some (.ref ts)) (e_ho_5 : fAt f_ho 5 = some (.ref o5)) (e_ho_6 : fAt f_ho 6 = some (.ref o6)) (e_ho_7 : fAt f_ho 7 = some (.ref o7)) (e_ho_10 : fAt f_ho 10 = some (.ref o10)) (e_ho_11 : fAt f_ho 11 = some (.ref o11)) (e_ho_12 : fAt f_ho 12 = some (.ref o12)) (e_hd_3 : fAt f_hd 3 = some (.ref a3)) (e_hd_4 : fAt f_hd 4 = some (.ref a4)) (hj : j < 8) (hk : k < 4) : Met l yX9_fewestByTurns wsX9_fewestByTurns ({ frames := 3, cells := 0, slots := 0, locals := 87 }) (va_Pc [.ref h0, .int (nI j), .int (nI k)] (fun U => U.heap.size = sz ∧ va_P (dC, dI) vwCl [(h0, .inr (9, f_h0)), (ts, .inl (cI, 9, .inl fts)), (ho, .inr (5, f_ho)), (hd, .inr (1, f_hd)), (a3, .inl (cI, 8, .inl fa3)), (a4, .inl (cI, 8, .inl fa4)), (o5, .inl (cI, 8, .inl fo5)), (o6, .inl (cI, 8, .inl fo6)), (o7, .inl (cI, 8, .inl fo7)), (o10, .inl (cI, 4, .inl fo10)), (o11, .inl (cI, 4, .inl fo11)), (o12, .inl (cI, 4, .inl fo12))] U.heap ∧ va_K (dC, dI) vwCl (tys0 cI cZ cQ) U ∧ va_D (fun _ => True) [(h0, .inr (9, f_h0)), (ts, .inl (cI, 9, .inl fts)), (ho, .inr (5, f_ho)), (hd, .inr (1, f_hd)), (a3, .inl (cI, 8, .inl fa3)), (a4, .inl (cI, 8, .inl fa4)), (o5, .inl (cI, 8, .inl fo5)), (o6, .inl (cI, 8, .inl fo6)), (o7, .inl (cI, 8, .inl fo7)), (o10, .inl (cI, 4, .inl fo10)), (o11, .inl (cI, 4, .inl fo11)), (o12, .inl (cI, 4, .inl fo12))] ∧ xN U)) (va_Qi (fun (r : Int32) (u : Nat → Nat) => True) (fun (_ : Nat → Nat) (t : State) => ∃ (gg0 : Nat → Int32) , va_P (dC, dI) vwCl [(h0, .inr (9, f_h0)), (ts, .inl (cI, 9, .inl gg0)), (ho, .inr (5, f_ho)), (hd, .inr (1, f_hd)), (a3, .inl (cI, 8, .inl fa3)), (a4, .inl (cI, 8, .inl fa4)), (o5, .inl (cI, 8, .inl fo5)), (o6, .inl (cI, 8, .inl fo6)), (o7, .inl (cI, 8, .inl fo7)), (o10, .inl (cI, 4, .inl fo10)), (o11, .inl (cI, 4, .inl fo11)), (o12, .inl (cI, 4, .inl fo12))] t.heap ∧ va_D (va_A [(h0, .inr (9, f_h0)), (ts, .inl (cI, 9, .inl fts)), (ho, .inr (5, f_ho)), (hd, .inr (1, f_hd)), (a3, .inl (cI, 8, .inl fa3)), (a4, .inl (cI, 8, .inl fa4)), (o5, .inl (cI, 8, .inl fo5)), (o6, .inl (cI, 8, .inl fo6)), (o7, .inl (cI, 8, .inl fo7)), (o10, .inl (cI, 4, .inl fo10)), (o11, .inl (cI, 4, .inl fo11)), (o12, .inl (cI, 4, .inl fo12))] sz) [(h0, .inr (9, f_h0)), (ts, .inl (cI, 9, .inl gg0)), (ho, .inr (5, f_ho)), (hd, .inr (1, f_hd)), (a3, .inl (cI, 8, .inl fa3)), (a4, .inl (cI, 8, .inl fa4)), (o5, .inl (cI, 8, .inl fo5)), (o6, .inl (cI, 8, .inl fo6)), (o7, .inl (cI, 8, .inl fo7)), (o10, .inl (cI, 4, .inl fo10)), (o11, .inl (cI, 4, .inl fo11)), (o12, .inl (cI, 4, .inl fo12))]) (va_A [(h0, .inr (9, f_h0)), (ts, .inl (cI, 9, .inl fts)), (ho, .inr (5, f_ho)), (hd, .inr (1, f_hd)), (a3, .inl (cI, 8, .inl fa3)), (a4, .inl (cI, 8, .inl fa4)), (o5, .inl (cI, 8, .inl fo5)), (o6, .inl (cI, 8, .inl fo6)), (o7, .inl (cI, 8, .inl fo7)), (o10, .inl (cI, 4, .inl fo10)), (o11, .inl (cI, 4, .inl fo11)), (o12, .inl (cI, 4, .inl fo12))] sz)) 0 0 (va_A [(h0, .inr (9, f_h0)), (ts, .inl (cI, 9, .inl fts)), (ho, .inr (5, f_ho)), (hd, .inr (1, f_hd)), (a3, .inl (cI, 8, .inl fa3)), (a4, .inl (cI, 8, .inl fa4)), (o5, .inl (cI, 8, .inl fo5)), (o6, .inl (cI, 8, .inl fo6)), (o7, .inl (cI, 8, .inl fo7)), (o10, .inl (cI, 4, .inl fo10)), (o11, .inl (cI, 4, .inl fo11)), (o12, .inl (cI, 4, .inl fo12))] sz) := by
  refine Met.ofW (cc := cX9_fewestByTurns) (maxL := 4) (ret := (some .int)) (by decide) rfl ?_
  intro p e s m args below meth c s₁ B hml hv
  obtain ⟨rfl, hsz, hP, hK, hD0, hN⟩ := hv
  have hx := B.exec
  have hb := B.bytes
  have hr := B.returns
  have hts := atoms_spec (ws := wsX9_fewestByTurns) B.pre
  have hown : s.vm.findClass RX9 = some m.cls := findClass_of_methodNamed B.named
  have hlocks := B.notSynchronized
  have hi_X1 : ∀ w ∈ u_ws RX1 TX1 8, w ∈ wsX9_fewestByTurns := fun _ h => List.mem_cons_of_mem _ (List.mem_append_left _ (List.mem_append_right _ (h)))
  have hi_X9 : ∀ w ∈ u_ws RX9 TX9 3, w ∈ wsX9_fewestByTurns := fun _ h => List.mem_cons_of_mem _ (List.mem_append_left _ (List.mem_append_left _ (List.mem_append_right _ (h))))
  subst hsz
  have hD := hD0.self (sz := s.heap.size)
  generalize hAe : va_A [(h0, .inr (9, f_h0)), (ts, .inl (cI, 9, .inl fts)), (ho, .inr (5, f_ho)), (hd, .inr (1, f_hd)), (a3, .inl (cI, 8, .inl fa3)), (a4, .inl (cI, 8, .inl fa4)), (o5, .inl (cI, 8, .inl fo5)), (o6, .inl (cI, 8, .inl fo6)), (o7, .inl (cI, 8, .inl fo7)), (o10, .inl (cI, 4, .inl fo10)), (o11, .inl (cI, 4, .inl fo11)), (o12, .inl (cI, 4, .inl fo12))] s.heap.size = A at hD ⊢
  have hA : ∀ q : Nat, s.heap.size ≤ q → A q := fun q h => by rw [← hAe]; exact Or.inr h
  have hS : va_S A s.heap s.heap [] := va_S.rf
  have hl := lv_entry ([.ref h0, .int (nI j), .int (nI k)]) (n := 4) (Nat.le_of_ble_eq_true rfl)
  rw [lg_entry_eq]
  generalize (lg_sl ([.ref h0, .int (nI j), .int (nI k)]) ++ List.replicate (4 - (lg_sl ([.ref h0, .int (nI j), .int (nI k)])).length) Slot.unset).toArray = ls at hl ⊢
  have hl : lv_has ls 4 [(0, .ref h0), (1, .int (nI j)), (2, .int (nI k))] := hl
  refine lv_aload_n hx hb dX9_fewestByTurns_0 rfl (lv_at hl 0 rfl) ?_
  refine va_get (D := (dC, dI)) (ci := 9) (v := .ref ho) (C := RX9) (T := TX9) (N := 3) hx hb hts hi_X9 hown hK hP 0 rfl rfl 0 (by decide) (hts (.fieldLink RX9 15 "LeftQuills$Trials" "office" "LLeftQuills$Office;") (wmx 1 rfl)) (fun _ h9 => h9) e_h0_0 dX9_fewestByTurns_1 ?_
  refine lv_iload_n hx hb dX9_fewestByTurns_4 rfl (lv_at hl 2 rfl) ?_
  refine lv_aload_n hx hb dX9_fewestByTurns_5 rfl (lv_at hl 0 rfl) ?_
  refine va_get (D := (dC, dI)) (ci := 9) (v := .ref hd) (C := RX9) (T := TX9) (N := 3) hx hb hts hi_X9 hown hK hP 0 rfl rfl 1 (by decide) (hts (.fieldLink RX9 19 "LeftQuills$Trials" "desk" "LLeftQuills$Desk;") (wmx 2 rfl)) (fun _ h9 => h9) e_h0_1 dX9_fewestByTurns_6 ?_
  refine va_get (D := (dC, dI)) (ci := 1) (v := .ref a3) (C := RX1) (T := TX1) (N := 8) hx hb hts hi_X1 hown hK hP 3 rfl rfl 3 (by decide) (hts (.fieldLink RX9 32 "LeftQuills$Desk" "nib" "[I") (wmx 3 rfl)) (fun _ h9 => h9) e_hd_3 dX9_fewestByTurns_9 ?_
  refine lv_iload_n hx hb dX9_fewestByTurns_12 rfl (lv_at hl 1 rfl) ?_
  refine va_iald hx hb hK hP 4 0 rfl rfl (vp_in_nI (n := j) (N := 8) (by omega) (by decide)) dX9_fewestByTurns_13 ?_
  refine W.eq (g2 := F0 m 14 ls [.int (fa3 j), .int (nI k), .ref ho]) (congrArg (fun y9 => F0 m 14 ls (.int (fa3 y9) :: [.int (nI k), .ref ho])) ((nI_clamp (n := j) (by omega)))) ?_
  have hPc := hP.sub (ws' := [(ho, .inr (5, f_ho)), (o12, .inl (cI, 4, .inl fo12))]) [2, 11] rfl
  refine va_calli (va_runV (As := [.int (nI k), .int (fa3 j)]) (rest := []) ⟨hx, hb, hml, hown, hts⟩ (c_X5_likesNib l dC dI cI cZ cQ ho o12 f_ho fo12 k (fa3 j) s.heap.size e_ho_12 (by omega)) (cwV 2 hts gX9_fewestByTurns_X5_likesNib rfl rfl rfl hd_X5_likesNib_RX5 ⟨Nat.le_of_ble_eq_true rfl, Nat.le_of_ble_eq_true rfl⟩) (pv_R (va_recv hK hP (ci := 5) (q0 := 2) rfl rfl) hK hPc) rfl rfl hl.1 rfl (lv_room (Nat.le_of_ble_eq_true rfl)) dX9_fewestByTurns_14 ⟨Nat.le_of_ble_eq_true rfl, Nat.le_of_ble_eq_true rfl⟩) hS (fun q _ h => False.elim h) (fun q h => False.elim h) (fun r1 u2 t H1 locs ht hvm hw3 hB hz1 hk1 hS => ?_)
  have hP := hP.kept (fun k q hk => hk1 q.1 (hP k q hk).lt (fun h => h))
  clear hz1 hk1 hPc
  generalize H1 = H at hP hS ht ⊢
  try dsimp only at hw3
  rcases hw3 with rfl | rfl
  ·
    refine lv_if_ne (tgt := 22) hx hb dX9_fewestByTurns_17 (by decide) (fun c4 => ?_) (fun c4 => ?_)
    rotate_left
    · exact absurd c4 (by decide)
    clear c4
    refine lv_iconst (v := 1) hx hb dX9_fewestByTurns_22 (by decide) ?_
    refine lv_istore_n (lv' := [(3, .int 1), (0, .ref h0), (1, .int (nI j)), (2, .int (nI k))]) hx hb dX9_fewestByTurns_23 rfl hl (by decide) rfl (fun ls hl => ?_)
    refine (fun (K : ∀ (d24 : Nat) (k24 : Nat) (f24_ts : Nat → Int32) (H : Heap) (locs : List Loc) (ls : Array Slot), k24 + d24 = 10 → va_P (dC, dI) vwCl [(h0, .inr (9, f_h0)), (ts, .inl (cI, 9, .inl f24_ts)), (ho, .inr (5, f_ho)), (hd, .inr (1, f_hd)), (a3, .inl (cI, 8, .inl fa3)), (a4, .inl (cI, 8, .inl fa4)), (o5, .inl (cI, 8, .inl fo5)), (o6, .inl (cI, 8, .inl fo6)), (o7, .inl (cI, 8, .inl fo7)), (o10, .inl (cI, 4, .inl fo10)), (o11, .inl (cI, 4, .inl fo11)), (o12, .inl (cI, 4, .inl fo12))] H → va_D A [(h0, .inr (9, f_h0)), (ts, .inl (cI, 9, .inl f24_ts)), (ho, .inr (5, f_ho)), (hd, .inr (1, f_hd)), (a3, .inl (cI, 8, .inl fa3)), (a4, .inl (cI, 8, .inl fa4)), (o5, .inl (cI, 8, .inl fo5)), (o6, .inl (cI, 8, .inl fo6)), (o7, .inl (cI, 8, .inl fo7)), (o10, .inl (cI, 4, .inl fo10)), (o11, .inl (cI, 4, .inl fo11)), (o12, .inl (cI, 4, .inl fo12))] → va_S A s.heap H locs → lv_has ls 4 [(3, .int (nI k24)), (0, .ref h0), (1, .int (nI j)), (2, .int (nI k))] → W p l e _ s m _ below meth c H locs _ _ _ (F0 m 24 ls [])) => K (10 - 1) 1 fts _ _ _ (by omega) hP hD hS (lv_sub hl [0, 1, 2, 3] rfl)) ?_
    intro d24
    induction d24 with
    | zero =>
      intro k24 f24_ts H locs ls hk24 hP hD hS hl
      refine lv_iload_n hx hb dX9_fewestByTurns_24 rfl (lv_at hl 0 rfl) ?_
      refine lv_bipush (v := 9) hx hb dX9_fewestByTurns_25 (by decide) ?_
      refine lv_icmp_gt (tgt := 64) hx hb dX9_fewestByTurns_27 (by decide) (fun c5 => ?_) (fun c5 => ?_)
      ·
        have c5 : 9 < k24 := (nI_ltI (a := 9) (b := k24) (by omega) (by omega)).mp c5
        refine lv_iconst (v := (-1)) hx hb dX9_fewestByTurns_64 (by decide) ?_
        have hP9 := hP.sub (ws' := [(h0, .inr (9, f_h0)), (ts, .inl (cI, 9, .inl f24_ts)), (ho, .inr (5, f_ho)), (hd, .inr (1, f_hd)), (a3, .inl (cI, 8, .inl fa3)), (a4, .inl (cI, 8, .inl fa4)), (o5, .inl (cI, 8, .inl fo5)), (o6, .inl (cI, 8, .inl fo6)), (o7, .inl (cI, 8, .inl fo7)), (o10, .inl (cI, 4, .inl fo10)), (o11, .inl (cI, 4, .inl fo11)), (o12, .inl (cI, 4, .inl fo12))]) [0, 1, 2, 3, 4, 5, 6, 7, 8, 9, 10, 11] rfl
        have hD9 := hD.sub (ws' := [(h0, .inr (9, f_h0)), (ts, .inl (cI, 9, .inl f24_ts)), (ho, .inr (5, f_ho)), (hd, .inr (1, f_hd)), (a3, .inl (cI, 8, .inl fa3)), (a4, .inl (cI, 8, .inl fa4)), (o5, .inl (cI, 8, .inl fo5)), (o6, .inl (cI, 8, .inl fo6)), (o7, .inl (cI, 8, .inl fo7)), (o10, .inl (cI, 4, .inl fo10)), (o11, .inl (cI, 4, .inl fo11)), (o12, .inl (cI, 4, .inl fo12))]) [0, 1, 2, 3, 4, 5, 6, 7, 8, 9, 10, 11] (by decide +kernel) rfl
        exact W.iret (v := (-1)) hx hb hr (fun t ht hW => ⟨⟨(-1), (fun _ => 0), rfl, trivial, ⟨f24_ts, va_hq ht hP9, hD9⟩⟩, hS.F ht⟩) hS.2.2 dX9_fewestByTurns_65
      ·
        have c5 : ¬ 9 < k24 := fun h => c5 ((nI_ltI (a := 9) (b := k24) (by omega) (by omega)).mpr h)
        omega
    | succ d24 ih24 =>
      intro k24 f24_ts H locs ls hk24 hP hD hS hl
      refine lv_iload_n hx hb dX9_fewestByTurns_24 rfl (lv_at hl 0 rfl) ?_
      refine lv_bipush (v := 9) hx hb dX9_fewestByTurns_25 (by decide) ?_
      refine lv_icmp_gt (tgt := 64) hx hb dX9_fewestByTurns_27 (by decide) (fun c6 => ?_) (fun c6 => ?_)
      ·
        have c6 : 9 < k24 := (nI_ltI (a := 9) (b := k24) (by omega) (by omega)).mp c6
        omega
      ·
        have c6 : ¬ 9 < k24 := fun h => c6 ((nI_ltI (a := 9) (b := k24) (by omega) (by omega)).mpr h)
        refine lv_aload_n hx hb dX9_fewestByTurns_30 rfl (lv_at hl 1 rfl) ?_
        refine lv_iload_n hx hb dX9_fewestByTurns_31 rfl (lv_at hl 0 rfl) ?_
        refine lv_aload_n hx hb dX9_fewestByTurns_32 rfl (lv_at hl 1 rfl) ?_
        refine va_get (D := (dC, dI)) (ci := 9) (v := .ref hd) (C := RX9) (T := TX9) (N := 3) hx hb hts hi_X9 hown hK hP 0 rfl rfl 1 (by decide) (hts (.fieldLink RX9 19 "LeftQuills$Trials" "desk" "LLeftQuills$Desk;") (wmx 2 rfl)) (fun _ h9 => h9) e_h0_1 dX9_fewestByTurns_33 ?_
        refine va_get (D := (dC, dI)) (ci := 1) (v := .ref a4) (C := RX1) (T := TX1) (N := 8) hx hb hts hi_X1 hown hK hP 3 rfl rfl 4 (by decide) (hts (.fieldLink RX9 23 "LeftQuills$Desk" "softness" "[I") (wmx 4 rfl)) (fun _ h9 => h9) e_hd_4 dX9_fewestByTurns_36 ?_
        refine lv_iload_n hx hb dX9_fewestByTurns_39 rfl (lv_at hl 2 rfl) ?_
        refine va_iald hx hb hK hP 5 0 rfl rfl (vp_in_nI (n := j) (N := 8) (by omega) (by decide)) dX9_fewestByTurns_40 ?_
        refine W.eq (g2 := F0 m 41 ls [.int (fa4 j), .int (nI k24), .ref h0]) (congrArg (fun y9 => F0 m 41 ls (.int (fa4 y9) :: [.int (nI k24), .ref h0])) ((nI_clamp (n := j) (by omega)))) ?_
        refine lv_aload_n hx hb dX9_fewestByTurns_41 rfl (lv_at hl 1 rfl) ?_
        refine va_get (D := (dC, dI)) (ci := 9) (v := .ref ho) (C := RX9) (T := TX9) (N := 3) hx hb hts hi_X9 hown hK hP 0 rfl rfl 0 (by decide) (hts (.fieldLink RX9 15 "LeftQuills$Trials" "office" "LLeftQuills$Office;") (wmx 1 rfl)) (fun _ h9 => h9) e_h0_0 dX9_fewestByTurns_42 ?_
        refine lv_iload_n hx hb dX9_fewestByTurns_45 rfl (lv_at hl 2 rfl) ?_
        refine lv_iload_n hx hb dX9_fewestByTurns_46 rfl (lv_at hl 3 rfl) ?_
        have hPc := hP.sub (ws' := [(ho, .inr (5, f_ho)), (o5, .inl (cI, 8, .inl fo5)), (o6, .inl (cI, 8, .inl fo6)), (o7, .inl (cI, 8, .inl fo7)), (o10, .inl (cI, 4, .inl fo10)), (o11, .inl (cI, 4, .inl fo11))]) [2, 6, 7, 8, 9, 10] rfl
        refine va_calli (va_runV (As := [.int (nI j), .int (nI k)]) (rest := [.int (fa4 j), .int (nI k24), .ref h0]) ⟨hx, hb, hml, hown, hts⟩ (c_X5_wear l dC dI cI cZ cQ ho o5 o6 o7 o10 o11 f_ho fo5 fo6 fo7 fo10 fo11 j k H.size e_ho_5 e_ho_6 e_ho_7 e_ho_10 e_ho_11 (by omega) (by omega)) (cwV 2 hts gX9_fewestByTurns_X5_wear rfl rfl rfl hd_X5_wear_RX5 ⟨Nat.le_of_ble_eq_true rfl, Nat.le_of_ble_eq_true rfl⟩) (pv_R (va_recv hK hP (ci := 5) (q0 := 2) rfl rfl) hK hPc) rfl rfl hl.1 rfl (lv_room (Nat.le_of_ble_eq_true rfl)) dX9_fewestByTurns_47 ⟨Nat.le_of_ble_eq_true rfl, Nat.le_of_ble_eq_true rfl⟩) hS (fun q _ h => False.elim h) (fun q h => False.elim h) (fun r7 u8 t H1 locs ht hvm hw9 hB hz1 hk1 hS => ?_)
        have hP := hP.kept (fun k q hk => hk1 q.1 (hP k q hk).lt (fun h => h))
        clear hz1 hk1 hPc
        generalize H1 = H at hP hS ht ⊢
        try dsimp only at hw9
        have hc9 := va_cut (W' := [(h0, .inr (9, f_h0)), (ts, .inl (cI, 9, .inl f24_ts))]) hP hD hS hA [0, 1] (by decide) rfl
        have hPc := hc9.1
        have hDc := hc9.2.1
        have hFc := hc9.2.2
        clear hc9
        refine va_calli (va_runV (As := [.int (nI k24), .int (fa4 j), .int r7]) (rest := []) ⟨hx, hb, hml, hown, hts⟩ (c_X9_turnsDo l dC dI cI cZ cQ h0 ts f_h0 f24_ts k24 (fa4 j) r7 H.size e_h0_2 (by omega)) (cwV 3 hts gX9_fewestByTurns_X9_turnsDo rfl rfl rfl hd_X9_turnsDo_RX9 ⟨Nat.le_of_ble_eq_true rfl, Nat.le_of_ble_eq_true rfl⟩) ⟨fun a U g mk q => by obtain ⟨q0, q1, qP, qK, qD, qN⟩ := q; exact ⟨q0, q1, qP, va_K.moved (u := U) (U := U.calling g mk a) (Vm.Alike.refl U.vm) qK, qD, qN.calling⟩, va_recv hK hP (ci := 9) (q0 := 0) rfl rfl, fun U hU hW => ⟨rfl, by rw [hU], by rw [hU]; exact hPc, va_K.moved hW.alike hK, hDc.weaken (fun _ _ _ _ => trivial), hN.warm hW⟩⟩ rfl rfl hl.1 rfl (lv_room (Nat.le_of_ble_eq_true rfl)) dX9_fewestByTurns_50 ⟨Nat.le_of_ble_eq_true rfl, Nat.le_of_ble_eq_true rfl⟩) hS (fun q _ h => hFc q h) hFc (fun r10 u11 t H1 locs ht hvm hw12 hB hz1 hk1 hS => ?_)
        obtain ⟨f13, hP1, hD1⟩ := hB
        replace hP1 := va_hp ht hP1
        obtain ⟨hP, hD⟩ := va_join (wr := [(ho, .inr (5, f_ho)), (hd, .inr (1, f_hd)), (a3, .inl (cI, 8, .inl fa3)), (a4, .inl (cI, 8, .inl fa4)), (o5, .inl (cI, 8, .inl fo5)), (o6, .inl (cI, 8, .inl fo6)), (o7, .inl (cI, 8, .inl fo7)), (o10, .inl (cI, 4, .inl fo10)), (o11, .inl (cI, 4, .inl fo11)), (o12, .inl (cI, 4, .inl fo12))]) (w1 := [(h0, .inr (9, f_h0)), (ts, .inl (cI, 9, .inl f13))]) hP hD [0, 1] [2, 3, 4, 5, 6, 7, 8, 9, 10, 11] rfl rfl (by decide +kernel) (by decide +kernel) hk1 hFc hP1 hD1
        clear hP1 hD1
        clear hz1 hk1 hPc hDc hFc
        generalize H1 = H at hP hS ht ⊢
        have hPD : pdW (dC, dI) vwCl A [(ho, .inr (5, f_ho)), (hd, .inr (1, f_hd)), (a3, .inl (cI, 8, .inl fa3)), (a4, .inl (cI, 8, .inl fa4)), (o5, .inl (cI, 8, .inl fo5)), (o6, .inl (cI, 8, .inl fo6)), (o7, .inl (cI, 8, .inl fo7)), (o10, .inl (cI, 4, .inl fo10)), (o11, .inl (cI, 4, .inl fo11)), (o12, .inl (cI, 4, .inl fo12)), (h0, .inr (9, f_h0)), (ts, .inl (cI, 9, .inl f13))] H := ⟨hP, hD⟩
        have hP := hPD.1
        have hD := hPD.2
        clear hPD
        try dsimp only at hw12
        rcases hw12 with rfl | rfl
        ·
          refine lv_if_eq (tgt := 58) hx hb dX9_fewestByTurns_53 (by decide) (fun c14 => ?_) (fun c14 => ?_)
          · exact absurd c14 (by decide)
          clear c14
          refine lv_iload_n hx hb dX9_fewestByTurns_56 rfl (lv_at hl 0 rfl) ?_
          have hP9 := hP.sub (ws' := [(h0, .inr (9, f_h0)), (ts, .inl (cI, 9, .inl f13)), (ho, .inr (5, f_ho)), (hd, .inr (1, f_hd)), (a3, .inl (cI, 8, .inl fa3)), (a4, .inl (cI, 8, .inl fa4)), (o5, .inl (cI, 8, .inl fo5)), (o6, .inl (cI, 8, .inl fo6)), (o7, .inl (cI, 8, .inl fo7)), (o10, .inl (cI, 4, .inl fo10)), (o11, .inl (cI, 4, .inl fo11)), (o12, .inl (cI, 4, .inl fo12))]) [10, 11, 0, 1, 2, 3, 4, 5, 6, 7, 8, 9] rfl
          have hD9 := hD.sub (ws' := [(h0, .inr (9, f_h0)), (ts, .inl (cI, 9, .inl f13)), (ho, .inr (5, f_ho)), (hd, .inr (1, f_hd)), (a3, .inl (cI, 8, .inl fa3)), (a4, .inl (cI, 8, .inl fa4)), (o5, .inl (cI, 8, .inl fo5)), (o6, .inl (cI, 8, .inl fo6)), (o7, .inl (cI, 8, .inl fo7)), (o10, .inl (cI, 4, .inl fo10)), (o11, .inl (cI, 4, .inl fo11)), (o12, .inl (cI, 4, .inl fo12))]) [10, 11, 0, 1, 2, 3, 4, 5, 6, 7, 8, 9] (by decide +kernel) rfl
          exact W.iret (v := nI k24) hx hb hr (fun t ht hW => ⟨⟨nI k24, (fun _ => 0), rfl, trivial, ⟨f13, va_hq ht hP9, hD9⟩⟩, hS.F ht⟩) hS.2.2 dX9_fewestByTurns_57
        ·
          refine lv_if_eq (tgt := 58) hx hb dX9_fewestByTurns_53 (by decide) (fun c15 => ?_) (fun c15 => ?_)
          rotate_left
          · exact absurd c15 (by decide)
          clear c15
          refine lv_iinc (v := nI (k24 + 1)) (lv' := [(3, .int (nI (k24 + 1))), (0, .ref h0), (1, .int (nI j)), (2, .int (nI k))]) hx hb dX9_fewestByTurns_58 hl (k := 0) rfl ((rfl : nI k24 + Int32.ofInt 1 = nI k24 + 1).trans (nI_add k24 1)) (by decide) rfl (fun ls hl => ?_)
          refine lv_goto (tgt := 24) hx hb dX9_fewestByTurns_61 (by decide) ?_
          exact ih24 (k24 + 1) f13 _ _ _ (by omega) (hP.sub [10, 11, 0, 1, 2, 3, 4, 5, 6, 7, 8, 9] rfl) (hD.sub [10, 11, 0, 1, 2, 3, 4, 5, 6, 7, 8, 9] (by decide +kernel) rfl) hS (lv_sub hl [0, 1, 2, 3] rfl)
  ·
    refine lv_if_ne (tgt := 22) hx hb dX9_fewestByTurns_17 (by decide) (fun c16 => ?_) (fun c16 => ?_)
    · exact absurd c16 (by decide)
    clear c16
    refine lv_iconst (v := (-1)) hx hb dX9_fewestByTurns_20 (by decide) ?_
    have hP9 := hP.sub (ws' := [(h0, .inr (9, f_h0)), (ts, .inl (cI, 9, .inl fts)), (ho, .inr (5, f_ho)), (hd, .inr (1, f_hd)), (a3, .inl (cI, 8, .inl fa3)), (a4, .inl (cI, 8, .inl fa4)), (o5, .inl (cI, 8, .inl fo5)), (o6, .inl (cI, 8, .inl fo6)), (o7, .inl (cI, 8, .inl fo7)), (o10, .inl (cI, 4, .inl fo10)), (o11, .inl (cI, 4, .inl fo11)), (o12, .inl (cI, 4, .inl fo12))]) [0, 1, 2, 3, 4, 5, 6, 7, 8, 9, 10, 11] rfl
    have hD9 := hD.sub (ws' := [(h0, .inr (9, f_h0)), (ts, .inl (cI, 9, .inl fts)), (ho, .inr (5, f_ho)), (hd, .inr (1, f_hd)), (a3, .inl (cI, 8, .inl fa3)), (a4, .inl (cI, 8, .inl fa4)), (o5, .inl (cI, 8, .inl fo5)), (o6, .inl (cI, 8, .inl fo6)), (o7, .inl (cI, 8, .inl fo7)), (o10, .inl (cI, 4, .inl fo10)), (o11, .inl (cI, 4, .inl fo11)), (o12, .inl (cI, 4, .inl fo12))]) [0, 1, 2, 3, 4, 5, 6, 7, 8, 9, 10, 11] (by decide +kernel) rfl
    exact W.iret (v := (-1)) hx hb hr (fun t ht hW => ⟨⟨(-1), (fun _ => 0), rfl, trivial, ⟨fts, va_hq ht hP9, hD9⟩⟩, hS.F ht⟩) hS.2.2 dX9_fewestByTurns_21
set_option maxHeartbeats 4000000 in
set_option maxRecDepth 100000 in
theorem c_X9_leftAheadOfRight (l : Launch) (dC : Nat → ClassId) (dI : Nat → Nat → Nat) (cI cZ cQ : ClassId) (h0 : Nat) (ho : Nat) (hd : Nat) (f_h0 : List Value) (o5 : Nat) (o6 : Nat) (o7 : Nat) (o10 : Nat) (o11 : Nat) (o12 : Nat) (nq : Nat) (nh : Nat) (f_ho : List Value) (a3 : Nat) (a4 : Nat) (f_hd : List Value) (fa3 : Nat → Int32) (fa4 : Nat → Int32) (fo5 : Nat → Int32) (fo6 : Nat → Int32) (fo7 : Nat → Int32) (fo10 : Nat → Int32) (fo11 : Nat → Int32) (fo12 : Nat → Int32) (sz : Nat) (e_h0_0 : fAt f_h0 0 = some (.ref ho)) (e_h0_1 : fAt f_h0 1 = some (.ref hd)) (e_ho_5 : fAt f_ho 5 = some (.ref o5)) (e_ho_6 : fAt f_ho 6 = some (.ref o6)) (e_ho_7 : fAt f_ho 7 = some (.ref o7)) (e_ho_10 : fAt f_ho 10 = some (.ref o10)) (e_ho_11 : fAt f_ho 11 = some (.ref o11)) (e_ho_12 : fAt f_ho 12 = some (.ref o12)) (e_ho_3 : fAt f_ho 3 = some (.int (nI nq))) (e_ho_4 : fAt f_ho 4 = some (.int (nI nh))) (e_hd_3 : fAt f_hd 3 = some (.ref a3)) (e_hd_4 : fAt f_hd 4 = some (.ref a4)) (hnq : nq ≤ 8) (hnh : nh ≤ 4) : Met l yX9_leftAheadOfRight wsX9_leftAheadOfRight ({ frames := 4, cells := 0, slots := 0, locals := 133 }) (va_Pc [.ref h0] (fun U => U.heap.size = sz ∧ va_P (dC, dI) vwCl [(h0, .inr (9, f_h0)), (ho, .inr (5, f_ho)), (hd, .inr (1, f_hd)), (a3, .inl (cI, 8, .inl fa3)), (a4, .inl (cI, 8, .inl fa4)), (o5, .inl (cI, 8, .inl fo5)), (o6, .inl (cI, 8, .inl fo6)), (o7, .inl (cI, 8, .inl fo7)), (o10, .inl (cI, 4, .inl fo10)), (o11, .inl (cI, 4, .inl fo11)), (o12, .inl (cI, 4, .inl fo12))] U.heap ∧ va_K (dC, dI) vwCl (tys0 cI cZ cQ) U ∧ xN U)) (va_Qi (fun (r : Int32) (u : Nat → Nat) => True) (fun (_ : Nat → Nat) (_ : State) => True) (fun _ : Nat => False)) 0 0 (fun _ : Nat => False) := by
  refine Met.ofW (cc := cX9_leftAheadOfRight) (maxL := 5) (ret := (some .int)) (by decide) rfl ?_
  intro p e s m args below meth c s₁ B hml hv
  obtain ⟨rfl, hsz, hP, hK, hN⟩ := hv
  have hx := B.exec
  have hb := B.bytes
  have hr := B.returns
  have hts := atoms_spec (ws := wsX9_leftAheadOfRight) B.pre
  have hown : s.vm.findClass RX9 = some m.cls := findClass_of_methodNamed B.named
  have hlocks := B.notSynchronized
  have hi_X5 : ∀ w ∈ u_ws RX5 TX5 13, w ∈ wsX9_leftAheadOfRight := fun _ h => List.mem_cons_of_mem _ (List.mem_append_left _ (List.mem_append_right _ (h)))
  have hi_X9 : ∀ w ∈ u_ws RX9 TX9 3, w ∈ wsX9_leftAheadOfRight := fun _ h => List.mem_cons_of_mem _ (List.mem_append_left _ (List.mem_append_left _ (List.mem_append_right _ (h))))
  subst hsz
  have hS : va_S (fun _ : Nat => False) s.heap s.heap [] := va_S.rf
  have hl := lv_entry ([.ref h0]) (n := 5) (Nat.le_of_ble_eq_true rfl)
  rw [lg_entry_eq]
  generalize (lg_sl ([.ref h0]) ++ List.replicate (5 - (lg_sl ([.ref h0])).length) Slot.unset).toArray = ls at hl ⊢
  have hl : lv_has ls 5 [(0, .ref h0)] := hl
  refine lv_iconst (v := 0) hx hb dX9_leftAheadOfRight_0 (by decide) ?_
  refine lv_istore_n (lv' := [(1, .int 0), (0, .ref h0)]) hx hb dX9_leftAheadOfRight_1 rfl hl (by decide) rfl (fun ls hl => ?_)
  refine lv_iconst (v := 0) hx hb dX9_leftAheadOfRight_2 (by decide) ?_
  refine lv_istore_n (lv' := [(2, .int 0), (1, .int 0), (0, .ref h0)]) hx hb dX9_leftAheadOfRight_3 rfl hl (by decide) rfl (fun ls hl => ?_)
  refine (fun (K : ∀ (d4 : Nat) (k4 : Nat) (a4_1 : Int32) (H : Heap) (locs : List Loc) (ls : Array Slot), k4 + d4 = nq → va_P (dC, dI) vwCl [(h0, .inr (9, f_h0)), (ho, .inr (5, f_ho)), (hd, .inr (1, f_hd)), (a3, .inl (cI, 8, .inl fa3)), (a4, .inl (cI, 8, .inl fa4)), (o5, .inl (cI, 8, .inl fo5)), (o6, .inl (cI, 8, .inl fo6)), (o7, .inl (cI, 8, .inl fo7)), (o10, .inl (cI, 4, .inl fo10)), (o11, .inl (cI, 4, .inl fo11)), (o12, .inl (cI, 4, .inl fo12))] H → va_S (fun _ : Nat => False) s.heap H locs → lv_has ls 5 [(2, .int (nI k4)), (1, .int a4_1), (0, .ref h0)] → W p l e _ s m _ below meth c H locs _ _ _ (F0 m 4 ls [])) => K nq 0 0 _ _ _ (by omega) hP hS (lv_sub hl [0, 1, 2] rfl)) ?_
  intro d4
  induction d4 with
  | zero =>
    intro k4 a4_1 H locs ls hk4 hP hS hl
    refine lv_iload_n hx hb dX9_leftAheadOfRight_4 rfl (lv_at hl 0 rfl) ?_
    refine lv_aload_n hx hb dX9_leftAheadOfRight_5 rfl (lv_at hl 2 rfl) ?_
    refine va_get (D := (dC, dI)) (ci := 9) (v := .ref ho) (C := RX9) (T := TX9) (N := 3) hx hb hts hi_X9 hown hK hP 0 rfl rfl 0 (by decide) (hts (.fieldLink RX9 15 "LeftQuills$Trials" "office" "LLeftQuills$Office;") (wmx 1 rfl)) (fun _ h9 => h9) e_h0_0 dX9_leftAheadOfRight_6 ?_
    refine va_get (D := (dC, dI)) (ci := 5) (v := .int (nI nq)) (C := RX5) (T := TX5) (N := 13) hx hb hts hi_X5 hown hK hP 1 rfl rfl 3 (by decide) (hts (.fieldLink RX9 66 "LeftQuills$Office" "quills" "I") (wmx 2 rfl)) (fun _ h9 => h9) e_ho_3 dX9_leftAheadOfRight_9 ?_
    refine lv_icmp_ge (tgt := 71) hx hb dX9_leftAheadOfRight_12 (by decide) (fun c1 => ?_) (fun c1 => ?_)
    ·
      have c1 : nq ≤ k4 := (nI_leI (a := nq) (b := k4) (by omega) (by omega)).mp c1
      refine lv_iload_n hx hb dX9_leftAheadOfRight_71 rfl (lv_at hl 1 rfl) ?_
      exact W.iret (v := a4_1) hx hb hr (fun t ht hW => ⟨⟨a4_1, (fun _ => 0), rfl, trivial, trivial⟩, hS.F ht⟩) hS.2.2 dX9_leftAheadOfRight_72
    ·
      have c1 : ¬ nq ≤ k4 := fun h => c1 ((nI_leI (a := nq) (b := k4) (by omega) (by omega)).mpr h)
      omega
  | succ d4 ih4 =>
    intro k4 a4_1 H locs ls hk4 hP hS hl
    refine lv_iload_n hx hb dX9_leftAheadOfRight_4 rfl (lv_at hl 0 rfl) ?_
    refine lv_aload_n hx hb dX9_leftAheadOfRight_5 rfl (lv_at hl 2 rfl) ?_
    refine va_get (D := (dC, dI)) (ci := 9) (v := .ref ho) (C := RX9) (T := TX9) (N := 3) hx hb hts hi_X9 hown hK hP 0 rfl rfl 0 (by decide) (hts (.fieldLink RX9 15 "LeftQuills$Trials" "office" "LLeftQuills$Office;") (wmx 1 rfl)) (fun _ h9 => h9) e_h0_0 dX9_leftAheadOfRight_6 ?_
    refine va_get (D := (dC, dI)) (ci := 5) (v := .int (nI nq)) (C := RX5) (T := TX5) (N := 13) hx hb hts hi_X5 hown hK hP 1 rfl rfl 3 (by decide) (hts (.fieldLink RX9 66 "LeftQuills$Office" "quills" "I") (wmx 2 rfl)) (fun _ h9 => h9) e_ho_3 dX9_leftAheadOfRight_9 ?_
    refine lv_icmp_ge (tgt := 71) hx hb dX9_leftAheadOfRight_12 (by decide) (fun c2 => ?_) (fun c2 => ?_)
    ·
      have c2 : nq ≤ k4 := (nI_leI (a := nq) (b := k4) (by omega) (by omega)).mp c2
      omega
    ·
      have c2 : ¬ nq ≤ k4 := fun h => c2 ((nI_leI (a := nq) (b := k4) (by omega) (by omega)).mpr h)
      refine lv_iconst (v := 0) hx hb dX9_leftAheadOfRight_15 (by decide) ?_
      refine lv_istore_n (lv' := [(3, .int 0), (2, .int (nI k4)), (1, .int a4_1), (0, .ref h0)]) hx hb dX9_leftAheadOfRight_16 rfl hl (by decide) rfl (fun ls hl => ?_)
      refine (fun (K : ∀ (d17 : Nat) (k17 : Nat) (a17_1 : Int32) (H : Heap) (locs : List Loc) (ls : Array Slot), k17 + d17 = nh → va_P (dC, dI) vwCl [(h0, .inr (9, f_h0)), (ho, .inr (5, f_ho)), (hd, .inr (1, f_hd)), (a3, .inl (cI, 8, .inl fa3)), (a4, .inl (cI, 8, .inl fa4)), (o5, .inl (cI, 8, .inl fo5)), (o6, .inl (cI, 8, .inl fo6)), (o7, .inl (cI, 8, .inl fo7)), (o10, .inl (cI, 4, .inl fo10)), (o11, .inl (cI, 4, .inl fo11)), (o12, .inl (cI, 4, .inl fo12))] H → va_S (fun _ : Nat => False) s.heap H locs → lv_has ls 5 [(3, .int (nI k17)), (1, .int a17_1), (2, .int (nI k4)), (0, .ref h0)] → W p l e _ s m _ below meth c H locs _ _ _ (F0 m 17 ls [])) => K nh 0 a4_1 _ _ _ (by omega) hP hS (lv_sub hl [0, 2, 1, 3] rfl)) ?_
      intro d17
      induction d17 with
      | zero =>
        intro k17 a17_1 H locs ls hk17 hP hS hl
        refine lv_iload_n hx hb dX9_leftAheadOfRight_17 rfl (lv_at hl 0 rfl) ?_
        refine lv_aload_n hx hb dX9_leftAheadOfRight_18 rfl (lv_at hl 3 rfl) ?_
        refine va_get (D := (dC, dI)) (ci := 9) (v := .ref ho) (C := RX9) (T := TX9) (N := 3) hx hb hts hi_X9 hown hK hP 0 rfl rfl 0 (by decide) (hts (.fieldLink RX9 15 "LeftQuills$Trials" "office" "LLeftQuills$Office;") (wmx 1 rfl)) (fun _ h9 => h9) e_h0_0 dX9_leftAheadOfRight_19 ?_
        refine va_get (D := (dC, dI)) (ci := 5) (v := .int (nI nh)) (C := RX5) (T := TX5) (N := 13) hx hb hts hi_X5 hown hK hP 1 rfl rfl 4 (by decide) (hts (.fieldLink RX9 70 "LeftQuills$Office" "hands" "I") (wmx 3 rfl)) (fun _ h9 => h9) e_ho_4 dX9_leftAheadOfRight_22 ?_
        refine lv_icmp_ge (tgt := 65) hx hb dX9_leftAheadOfRight_25 (by decide) (fun c3 => ?_) (fun c3 => ?_)
        ·
          have c3 : nh ≤ k17 := (nI_leI (a := nh) (b := k17) (by omega) (by omega)).mp c3
          refine lv_iinc (v := nI (k4 + 1)) (lv' := [(2, .int (nI (k4 + 1))), (3, .int (nI k17)), (1, .int a17_1), (0, .ref h0)]) hx hb dX9_leftAheadOfRight_65 hl (k := 2) rfl ((rfl : nI k4 + Int32.ofInt 1 = nI k4 + 1).trans (nI_add k4 1)) (by decide) rfl (fun ls hl => ?_)
          refine lv_goto (tgt := 4) hx hb dX9_leftAheadOfRight_68 (by decide) ?_
          exact ih4 (k4 + 1) a17_1 _ _ _ (by omega) hP hS (lv_sub hl [0, 2, 3] rfl)
        ·
          have c3 : ¬ nh ≤ k17 := fun h => c3 ((nI_leI (a := nh) (b := k17) (by omega) (by omega)).mpr h)
          omega
      | succ d17 ih17 =>
        intro k17 a17_1 H locs ls hk17 hP hS hl
        refine lv_iload_n hx hb dX9_leftAheadOfRight_17 rfl (lv_at hl 0 rfl) ?_
        refine lv_aload_n hx hb dX9_leftAheadOfRight_18 rfl (lv_at hl 3 rfl) ?_
        refine va_get (D := (dC, dI)) (ci := 9) (v := .ref ho) (C := RX9) (T := TX9) (N := 3) hx hb hts hi_X9 hown hK hP 0 rfl rfl 0 (by decide) (hts (.fieldLink RX9 15 "LeftQuills$Trials" "office" "LLeftQuills$Office;") (wmx 1 rfl)) (fun _ h9 => h9) e_h0_0 dX9_leftAheadOfRight_19 ?_
        refine va_get (D := (dC, dI)) (ci := 5) (v := .int (nI nh)) (C := RX5) (T := TX5) (N := 13) hx hb hts hi_X5 hown hK hP 1 rfl rfl 4 (by decide) (hts (.fieldLink RX9 70 "LeftQuills$Office" "hands" "I") (wmx 3 rfl)) (fun _ h9 => h9) e_ho_4 dX9_leftAheadOfRight_22 ?_
        refine lv_icmp_ge (tgt := 65) hx hb dX9_leftAheadOfRight_25 (by decide) (fun c4 => ?_) (fun c4 => ?_)
        ·
          have c4 : nh ≤ k17 := (nI_leI (a := nh) (b := k17) (by omega) (by omega)).mp c4
          omega
        ·
          have c4 : ¬ nh ≤ k17 := fun h => c4 ((nI_leI (a := nh) (b := k17) (by omega) (by omega)).mpr h)
          refine lv_aload_n hx hb dX9_leftAheadOfRight_28 rfl (lv_at hl 3 rfl) ?_
          refine lv_iload_n hx hb dX9_leftAheadOfRight_29 rfl (lv_at hl 2 rfl) ?_
          refine lv_iload_n hx hb dX9_leftAheadOfRight_30 rfl (lv_at hl 0 rfl) ?_
          have hPc := hP.sub (ws' := [(h0, .inr (9, f_h0)), (ho, .inr (5, f_ho)), (hd, .inr (1, f_hd)), (a3, .inl (cI, 8, .inl fa3)), (a4, .inl (cI, 8, .inl fa4)), (o5, .inl (cI, 8, .inl fo5)), (o6, .inl (cI, 8, .inl fo6)), (o7, .inl (cI, 8, .inl fo7)), (o10, .inl (cI, 4, .inl fo10)), (o11, .inl (cI, 4, .inl fo11)), (o12, .inl (cI, 4, .inl fo12))]) [0, 1, 2, 3, 4, 5, 6, 7, 8, 9, 10] rfl
          refine va_calli (va_runV (As := [.int (nI k4), .int (nI k17)]) (rest := []) ⟨hx, hb, hml, hown, hts⟩ (c_X9_goodNow l dC dI cI cZ cQ h0 ho hd f_h0 o5 o6 o7 o10 o11 o12 f_ho a3 a4 f_hd fa3 fa4 fo5 fo6 fo7 fo10 fo11 fo12 k4 k17 H.size e_h0_0 e_h0_1 e_ho_5 e_ho_6 e_ho_7 e_ho_10 e_ho_11 e_ho_12 e_hd_3 e_hd_4 (by omega) (by omega)) (cwV 2 hts gX9_leftAheadOfRight_X9_goodNow rfl rfl rfl hd_X9_goodNow_RX9 ⟨Nat.le_of_ble_eq_true rfl, Nat.le_of_ble_eq_true rfl⟩) ⟨fun a U g mk q => by obtain ⟨q0, q1, qP, qK, qN⟩ := q; exact ⟨q0, q1, qP, va_K.moved (u := U) (U := U.calling g mk a) (Vm.Alike.refl U.vm) qK, qN.calling⟩, va_recv hK hP (ci := 9) (q0 := 0) rfl rfl, fun U hU hW => ⟨rfl, by rw [hU], by rw [hU]; exact hPc, va_K.moved hW.alike hK, hN.warm hW⟩⟩ rfl rfl hl.1 rfl (lv_room (Nat.le_of_ble_eq_true rfl)) dX9_leftAheadOfRight_31 ⟨Nat.le_of_ble_eq_true rfl, Nat.le_of_ble_eq_true rfl⟩) hS (fun q _ h => False.elim h) (fun q h => False.elim h) (fun r5 u6 t H1 locs ht hvm hw7 hB hz1 hk1 hS => ?_)
          have hP := hP.kept (fun k q hk => hk1 q.1 (hP k q hk).lt (fun h => h))
          clear hz1 hk1 hPc
          generalize H1 = H at hP hS ht ⊢
          try dsimp only at hw7
          refine lv_istore (lv' := [(4, .int r5), (3, .int (nI k17)), (1, .int a17_1), (2, .int (nI k4)), (0, .ref h0)]) hx hb dX9_leftAheadOfRight_34 hl (by decide) rfl (fun ls hl => ?_)
          refine lv_iload_n hx hb dX9_leftAheadOfRight_36 rfl (lv_at hl 2 rfl) ?_
          refine lv_aload_n hx hb dX9_leftAheadOfRight_37 rfl (lv_at hl 4 rfl) ?_
          refine va_get (D := (dC, dI)) (ci := 9) (v := .ref ho) (C := RX9) (T := TX9) (N := 3) hx hb hts hi_X9 hown hK hP 0 rfl rfl 0 (by decide) (hts (.fieldLink RX9 15 "LeftQuills$Trials" "office" "LLeftQuills$Office;") (wmx 1 rfl)) (fun _ h9 => h9) e_h0_0 dX9_leftAheadOfRight_38 ?_
          refine va_get (D := (dC, dI)) (ci := 5) (v := .ref o5) (C := RX5) (T := TX5) (N := 13) hx hb hts hi_X5 hown hK hP 1 rfl rfl 5 (by decide) (hts (.fieldLink RX9 73 "LeftQuills$Office" "wing" "[I") (wmx 4 rfl)) (fun _ h9 => h9) e_ho_5 dX9_leftAheadOfRight_41 ?_
          refine lv_iload_n hx hb dX9_leftAheadOfRight_44 rfl (lv_at hl 3 rfl) ?_
          refine va_iald hx hb hK hP 5 0 rfl rfl (vp_in_nI (n := k4) (N := 8) (by omega) (by decide)) dX9_leftAheadOfRight_45 ?_
          refine W.eq (g2 := F0 m 46 ls [.int (fo5 k4), .int a17_1]) (congrArg (fun y9 => F0 m 46 ls (.int (fo5 y9) :: [.int a17_1])) ((nI_clamp (n := k4) (by omega)))) ?_
          refine lv_if_ne (tgt := 54) hx hb dX9_leftAheadOfRight_46 (by decide) (fun c8 => ?_) (fun c8 => ?_)
          ·
            refine lv_iload hx hb dX9_leftAheadOfRight_54 (lv_at hl 0 rfl) ?_
            refine lv_ineg hx hb dX9_leftAheadOfRight_56 ?_
            refine lv_topi (fun z9 ez9 => ?_)
            refine lv_iadd hx hb dX9_leftAheadOfRight_57 ?_
            refine lv_topi (fun z10 ez10 => ?_)
            refine lv_istore_n (lv' := [(1, .int z10), (4, .int r5), (3, .int (nI k17)), (2, .int (nI k4)), (0, .ref h0)]) hx hb dX9_leftAheadOfRight_58 rfl hl (by decide) rfl (fun ls hl => ?_)
            refine lv_iinc (v := nI (k17 + 1)) (lv' := [(3, .int (nI (k17 + 1))), (1, .int z10), (4, .int r5), (2, .int (nI k4)), (0, .ref h0)]) hx hb dX9_leftAheadOfRight_59 hl (k := 2) rfl ((rfl : nI k17 + Int32.ofInt 1 = nI k17 + 1).trans (nI_add k17 1)) (by decide) rfl (fun ls hl => ?_)
            refine lv_goto (tgt := 17) hx hb dX9_leftAheadOfRight_62 (by decide) ?_
            exact ih17 (k17 + 1) z10 _ _ _ (by omega) hP hS (lv_sub hl [0, 1, 3, 4] rfl)
          ·
            refine lv_iload hx hb dX9_leftAheadOfRight_49 (lv_at hl 0 rfl) ?_
            refine lv_goto (tgt := 57) hx hb dX9_leftAheadOfRight_51 (by decide) ?_
            refine lv_iadd hx hb dX9_leftAheadOfRight_57 ?_
            refine lv_topi (fun z11 ez11 => ?_)
            refine lv_istore_n (lv' := [(1, .int z11), (4, .int r5), (3, .int (nI k17)), (2, .int (nI k4)), (0, .ref h0)]) hx hb dX9_leftAheadOfRight_58 rfl hl (by decide) rfl (fun ls hl => ?_)
            refine lv_iinc (v := nI (k17 + 1)) (lv' := [(3, .int (nI (k17 + 1))), (1, .int z11), (4, .int r5), (2, .int (nI k4)), (0, .ref h0)]) hx hb dX9_leftAheadOfRight_59 hl (k := 2) rfl ((rfl : nI k17 + Int32.ofInt 1 = nI k17 + 1).trans (nI_add k17 1)) (by decide) rfl (fun ls hl => ?_)
            refine lv_goto (tgt := 17) hx hb dX9_leftAheadOfRight_62 (by decide) ?_
            exact ih17 (k17 + 1) z11 _ _ _ (by omega) hP hS (lv_sub hl [0, 1, 3, 4] rfl)
