set_option maxHeartbeats 4000000 in
set_option maxRecDepth 100000 in
theorem c_X2_alikeToD (l : Launch) (dC : Nat → ClassId) (dI : Nat → Nat → Nat) (cI cZ cQ : ClassId) (h0 : Nat) (ho : Nat) (f_h0 : List Value) (o5 : Nat) (o6 : Nat) (o7 : Nat) (o10 : Nat) (o11 : Nat) (o12 : Nat) (nh : Nat) (f_ho : List Value) (fo5 : Nat → Int32) (fo6 : Nat → Int32) (fo7 : Nat → Int32) (fo10 : Nat → Int32) (fo11 : Nat → Int32) (k : Nat) (j : Nat) (sb : Nat) (sz : Nat) (e_h0_1 : fAt f_h0 1 = some (.ref ho)) (e_ho_5 : fAt f_ho 5 = some (.ref o5)) (e_ho_6 : fAt f_ho 6 = some (.ref o6)) (e_ho_7 : fAt f_ho 7 = some (.ref o7)) (e_ho_10 : fAt f_ho 10 = some (.ref o10)) (e_ho_11 : fAt f_ho 11 = some (.ref o11)) (e_ho_12 : fAt f_ho 12 = some (.ref o12)) (e_ho_4 : fAt f_ho 4 = some (.int (nI nh))) (hnh : nh ≤ 4) (hk : k < 4) (hj : j < 8) (hsb : sb < 16) : Met l yX2_alikeTo wsX2_alikeTo ({ frames := 2, cells := 0, slots := 0, locals := 85 }) (va_Pc [.ref h0, .int (nI k), .int (nI j), .int (nI sb)] (fun U => U.heap.size = sz ∧ va_P (dC, dI) vwCl [(h0, .inr (2, f_h0)), (ho, .inr (5, f_ho)), (o5, .inl (cI, 8, .inl fo5)), (o6, .inl (cI, 8, .inl fo6)), (o7, .inl (cI, 8, .inl fo7)), (o10, .inl (cI, 4, .inl fo10)), (o11, .inl (cI, 4, .inl fo11))] U.heap ∧ va_K (dC, dI) vwCl (tys0 cI cZ cQ) U)) (va_Qi (fun (r : Int32) (u : Nat → Nat) => r = nI (alN (fun h => wrF (fo5 j) (fo6 j) (fo7 j) (fo10 h) (fo11 h)) sb k nh)) (fun (_ : Nat → Nat) (_ : State) => True) (fun _ : Nat => False)) 0 0 (fun _ : Nat => False) := by
  refine Met.ofW (cc := cX2_alikeTo) (maxL := 6) (ret := (some .int)) (by decide) rfl ?_
  intro p e s m args below meth c s₁ B hml hv
  obtain ⟨rfl, hsz, hP, hK⟩ := hv
  have hx := B.exec
  have hb := B.bytes
  have hr := B.returns
  have hts := atoms_spec (ws := wsX2_alikeTo) B.pre
  have hown : s.vm.findClass RX2 = some m.cls := findClass_of_methodNamed B.named
  have hlocks := B.notSynchronized
  have hi_X2 : ∀ w ∈ u_ws RX2 TX2 5, w ∈ wsX2_alikeTo := fun _ h => List.mem_cons_of_mem _ (List.mem_append_left _ (List.mem_append_right _ (h)))
  have hi_X5 : ∀ w ∈ u_ws RX5 TX5 13, w ∈ wsX2_alikeTo := fun _ h => List.mem_cons_of_mem _ (List.mem_append_right _ (h))
  subst hsz
  have hS : va_S (fun _ : Nat => False) s.heap s.heap [] := va_S.rf
  have hl := lv_entry ([.ref h0, .int (nI k), .int (nI j), .int (nI sb)]) (n := 6) (Nat.le_of_ble_eq_true rfl)
  rw [lg_entry_eq]
  generalize (lg_sl ([.ref h0, .int (nI k), .int (nI j), .int (nI sb)]) ++ List.replicate (6 - (lg_sl ([.ref h0, .int (nI k), .int (nI j), .int (nI sb)])).length) Slot.unset).toArray = ls at hl ⊢
  have hl : lv_has ls 6 [(0, .ref h0), (1, .int (nI k)), (2, .int (nI j)), (3, .int (nI sb))] := hl
  refine lv_iconst (v := 0) hx hb dX2_alikeTo_0 (by decide) ?_
  refine lv_istore (lv' := [(4, .int 0), (0, .ref h0), (1, .int (nI k)), (2, .int (nI j)), (3, .int (nI sb))]) hx hb dX2_alikeTo_1 hl (by decide) rfl (fun ls hl => ?_)
  refine lv_iconst (v := 0) hx hb dX2_alikeTo_3 (by decide) ?_
  refine lv_istore (lv' := [(5, .int 0), (4, .int 0), (0, .ref h0), (1, .int (nI k)), (2, .int (nI j)), (3, .int (nI sb))]) hx hb dX2_alikeTo_4 hl (by decide) rfl (fun ls hl => ?_)
  refine (fun (K : ∀ (d6 : Nat) (k6 : Nat) (a6_4 : Nat) (H : Heap) (locs : List Loc) (ls : Array Slot), k6 + d6 = nh → a6_4 ≤ k6 → a6_4 = alN (fun h => wrF (fo5 j) (fo6 j) (fo7 j) (fo10 h) (fo11 h)) sb k k6 → va_P (dC, dI) vwCl [(h0, .inr (2, f_h0)), (ho, .inr (5, f_ho)), (o5, .inl (cI, 8, .inl fo5)), (o6, .inl (cI, 8, .inl fo6)), (o7, .inl (cI, 8, .inl fo7)), (o10, .inl (cI, 4, .inl fo10)), (o11, .inl (cI, 4, .inl fo11))] H → va_S (fun _ : Nat => False) s.heap H locs → lv_has ls 6 [(5, .int (nI k6)), (4, .int (nI a6_4)), (0, .ref h0), (1, .int (nI k)), (2, .int (nI j)), (3, .int (nI sb))] → W p l e _ s m _ below meth c H locs _ _ _ (F0 m 6 ls [])) => K nh 0 0 _ _ _ (by omega) (by omega) rfl hP hS (lv_sub hl [0, 1, 2, 3, 4, 5] rfl)) ?_
  intro d6
  induction d6 with
  | zero =>
    intro k6 a6_4 H locs ls hk6 hn6_4 hv6_0 hP hS hl
    refine lv_iload hx hb dX2_alikeTo_6 (lv_at hl 0 rfl) ?_
    refine lv_aload_n hx hb dX2_alikeTo_8 rfl (lv_at hl 2 rfl) ?_
    refine va_get (D := (dC, dI)) (ci := 2) (v := .ref ho) (C := RX2) (T := TX2) (N := 5) hx hb hts hi_X2 hown hK hP 0 rfl rfl 1 (by decide) (hts (.fieldLink RX2 25 "LeftQuills$Evidence" "office" "LLeftQuills$Office;") (wmx 1 rfl)) (fun _ h9 => h9) e_h0_1 dX2_alikeTo_9 ?_
    refine va_get (D := (dC, dI)) (ci := 5) (v := .int (nI nh)) (C := RX5) (T := TX5) (N := 13) hx hb hts hi_X5 hown hK hP 1 rfl rfl 4 (by decide) (hts (.fieldLink RX2 29 "LeftQuills$Office" "hands" "I") (wmx 2 rfl)) (fun _ h9 => h9) e_ho_4 dX2_alikeTo_12 ?_
    refine lv_icmp_ge (tgt := 58) hx hb dX2_alikeTo_15 (by decide) (fun c1 => ?_) (fun c1 => ?_)
    ·
      have c1 : nh ≤ k6 := (nI_leI (a := nh) (b := k6) (by omega) (by omega)).mp c1
      refine lv_iload hx hb dX2_alikeTo_58 (lv_at hl 1 rfl) ?_
      exact W.iret (v := nI a6_4) hx hb hr (fun t ht hW => ⟨⟨nI a6_4, (fun _ => 0), rfl, (congrArg nI (hv6_0.trans (by rw [show k6 = nh from by omega]))), trivial⟩, hS.F ht⟩) hS.2.2 dX2_alikeTo_60
    ·
      have c1 : ¬ nh ≤ k6 := fun h => c1 ((nI_leI (a := nh) (b := k6) (by omega) (by omega)).mpr h)
      omega
  | succ d6 ih6 =>
    intro k6 a6_4 H locs ls hk6 hn6_4 hv6_0 hP hS hl
    refine lv_iload hx hb dX2_alikeTo_6 (lv_at hl 0 rfl) ?_
    refine lv_aload_n hx hb dX2_alikeTo_8 rfl (lv_at hl 2 rfl) ?_
    refine va_get (D := (dC, dI)) (ci := 2) (v := .ref ho) (C := RX2) (T := TX2) (N := 5) hx hb hts hi_X2 hown hK hP 0 rfl rfl 1 (by decide) (hts (.fieldLink RX2 25 "LeftQuills$Evidence" "office" "LLeftQuills$Office;") (wmx 1 rfl)) (fun _ h9 => h9) e_h0_1 dX2_alikeTo_9 ?_
    refine va_get (D := (dC, dI)) (ci := 5) (v := .int (nI nh)) (C := RX5) (T := TX5) (N := 13) hx hb hts hi_X5 hown hK hP 1 rfl rfl 4 (by decide) (hts (.fieldLink RX2 29 "LeftQuills$Office" "hands" "I") (wmx 2 rfl)) (fun _ h9 => h9) e_ho_4 dX2_alikeTo_12 ?_
    refine lv_icmp_ge (tgt := 58) hx hb dX2_alikeTo_15 (by decide) (fun c2 => ?_) (fun c2 => ?_)
    ·
      have c2 : nh ≤ k6 := (nI_leI (a := nh) (b := k6) (by omega) (by omega)).mp c2
      omega
    ·
      have c2 : ¬ nh ≤ k6 := fun h => c2 ((nI_leI (a := nh) (b := k6) (by omega) (by omega)).mpr h)
      refine lv_iload_n hx hb dX2_alikeTo_18 rfl (lv_at hl 5 rfl) ?_
      refine lv_iconst (v := 1) hx hb dX2_alikeTo_19 (by decide) ?_
      refine lv_iload hx hb dX2_alikeTo_20 (lv_at hl 0 rfl) ?_
      refine lv_ishl hx hb dX2_alikeTo_22 ?_
      refine lv_iand hx hb dX2_alikeTo_23 ?_
      refine lv_if_eq (tgt := 52) hx hb dX2_alikeTo_24 (by decide) (fun c3 => ?_) (fun c3 => ?_)
      ·
        refine lv_iinc (v := nI (k6 + 1)) (lv' := [(5, .int (nI (k6 + 1))), (4, .int (nI a6_4)), (0, .ref h0), (1, .int (nI k)), (2, .int (nI j)), (3, .int (nI sb))]) hx hb dX2_alikeTo_52 hl (k := 0) rfl ((rfl : nI k6 + Int32.ofInt 1 = nI k6 + 1).trans (nI_add k6 1)) (by decide) rfl (fun ls hl => ?_)
        refine lv_goto (tgt := 6) hx hb dX2_alikeTo_55 (by decide) ?_
        exact ih6 (k6 + 1) a6_4 _ _ _ (by omega) (by omega) (al_b hv6_0 (bt_n (by omega) (by omega) c3)) hP hS (lv_sub hl [0, 1, 2, 3, 4, 5] rfl)
      ·
        refine lv_aload_n hx hb dX2_alikeTo_27 rfl (lv_at hl 2 rfl) ?_
        refine va_get (D := (dC, dI)) (ci := 2) (v := .ref ho) (C := RX2) (T := TX2) (N := 5) hx hb hts hi_X2 hown hK hP 0 rfl rfl 1 (by decide) (hts (.fieldLink RX2 25 "LeftQuills$Evidence" "office" "LLeftQuills$Office;") (wmx 1 rfl)) (fun _ h9 => h9) e_h0_1 dX2_alikeTo_28 ?_
        refine lv_iload_n hx hb dX2_alikeTo_31 rfl (lv_at hl 4 rfl) ?_
        refine lv_iload hx hb dX2_alikeTo_32 (lv_at hl 0 rfl) ?_
        have hPc := hP.sub (ws' := [(ho, .inr (5, f_ho)), (o5, .inl (cI, 8, .inl fo5)), (o6, .inl (cI, 8, .inl fo6)), (o7, .inl (cI, 8, .inl fo7)), (o10, .inl (cI, 4, .inl fo10)), (o11, .inl (cI, 4, .inl fo11))]) [1, 2, 3, 4, 5, 6] rfl
        refine va_calli (va_runV (As := [.int (nI j), .int (nI k6)]) (rest := []) ⟨hx, hb, hml, hown, hts⟩ (c_X5_wearD l dC dI cI cZ cQ ho o5 o6 o7 o10 o11 f_ho fo5 fo6 fo7 fo10 fo11 j k6 H.size e_ho_5 e_ho_6 e_ho_7 e_ho_10 e_ho_11 (by omega) (by omega)) (cwV 2 hts gX2_alikeTo_X5_wear rfl rfl rfl hd_X5_wear_RX5 ⟨Nat.le_of_ble_eq_true rfl, Nat.le_of_ble_eq_true rfl⟩) (pv_R (va_recv hK hP (ci := 5) (q0 := 1) rfl rfl) hK hPc) rfl rfl hl.1 rfl (lv_room (Nat.le_of_ble_eq_true rfl)) dX2_alikeTo_34 ⟨Nat.le_of_ble_eq_true rfl, Nat.le_of_ble_eq_true rfl⟩) hS (fun q _ h => False.elim h) (fun q h => False.elim h) (fun r4 u5 t H1 locs ht hvm hw6 hB hz1 hk1 hS => ?_)
        have hP := hP.kept (fun k q hk => hk1 q.1 (hP k q hk).lt (fun h => h))
        clear hz1 hk1 hPc
        generalize H1 = H at hP hS ht ⊢
        try dsimp only at hw6
        subst hw6
        refine lv_aload_n hx hb dX2_alikeTo_37 rfl (lv_at hl 2 rfl) ?_
        refine va_get (D := (dC, dI)) (ci := 2) (v := .ref ho) (C := RX2) (T := TX2) (N := 5) hx hb hts hi_X2 hown hK hP 0 rfl rfl 1 (by decide) (hts (.fieldLink RX2 25 "LeftQuills$Evidence" "office" "LLeftQuills$Office;") (wmx 1 rfl)) (fun _ h9 => h9) e_h0_1 dX2_alikeTo_38 ?_
        refine lv_iload_n hx hb dX2_alikeTo_41 rfl (lv_at hl 4 rfl) ?_
        refine lv_iload_n hx hb dX2_alikeTo_42 rfl (lv_at hl 3 rfl) ?_
        have hPc := hP.sub (ws' := [(ho, .inr (5, f_ho)), (o5, .inl (cI, 8, .inl fo5)), (o6, .inl (cI, 8, .inl fo6)), (o7, .inl (cI, 8, .inl fo7)), (o10, .inl (cI, 4, .inl fo10)), (o11, .inl (cI, 4, .inl fo11))]) [1, 2, 3, 4, 5, 6] rfl
        refine va_calli (va_runV (As := [.int (nI j), .int (nI k)]) (rest := [.int (wrF (fo5 j) (fo6 j) (fo7 j) (fo10 k6) (fo11 k6))]) ⟨hx, hb, hml, hown, hts⟩ (c_X5_wearD l dC dI cI cZ cQ ho o5 o6 o7 o10 o11 f_ho fo5 fo6 fo7 fo10 fo11 j k H.size e_ho_5 e_ho_6 e_ho_7 e_ho_10 e_ho_11 (by omega) (by omega)) (cwV 2 hts gX2_alikeTo_X5_wear rfl rfl rfl hd_X5_wear_RX5 ⟨Nat.le_of_ble_eq_true rfl, Nat.le_of_ble_eq_true rfl⟩) (pv_R (va_recv hK hP (ci := 5) (q0 := 1) rfl rfl) hK hPc) rfl rfl hl.1 rfl (lv_room (Nat.le_of_ble_eq_true rfl)) dX2_alikeTo_43 ⟨Nat.le_of_ble_eq_true rfl, Nat.le_of_ble_eq_true rfl⟩) hS (fun q _ h => False.elim h) (fun q h => False.elim h) (fun r7 u8 t H1 locs ht hvm hw9 hB hz1 hk1 hS => ?_)
        have hP := hP.kept (fun k q hk => hk1 q.1 (hP k q hk).lt (fun h => h))
        clear hz1 hk1 hPc
        generalize H1 = H at hP hS ht ⊢
        try dsimp only at hw9
        subst hw9
        refine lv_icmp_ne (tgt := 52) hx hb dX2_alikeTo_46 (by decide) (fun c10 => ?_) (fun c10 => ?_)
        ·
          refine lv_iinc (v := nI (k6 + 1)) (lv' := [(5, .int (nI (k6 + 1))), (4, .int (nI a6_4)), (0, .ref h0), (1, .int (nI k)), (2, .int (nI j)), (3, .int (nI sb))]) hx hb dX2_alikeTo_52 hl (k := 0) rfl ((rfl : nI k6 + Int32.ofInt 1 = nI k6 + 1).trans (nI_add k6 1)) (by decide) rfl (fun ls hl => ?_)
          refine lv_goto (tgt := 6) hx hb dX2_alikeTo_55 (by decide) ?_
          exact ih6 (k6 + 1) a6_4 _ _ _ (by omega) (by omega) (al_w hv6_0 c10) hP hS (lv_sub hl [0, 1, 2, 3, 4, 5] rfl)
        ·
          refine lv_iinc (v := nI (a6_4 + 1)) (lv' := [(4, .int (nI (a6_4 + 1))), (5, .int (nI k6)), (0, .ref h0), (1, .int (nI k)), (2, .int (nI j)), (3, .int (nI sb))]) hx hb dX2_alikeTo_49 hl (k := 1) rfl ((rfl : nI a6_4 + Int32.ofInt 1 = nI a6_4 + 1).trans (nI_add a6_4 1)) (by decide) rfl (fun ls hl => ?_)
          refine lv_iinc (v := nI (k6 + 1)) (lv' := [(5, .int (nI (k6 + 1))), (4, .int (nI (a6_4 + 1))), (0, .ref h0), (1, .int (nI k)), (2, .int (nI j)), (3, .int (nI sb))]) hx hb dX2_alikeTo_52 hl (k := 1) rfl ((rfl : nI k6 + Int32.ofInt 1 = nI k6 + 1).trans (nI_add k6 1)) (by decide) rfl (fun ls hl => ?_)
          refine lv_goto (tgt := 6) hx hb dX2_alikeTo_55 (by decide) ?_
          exact ih6 (k6 + 1) (a6_4 + 1) _ _ _ (by omega) (by omega) (al_y hv6_0 (bt_y (by omega) (by omega) c3) c10) hP hS (lv_sub hl [0, 1, 2, 3, 4, 5] rfl)
set_option maxHeartbeats 4000000 in
set_option maxRecDepth 100000 in
theorem c_X2_greatestAlikeD (l : Launch) (dC : Nat → ClassId) (dI : Nat → Nat → Nat) (cI cZ cQ : ClassId) (h0 : Nat) (ho : Nat) (f_h0 : List Value) (o5 : Nat) (o6 : Nat) (o7 : Nat) (o10 : Nat) (o11 : Nat) (o12 : Nat) (nh : Nat) (f_ho : List Value) (fo5 : Nat → Int32) (fo6 : Nat → Int32) (fo7 : Nat → Int32) (fo10 : Nat → Int32) (fo11 : Nat → Int32) (j : Nat) (sb : Nat) (sz : Nat) (e_h0_1 : fAt f_h0 1 = some (.ref ho)) (e_ho_5 : fAt f_ho 5 = some (.ref o5)) (e_ho_6 : fAt f_ho 6 = some (.ref o6)) (e_ho_7 : fAt f_ho 7 = some (.ref o7)) (e_ho_10 : fAt f_ho 10 = some (.ref o10)) (e_ho_11 : fAt f_ho 11 = some (.ref o11)) (e_ho_12 : fAt f_ho 12 = some (.ref o12)) (e_ho_4 : fAt f_ho 4 = some (.int (nI nh))) (hnh : nh ≤ 4) (hj : j < 8) (hsb : sb < 16) : Met l yX2_greatestAlike wsX2_greatestAlike ({ frames := 3, cells := 0, slots := 0, locals := 110 }) (va_Pc [.ref h0, .int (nI j), .int (nI sb)] (fun U => U.heap.size = sz ∧ va_P (dC, dI) vwCl [(h0, .inr (2, f_h0)), (ho, .inr (5, f_ho)), (o5, .inl (cI, 8, .inl fo5)), (o6, .inl (cI, 8, .inl fo6)), (o7, .inl (cI, 8, .inl fo7)), (o10, .inl (cI, 4, .inl fo10)), (o11, .inl (cI, 4, .inl fo11))] U.heap ∧ va_K (dC, dI) vwCl (tys0 cI cZ cQ) U)) (va_Qi (fun (r : Int32) (u : Nat → Nat) => r = nI (gaN (fun h => wrF (fo5 j) (fo6 j) (fo7 j) (fo10 h) (fo11 h)) sb nh nh)) (fun (_ : Nat → Nat) (_ : State) => True) (fun _ : Nat => False)) 0 0 (fun _ : Nat => False) := by
  refine Met.ofW (cc := cX2_greatestAlike) (maxL := 5) (ret := (some .int)) (by decide) rfl ?_
  intro p e s m args below meth c s₁ B hml hv
  obtain ⟨rfl, hsz, hP, hK⟩ := hv
  have hx := B.exec
  have hb := B.bytes
  have hr := B.returns
  have hts := atoms_spec (ws := wsX2_greatestAlike) B.pre
  have hown : s.vm.findClass RX2 = some m.cls := findClass_of_methodNamed B.named
  have hlocks := B.notSynchronized
  have hi_X2 : ∀ w ∈ u_ws RX2 TX2 5, w ∈ wsX2_greatestAlike := fun _ h => List.mem_cons_of_mem _ (List.mem_append_left _ (List.mem_append_right _ (h)))
  have hi_X5 : ∀ w ∈ u_ws RX5 TX5 13, w ∈ wsX2_greatestAlike := fun _ h => List.mem_cons_of_mem _ (List.mem_append_right _ (h))
  subst hsz
  have hS : va_S (fun _ : Nat => False) s.heap s.heap [] := va_S.rf
  have hl := lv_entry ([.ref h0, .int (nI j), .int (nI sb)]) (n := 5) (Nat.le_of_ble_eq_true rfl)
  rw [lg_entry_eq]
  generalize (lg_sl ([.ref h0, .int (nI j), .int (nI sb)]) ++ List.replicate (5 - (lg_sl ([.ref h0, .int (nI j), .int (nI sb)])).length) Slot.unset).toArray = ls at hl ⊢
  have hl : lv_has ls 5 [(0, .ref h0), (1, .int (nI j)), (2, .int (nI sb))] := hl
  refine lv_iconst (v := 0) hx hb dX2_greatestAlike_0 (by decide) ?_
  refine lv_istore_n (lv' := [(3, .int 0), (0, .ref h0), (1, .int (nI j)), (2, .int (nI sb))]) hx hb dX2_greatestAlike_1 rfl hl (by decide) rfl (fun ls hl => ?_)
  refine lv_iconst (v := 0) hx hb dX2_greatestAlike_2 (by decide) ?_
  refine lv_istore (lv' := [(4, .int 0), (3, .int 0), (0, .ref h0), (1, .int (nI j)), (2, .int (nI sb))]) hx hb dX2_greatestAlike_3 hl (by decide) rfl (fun ls hl => ?_)
  refine (fun (K : ∀ (d5 : Nat) (k5 : Nat) (a5_3 : Nat) (H : Heap) (locs : List Loc) (ls : Array Slot), k5 + d5 = nh → a5_3 ≤ nh → a5_3 = gaN (fun h => wrF (fo5 j) (fo6 j) (fo7 j) (fo10 h) (fo11 h)) sb nh k5 → va_P (dC, dI) vwCl [(h0, .inr (2, f_h0)), (ho, .inr (5, f_ho)), (o5, .inl (cI, 8, .inl fo5)), (o6, .inl (cI, 8, .inl fo6)), (o7, .inl (cI, 8, .inl fo7)), (o10, .inl (cI, 4, .inl fo10)), (o11, .inl (cI, 4, .inl fo11))] H → va_S (fun _ : Nat => False) s.heap H locs → lv_has ls 5 [(4, .int (nI k5)), (3, .int (nI a5_3)), (0, .ref h0), (1, .int (nI j)), (2, .int (nI sb))] → W p l e _ s m _ below meth c H locs _ _ _ (F0 m 5 ls [])) => K nh 0 0 _ _ _ (by omega) (by omega) rfl hP hS (lv_sub hl [0, 1, 2, 3, 4] rfl)) ?_
  intro d5
  induction d5 with
  | zero =>
    intro k5 a5_3 H locs ls hk5 hn5_3 hv5_0 hP hS hl
    refine lv_iload hx hb dX2_greatestAlike_5 (lv_at hl 0 rfl) ?_
    refine lv_aload_n hx hb dX2_greatestAlike_7 rfl (lv_at hl 2 rfl) ?_
    refine va_get (D := (dC, dI)) (ci := 2) (v := .ref ho) (C := RX2) (T := TX2) (N := 5) hx hb hts hi_X2 hown hK hP 0 rfl rfl 1 (by decide) (hts (.fieldLink RX2 25 "LeftQuills$Evidence" "office" "LLeftQuills$Office;") (wmx 1 rfl)) (fun _ h9 => h9) e_h0_1 dX2_greatestAlike_8 ?_
    refine va_get (D := (dC, dI)) (ci := 5) (v := .int (nI nh)) (C := RX5) (T := TX5) (N := 13) hx hb hts hi_X5 hown hK hP 1 rfl rfl 4 (by decide) (hts (.fieldLink RX2 29 "LeftQuills$Office" "hands" "I") (wmx 2 rfl)) (fun _ h9 => h9) e_ho_4 dX2_greatestAlike_11 ?_
    refine lv_icmp_ge (tgt := 45) hx hb dX2_greatestAlike_14 (by decide) (fun c1 => ?_) (fun c1 => ?_)
    ·
      have c1 : nh ≤ k5 := (nI_leI (a := nh) (b := k5) (by omega) (by omega)).mp c1
      refine lv_iload_n hx hb dX2_greatestAlike_45 rfl (lv_at hl 1 rfl) ?_
      exact W.iret (v := nI a5_3) hx hb hr (fun t ht hW => ⟨⟨nI a5_3, (fun _ => 0), rfl, (congrArg nI (hv5_0.trans (by rw [show k5 = nh from by omega]))), trivial⟩, hS.F ht⟩) hS.2.2 dX2_greatestAlike_46
    ·
      have c1 : ¬ nh ≤ k5 := fun h => c1 ((nI_leI (a := nh) (b := k5) (by omega) (by omega)).mpr h)
      omega
  | succ d5 ih5 =>
    intro k5 a5_3 H locs ls hk5 hn5_3 hv5_0 hP hS hl
    refine lv_iload hx hb dX2_greatestAlike_5 (lv_at hl 0 rfl) ?_
    refine lv_aload_n hx hb dX2_greatestAlike_7 rfl (lv_at hl 2 rfl) ?_
    refine va_get (D := (dC, dI)) (ci := 2) (v := .ref ho) (C := RX2) (T := TX2) (N := 5) hx hb hts hi_X2 hown hK hP 0 rfl rfl 1 (by decide) (hts (.fieldLink RX2 25 "LeftQuills$Evidence" "office" "LLeftQuills$Office;") (wmx 1 rfl)) (fun _ h9 => h9) e_h0_1 dX2_greatestAlike_8 ?_
    refine va_get (D := (dC, dI)) (ci := 5) (v := .int (nI nh)) (C := RX5) (T := TX5) (N := 13) hx hb hts hi_X5 hown hK hP 1 rfl rfl 4 (by decide) (hts (.fieldLink RX2 29 "LeftQuills$Office" "hands" "I") (wmx 2 rfl)) (fun _ h9 => h9) e_ho_4 dX2_greatestAlike_11 ?_
    refine lv_icmp_ge (tgt := 45) hx hb dX2_greatestAlike_14 (by decide) (fun c2 => ?_) (fun c2 => ?_)
    ·
      have c2 : nh ≤ k5 := (nI_leI (a := nh) (b := k5) (by omega) (by omega)).mp c2
      omega
    ·
      have c2 : ¬ nh ≤ k5 := fun h => c2 ((nI_leI (a := nh) (b := k5) (by omega) (by omega)).mpr h)
      refine lv_iload_n hx hb dX2_greatestAlike_17 rfl (lv_at hl 4 rfl) ?_
      refine lv_iconst (v := 1) hx hb dX2_greatestAlike_18 (by decide) ?_
      refine lv_iload hx hb dX2_greatestAlike_19 (lv_at hl 0 rfl) ?_
      refine lv_ishl hx hb dX2_greatestAlike_21 ?_
      refine lv_iand hx hb dX2_greatestAlike_22 ?_
      refine lv_if_eq (tgt := 39) hx hb dX2_greatestAlike_23 (by decide) (fun c3 => ?_) (fun c3 => ?_)
      ·
        refine lv_iinc (v := nI (k5 + 1)) (lv' := [(4, .int (nI (k5 + 1))), (3, .int (nI a5_3)), (0, .ref h0), (1, .int (nI j)), (2, .int (nI sb))]) hx hb dX2_greatestAlike_39 hl (k := 0) rfl ((rfl : nI k5 + Int32.ofInt 1 = nI k5 + 1).trans (nI_add k5 1)) (by decide) rfl (fun ls hl => ?_)
        refine lv_goto (tgt := 5) hx hb dX2_greatestAlike_42 (by decide) ?_
        exact ih5 (k5 + 1) a5_3 _ _ _ (by omega) (by omega) (ga_n hv5_0 (bt_n (by omega) (by omega) c3)) hP hS (lv_sub hl [0, 1, 2, 3, 4] rfl)
      ·
        refine lv_iload_n hx hb dX2_greatestAlike_26 rfl (lv_at hl 1 rfl) ?_
        refine lv_aload_n hx hb dX2_greatestAlike_27 rfl (lv_at hl 2 rfl) ?_
        refine lv_iload hx hb dX2_greatestAlike_28 (lv_at hl 0 rfl) ?_
        refine lv_iload_n hx hb dX2_greatestAlike_30 rfl (lv_at hl 3 rfl) ?_
        refine lv_iload_n hx hb dX2_greatestAlike_31 rfl (lv_at hl 4 rfl) ?_
        have hPc := hP.sub (ws' := [(h0, .inr (2, f_h0)), (ho, .inr (5, f_ho)), (o5, .inl (cI, 8, .inl fo5)), (o6, .inl (cI, 8, .inl fo6)), (o7, .inl (cI, 8, .inl fo7)), (o10, .inl (cI, 4, .inl fo10)), (o11, .inl (cI, 4, .inl fo11))]) [0, 1, 2, 3, 4, 5, 6] rfl
        refine va_calli (va_runV (As := [.int (nI k5), .int (nI j), .int (nI sb)]) (rest := [.int (nI a5_3)]) ⟨hx, hb, hml, hown, hts⟩ (c_X2_alikeToD l dC dI cI cZ cQ h0 ho f_h0 o5 o6 o7 o10 o11 o12 nh f_ho fo5 fo6 fo7 fo10 fo11 k5 j sb H.size e_h0_1 e_ho_5 e_ho_6 e_ho_7 e_ho_10 e_ho_11 e_ho_12 e_ho_4 (by omega) (by omega) (by omega) (by omega)) (cwV 3 hts gX2_greatestAlike_X2_alikeTo rfl rfl rfl hd_X2_alikeTo_RX2 ⟨Nat.le_of_ble_eq_true rfl, Nat.le_of_ble_eq_true rfl⟩) (pv_R (va_recv hK hP (ci := 2) (q0 := 0) rfl rfl) hK hPc) rfl rfl hl.1 rfl (lv_room (Nat.le_of_ble_eq_true rfl)) dX2_greatestAlike_32 ⟨Nat.le_of_ble_eq_true rfl, Nat.le_of_ble_eq_true rfl⟩) hS (fun q _ h => False.elim h) (fun q h => False.elim h) (fun r4 u5 t H1 locs ht hvm hw6 hB hz1 hk1 hS => ?_)
        have hP := hP.kept (fun k q hk => hk1 q.1 (hP k q hk).lt (fun h => h))
        clear hz1 hk1 hPc
        generalize H1 = H at hP hS ht ⊢
        try dsimp only at hw6
        obtain ⟨w7, hw7, ew7, rfl⟩ := nat_ix (alN_le _) hw6
        refine va_mmax hx hb (hml.trans hl.1.symm) hown (hts (.methodLink RX2 65 Lib.Math.max.name) (wmx 3 rfl)) (hts (.static Lib.Math.max.name) (wmx 4 rfl)) (hts (.initialized "java/lang/Math") (wmx 5 rfl)) (hts (.code Lib.Math.max.name Lib.Math.max.code 2 (some .int)) (wmx 6 rfl)) (Nat.le_of_ble_eq_true rfl) (Nat.le_of_ble_eq_true rfl) (Nat.le_of_ble_eq_true rfl) (Nat.le_of_ble_eq_true rfl) dX2_greatestAlike_35 ?_
        refine lv_topi (fun z8 ez8 => ?_)
        obtain rfl : z8 = nI (max a5_3 w7) := ez8.trans (x_maxN (a := a5_3) (b := w7) (by omega) (by omega))
        refine lv_istore_n (lv' := [(3, .int (nI (max a5_3 w7))), (4, .int (nI k5)), (0, .ref h0), (1, .int (nI j)), (2, .int (nI sb))]) hx hb dX2_greatestAlike_38 rfl hl (by decide) rfl (fun ls hl => ?_)
        refine lv_iinc (v := nI (k5 + 1)) (lv' := [(4, .int (nI (k5 + 1))), (3, .int (nI (max a5_3 w7))), (0, .ref h0), (1, .int (nI j)), (2, .int (nI sb))]) hx hb dX2_greatestAlike_39 hl (k := 1) rfl ((rfl : nI k5 + Int32.ofInt 1 = nI k5 + 1).trans (nI_add k5 1)) (by decide) rfl (fun ls hl => ?_)
        refine lv_goto (tgt := 5) hx hb dX2_greatestAlike_42 (by decide) ?_
        exact ih5 (k5 + 1) (max a5_3 w7) _ _ _ (by omega) (by omega) (ga_y hv5_0 (bt_y (by omega) (by omega) c3) ew7.out) hP hS (lv_sub hl [0, 1, 2, 3, 4] rfl)
set_option maxHeartbeats 4000000 in
set_option maxRecDepth 100000 in
theorem c_bitCountD (l : Launch) (dC : Nat → ClassId) (dI : Nat → Nat → Nat) (cI cZ cQ : ClassId) (sb : Nat) (sz : Nat) (hsb : sb < 16) : Met l yJ6_bitCount_0f7a4 wsJ6_bitCount_0f7a4 ({ frames := 0, cells := 0, slots := 0, locals := 40 }) (va_Pc [.int (nI sb)] (fun U => U.heap.size = sz ∧ va_P (dC, dI) vwCl [] U.heap ∧ va_K (dC, dI) vwCl (tys0 cI cZ cQ) U)) (va_Qi (fun (r : Int32) (u : Nat → Nat) => r = nI (pcN sb)) (fun (_ : Nat → Nat) (_ : State) => True) (fun _ : Nat => False)) 0 0 (fun _ : Nat => False) := by
  refine Met.ofW (cc := cJ6_bitCount_0f7a4) (maxL := 1) (ret := (some .int)) (by decide) rfl ?_
  intro p e s m args below meth c s₁ B hml hv
  obtain ⟨rfl, hsz, hP, hK⟩ := hv
  have hx := B.exec
  have hb := B.bytes
  have hr := B.returns
  have hts := atoms_spec (ws := wsJ6_bitCount_0f7a4) B.pre
  have hown : s.vm.findClass RJ6 = some m.cls := findClass_of_methodNamed B.named
  have hlocks := B.notSynchronized
  subst hsz
  have hS : va_S (fun _ : Nat => False) s.heap s.heap [] := va_S.rf
  have hl := lv_entry ([.int (nI sb)]) (n := 1) (Nat.le_of_ble_eq_true rfl)
  rw [lg_entry_eq]
  generalize (lg_sl ([.int (nI sb)]) ++ List.replicate (1 - (lg_sl ([.int (nI sb)])).length) Slot.unset).toArray = ls at hl ⊢
  have hl : lv_has ls 1 [(0, .int (nI sb))] := hl
  refine lv_iload_n hx hb dJ6_bitCount_0f7a4_0 rfl (lv_at hl 0 rfl) ?_
  refine lv_iload_n hx hb dJ6_bitCount_0f7a4_1 rfl (lv_at hl 0 rfl) ?_
  refine lv_iconst (v := 1) hx hb dJ6_bitCount_0f7a4_2 (by decide) ?_
  refine lv_iushr hx hb dJ6_bitCount_0f7a4_3 rfl ?_
  refine lv_ldcw (v := 1431655765) hx hb hown (hts (.constant RJ6 265 1431655765) (wmx 1 rfl)) dJ6_bitCount_0f7a4_4 ?_
  refine lv_iand hx hb dJ6_bitCount_0f7a4_7 ?_
  refine lv_isub hx hb dJ6_bitCount_0f7a4_8 ?_
  refine lv_istore_n (lv' := [(0, .int ((nI sb) - ((((nI sb).toUInt32 >>> ((1 : Int32).toUInt32 &&& Int32.toUInt32 31)).toInt32) &&& 1431655765)))]) hx hb dJ6_bitCount_0f7a4_9 rfl hl (by decide) rfl (fun ls hl => ?_)
  refine lv_iload_n hx hb dJ6_bitCount_0f7a4_10 rfl (lv_at hl 0 rfl) ?_
  refine lv_ldcw (v := 858993459) hx hb hown (hts (.constant RJ6 266 858993459) (wmx 2 rfl)) dJ6_bitCount_0f7a4_11 ?_
  refine lv_iand hx hb dJ6_bitCount_0f7a4_14 ?_
  refine lv_iload_n hx hb dJ6_bitCount_0f7a4_15 rfl (lv_at hl 0 rfl) ?_
  refine lv_iconst (v := 2) hx hb dJ6_bitCount_0f7a4_16 (by decide) ?_
  refine lv_iushr hx hb dJ6_bitCount_0f7a4_17 rfl ?_
  refine lv_ldcw (v := 858993459) hx hb hown (hts (.constant RJ6 266 858993459) (wmx 2 rfl)) dJ6_bitCount_0f7a4_18 ?_
  refine lv_iand hx hb dJ6_bitCount_0f7a4_21 ?_
  refine lv_iadd hx hb dJ6_bitCount_0f7a4_22 ?_
  refine lv_istore_n (lv' := [(0, .int ((((nI sb) - ((((nI sb).toUInt32 >>> ((1 : Int32).toUInt32 &&& Int32.toUInt32 31)).toInt32) &&& 1431655765)) &&& 858993459) + (((((nI sb) - ((((nI sb).toUInt32 >>> ((1 : Int32).toUInt32 &&& Int32.toUInt32 31)).toInt32) &&& 1431655765)).toUInt32 >>> ((2 : Int32).toUInt32 &&& Int32.toUInt32 31)).toInt32) &&& 858993459)))]) hx hb dJ6_bitCount_0f7a4_23 rfl hl (by decide) rfl (fun ls hl => ?_)
  refine lv_iload_n hx hb dJ6_bitCount_0f7a4_24 rfl (lv_at hl 0 rfl) ?_
  refine lv_iload_n hx hb dJ6_bitCount_0f7a4_25 rfl (lv_at hl 0 rfl) ?_
  refine lv_iconst (v := 4) hx hb dJ6_bitCount_0f7a4_26 (by decide) ?_
  refine lv_iushr hx hb dJ6_bitCount_0f7a4_27 rfl ?_
  refine lv_iadd hx hb dJ6_bitCount_0f7a4_28 ?_
  refine lv_ldcw (v := 252645135) hx hb hown (hts (.constant RJ6 267 252645135) (wmx 3 rfl)) dJ6_bitCount_0f7a4_29 ?_
  refine lv_iand hx hb dJ6_bitCount_0f7a4_32 ?_
  refine lv_istore_n (lv' := [(0, .int ((((((nI sb) - ((((nI sb).toUInt32 >>> ((1 : Int32).toUInt32 &&& Int32.toUInt32 31)).toInt32) &&& 1431655765)) &&& 858993459) + (((((nI sb) - ((((nI sb).toUInt32 >>> ((1 : Int32).toUInt32 &&& Int32.toUInt32 31)).toInt32) &&& 1431655765)).toUInt32 >>> ((2 : Int32).toUInt32 &&& Int32.toUInt32 31)).toInt32) &&& 858993459)) + ((((((nI sb) - ((((nI sb).toUInt32 >>> ((1 : Int32).toUInt32 &&& Int32.toUInt32 31)).toInt32) &&& 1431655765)) &&& 858993459) + (((((nI sb) - ((((nI sb).toUInt32 >>> ((1 : Int32).toUInt32 &&& Int32.toUInt32 31)).toInt32) &&& 1431655765)).toUInt32 >>> ((2 : Int32).toUInt32 &&& Int32.toUInt32 31)).toInt32) &&& 858993459)).toUInt32 >>> ((4 : Int32).toUInt32 &&& Int32.toUInt32 31)).toInt32)) &&& 252645135))]) hx hb dJ6_bitCount_0f7a4_33 rfl hl (by decide) rfl (fun ls hl => ?_)
  refine lv_iload_n hx hb dJ6_bitCount_0f7a4_34 rfl (lv_at hl 0 rfl) ?_
  refine lv_iload_n hx hb dJ6_bitCount_0f7a4_35 rfl (lv_at hl 0 rfl) ?_
  refine lv_bipush (v := 8) hx hb dJ6_bitCount_0f7a4_36 (by decide) ?_
  refine lv_iushr hx hb dJ6_bitCount_0f7a4_38 rfl ?_
  refine lv_iadd hx hb dJ6_bitCount_0f7a4_39 ?_
  refine lv_istore_n (lv' := [(0, .int (((((((nI sb) - ((((nI sb).toUInt32 >>> ((1 : Int32).toUInt32 &&& Int32.toUInt32 31)).toInt32) &&& 1431655765)) &&& 858993459) + (((((nI sb) - ((((nI sb).toUInt32 >>> ((1 : Int32).toUInt32 &&& Int32.toUInt32 31)).toInt32) &&& 1431655765)).toUInt32 >>> ((2 : Int32).toUInt32 &&& Int32.toUInt32 31)).toInt32) &&& 858993459)) + ((((((nI sb) - ((((nI sb).toUInt32 >>> ((1 : Int32).toUInt32 &&& Int32.toUInt32 31)).toInt32) &&& 1431655765)) &&& 858993459) + (((((nI sb) - ((((nI sb).toUInt32 >>> ((1 : Int32).toUInt32 &&& Int32.toUInt32 31)).toInt32) &&& 1431655765)).toUInt32 >>> ((2 : Int32).toUInt32 &&& Int32.toUInt32 31)).toInt32) &&& 858993459)).toUInt32 >>> ((4 : Int32).toUInt32 &&& Int32.toUInt32 31)).toInt32)) &&& 252645135) + ((((((((nI sb) - ((((nI sb).toUInt32 >>> ((1 : Int32).toUInt32 &&& Int32.toUInt32 31)).toInt32) &&& 1431655765)) &&& 858993459) + (((((nI sb) - ((((nI sb).toUInt32 >>> ((1 : Int32).toUInt32 &&& Int32.toUInt32 31)).toInt32) &&& 1431655765)).toUInt32 >>> ((2 : Int32).toUInt32 &&& Int32.toUInt32 31)).toInt32) &&& 858993459)) + ((((((nI sb) - ((((nI sb).toUInt32 >>> ((1 : Int32).toUInt32 &&& Int32.toUInt32 31)).toInt32) &&& 1431655765)) &&& 858993459) + (((((nI sb) - ((((nI sb).toUInt32 >>> ((1 : Int32).toUInt32 &&& Int32.toUInt32 31)).toInt32) &&& 1431655765)).toUInt32 >>> ((2 : Int32).toUInt32 &&& Int32.toUInt32 31)).toInt32) &&& 858993459)).toUInt32 >>> ((4 : Int32).toUInt32 &&& Int32.toUInt32 31)).toInt32)) &&& 252645135).toUInt32 >>> ((8 : Int32).toUInt32 &&& Int32.toUInt32 31)).toInt32)))]) hx hb dJ6_bitCount_0f7a4_40 rfl hl (by decide) rfl (fun ls hl => ?_)
  refine lv_iload_n hx hb dJ6_bitCount_0f7a4_41 rfl (lv_at hl 0 rfl) ?_
  refine lv_iload_n hx hb dJ6_bitCount_0f7a4_42 rfl (lv_at hl 0 rfl) ?_
  refine lv_bipush (v := 16) hx hb dJ6_bitCount_0f7a4_43 (by decide) ?_
  refine lv_iushr hx hb dJ6_bitCount_0f7a4_45 rfl ?_
  refine lv_iadd hx hb dJ6_bitCount_0f7a4_46 ?_
  refine lv_istore_n (lv' := [(0, .int ((((((((nI sb) - ((((nI sb).toUInt32 >>> ((1 : Int32).toUInt32 &&& Int32.toUInt32 31)).toInt32) &&& 1431655765)) &&& 858993459) + (((((nI sb) - ((((nI sb).toUInt32 >>> ((1 : Int32).toUInt32 &&& Int32.toUInt32 31)).toInt32) &&& 1431655765)).toUInt32 >>> ((2 : Int32).toUInt32 &&& Int32.toUInt32 31)).toInt32) &&& 858993459)) + ((((((nI sb) - ((((nI sb).toUInt32 >>> ((1 : Int32).toUInt32 &&& Int32.toUInt32 31)).toInt32) &&& 1431655765)) &&& 858993459) + (((((nI sb) - ((((nI sb).toUInt32 >>> ((1 : Int32).toUInt32 &&& Int32.toUInt32 31)).toInt32) &&& 1431655765)).toUInt32 >>> ((2 : Int32).toUInt32 &&& Int32.toUInt32 31)).toInt32) &&& 858993459)).toUInt32 >>> ((4 : Int32).toUInt32 &&& Int32.toUInt32 31)).toInt32)) &&& 252645135) + ((((((((nI sb) - ((((nI sb).toUInt32 >>> ((1 : Int32).toUInt32 &&& Int32.toUInt32 31)).toInt32) &&& 1431655765)) &&& 858993459) + (((((nI sb) - ((((nI sb).toUInt32 >>> ((1 : Int32).toUInt32 &&& Int32.toUInt32 31)).toInt32) &&& 1431655765)).toUInt32 >>> ((2 : Int32).toUInt32 &&& Int32.toUInt32 31)).toInt32) &&& 858993459)) + ((((((nI sb) - ((((nI sb).toUInt32 >>> ((1 : Int32).toUInt32 &&& Int32.toUInt32 31)).toInt32) &&& 1431655765)) &&& 858993459) + (((((nI sb) - ((((nI sb).toUInt32 >>> ((1 : Int32).toUInt32 &&& Int32.toUInt32 31)).toInt32) &&& 1431655765)).toUInt32 >>> ((2 : Int32).toUInt32 &&& Int32.toUInt32 31)).toInt32) &&& 858993459)).toUInt32 >>> ((4 : Int32).toUInt32 &&& Int32.toUInt32 31)).toInt32)) &&& 252645135).toUInt32 >>> ((8 : Int32).toUInt32 &&& Int32.toUInt32 31)).toInt32)) + (((((((((nI sb) - ((((nI sb).toUInt32 >>> ((1 : Int32).toUInt32 &&& Int32.toUInt32 31)).toInt32) &&& 1431655765)) &&& 858993459) + (((((nI sb) - ((((nI sb).toUInt32 >>> ((1 : Int32).toUInt32 &&& Int32.toUInt32 31)).toInt32) &&& 1431655765)).toUInt32 >>> ((2 : Int32).toUInt32 &&& Int32.toUInt32 31)).toInt32) &&& 858993459)) + ((((((nI sb) - ((((nI sb).toUInt32 >>> ((1 : Int32).toUInt32 &&& Int32.toUInt32 31)).toInt32) &&& 1431655765)) &&& 858993459) + (((((nI sb) - ((((nI sb).toUInt32 >>> ((1 : Int32).toUInt32 &&& Int32.toUInt32 31)).toInt32) &&& 1431655765)).toUInt32 >>> ((2 : Int32).toUInt32 &&& Int32.toUInt32 31)).toInt32) &&& 858993459)).toUInt32 >>> ((4 : Int32).toUInt32 &&& Int32.toUInt32 31)).toInt32)) &&& 252645135) + ((((((((nI sb) - ((((nI sb).toUInt32 >>> ((1 : Int32).toUInt32 &&& Int32.toUInt32 31)).toInt32) &&& 1431655765)) &&& 858993459) + (((((nI sb) - ((((nI sb).toUInt32 >>> ((1 : Int32).toUInt32 &&& Int32.toUInt32 31)).toInt32) &&& 1431655765)).toUInt32 >>> ((2 : Int32).toUInt32 &&& Int32.toUInt32 31)).toInt32) &&& 858993459)) + ((((((nI sb) - ((((nI sb).toUInt32 >>> ((1 : Int32).toUInt32 &&& Int32.toUInt32 31)).toInt32) &&& 1431655765)) &&& 858993459) + (((((nI sb) - ((((nI sb).toUInt32 >>> ((1 : Int32).toUInt32 &&& Int32.toUInt32 31)).toInt32) &&& 1431655765)).toUInt32 >>> ((2 : Int32).toUInt32 &&& Int32.toUInt32 31)).toInt32) &&& 858993459)).toUInt32 >>> ((4 : Int32).toUInt32 &&& Int32.toUInt32 31)).toInt32)) &&& 252645135).toUInt32 >>> ((8 : Int32).toUInt32 &&& Int32.toUInt32 31)).toInt32)).toUInt32 >>> ((16 : Int32).toUInt32 &&& Int32.toUInt32 31)).toInt32)))]) hx hb dJ6_bitCount_0f7a4_47 rfl hl (by decide) rfl (fun ls hl => ?_)
  refine lv_iload_n hx hb dJ6_bitCount_0f7a4_48 rfl (lv_at hl 0 rfl) ?_
  refine lv_bipush (v := 63) hx hb dJ6_bitCount_0f7a4_49 (by decide) ?_
  refine lv_iand hx hb dJ6_bitCount_0f7a4_51 ?_
  exact W.iret (v := ((((((((nI sb) - ((((nI sb).toUInt32 >>> ((1 : Int32).toUInt32 &&& Int32.toUInt32 31)).toInt32) &&& 1431655765)) &&& 858993459) + (((((nI sb) - ((((nI sb).toUInt32 >>> ((1 : Int32).toUInt32 &&& Int32.toUInt32 31)).toInt32) &&& 1431655765)).toUInt32 >>> ((2 : Int32).toUInt32 &&& Int32.toUInt32 31)).toInt32) &&& 858993459)) + ((((((nI sb) - ((((nI sb).toUInt32 >>> ((1 : Int32).toUInt32 &&& Int32.toUInt32 31)).toInt32) &&& 1431655765)) &&& 858993459) + (((((nI sb) - ((((nI sb).toUInt32 >>> ((1 : Int32).toUInt32 &&& Int32.toUInt32 31)).toInt32) &&& 1431655765)).toUInt32 >>> ((2 : Int32).toUInt32 &&& Int32.toUInt32 31)).toInt32) &&& 858993459)).toUInt32 >>> ((4 : Int32).toUInt32 &&& Int32.toUInt32 31)).toInt32)) &&& 252645135) + ((((((((nI sb) - ((((nI sb).toUInt32 >>> ((1 : Int32).toUInt32 &&& Int32.toUInt32 31)).toInt32) &&& 1431655765)) &&& 858993459) + (((((nI sb) - ((((nI sb).toUInt32 >>> ((1 : Int32).toUInt32 &&& Int32.toUInt32 31)).toInt32) &&& 1431655765)).toUInt32 >>> ((2 : Int32).toUInt32 &&& Int32.toUInt32 31)).toInt32) &&& 858993459)) + ((((((nI sb) - ((((nI sb).toUInt32 >>> ((1 : Int32).toUInt32 &&& Int32.toUInt32 31)).toInt32) &&& 1431655765)) &&& 858993459) + (((((nI sb) - ((((nI sb).toUInt32 >>> ((1 : Int32).toUInt32 &&& Int32.toUInt32 31)).toInt32) &&& 1431655765)).toUInt32 >>> ((2 : Int32).toUInt32 &&& Int32.toUInt32 31)).toInt32) &&& 858993459)).toUInt32 >>> ((4 : Int32).toUInt32 &&& Int32.toUInt32 31)).toInt32)) &&& 252645135).toUInt32 >>> ((8 : Int32).toUInt32 &&& Int32.toUInt32 31)).toInt32)) + (((((((((nI sb) - ((((nI sb).toUInt32 >>> ((1 : Int32).toUInt32 &&& Int32.toUInt32 31)).toInt32) &&& 1431655765)) &&& 858993459) + (((((nI sb) - ((((nI sb).toUInt32 >>> ((1 : Int32).toUInt32 &&& Int32.toUInt32 31)).toInt32) &&& 1431655765)).toUInt32 >>> ((2 : Int32).toUInt32 &&& Int32.toUInt32 31)).toInt32) &&& 858993459)) + ((((((nI sb) - ((((nI sb).toUInt32 >>> ((1 : Int32).toUInt32 &&& Int32.toUInt32 31)).toInt32) &&& 1431655765)) &&& 858993459) + (((((nI sb) - ((((nI sb).toUInt32 >>> ((1 : Int32).toUInt32 &&& Int32.toUInt32 31)).toInt32) &&& 1431655765)).toUInt32 >>> ((2 : Int32).toUInt32 &&& Int32.toUInt32 31)).toInt32) &&& 858993459)).toUInt32 >>> ((4 : Int32).toUInt32 &&& Int32.toUInt32 31)).toInt32)) &&& 252645135) + ((((((((nI sb) - ((((nI sb).toUInt32 >>> ((1 : Int32).toUInt32 &&& Int32.toUInt32 31)).toInt32) &&& 1431655765)) &&& 858993459) + (((((nI sb) - ((((nI sb).toUInt32 >>> ((1 : Int32).toUInt32 &&& Int32.toUInt32 31)).toInt32) &&& 1431655765)).toUInt32 >>> ((2 : Int32).toUInt32 &&& Int32.toUInt32 31)).toInt32) &&& 858993459)) + ((((((nI sb) - ((((nI sb).toUInt32 >>> ((1 : Int32).toUInt32 &&& Int32.toUInt32 31)).toInt32) &&& 1431655765)) &&& 858993459) + (((((nI sb) - ((((nI sb).toUInt32 >>> ((1 : Int32).toUInt32 &&& Int32.toUInt32 31)).toInt32) &&& 1431655765)).toUInt32 >>> ((2 : Int32).toUInt32 &&& Int32.toUInt32 31)).toInt32) &&& 858993459)).toUInt32 >>> ((4 : Int32).toUInt32 &&& Int32.toUInt32 31)).toInt32)) &&& 252645135).toUInt32 >>> ((8 : Int32).toUInt32 &&& Int32.toUInt32 31)).toInt32)).toUInt32 >>> ((16 : Int32).toUInt32 &&& Int32.toUInt32 31)).toInt32)) &&& 63) hx hb hr (fun t ht hW => ⟨⟨((((((((nI sb) - ((((nI sb).toUInt32 >>> ((1 : Int32).toUInt32 &&& Int32.toUInt32 31)).toInt32) &&& 1431655765)) &&& 858993459) + (((((nI sb) - ((((nI sb).toUInt32 >>> ((1 : Int32).toUInt32 &&& Int32.toUInt32 31)).toInt32) &&& 1431655765)).toUInt32 >>> ((2 : Int32).toUInt32 &&& Int32.toUInt32 31)).toInt32) &&& 858993459)) + ((((((nI sb) - ((((nI sb).toUInt32 >>> ((1 : Int32).toUInt32 &&& Int32.toUInt32 31)).toInt32) &&& 1431655765)) &&& 858993459) + (((((nI sb) - ((((nI sb).toUInt32 >>> ((1 : Int32).toUInt32 &&& Int32.toUInt32 31)).toInt32) &&& 1431655765)).toUInt32 >>> ((2 : Int32).toUInt32 &&& Int32.toUInt32 31)).toInt32) &&& 858993459)).toUInt32 >>> ((4 : Int32).toUInt32 &&& Int32.toUInt32 31)).toInt32)) &&& 252645135) + ((((((((nI sb) - ((((nI sb).toUInt32 >>> ((1 : Int32).toUInt32 &&& Int32.toUInt32 31)).toInt32) &&& 1431655765)) &&& 858993459) + (((((nI sb) - ((((nI sb).toUInt32 >>> ((1 : Int32).toUInt32 &&& Int32.toUInt32 31)).toInt32) &&& 1431655765)).toUInt32 >>> ((2 : Int32).toUInt32 &&& Int32.toUInt32 31)).toInt32) &&& 858993459)) + ((((((nI sb) - ((((nI sb).toUInt32 >>> ((1 : Int32).toUInt32 &&& Int32.toUInt32 31)).toInt32) &&& 1431655765)) &&& 858993459) + (((((nI sb) - ((((nI sb).toUInt32 >>> ((1 : Int32).toUInt32 &&& Int32.toUInt32 31)).toInt32) &&& 1431655765)).toUInt32 >>> ((2 : Int32).toUInt32 &&& Int32.toUInt32 31)).toInt32) &&& 858993459)).toUInt32 >>> ((4 : Int32).toUInt32 &&& Int32.toUInt32 31)).toInt32)) &&& 252645135).toUInt32 >>> ((8 : Int32).toUInt32 &&& Int32.toUInt32 31)).toInt32)) + (((((((((nI sb) - ((((nI sb).toUInt32 >>> ((1 : Int32).toUInt32 &&& Int32.toUInt32 31)).toInt32) &&& 1431655765)) &&& 858993459) + (((((nI sb) - ((((nI sb).toUInt32 >>> ((1 : Int32).toUInt32 &&& Int32.toUInt32 31)).toInt32) &&& 1431655765)).toUInt32 >>> ((2 : Int32).toUInt32 &&& Int32.toUInt32 31)).toInt32) &&& 858993459)) + ((((((nI sb) - ((((nI sb).toUInt32 >>> ((1 : Int32).toUInt32 &&& Int32.toUInt32 31)).toInt32) &&& 1431655765)) &&& 858993459) + (((((nI sb) - ((((nI sb).toUInt32 >>> ((1 : Int32).toUInt32 &&& Int32.toUInt32 31)).toInt32) &&& 1431655765)).toUInt32 >>> ((2 : Int32).toUInt32 &&& Int32.toUInt32 31)).toInt32) &&& 858993459)).toUInt32 >>> ((4 : Int32).toUInt32 &&& Int32.toUInt32 31)).toInt32)) &&& 252645135) + ((((((((nI sb) - ((((nI sb).toUInt32 >>> ((1 : Int32).toUInt32 &&& Int32.toUInt32 31)).toInt32) &&& 1431655765)) &&& 858993459) + (((((nI sb) - ((((nI sb).toUInt32 >>> ((1 : Int32).toUInt32 &&& Int32.toUInt32 31)).toInt32) &&& 1431655765)).toUInt32 >>> ((2 : Int32).toUInt32 &&& Int32.toUInt32 31)).toInt32) &&& 858993459)) + ((((((nI sb) - ((((nI sb).toUInt32 >>> ((1 : Int32).toUInt32 &&& Int32.toUInt32 31)).toInt32) &&& 1431655765)) &&& 858993459) + (((((nI sb) - ((((nI sb).toUInt32 >>> ((1 : Int32).toUInt32 &&& Int32.toUInt32 31)).toInt32) &&& 1431655765)).toUInt32 >>> ((2 : Int32).toUInt32 &&& Int32.toUInt32 31)).toInt32) &&& 858993459)).toUInt32 >>> ((4 : Int32).toUInt32 &&& Int32.toUInt32 31)).toInt32)) &&& 252645135).toUInt32 >>> ((8 : Int32).toUInt32 &&& Int32.toUInt32 31)).toInt32)).toUInt32 >>> ((16 : Int32).toUInt32 &&& Int32.toUInt32 31)).toInt32)) &&& 63, (fun _ => 0), rfl, ((by decide +kernel : ∀ s : Nat, s < 16 → ((((((((nI s) - ((((nI s).toUInt32 >>> ((1 : Int32).toUInt32 &&& Int32.toUInt32 31)).toInt32) &&& 1431655765)) &&& 858993459) + (((((nI s) - ((((nI s).toUInt32 >>> ((1 : Int32).toUInt32 &&& Int32.toUInt32 31)).toInt32) &&& 1431655765)).toUInt32 >>> ((2 : Int32).toUInt32 &&& Int32.toUInt32 31)).toInt32) &&& 858993459)) + ((((((nI s) - ((((nI s).toUInt32 >>> ((1 : Int32).toUInt32 &&& Int32.toUInt32 31)).toInt32) &&& 1431655765)) &&& 858993459) + (((((nI s) - ((((nI s).toUInt32 >>> ((1 : Int32).toUInt32 &&& Int32.toUInt32 31)).toInt32) &&& 1431655765)).toUInt32 >>> ((2 : Int32).toUInt32 &&& Int32.toUInt32 31)).toInt32) &&& 858993459)).toUInt32 >>> ((4 : Int32).toUInt32 &&& Int32.toUInt32 31)).toInt32)) &&& 252645135) + ((((((((nI s) - ((((nI s).toUInt32 >>> ((1 : Int32).toUInt32 &&& Int32.toUInt32 31)).toInt32) &&& 1431655765)) &&& 858993459) + (((((nI s) - ((((nI s).toUInt32 >>> ((1 : Int32).toUInt32 &&& Int32.toUInt32 31)).toInt32) &&& 1431655765)).toUInt32 >>> ((2 : Int32).toUInt32 &&& Int32.toUInt32 31)).toInt32) &&& 858993459)) + ((((((nI s) - ((((nI s).toUInt32 >>> ((1 : Int32).toUInt32 &&& Int32.toUInt32 31)).toInt32) &&& 1431655765)) &&& 858993459) + (((((nI s) - ((((nI s).toUInt32 >>> ((1 : Int32).toUInt32 &&& Int32.toUInt32 31)).toInt32) &&& 1431655765)).toUInt32 >>> ((2 : Int32).toUInt32 &&& Int32.toUInt32 31)).toInt32) &&& 858993459)).toUInt32 >>> ((4 : Int32).toUInt32 &&& Int32.toUInt32 31)).toInt32)) &&& 252645135).toUInt32 >>> ((8 : Int32).toUInt32 &&& Int32.toUInt32 31)).toInt32)) + (((((((((nI s) - ((((nI s).toUInt32 >>> ((1 : Int32).toUInt32 &&& Int32.toUInt32 31)).toInt32) &&& 1431655765)) &&& 858993459) + (((((nI s) - ((((nI s).toUInt32 >>> ((1 : Int32).toUInt32 &&& Int32.toUInt32 31)).toInt32) &&& 1431655765)).toUInt32 >>> ((2 : Int32).toUInt32 &&& Int32.toUInt32 31)).toInt32) &&& 858993459)) + ((((((nI s) - ((((nI s).toUInt32 >>> ((1 : Int32).toUInt32 &&& Int32.toUInt32 31)).toInt32) &&& 1431655765)) &&& 858993459) + (((((nI s) - ((((nI s).toUInt32 >>> ((1 : Int32).toUInt32 &&& Int32.toUInt32 31)).toInt32) &&& 1431655765)).toUInt32 >>> ((2 : Int32).toUInt32 &&& Int32.toUInt32 31)).toInt32) &&& 858993459)).toUInt32 >>> ((4 : Int32).toUInt32 &&& Int32.toUInt32 31)).toInt32)) &&& 252645135) + ((((((((nI s) - ((((nI s).toUInt32 >>> ((1 : Int32).toUInt32 &&& Int32.toUInt32 31)).toInt32) &&& 1431655765)) &&& 858993459) + (((((nI s) - ((((nI s).toUInt32 >>> ((1 : Int32).toUInt32 &&& Int32.toUInt32 31)).toInt32) &&& 1431655765)).toUInt32 >>> ((2 : Int32).toUInt32 &&& Int32.toUInt32 31)).toInt32) &&& 858993459)) + ((((((nI s) - ((((nI s).toUInt32 >>> ((1 : Int32).toUInt32 &&& Int32.toUInt32 31)).toInt32) &&& 1431655765)) &&& 858993459) + (((((nI s) - ((((nI s).toUInt32 >>> ((1 : Int32).toUInt32 &&& Int32.toUInt32 31)).toInt32) &&& 1431655765)).toUInt32 >>> ((2 : Int32).toUInt32 &&& Int32.toUInt32 31)).toInt32) &&& 858993459)).toUInt32 >>> ((4 : Int32).toUInt32 &&& Int32.toUInt32 31)).toInt32)) &&& 252645135).toUInt32 >>> ((8 : Int32).toUInt32 &&& Int32.toUInt32 31)).toInt32)).toUInt32 >>> ((16 : Int32).toUInt32 &&& Int32.toUInt32 31)).toInt32)) &&& 63 = nI (pcN s)) sb (by omega)), trivial⟩, hS.F ht⟩) hS.2.2 dJ6_bitCount_0f7a4_52
set_option maxHeartbeats 4000000 in
set_option maxRecDepth 100000 in
theorem c_X2_bestToLookAtD (l : Launch) (dC : Nat → ClassId) (dI : Nat → Nat → Nat) (cI cZ cQ : ClassId) (h0 : Nat) (n : Nat) (ho : Nat) (e2 : Nat) (e3 : Nat) (e4 : Nat) (f_h0 : List Value) (fe2 : Nat → Int32) (fe3 : Nat → Int32) (fe4 : Nat → Int32) (o5 : Nat) (o6 : Nat) (o7 : Nat) (o10 : Nat) (o11 : Nat) (o12 : Nat) (nq : Nat) (nh : Nat) (f_ho : List Value) (fo5 : Nat → Int32) (fo6 : Nat → Int32) (fo7 : Nat → Int32) (fo10 : Nat → Int32) (fo11 : Nat → Int32) (sz : Nat) (e_h0_0 : fAt f_h0 0 = some (.int (nI n))) (e_h0_1 : fAt f_h0 1 = some (.ref ho)) (e_h0_2 : fAt f_h0 2 = some (.ref e2)) (e_h0_3 : fAt f_h0 3 = some (.ref e3)) (e_h0_4 : fAt f_h0 4 = some (.ref e4)) (e_ho_5 : fAt f_ho 5 = some (.ref o5)) (e_ho_6 : fAt f_ho 6 = some (.ref o6)) (e_ho_7 : fAt f_ho 7 = some (.ref o7)) (e_ho_10 : fAt f_ho 10 = some (.ref o10)) (e_ho_11 : fAt f_ho 11 = some (.ref o11)) (e_ho_12 : fAt f_ho 12 = some (.ref o12)) (e_ho_3 : fAt f_ho 3 = some (.int (nI nq))) (e_ho_4 : fAt f_ho 4 = some (.int (nI nh))) (hn : n ≤ 6) (hnh : nh ≤ 4) (hnq : nq ≤ 8) (hqi : qIn fe2 n) : Met l yX2_bestToLookAt wsX2_bestToLookAt ({ frames := 4, cells := 0, slots := 0, locals := 134 }) (va_Pc [.ref h0] (fun U => U.heap.size = sz ∧ va_P (dC, dI) vwCl [(h0, .inr (2, f_h0)), (e2, .inl (cI, 6, .inl fe2)), (e3, .inl (cI, 6, .inl fe3)), (e4, .inl (cI, 6, .inl fe4)), (ho, .inr (5, f_ho)), (o5, .inl (cI, 8, .inl fo5)), (o6, .inl (cI, 8, .inl fo6)), (o7, .inl (cI, 8, .inl fo7)), (o10, .inl (cI, 4, .inl fo10)), (o11, .inl (cI, 4, .inl fo11))] U.heap ∧ va_K (dC, dI) vwCl (tys0 cI cZ cQ) U ∧ xN U)) (va_Qi (fun (r : Int32) (u : Nat → Nat) => lkP nq nh (wnP (fun j k => wrF (fo5 j) (fo6 j) (fo7 j) (fo10 k) (fo11 k)) fe2 fe3 fe4 n) (fun q h => wrF (fo5 q) (fo6 q) (fo7 q) (fo10 h) (fo11 h)) r) (fun (_ : Nat → Nat) (_ : State) => True) (fun _ : Nat => False)) 0 0 (fun _ : Nat => False) := by
  refine Met.ofW (cc := cX2_bestToLookAt) (maxL := 6) (ret := (some .int)) (by decide) rfl ?_
  intro p e s m args below meth c s₁ B hml hv
  obtain ⟨rfl, hsz, hP, hK, hN⟩ := hv
  have hx := B.exec
  have hb := B.bytes
  have hr := B.returns
  have hts := atoms_spec (ws := wsX2_bestToLookAt) B.pre
  have hown : s.vm.findClass RX2 = some m.cls := findClass_of_methodNamed B.named
  have hlocks := B.notSynchronized
  have hi_X2 : ∀ w ∈ u_ws RX2 TX2 5, w ∈ wsX2_bestToLookAt := fun _ h => List.mem_cons_of_mem _ (List.mem_append_left _ (List.mem_append_right _ (h)))
  have hi_X5 : ∀ w ∈ u_ws RX5 TX5 13, w ∈ wsX2_bestToLookAt := fun _ h => List.mem_cons_of_mem _ (List.mem_append_right _ (h))
  subst hsz
  have hS : va_S (fun _ : Nat => False) s.heap s.heap [] := va_S.rf
  have hl := lv_entry ([.ref h0]) (n := 6) (Nat.le_of_ble_eq_true rfl)
  rw [lg_entry_eq]
  generalize (lg_sl ([.ref h0]) ++ List.replicate (6 - (lg_sl ([.ref h0])).length) Slot.unset).toArray = ls at hl ⊢
  have hl : lv_has ls 6 [(0, .ref h0)] := hl
  refine lv_aload_n hx hb dX2_bestToLookAt_0 rfl (lv_at hl 0 rfl) ?_
  have hPc := hP.sub (ws' := [(h0, .inr (2, f_h0)), (e2, .inl (cI, 6, .inl fe2)), (e3, .inl (cI, 6, .inl fe3)), (e4, .inl (cI, 6, .inl fe4)), (ho, .inr (5, f_ho)), (o5, .inl (cI, 8, .inl fo5)), (o6, .inl (cI, 8, .inl fo6)), (o7, .inl (cI, 8, .inl fo7)), (o10, .inl (cI, 4, .inl fo10)), (o11, .inl (cI, 4, .inl fo11))]) [0, 1, 2, 3, 4, 5, 6, 7, 8, 9] rfl
  refine va_calli (va_runV (As := []) (rest := []) ⟨hx, hb, hml, hown, hts⟩ (c_X2_fittingHandsD l dC dI cI cZ cQ h0 n ho e2 e3 e4 f_h0 fe2 fe3 fe4 o5 o6 o7 o10 o11 o12 nh f_ho fo5 fo6 fo7 fo10 fo11 s.heap.size e_h0_0 e_h0_1 e_h0_2 e_h0_3 e_h0_4 e_ho_5 e_ho_6 e_ho_7 e_ho_10 e_ho_11 e_ho_12 e_ho_4 (by omega) (by omega) (by first | assumption | decide)) (cwV 0 hts gX2_bestToLookAt_X2_fittingHands rfl rfl rfl hd_X2_fittingHands_RX2 ⟨Nat.le_of_ble_eq_true rfl, Nat.le_of_ble_eq_true rfl⟩) ⟨fun a U g mk q => by obtain ⟨q0, q1, qP, qK, qN⟩ := q; exact ⟨q0, q1, qP, va_K.moved (u := U) (U := U.calling g mk a) (Vm.Alike.refl U.vm) qK, qN.calling⟩, va_recv hK hP (ci := 2) (q0 := 0) rfl rfl, fun U hU hW => ⟨rfl, by rw [hU], by rw [hU]; exact hPc, va_K.moved hW.alike hK, hN.warm hW⟩⟩ rfl rfl hl.1 rfl (lv_room (Nat.le_of_ble_eq_true rfl)) dX2_bestToLookAt_1 ⟨Nat.le_of_ble_eq_true rfl, Nat.le_of_ble_eq_true rfl⟩) hS (fun q _ h => False.elim h) (fun q h => False.elim h) (fun r1 u2 t H1 locs ht hvm hw3 hB hz1 hk1 hS => ?_)
  have hP := hP.kept (fun k q hk => hk1 q.1 (hP k q hk).lt (fun h => h))
  clear hz1 hk1 hPc
  generalize H1 = H at hP hS ht ⊢
  try dsimp only at hw3
  obtain ⟨w4, hw4, ew4, hbw4⟩ := fh_nat nh (by omega) _ hw3
  subst ew4
  have hxw4 : w4 < 16 := Nat.lt_of_lt_of_le hw4 (Nat.pow_le_pow_right (n := 2) (by decide) (show nh ≤ 4 by omega))
  refine lv_istore_n (lv' := [(1, .int (nI w4)), (0, .ref h0)]) hx hb dX2_bestToLookAt_4 rfl hl (by decide) rfl (fun ls hl => ?_)
  refine lv_iconst (v := (-1)) hx hb dX2_bestToLookAt_5 (by decide) ?_
  refine lv_istore_n (lv' := [(2, .int (-1)), (1, .int (nI w4)), (0, .ref h0)]) hx hb dX2_bestToLookAt_6 rfl hl (by decide) rfl (fun ls hl => ?_)
  refine lv_iload_n hx hb dX2_bestToLookAt_7 rfl (lv_at hl 1 rfl) ?_
  have hPc := hP.sub (ws' := []) [] rfl
  refine va_calli (va_runS (As := [.int (nI w4)]) (rest := []) ⟨hx, hb, hml, hown, hts⟩ (c_bitCountD l dC dI cI cZ cQ w4 H.size (by omega)) (va_cwS 1 hts gX2_bestToLookAt_J6_bitCount_0f7a4 rfl rfl rfl (by decide +kernel) ⟨Nat.le_of_ble_eq_true rfl, Nat.le_of_ble_eq_true rfl⟩) (ps_R hK hPc) rfl rfl hl.1 rfl (lv_room (Nat.le_of_ble_eq_true rfl)) dX2_bestToLookAt_8 ⟨Nat.le_of_ble_eq_true rfl, Nat.le_of_ble_eq_true rfl⟩) hS (fun q _ h => False.elim h) (fun q h => False.elim h) (fun r5 u6 t H1 locs ht hvm hw7 hB hz1 hk1 hS => ?_)
  have hP := hP.kept (fun k q hk => hk1 q.1 (hP k q hk).lt (fun h => h))
  clear hz1 hk1 hPc
  generalize H1 = H at hP hS ht ⊢
  try dsimp only at hw7
  obtain ⟨w8, hw8, ew8, rfl⟩ := nat_ix pc_le hw7
  refine lv_istore_n (lv' := [(3, .int (nI w8)), (2, .int (-1)), (1, .int (nI w4)), (0, .ref h0)]) hx hb dX2_bestToLookAt_11 rfl hl (by decide) rfl (fun ls hl => ?_)
  refine lv_iconst (v := 0) hx hb dX2_bestToLookAt_12 (by decide) ?_
  refine lv_istore (lv' := [(4, .int 0), (3, .int (nI w8)), (2, .int (-1)), (1, .int (nI w4)), (0, .ref h0)]) hx hb dX2_bestToLookAt_13 hl (by decide) rfl (fun ls hl => ?_)
  refine (fun (K : ∀ (d15 : Nat) (k15 : Nat) (a15_2 : Int32) (a15_3 : Nat) (H : Heap) (locs : List Loc) (ls : Array Slot), k15 + d15 = nq → a15_3 ≤ 4 → (a15_2, a15_3) = laS (fun q => gaN ((fun q h => wrF (fo5 q) (fo6 q) (fo7 q) (fo10 h) (fo11 h)) q) w4 nh nh) (pcN w4) k15 → va_P (dC, dI) vwCl [(h0, .inr (2, f_h0)), (e2, .inl (cI, 6, .inl fe2)), (e3, .inl (cI, 6, .inl fe3)), (e4, .inl (cI, 6, .inl fe4)), (ho, .inr (5, f_ho)), (o5, .inl (cI, 8, .inl fo5)), (o6, .inl (cI, 8, .inl fo6)), (o7, .inl (cI, 8, .inl fo7)), (o10, .inl (cI, 4, .inl fo10)), (o11, .inl (cI, 4, .inl fo11))] H → va_S (fun _ : Nat => False) s.heap H locs → lv_has ls 6 [(4, .int (nI k15)), (2, .int a15_2), (3, .int (nI a15_3)), (1, .int (nI w4)), (0, .ref h0)] → W p l e _ s m _ below meth c H locs _ _ _ (F0 m 15 ls [])) => K nq 0 (-1) w8 _ _ _ (by omega) (by omega) (by rw [← ew8.out]; rfl) hP hS (lv_sub hl [0, 2, 1, 3, 4] rfl)) ?_
  intro d15
  induction d15 with
  | zero =>
    intro k15 a15_2 a15_3 H locs ls hk15 hn15_3 hv15_0 hP hS hl
    refine lv_iload hx hb dX2_bestToLookAt_15 (lv_at hl 0 rfl) ?_
    refine lv_aload_n hx hb dX2_bestToLookAt_17 rfl (lv_at hl 4 rfl) ?_
    refine va_get (D := (dC, dI)) (ci := 2) (v := .ref ho) (C := RX2) (T := TX2) (N := 5) hx hb hts hi_X2 hown hK hP 0 rfl rfl 1 (by decide) (hts (.fieldLink RX2 25 "LeftQuills$Evidence" "office" "LLeftQuills$Office;") (wmx 1 rfl)) (fun _ h9 => h9) e_h0_1 dX2_bestToLookAt_18 ?_
    refine va_get (D := (dC, dI)) (ci := 5) (v := .int (nI nq)) (C := RX5) (T := TX5) (N := 13) hx hb hts hi_X5 hown hK hP 4 rfl rfl 3 (by decide) (hts (.fieldLink RX2 55 "LeftQuills$Office" "quills" "I") (wmx 2 rfl)) (fun _ h9 => h9) e_ho_3 dX2_bestToLookAt_21 ?_
    refine lv_icmp_ge (tgt := 54) hx hb dX2_bestToLookAt_24 (by decide) (fun c9 => ?_) (fun c9 => ?_)
    ·
      have c9 : nq ≤ k15 := (nI_leI (a := nq) (b := k15) (by omega) (by omega)).mp c9
      refine lv_iload_n hx hb dX2_bestToLookAt_54 rfl (lv_at hl 1 rfl) ?_
      exact W.iret (v := a15_2) hx hb hr (fun t ht hW => ⟨⟨a15_2, (fun _ => 0), rfl, ⟨w4, hxw4, ⟨_, hw3, rfl⟩, (congrArg Prod.fst hv15_0).trans (by rw [show k15 = nq from by omega])⟩, trivial⟩, hS.F ht⟩) hS.2.2 dX2_bestToLookAt_55
    ·
      have c9 : ¬ nq ≤ k15 := fun h => c9 ((nI_leI (a := nq) (b := k15) (by omega) (by omega)).mpr h)
      omega
  | succ d15 ih15 =>
    intro k15 a15_2 a15_3 H locs ls hk15 hn15_3 hv15_0 hP hS hl
    refine lv_iload hx hb dX2_bestToLookAt_15 (lv_at hl 0 rfl) ?_
    refine lv_aload_n hx hb dX2_bestToLookAt_17 rfl (lv_at hl 4 rfl) ?_
    refine va_get (D := (dC, dI)) (ci := 2) (v := .ref ho) (C := RX2) (T := TX2) (N := 5) hx hb hts hi_X2 hown hK hP 0 rfl rfl 1 (by decide) (hts (.fieldLink RX2 25 "LeftQuills$Evidence" "office" "LLeftQuills$Office;") (wmx 1 rfl)) (fun _ h9 => h9) e_h0_1 dX2_bestToLookAt_18 ?_
    refine va_get (D := (dC, dI)) (ci := 5) (v := .int (nI nq)) (C := RX5) (T := TX5) (N := 13) hx hb hts hi_X5 hown hK hP 4 rfl rfl 3 (by decide) (hts (.fieldLink RX2 55 "LeftQuills$Office" "quills" "I") (wmx 2 rfl)) (fun _ h9 => h9) e_ho_3 dX2_bestToLookAt_21 ?_
    refine lv_icmp_ge (tgt := 54) hx hb dX2_bestToLookAt_24 (by decide) (fun c10 => ?_) (fun c10 => ?_)
    ·
      have c10 : nq ≤ k15 := (nI_leI (a := nq) (b := k15) (by omega) (by omega)).mp c10
      omega
    ·
      have c10 : ¬ nq ≤ k15 := fun h => c10 ((nI_leI (a := nq) (b := k15) (by omega) (by omega)).mpr h)
      refine lv_aload_n hx hb dX2_bestToLookAt_27 rfl (lv_at hl 4 rfl) ?_
      refine lv_iload hx hb dX2_bestToLookAt_28 (lv_at hl 0 rfl) ?_
      refine lv_iload_n hx hb dX2_bestToLookAt_30 rfl (lv_at hl 3 rfl) ?_
      have hPc := hP.sub (ws' := [(h0, .inr (2, f_h0)), (ho, .inr (5, f_ho)), (o5, .inl (cI, 8, .inl fo5)), (o6, .inl (cI, 8, .inl fo6)), (o7, .inl (cI, 8, .inl fo7)), (o10, .inl (cI, 4, .inl fo10)), (o11, .inl (cI, 4, .inl fo11))]) [0, 4, 5, 6, 7, 8, 9] rfl
      refine va_calli (va_runV (As := [.int (nI k15), .int (nI w4)]) (rest := []) ⟨hx, hb, hml, hown, hts⟩ (c_X2_greatestAlikeD l dC dI cI cZ cQ h0 ho f_h0 o5 o6 o7 o10 o11 o12 nh f_ho fo5 fo6 fo7 fo10 fo11 k15 w4 H.size e_h0_1 e_ho_5 e_ho_6 e_ho_7 e_ho_10 e_ho_11 e_ho_12 e_ho_4 (by omega) (by omega) (by omega)) (cwV 2 hts gX2_bestToLookAt_X2_greatestAlike rfl rfl rfl hd_X2_greatestAlike_RX2 ⟨Nat.le_of_ble_eq_true rfl, Nat.le_of_ble_eq_true rfl⟩) (pv_R (va_recv hK hP (ci := 2) (q0 := 0) rfl rfl) hK hPc) rfl rfl hl.1 rfl (lv_room (Nat.le_of_ble_eq_true rfl)) dX2_bestToLookAt_31 ⟨Nat.le_of_ble_eq_true rfl, Nat.le_of_ble_eq_true rfl⟩) hS (fun q _ h => False.elim h) (fun q h => False.elim h) (fun r11 u12 t H1 locs ht hvm hw13 hB hz1 hk1 hS => ?_)
      have hP := hP.kept (fun k q hk => hk1 q.1 (hP k q hk).lt (fun h => h))
      clear hz1 hk1 hPc
      generalize H1 = H at hP hS ht ⊢
      try dsimp only at hw13
      obtain ⟨w14, hw14, ew14, rfl⟩ := nat_ix (gaN_le _) hw13
      refine lv_istore (lv' := [(5, .int (nI w14)), (4, .int (nI k15)), (2, .int a15_2), (3, .int (nI a15_3)), (1, .int (nI w4)), (0, .ref h0)]) hx hb dX2_bestToLookAt_34 hl (by decide) rfl (fun ls hl => ?_)
      refine lv_iload hx hb dX2_bestToLookAt_36 (lv_at hl 0 rfl) ?_
      refine lv_iload_n hx hb dX2_bestToLookAt_38 rfl (lv_at hl 3 rfl) ?_
      refine lv_icmp_ge (tgt := 48) hx hb dX2_bestToLookAt_39 (by decide) (fun c15 => ?_) (fun c15 => ?_)
      ·
        have c15 : a15_3 ≤ w14 := (nI_leI (a := a15_3) (b := w14) (by omega) (by omega)).mp c15
        refine lv_iinc (v := nI (k15 + 1)) (lv' := [(4, .int (nI (k15 + 1))), (5, .int (nI w14)), (2, .int a15_2), (3, .int (nI a15_3)), (1, .int (nI w4)), (0, .ref h0)]) hx hb dX2_bestToLookAt_48 hl (k := 1) rfl ((rfl : nI k15 + Int32.ofInt 1 = nI k15 + 1).trans (nI_add k15 1)) (by decide) rfl (fun ls hl => ?_)
        refine lv_goto (tgt := 15) hx hb dX2_bestToLookAt_51 (by decide) ?_
        exact ih15 (k15 + 1) a15_2 a15_3 _ _ _ (by omega) (by omega) (la_n hv15_0 ew14.out (by omega)) hP hS (lv_sub hl [0, 2, 3, 4, 5] rfl)
      ·
        have c15 : ¬ a15_3 ≤ w14 := fun h => c15 ((nI_leI (a := a15_3) (b := w14) (by omega) (by omega)).mpr h)
        refine lv_iload hx hb dX2_bestToLookAt_42 (lv_at hl 0 rfl) ?_
        refine lv_istore_n (lv' := [(3, .int (nI w14)), (5, .int (nI w14)), (4, .int (nI k15)), (2, .int a15_2), (1, .int (nI w4)), (0, .ref h0)]) hx hb dX2_bestToLookAt_44 rfl hl (by decide) rfl (fun ls hl => ?_)
        refine lv_iload hx hb dX2_bestToLookAt_45 (lv_at hl 2 rfl) ?_
        refine lv_istore_n (lv' := [(2, .int (nI k15)), (3, .int (nI w14)), (5, .int (nI w14)), (4, .int (nI k15)), (1, .int (nI w4)), (0, .ref h0)]) hx hb dX2_bestToLookAt_47 rfl hl (by decide) rfl (fun ls hl => ?_)
        refine lv_iinc (v := nI (k15 + 1)) (lv' := [(4, .int (nI (k15 + 1))), (2, .int (nI k15)), (3, .int (nI w14)), (5, .int (nI w14)), (1, .int (nI w4)), (0, .ref h0)]) hx hb dX2_bestToLookAt_48 hl (k := 3) rfl ((rfl : nI k15 + Int32.ofInt 1 = nI k15 + 1).trans (nI_add k15 1)) (by decide) rfl (fun ls hl => ?_)
        refine lv_goto (tgt := 15) hx hb dX2_bestToLookAt_51 (by decide) ?_
        exact ih15 (k15 + 1) (nI k15) w14 _ _ _ (by omega) (by omega) (la_y hv15_0 ew14.out (by omega)) hP hS (lv_sub hl [0, 1, 2, 4, 5] rfl)
set_option maxHeartbeats 4000000 in
set_option maxRecDepth 100000 in
theorem c_X10_lookAtD (l : Launch) (dC : Nat → ClassId) (dI : Nat → Nat → Nat) (cI cZ cQ : ClassId) (h0 : Nat) (x12 : Nat) (f_h0 : List Value) (n : Nat) (x4 : Nat) (e2 : Nat) (e3 : Nat) (e4 : Nat) (f_x12 : List Value) (fe2 : Nat → Int32) (fe3 : Nat → Int32) (fe4 : Nat → Int32) (o5 : Nat) (o6 : Nat) (o7 : Nat) (o10 : Nat) (o11 : Nat) (o12 : Nat) (nq : Nat) (nh : Nat) (f_x4 : List Value) (fo5 : Nat → Int32) (fo6 : Nat → Int32) (fo7 : Nat → Int32) (fo10 : Nat → Int32) (fo11 : Nat → Int32) (sz : Nat) (e_h0_12 : fAt f_h0 12 = some (.ref x12)) (e_x12_0 : fAt f_x12 0 = some (.int (nI n))) (e_x12_1 : fAt f_x12 1 = some (.ref x4)) (e_x12_2 : fAt f_x12 2 = some (.ref e2)) (e_x12_3 : fAt f_x12 3 = some (.ref e3)) (e_x12_4 : fAt f_x12 4 = some (.ref e4)) (e_x4_5 : fAt f_x4 5 = some (.ref o5)) (e_x4_6 : fAt f_x4 6 = some (.ref o6)) (e_x4_7 : fAt f_x4 7 = some (.ref o7)) (e_x4_10 : fAt f_x4 10 = some (.ref o10)) (e_x4_11 : fAt f_x4 11 = some (.ref o11)) (e_x4_12 : fAt f_x4 12 = some (.ref o12)) (e_x4_3 : fAt f_x4 3 = some (.int (nI nq))) (e_x4_4 : fAt f_x4 4 = some (.int (nI nh))) (hnq : nq ≤ 8) (hnh : nh ≤ 4) (hn : n ≤ 6) (hqi : qIn fe2 n) : Met l yX10_lookAt wsX10_lookAt ({ frames := 5, cells := 0, slots := 0, locals := 159 }) (va_Pc [.ref h0] (fun U => U.heap.size = sz ∧ va_P (dC, dI) vwCl [(h0, .inr (10, f_h0)), (x12, .inr (2, f_x12)), (e2, .inl (cI, 6, .inl fe2)), (e3, .inl (cI, 6, .inl fe3)), (e4, .inl (cI, 6, .inl fe4)), (x4, .inr (5, f_x4)), (o5, .inl (cI, 8, .inl fo5)), (o6, .inl (cI, 8, .inl fo6)), (o7, .inl (cI, 8, .inl fo7)), (o10, .inl (cI, 4, .inl fo10)), (o11, .inl (cI, 4, .inl fo11))] U.heap ∧ va_K (dC, dI) vwCl (tys0 cI cZ cQ) U ∧ xN U)) (va_Qi (fun (r : Int32) (u : Nat → Nat) => lkP nq nh (wnP (fun j k => wrF (fo5 j) (fo6 j) (fo7 j) (fo10 k) (fo11 k)) fe2 fe3 fe4 n) (fun q h => wrF (fo5 q) (fo6 q) (fo7 q) (fo10 h) (fo11 h)) r) (fun (_ : Nat → Nat) (_ : State) => True) (fun _ : Nat => False)) 0 0 (fun _ : Nat => False) := by
  refine Met.ofW (cc := cX10_lookAt) (maxL := 1) (ret := (some .int)) (by decide) rfl ?_
  intro p e s m args below meth c s₁ B hml hv
  obtain ⟨rfl, hsz, hP, hK, hN⟩ := hv
  have hx := B.exec
  have hb := B.bytes
  have hr := B.returns
  have hts := atoms_spec (ws := wsX10_lookAt) B.pre
  have hown : s.vm.findClass RX10 = some m.cls := findClass_of_methodNamed B.named
  have hlocks := B.notSynchronized
  have hi_X10 : ∀ w ∈ u_ws RX10 TX10 14, w ∈ wsX10_lookAt := fun _ h => List.mem_cons_of_mem _ (List.mem_append_left _ (List.mem_append_left _ (List.mem_append_right _ (h))))
  subst hsz
  have hS : va_S (fun _ : Nat => False) s.heap s.heap [] := va_S.rf
  have hl := lv_entry ([.ref h0]) (n := 1) (Nat.le_of_ble_eq_true rfl)
  rw [lg_entry_eq]
  generalize (lg_sl ([.ref h0]) ++ List.replicate (1 - (lg_sl ([.ref h0])).length) Slot.unset).toArray = ls at hl ⊢
  have hl : lv_has ls 1 [(0, .ref h0)] := hl
  refine lv_aload_n hx hb dX10_lookAt_0 rfl (lv_at hl 0 rfl) ?_
  refine va_get (D := (dC, dI)) (ci := 10) (v := .ref x12) (C := RX10) (T := TX10) (N := 14) hx hb hts hi_X10 hown hK hP 0 rfl rfl 12 (by decide) (hts (.fieldLink RX10 88 "LeftQuills" "evidence" "LLeftQuills$Evidence;") (wmx 1 rfl)) (fun _ h9 => h9) e_h0_12 dX10_lookAt_1 ?_
  have hPc := hP.sub (ws' := [(x12, .inr (2, f_x12)), (e2, .inl (cI, 6, .inl fe2)), (e3, .inl (cI, 6, .inl fe3)), (e4, .inl (cI, 6, .inl fe4)), (x4, .inr (5, f_x4)), (o5, .inl (cI, 8, .inl fo5)), (o6, .inl (cI, 8, .inl fo6)), (o7, .inl (cI, 8, .inl fo7)), (o10, .inl (cI, 4, .inl fo10)), (o11, .inl (cI, 4, .inl fo11))]) [1, 2, 3, 4, 5, 6, 7, 8, 9, 10] rfl
  refine va_calli (va_runV (As := []) (rest := []) ⟨hx, hb, hml, hown, hts⟩ (c_X2_bestToLookAtD l dC dI cI cZ cQ x12 n x4 e2 e3 e4 f_x12 fe2 fe3 fe4 o5 o6 o7 o10 o11 o12 nq nh f_x4 fo5 fo6 fo7 fo10 fo11 s.heap.size e_x12_0 e_x12_1 e_x12_2 e_x12_3 e_x12_4 e_x4_5 e_x4_6 e_x4_7 e_x4_10 e_x4_11 e_x4_12 e_x4_3 e_x4_4 (by omega) (by omega) (by omega) (by first | assumption | decide)) (cwV 0 hts gX10_lookAt_X2_bestToLookAt rfl rfl rfl hd_X2_bestToLookAt_RX2 ⟨Nat.le_of_ble_eq_true rfl, Nat.le_of_ble_eq_true rfl⟩) ⟨fun a U g mk q => by obtain ⟨q0, q1, qP, qK, qN⟩ := q; exact ⟨q0, q1, qP, va_K.moved (u := U) (U := U.calling g mk a) (Vm.Alike.refl U.vm) qK, qN.calling⟩, va_recv hK hP (ci := 2) (q0 := 1) rfl rfl, fun U hU hW => ⟨rfl, by rw [hU], by rw [hU]; exact hPc, va_K.moved hW.alike hK, hN.warm hW⟩⟩ rfl rfl hl.1 rfl (lv_room (Nat.le_of_ble_eq_true rfl)) dX10_lookAt_4 ⟨Nat.le_of_ble_eq_true rfl, Nat.le_of_ble_eq_true rfl⟩) hS (fun q _ h => False.elim h) (fun q h => False.elim h) (fun r1 u2 t H1 locs ht hvm hw3 hB hz1 hk1 hS => ?_)
  have hP := hP.kept (fun k q hk => hk1 q.1 (hP k q hk).lt (fun h => h))
  clear hz1 hk1 hPc
  generalize H1 = H at hP hS ht ⊢
  try dsimp only at hw3
  exact W.iret (v := r1) hx hb hr (fun t ht hW => ⟨⟨r1, (fun _ => 0), rfl, hw3, trivial⟩, hS.F ht⟩) hS.2.2 dX10_lookAt_7
set_option maxHeartbeats 4000000 in
set_option maxRecDepth 100000 in
theorem c_X11_hasD (l : Launch) (dC : Nat → ClassId) (dI : Nat → Nat → Nat) (cI cZ cQ : ClassId) (sb : Nat) (n : Nat) (sz : Nat) (hsb : sb < 16) (hn : n < 4) : Met l yX11_has wsX11_has ({ frames := 0, cells := 0, slots := 0, locals := 40 }) (va_Pc [.int (nI sb), .int (nI n)] (fun U => U.heap.size = sz ∧ va_P (dC, dI) vwCl [] U.heap ∧ va_K (dC, dI) vwCl (tys0 cI cZ cQ) U)) (va_Qi (fun (r : Int32) (u : Nat → Nat) => (r = 1 ∧ sb.testBit n = true) ∨ (r = 0 ∧ ¬ sb.testBit n = true)) (fun (_ : Nat → Nat) (_ : State) => True) (fun _ : Nat => False)) 0 0 (fun _ : Nat => False) := by
  refine Met.ofW (cc := cX11_has) (maxL := 2) (ret := (some .boolean)) (by decide) rfl ?_
  intro p e s m args below meth c s₁ B hml hv
  obtain ⟨rfl, hsz, hP, hK⟩ := hv
  have hx := B.exec
  have hb := B.bytes
  have hr := B.returns
  have hts := atoms_spec (ws := wsX11_has) B.pre
  have hown : s.vm.findClass RX11 = some m.cls := findClass_of_methodNamed B.named
  have hlocks := B.notSynchronized
  subst hsz
  have hS : va_S (fun _ : Nat => False) s.heap s.heap [] := va_S.rf
  have hl := lv_entry ([.int (nI sb), .int (nI n)]) (n := 2) (Nat.le_of_ble_eq_true rfl)
  rw [lg_entry_eq]
  generalize (lg_sl ([.int (nI sb), .int (nI n)]) ++ List.replicate (2 - (lg_sl ([.int (nI sb), .int (nI n)])).length) Slot.unset).toArray = ls at hl ⊢
  have hl : lv_has ls 2 [(0, .int (nI sb)), (1, .int (nI n))] := hl
  refine lv_iload_n hx hb dX11_has_0 rfl (lv_at hl 0 rfl) ?_
  refine lv_iload_n hx hb dX11_has_1 rfl (lv_at hl 1 rfl) ?_
  refine lv_ishr hx hb dX11_has_2 ?_
  refine lv_iconst (v := 1) hx hb dX11_has_3 (by decide) ?_
  refine lv_iand hx hb dX11_has_4 ?_
  refine lv_topi (fun z1 ez1 => ?_)
  obtain ⟨w2, hw2, ekw2⟩ := pk_andE ((nI sb) >>> ((nI n) &&& 31)) (m := 1) 1 (by decide)
  have hw2 : w2 < 2 := hw2
  obtain rfl : z1 = nI w2 := ez1.trans ekw2
  refine lv_iconst (v := 1) hx hb dX11_has_5 (by decide) ?_
  refine lv_icmp_ne (tgt := 13) hx hb dX11_has_6 (by decide) (fun c3 => ?_) (fun c3 => ?_)
  ·
    have c3 : ¬ w2 = 1 := fun h => c3 ((nI_eq (a := w2) (b := 1) (by omega) (by omega)).mpr h)
    refine lv_iconst (v := 0) hx hb dX11_has_13 (by decide) ?_
    exact W.zret (v := 0) hx hb hr (rfl) (fun t ht hW => ⟨⟨0, (fun _ => 0), rfl, Or.inr ⟨rfl, bm_n (by omega) (by omega) (by omega) ekw2 (by omega)⟩, trivial⟩, hS.F ht⟩) hS.2.2 dX11_has_14
  ·
    have c3 : w2 = 1 := (nI_eq (a := w2) (b := 1) (by omega) (by omega)).mp c3
    refine lv_iconst (v := 1) hx hb dX11_has_9 (by decide) ?_
    refine lv_goto (tgt := 14) hx hb dX11_has_10 (by decide) ?_
    exact W.zret (v := 1) hx hb hr (rfl) (fun t ht hW => ⟨⟨1, (fun _ => 0), rfl, Or.inl ⟨rfl, bm_y (by omega) (by omega) ekw2 (by omega)⟩, trivial⟩, hS.F ht⟩) hS.2.2 dX11_has_14
set_option maxHeartbeats 4000000 in
set_option maxRecDepth 100000 in
theorem c_X11_bitsD (l : Launch) (dC : Nat → ClassId) (dI : Nat → Nat → Nat) (cI cZ cQ : ClassId) (sb : Nat) (sz : Nat) (hsb : sb < 16) : Met l yX11_bits wsX11_bits ({ frames := 0, cells := 0, slots := 0, locals := 40 }) (va_Pc [.int (nI sb)] (fun U => U.heap.size = sz ∧ va_P (dC, dI) vwCl [] U.heap ∧ va_K (dC, dI) vwCl (tys0 cI cZ cQ) U)) (va_Qi (fun (r : Int32) (u : Nat → Nat) => r = nI (pcN sb)) (fun (_ : Nat → Nat) (_ : State) => True) (fun _ : Nat => False)) 0 0 (fun _ : Nat => False) := by
  refine Met.ofW (cc := cX11_bits) (maxL := 3) (ret := (some .int)) (by decide) rfl ?_
  intro p e s m args below meth c s₁ B hml hv
  obtain ⟨rfl, hsz, hP, hK⟩ := hv
  have hx := B.exec
  have hb := B.bytes
  have hr := B.returns
  have hts := atoms_spec (ws := wsX11_bits) B.pre
  have hown : s.vm.findClass RX11 = some m.cls := findClass_of_methodNamed B.named
  have hlocks := B.notSynchronized
  subst hsz
  have hS : va_S (fun _ : Nat => False) s.heap s.heap [] := va_S.rf
  have hl := lv_entry ([.int (nI sb)]) (n := 3) (Nat.le_of_ble_eq_true rfl)
  rw [lg_entry_eq]
  generalize (lg_sl ([.int (nI sb)]) ++ List.replicate (3 - (lg_sl ([.int (nI sb)])).length) Slot.unset).toArray = ls at hl ⊢
  have hl : lv_has ls 3 [(0, .int (nI sb))] := hl
  refine lv_iconst (v := 0) hx hb dX11_bits_0 (by decide) ?_
  refine lv_istore_n (lv' := [(1, .int 0), (0, .int (nI sb))]) hx hb dX11_bits_1 rfl hl (by decide) rfl (fun ls hl => ?_)
  refine lv_iconst (v := 0) hx hb dX11_bits_2 (by decide) ?_
  refine lv_istore_n (lv' := [(2, .int 0), (1, .int 0), (0, .int (nI sb))]) hx hb dX11_bits_3 rfl hl (by decide) rfl (fun ls hl => ?_)
  refine (fun (K : ∀ (d4 : Nat) (k4 : Nat) (a4_1 : Nat) (H : Heap) (locs : List Loc) (ls : Array Slot), k4 + d4 = 4 → a4_1 ≤ k4 → a4_1 = bsN sb k4 → va_P (dC, dI) vwCl [] H → va_S (fun _ : Nat => False) s.heap H locs → lv_has ls 3 [(2, .int (nI k4)), (1, .int (nI a4_1)), (0, .int (nI sb))] → W p l e _ s m _ below meth c H locs _ _ _ (F0 m 4 ls [])) => K 4 0 0 _ _ _ (by omega) (by omega) rfl hP hS (lv_sub hl [0, 1, 2] rfl)) ?_
  intro d4
  induction d4 with
  | zero =>
    intro k4 a4_1 H locs ls hk4 hn4_1 hv4_0 hP hS hl
    refine lv_iload_n hx hb dX11_bits_4 rfl (lv_at hl 0 rfl) ?_
    refine lv_iconst (v := 4) hx hb dX11_bits_5 (by decide) ?_
    refine lv_icmp_ge (tgt := 23) hx hb dX11_bits_6 (by decide) (fun c1 => ?_) (fun c1 => ?_)
    ·
      have c1 : 4 ≤ k4 := (nI_leI (a := 4) (b := k4) (by omega) (by omega)).mp c1
      refine lv_iload_n hx hb dX11_bits_23 rfl (lv_at hl 1 rfl) ?_
      exact W.iret (v := nI a4_1) hx hb hr (fun t ht hW => ⟨⟨nI a4_1, (fun _ => 0), rfl, (congrArg nI (hv4_0.trans (by rw [show k4 = 4 from by omega]; exact bs_4 sb (by omega)))), trivial⟩, hS.F ht⟩) hS.2.2 dX11_bits_24
    ·
      have c1 : ¬ 4 ≤ k4 := fun h => c1 ((nI_leI (a := 4) (b := k4) (by omega) (by omega)).mpr h)
      omega
  | succ d4 ih4 =>
    intro k4 a4_1 H locs ls hk4 hn4_1 hv4_0 hP hS hl
    refine lv_iload_n hx hb dX11_bits_4 rfl (lv_at hl 0 rfl) ?_
    refine lv_iconst (v := 4) hx hb dX11_bits_5 (by decide) ?_
    refine lv_icmp_ge (tgt := 23) hx hb dX11_bits_6 (by decide) (fun c2 => ?_) (fun c2 => ?_)
    ·
      have c2 : 4 ≤ k4 := (nI_leI (a := 4) (b := k4) (by omega) (by omega)).mp c2
      omega
    ·
      have c2 : ¬ 4 ≤ k4 := fun h => c2 ((nI_leI (a := 4) (b := k4) (by omega) (by omega)).mpr h)
      refine lv_iload_n hx hb dX11_bits_9 rfl (lv_at hl 1 rfl) ?_
      refine lv_iload_n hx hb dX11_bits_10 rfl (lv_at hl 2 rfl) ?_
      refine lv_iload_n hx hb dX11_bits_11 rfl (lv_at hl 0 rfl) ?_
      refine lv_ishr hx hb dX11_bits_12 ?_
      refine lv_iconst (v := 1) hx hb dX11_bits_13 (by decide) ?_
      refine lv_iand hx hb dX11_bits_14 ?_
      refine lv_topi (fun z3 ez3 => ?_)
      obtain ⟨w4, hw4, ekw4⟩ := pk_andE ((nI sb) >>> ((nI k4) &&& 31)) (m := 1) 1 (by decide)
      have hw4 : w4 < 2 := hw4
      obtain rfl : z3 = nI w4 := ez3.trans ekw4
      refine lv_iadd hx hb dX11_bits_15 ?_
      refine lv_topi (fun z5 ez5 => ?_)
      obtain rfl : z5 = nI (a4_1 + w4) := ez5.trans (nI_add a4_1 w4)
      refine lv_istore_n (lv' := [(1, .int (nI (a4_1 + w4))), (2, .int (nI k4)), (0, .int (nI sb))]) hx hb dX11_bits_16 rfl hl (by decide) rfl (fun ls hl => ?_)
      refine lv_iinc (v := nI (k4 + 1)) (lv' := [(2, .int (nI (k4 + 1))), (1, .int (nI (a4_1 + w4))), (0, .int (nI sb))]) hx hb dX11_bits_17 hl (k := 1) rfl ((rfl : nI k4 + Int32.ofInt 1 = nI k4 + 1).trans (nI_add k4 1)) (by decide) rfl (fun ls hl => ?_)
      refine lv_goto (tgt := 4) hx hb dX11_bits_20 (by decide) ?_
      exact ih4 (k4 + 1) (a4_1 + w4) _ _ _ (by omega) (by omega) (bs_s (by omega) (by omega) (by omega) ekw4 hv4_0) hP hS (lv_sub hl [0, 1, 2] rfl)
set_option maxHeartbeats 4000000 in
set_option maxRecDepth 100000 in
theorem c_X11_greatestPartD (l : Launch) (dC : Nat → ClassId) (dI : Nat → Nat → Nat) (cI cZ cQ : ClassId) (h0 : Nat) (nq : Nat) (nh : Nat) (m3 : Nat) (m4 : Nat) (m5 : Nat) (m7 : Nat) (m8 : Nat) (f_h0 : List Value) (fm3 : Nat → Int32) (fm4 : Nat → Int32) (fm5 : Nat → Int32) (fm7 : Nat → Int32) (fm8 : Nat → Int32) (j : Nat) (sb : Nat) (sz : Nat) (e_h0_2 : fAt f_h0 2 = some (.int (nI nq))) (e_h0_6 : fAt f_h0 6 = some (.int (nI nh))) (e_h0_3 : fAt f_h0 3 = some (.ref m3)) (e_h0_4 : fAt f_h0 4 = some (.ref m4)) (e_h0_5 : fAt f_h0 5 = some (.ref m5)) (e_h0_7 : fAt f_h0 7 = some (.ref m7)) (e_h0_8 : fAt f_h0 8 = some (.ref m8)) (hnq : nq ≤ 8) (hci : cIn fm5 nq) (hnh : nh ≤ 4) (hj : j < nq) (hsb : sb < 16) : Met l yX11_greatestPart wsX11_greatestPart ({ frames := 4, cells := 0, slots := 0, locals := 134 }) (va_Pc [.ref h0, .int (nI j), .int (nI sb)] (fun U => U.heap.size = sz ∧ va_P (dC, dI) vwCl [(h0, .inr (11, f_h0)), (m3, .inl (cI, 8, .inl fm3)), (m4, .inl (cI, 8, .inl fm4)), (m5, .inl (cI, 8, .inl fm5)), (m7, .inl (cI, 4, .inl fm7)), (m8, .inl (cI, 4, .inl fm8))] U.heap ∧ va_K (dC, dI) vwCl (tys0 cI cZ cQ) U)) (va_Qi (fun (r : Int32) (u : Nat → Nat) => r = nI (gaN (fun h => saF (wrF (fm3 j) (fm4 j) (fm5 j) (fm7 h) (fm8 h)) 1) sb nh nh)) (fun (_ : Nat → Nat) (_ : State) => True) (fun _ : Nat => False)) 0 0 (fun _ : Nat => False) := by
  refine Met.ofW (cc := cX11_greatestPart) (maxL := 7) (ret := (some .int)) (by decide) rfl ?_
  intro p e s m args below meth c s₁ B hml hv
  obtain ⟨rfl, hsz, hP, hK⟩ := hv
  have hx := B.exec
  have hb := B.bytes
  have hr := B.returns
  have hts := atoms_spec (ws := wsX11_greatestPart) B.pre
  have hown : s.vm.findClass RX11 = some m.cls := findClass_of_methodNamed B.named
  have hlocks := B.notSynchronized
  have hi_X11 : ∀ w ∈ u_ws RX11 TX11 46, w ∈ wsX11_greatestPart := fun _ h => List.mem_cons_of_mem _ (List.mem_append_right _ (h))
  subst hsz
  have hS : va_S (fun _ : Nat => False) s.heap s.heap [] := va_S.rf
  have hl := lv_entry ([.ref h0, .int (nI j), .int (nI sb)]) (n := 7) (Nat.le_of_ble_eq_true rfl)
  rw [lg_entry_eq]
  generalize (lg_sl ([.ref h0, .int (nI j), .int (nI sb)]) ++ List.replicate (7 - (lg_sl ([.ref h0, .int (nI j), .int (nI sb)])).length) Slot.unset).toArray = ls at hl ⊢
  have hl : lv_has ls 7 [(0, .ref h0), (1, .int (nI j)), (2, .int (nI sb))] := hl
  refine lv_iconst (v := 0) hx hb dX11_greatestPart_0 (by decide) ?_
  refine lv_istore_n (lv' := [(3, .int 0), (0, .ref h0), (1, .int (nI j)), (2, .int (nI sb))]) hx hb dX11_greatestPart_1 rfl hl (by decide) rfl (fun ls hl => ?_)
  refine lv_iconst (v := 0) hx hb dX11_greatestPart_2 (by decide) ?_
  refine lv_istore (lv' := [(4, .int 0), (3, .int 0), (0, .ref h0), (1, .int (nI j)), (2, .int (nI sb))]) hx hb dX11_greatestPart_3 hl (by decide) rfl (fun ls hl => ?_)
  refine (fun (K : ∀ (d5 : Nat) (k5 : Nat) (a5_3 : Nat) (H : Heap) (locs : List Loc) (ls : Array Slot), k5 + d5 = nh → a5_3 ≤ nh → a5_3 = gaN (fun h => saF (wrF (fm3 j) (fm4 j) (fm5 j) (fm7 h) (fm8 h)) 1) sb nh k5 → va_P (dC, dI) vwCl [(h0, .inr (11, f_h0)), (m3, .inl (cI, 8, .inl fm3)), (m4, .inl (cI, 8, .inl fm4)), (m5, .inl (cI, 8, .inl fm5)), (m7, .inl (cI, 4, .inl fm7)), (m8, .inl (cI, 4, .inl fm8))] H → va_S (fun _ : Nat => False) s.heap H locs → lv_has ls 7 [(4, .int (nI k5)), (3, .int (nI a5_3)), (0, .ref h0), (1, .int (nI j)), (2, .int (nI sb))] → W p l e _ s m _ below meth c H locs _ _ _ (F0 m 5 ls [])) => K nh 0 0 _ _ _ (by omega) (by omega) rfl hP hS (lv_sub hl [0, 1, 2, 3, 4] rfl)) ?_
  intro d5
  induction d5 with
  | zero =>
    intro k5 a5_3 H locs ls hk5 hn5_3 hv5_0 hP hS hl
    refine lv_iload hx hb dX11_greatestPart_5 (lv_at hl 0 rfl) ?_
    refine lv_aload_n hx hb dX11_greatestPart_7 rfl (lv_at hl 2 rfl) ?_
    refine va_get (D := (dC, dI)) (ci := 11) (v := .int (nI nh)) (C := RX11) (T := TX11) (N := 46) hx hb hts hi_X11 hown hK hP 0 rfl rfl 6 (by decide) (hts (.fieldLink RX11 106 "LeftQuillsModel" "hands" "I") (wmx 1 rfl)) (fun _ h9 => h9) e_h0_6 dX11_greatestPart_8 ?_
    refine lv_icmp_ge (tgt := 101) hx hb dX11_greatestPart_11 (by decide) (fun c1 => ?_) (fun c1 => ?_)
    ·
      have c1 : nh ≤ k5 := (nI_leI (a := nh) (b := k5) (by omega) (by omega)).mp c1
      refine lv_iload_n hx hb dX11_greatestPart_101 rfl (lv_at hl 1 rfl) ?_
      exact W.iret (v := nI a5_3) hx hb hr (fun t ht hW => ⟨⟨nI a5_3, (fun _ => 0), rfl, (congrArg nI (hv5_0.trans (by rw [show k5 = nh from by omega]))), trivial⟩, hS.F ht⟩) hS.2.2 dX11_greatestPart_102
    ·
      have c1 : ¬ nh ≤ k5 := fun h => c1 ((nI_leI (a := nh) (b := k5) (by omega) (by omega)).mpr h)
      omega
  | succ d5 ih5 =>
    intro k5 a5_3 H locs ls hk5 hn5_3 hv5_0 hP hS hl
    refine lv_iload hx hb dX11_greatestPart_5 (lv_at hl 0 rfl) ?_
    refine lv_aload_n hx hb dX11_greatestPart_7 rfl (lv_at hl 2 rfl) ?_
    refine va_get (D := (dC, dI)) (ci := 11) (v := .int (nI nh)) (C := RX11) (T := TX11) (N := 46) hx hb hts hi_X11 hown hK hP 0 rfl rfl 6 (by decide) (hts (.fieldLink RX11 106 "LeftQuillsModel" "hands" "I") (wmx 1 rfl)) (fun _ h9 => h9) e_h0_6 dX11_greatestPart_8 ?_
    refine lv_icmp_ge (tgt := 101) hx hb dX11_greatestPart_11 (by decide) (fun c2 => ?_) (fun c2 => ?_)
    ·
      have c2 : nh ≤ k5 := (nI_leI (a := nh) (b := k5) (by omega) (by omega)).mp c2
      omega
    ·
      have c2 : ¬ nh ≤ k5 := fun h => c2 ((nI_leI (a := nh) (b := k5) (by omega) (by omega)).mpr h)
      refine lv_iconst (v := 0) hx hb dX11_greatestPart_14 (by decide) ?_
      refine lv_istore (lv' := [(5, .int 0), (4, .int (nI k5)), (3, .int (nI a5_3)), (0, .ref h0), (1, .int (nI j)), (2, .int (nI sb))]) hx hb dX11_greatestPart_15 hl (by decide) rfl (fun ls hl => ?_)
      refine lv_iconst (v := 0) hx hb dX11_greatestPart_17 (by decide) ?_
      refine lv_istore (lv' := [(6, .int 0), (5, .int 0), (4, .int (nI k5)), (3, .int (nI a5_3)), (0, .ref h0), (1, .int (nI j)), (2, .int (nI sb))]) hx hb dX11_greatestPart_18 hl (by decide) rfl (fun ls hl => ?_)
      refine (fun (K : ∀ (d20 : Nat) (k20 : Nat) (a20_5 : Nat) (H : Heap) (locs : List Loc) (ls : Array Slot), k20 + d20 = nh → a20_5 ≤ k20 → Hid (a20_5 = if sb.testBit k5 = true then alN (fun h => saF (wrF (fm3 j) (fm4 j) (fm5 j) (fm7 h) (fm8 h)) 1) sb k5 k20 else 0) → va_P (dC, dI) vwCl [(h0, .inr (11, f_h0)), (m3, .inl (cI, 8, .inl fm3)), (m4, .inl (cI, 8, .inl fm4)), (m5, .inl (cI, 8, .inl fm5)), (m7, .inl (cI, 4, .inl fm7)), (m8, .inl (cI, 4, .inl fm8))] H → va_S (fun _ : Nat => False) s.heap H locs → lv_has ls 7 [(6, .int (nI k20)), (5, .int (nI a20_5)), (4, .int (nI k5)), (3, .int (nI a5_3)), (0, .ref h0), (1, .int (nI j)), (2, .int (nI sb))] → W p l e _ s m _ below meth c H locs _ _ _ (F0 m 20 ls [])) => K nh 0 0 _ _ _ (by omega) (by omega) (Hid.mk (by split <;> rfl)) hP hS (lv_sub hl [0, 1, 2, 3, 4, 5, 6] rfl)) ?_
      intro d20
      induction d20 with
      | zero =>
        intro k20 a20_5 H locs ls hk20 hn20_5 hv20_0 hP hS hl
        refine lv_iload hx hb dX11_greatestPart_20 (lv_at hl 0 rfl) ?_
        refine lv_aload_n hx hb dX11_greatestPart_22 rfl (lv_at hl 4 rfl) ?_
        refine va_get (D := (dC, dI)) (ci := 11) (v := .int (nI nh)) (C := RX11) (T := TX11) (N := 46) hx hb hts hi_X11 hown hK hP 0 rfl rfl 6 (by decide) (hts (.fieldLink RX11 106 "LeftQuillsModel" "hands" "I") (wmx 1 rfl)) (fun _ h9 => h9) e_h0_6 dX11_greatestPart_23 ?_
        refine lv_icmp_ge (tgt := 82) hx hb dX11_greatestPart_26 (by decide) (fun c3 => ?_) (fun c3 => ?_)
        ·
          have c3 : nh ≤ k20 := (nI_leI (a := nh) (b := k20) (by omega) (by omega)).mp c3
          refine lv_iload hx hb dX11_greatestPart_82 (lv_at hl 1 rfl) ?_
          refine lv_iload_n hx hb dX11_greatestPart_84 rfl (lv_at hl 3 rfl) ?_
          refine lv_icmp_le (tgt := 93) hx hb dX11_greatestPart_85 (by decide) (fun c4 => ?_) (fun c4 => ?_)
          ·
            have c4 : a20_5 ≤ a5_3 := (nI_leI (a := a20_5) (b := a5_3) (by omega) (by omega)).mp c4
            refine lv_iload_n hx hb dX11_greatestPart_93 rfl (lv_at hl 3 rfl) ?_
            refine lv_istore_n (lv' := [(3, .int (nI a5_3)), (6, .int (nI k20)), (5, .int (nI a20_5)), (4, .int (nI k5)), (0, .ref h0), (1, .int (nI j)), (2, .int (nI sb))]) hx hb dX11_greatestPart_94 rfl hl (by decide) rfl (fun ls hl => ?_)
            refine lv_iinc (v := nI (k5 + 1)) (lv' := [(4, .int (nI (k5 + 1))), (3, .int (nI a5_3)), (6, .int (nI k20)), (5, .int (nI a20_5)), (0, .ref h0), (1, .int (nI j)), (2, .int (nI sb))]) hx hb dX11_greatestPart_95 hl (k := 3) rfl ((rfl : nI k5 + Int32.ofInt 1 = nI k5 + 1).trans (nI_add k5 1)) (by decide) rfl (fun ls hl => ?_)
            refine lv_goto (tgt := 5) hx hb dX11_greatestPart_98 (by decide) ?_
            exact ih5 (k5 + 1) a5_3 _ _ _ (by omega) (by omega) (gp_k hv5_0 hv20_0 (show k20 = nh from by omega) (by omega)) hP hS (lv_sub hl [0, 1, 4, 5, 6] rfl)
          ·
            have c4 : ¬ a20_5 ≤ a5_3 := fun h => c4 ((nI_leI (a := a20_5) (b := a5_3) (by omega) (by omega)).mpr h)
            refine lv_iload hx hb dX11_greatestPart_88 (lv_at hl 1 rfl) ?_
            refine lv_goto (tgt := 94) hx hb dX11_greatestPart_90 (by decide) ?_
            refine lv_istore_n (lv' := [(3, .int (nI a20_5)), (6, .int (nI k20)), (5, .int (nI a20_5)), (4, .int (nI k5)), (0, .ref h0), (1, .int (nI j)), (2, .int (nI sb))]) hx hb dX11_greatestPart_94 rfl hl (by decide) rfl (fun ls hl => ?_)
            refine lv_iinc (v := nI (k5 + 1)) (lv' := [(4, .int (nI (k5 + 1))), (3, .int (nI a20_5)), (6, .int (nI k20)), (5, .int (nI a20_5)), (0, .ref h0), (1, .int (nI j)), (2, .int (nI sb))]) hx hb dX11_greatestPart_95 hl (k := 3) rfl ((rfl : nI k5 + Int32.ofInt 1 = nI k5 + 1).trans (nI_add k5 1)) (by decide) rfl (fun ls hl => ?_)
            refine lv_goto (tgt := 5) hx hb dX11_greatestPart_98 (by decide) ?_
            exact ih5 (k5 + 1) a20_5 _ _ _ (by omega) (by omega) (gp_m hv5_0 hv20_0 (show k20 = nh from by omega) (by omega)) hP hS (lv_sub hl [0, 1, 4, 5, 6] rfl)
        ·
          have c3 : ¬ nh ≤ k20 := fun h => c3 ((nI_leI (a := nh) (b := k20) (by omega) (by omega)).mpr h)
          omega
      | succ d20 ih20 =>
        intro k20 a20_5 H locs ls hk20 hn20_5 hv20_0 hP hS hl
        refine lv_iload hx hb dX11_greatestPart_20 (lv_at hl 0 rfl) ?_
        refine lv_aload_n hx hb dX11_greatestPart_22 rfl (lv_at hl 4 rfl) ?_
        refine va_get (D := (dC, dI)) (ci := 11) (v := .int (nI nh)) (C := RX11) (T := TX11) (N := 46) hx hb hts hi_X11 hown hK hP 0 rfl rfl 6 (by decide) (hts (.fieldLink RX11 106 "LeftQuillsModel" "hands" "I") (wmx 1 rfl)) (fun _ h9 => h9) e_h0_6 dX11_greatestPart_23 ?_
        refine lv_icmp_ge (tgt := 82) hx hb dX11_greatestPart_26 (by decide) (fun c5 => ?_) (fun c5 => ?_)
        ·
          have c5 : nh ≤ k20 := (nI_leI (a := nh) (b := k20) (by omega) (by omega)).mp c5
          omega
        ·
          have c5 : ¬ nh ≤ k20 := fun h => c5 ((nI_leI (a := nh) (b := k20) (by omega) (by omega)).mpr h)
          refine lv_iload hx hb dX11_greatestPart_29 (lv_at hl 1 rfl) ?_
          refine lv_iload_n hx hb dX11_greatestPart_31 rfl (lv_at hl 6 rfl) ?_
          refine lv_iload hx hb dX11_greatestPart_32 (lv_at hl 2 rfl) ?_
          have hPc := hP.sub (ws' := []) [] rfl
          refine va_calli (va_runS (As := [.int (nI sb), .int (nI k5)]) (rest := [.int (nI a20_5)]) ⟨hx, hb, hml, hown, hts⟩ (c_X11_hasD l dC dI cI cZ cQ sb k5 H.size (by omega) (by omega)) (va_cwS 2 hts gX11_greatestPart_X11_has rfl rfl rfl (by decide +kernel) ⟨Nat.le_of_ble_eq_true rfl, Nat.le_of_ble_eq_true rfl⟩) (ps_R hK hPc) rfl rfl hl.1 rfl (lv_room (Nat.le_of_ble_eq_true rfl)) dX11_greatestPart_34 ⟨Nat.le_of_ble_eq_true rfl, Nat.le_of_ble_eq_true rfl⟩) hS (fun q _ h => False.elim h) (fun q h => False.elim h) (fun r6 u7 t H1 locs ht hvm hw8 hB hz1 hk1 hS => ?_)
          have hP := hP.kept (fun k q hk => hk1 q.1 (hP k q hk).lt (fun h => h))
          clear hz1 hk1 hPc
          generalize H1 = H at hP hS ht ⊢
          try dsimp only at hw8
          rcases hw8 with ⟨rfl, hw8⟩ | ⟨rfl, hw8⟩
          ·
            refine lv_if_eq (tgt := 72) hx hb dX11_greatestPart_37 (by decide) (fun c9 => ?_) (fun c9 => ?_)
            · exact absurd c9 (by decide)
            clear c9
            refine lv_iload_n hx hb dX11_greatestPart_40 rfl (lv_at hl 6 rfl) ?_
            refine lv_iload hx hb dX11_greatestPart_41 (lv_at hl 0 rfl) ?_
            have hPc := hP.sub (ws' := []) [] rfl
            refine va_calli (va_runS (As := [.int (nI sb), .int (nI k20)]) (rest := [.int (nI a20_5)]) ⟨hx, hb, hml, hown, hts⟩ (c_X11_hasD l dC dI cI cZ cQ sb k20 H.size (by omega) (by omega)) (va_cwS 2 hts gX11_greatestPart_X11_has rfl rfl rfl (by decide +kernel) ⟨Nat.le_of_ble_eq_true rfl, Nat.le_of_ble_eq_true rfl⟩) (ps_R hK hPc) rfl rfl hl.1 rfl (lv_room (Nat.le_of_ble_eq_true rfl)) dX11_greatestPart_43 ⟨Nat.le_of_ble_eq_true rfl, Nat.le_of_ble_eq_true rfl⟩) hS (fun q _ h => False.elim h) (fun q h => False.elim h) (fun r10 u11 t H1 locs ht hvm hw12 hB hz1 hk1 hS => ?_)
            have hP := hP.kept (fun k q hk => hk1 q.1 (hP k q hk).lt (fun h => h))
            clear hz1 hk1 hPc
            generalize H1 = H at hP hS ht ⊢
            try dsimp only at hw12
            rcases hw12 with ⟨rfl, hw12⟩ | ⟨rfl, hw12⟩
            ·
              refine lv_if_eq (tgt := 72) hx hb dX11_greatestPart_46 (by decide) (fun c13 => ?_) (fun c13 => ?_)
              · exact absurd c13 (by decide)
              clear c13
              refine lv_aload_n hx hb dX11_greatestPart_49 rfl (lv_at hl 4 rfl) ?_
              refine lv_iload_n hx hb dX11_greatestPart_50 rfl (lv_at hl 5 rfl) ?_
              refine lv_iload hx hb dX11_greatestPart_51 (lv_at hl 2 rfl) ?_
              refine lv_iconst (v := 1) hx hb dX11_greatestPart_53 (by decide) ?_
              have hPc := hP.sub (ws' := [(h0, .inr (11, f_h0)), (m3, .inl (cI, 8, .inl fm3)), (m4, .inl (cI, 8, .inl fm4)), (m5, .inl (cI, 8, .inl fm5)), (m7, .inl (cI, 4, .inl fm7)), (m8, .inl (cI, 4, .inl fm8))]) [0, 1, 2, 3, 4, 5] rfl
              refine va_calli (va_runV (As := [.int (nI j), .int (nI k5), .int 1]) (rest := [.int (nI a20_5)]) ⟨hx, hb, hml, hown, hts⟩ (c_X11_softAfterD l dC dI cI cZ cQ h0 m3 m4 m5 m7 m8 f_h0 fm3 fm4 fm5 fm7 fm8 j k5 1 nq H.size e_h0_3 e_h0_4 e_h0_5 e_h0_7 e_h0_8 (by omega) (by first | assumption | decide) (by omega) (by omega) (by omega)) (cwV 3 hts gX11_greatestPart_X11_softAfter rfl rfl rfl hd_X11_softAfter_RX11 ⟨Nat.le_of_ble_eq_true rfl, Nat.le_of_ble_eq_true rfl⟩) (pv_R (va_recv hK hP (ci := 11) (q0 := 0) rfl rfl) hK hPc) rfl rfl hl.1 rfl (lv_room (Nat.le_of_ble_eq_true rfl)) dX11_greatestPart_54 ⟨Nat.le_of_ble_eq_true rfl, Nat.le_of_ble_eq_true rfl⟩) hS (fun q _ h => False.elim h) (fun q h => False.elim h) (fun r14 u15 t H1 locs ht hvm hw16 hB hz1 hk1 hS => ?_)
              have hP := hP.kept (fun k q hk => hk1 q.1 (hP k q hk).lt (fun h => h))
              clear hz1 hk1 hPc
              generalize H1 = H at hP hS ht ⊢
              try dsimp only at hw16
              subst hw16
              refine lv_aload_n hx hb dX11_greatestPart_57 rfl (lv_at hl 4 rfl) ?_
              refine lv_iload_n hx hb dX11_greatestPart_58 rfl (lv_at hl 5 rfl) ?_
              refine lv_iload hx hb dX11_greatestPart_59 (lv_at hl 0 rfl) ?_
              refine lv_iconst (v := 1) hx hb dX11_greatestPart_61 (by decide) ?_
              have hPc := hP.sub (ws' := [(h0, .inr (11, f_h0)), (m3, .inl (cI, 8, .inl fm3)), (m4, .inl (cI, 8, .inl fm4)), (m5, .inl (cI, 8, .inl fm5)), (m7, .inl (cI, 4, .inl fm7)), (m8, .inl (cI, 4, .inl fm8))]) [0, 1, 2, 3, 4, 5] rfl
              refine va_calli (va_runV (As := [.int (nI j), .int (nI k20), .int 1]) (rest := [.int (saF (wrF (fm3 j) (fm4 j) (fm5 j) (fm7 k5) (fm8 k5)) 1), .int (nI a20_5)]) ⟨hx, hb, hml, hown, hts⟩ (c_X11_softAfterD l dC dI cI cZ cQ h0 m3 m4 m5 m7 m8 f_h0 fm3 fm4 fm5 fm7 fm8 j k20 1 nq H.size e_h0_3 e_h0_4 e_h0_5 e_h0_7 e_h0_8 (by omega) (by first | assumption | decide) (by omega) (by omega) (by omega)) (cwV 3 hts gX11_greatestPart_X11_softAfter rfl rfl rfl hd_X11_softAfter_RX11 ⟨Nat.le_of_ble_eq_true rfl, Nat.le_of_ble_eq_true rfl⟩) (pv_R (va_recv hK hP (ci := 11) (q0 := 0) rfl rfl) hK hPc) rfl rfl hl.1 rfl (lv_room (Nat.le_of_ble_eq_true rfl)) dX11_greatestPart_62 ⟨Nat.le_of_ble_eq_true rfl, Nat.le_of_ble_eq_true rfl⟩) hS (fun q _ h => False.elim h) (fun q h => False.elim h) (fun r17 u18 t H1 locs ht hvm hw19 hB hz1 hk1 hS => ?_)
              have hP := hP.kept (fun k q hk => hk1 q.1 (hP k q hk).lt (fun h => h))
              clear hz1 hk1 hPc
              generalize H1 = H at hP hS ht ⊢
              try dsimp only at hw19
              subst hw19
              refine lv_icmp_ne (tgt := 72) hx hb dX11_greatestPart_65 (by decide) (fun c20 => ?_) (fun c20 => ?_)
              ·
                refine lv_iconst (v := 0) hx hb dX11_greatestPart_72 (by decide) ?_
                refine lv_iadd hx hb dX11_greatestPart_73 ?_
                refine lv_topi (fun z21 ez21 => ?_)
                obtain rfl : z21 = nI (a20_5 + 0) := ez21.trans (nI_add a20_5 0)
                refine lv_istore (lv' := [(5, .int (nI (a20_5 + 0))), (6, .int (nI k20)), (4, .int (nI k5)), (3, .int (nI a5_3)), (0, .ref h0), (1, .int (nI j)), (2, .int (nI sb))]) hx hb dX11_greatestPart_74 hl (by decide) rfl (fun ls hl => ?_)
                refine lv_iinc (v := nI (k20 + 1)) (lv' := [(6, .int (nI (k20 + 1))), (5, .int (nI (a20_5 + 0))), (4, .int (nI k5)), (3, .int (nI a5_3)), (0, .ref h0), (1, .int (nI j)), (2, .int (nI sb))]) hx hb dX11_greatestPart_76 hl (k := 1) rfl ((rfl : nI k20 + Int32.ofInt 1 = nI k20 + 1).trans (nI_add k20 1)) (by decide) rfl (fun ls hl => ?_)
                refine lv_goto (tgt := 20) hx hb dX11_greatestPart_79 (by decide) ?_
                exact ih20 (k20 + 1) (a20_5 + 0) _ _ _ (by omega) (by omega) (gi_w hv20_0 c20) hP hS (lv_sub hl [0, 1, 2, 3, 4, 5, 6] rfl)
              ·
                refine lv_iconst (v := 1) hx hb dX11_greatestPart_68 (by decide) ?_
                refine lv_goto (tgt := 73) hx hb dX11_greatestPart_69 (by decide) ?_
                refine lv_iadd hx hb dX11_greatestPart_73 ?_
                refine lv_topi (fun z22 ez22 => ?_)
                obtain rfl : z22 = nI (a20_5 + 1) := ez22.trans (nI_add a20_5 1)
                refine lv_istore (lv' := [(5, .int (nI (a20_5 + 1))), (6, .int (nI k20)), (4, .int (nI k5)), (3, .int (nI a5_3)), (0, .ref h0), (1, .int (nI j)), (2, .int (nI sb))]) hx hb dX11_greatestPart_74 hl (by decide) rfl (fun ls hl => ?_)
                refine lv_iinc (v := nI (k20 + 1)) (lv' := [(6, .int (nI (k20 + 1))), (5, .int (nI (a20_5 + 1))), (4, .int (nI k5)), (3, .int (nI a5_3)), (0, .ref h0), (1, .int (nI j)), (2, .int (nI sb))]) hx hb dX11_greatestPart_76 hl (k := 1) rfl ((rfl : nI k20 + Int32.ofInt 1 = nI k20 + 1).trans (nI_add k20 1)) (by decide) rfl (fun ls hl => ?_)
                refine lv_goto (tgt := 20) hx hb dX11_greatestPart_79 (by decide) ?_
                exact ih20 (k20 + 1) (a20_5 + 1) _ _ _ (by omega) (by omega) (gi_y hv20_0 hw8 hw12 c20) hP hS (lv_sub hl [0, 1, 2, 3, 4, 5, 6] rfl)
            ·
              refine lv_if_eq (tgt := 72) hx hb dX11_greatestPart_46 (by decide) (fun c23 => ?_) (fun c23 => ?_)
              rotate_left
              · exact absurd c23 (by decide)
              clear c23
              refine lv_iconst (v := 0) hx hb dX11_greatestPart_72 (by decide) ?_
              refine lv_iadd hx hb dX11_greatestPart_73 ?_
              refine lv_topi (fun z24 ez24 => ?_)
              obtain rfl : z24 = nI (a20_5 + 0) := ez24.trans (nI_add a20_5 0)
              refine lv_istore (lv' := [(5, .int (nI (a20_5 + 0))), (6, .int (nI k20)), (4, .int (nI k5)), (3, .int (nI a5_3)), (0, .ref h0), (1, .int (nI j)), (2, .int (nI sb))]) hx hb dX11_greatestPart_74 hl (by decide) rfl (fun ls hl => ?_)
              refine lv_iinc (v := nI (k20 + 1)) (lv' := [(6, .int (nI (k20 + 1))), (5, .int (nI (a20_5 + 0))), (4, .int (nI k5)), (3, .int (nI a5_3)), (0, .ref h0), (1, .int (nI j)), (2, .int (nI sb))]) hx hb dX11_greatestPart_76 hl (k := 1) rfl ((rfl : nI k20 + Int32.ofInt 1 = nI k20 + 1).trans (nI_add k20 1)) (by decide) rfl (fun ls hl => ?_)
              refine lv_goto (tgt := 20) hx hb dX11_greatestPart_79 (by decide) ?_
              exact ih20 (k20 + 1) (a20_5 + 0) _ _ _ (by omega) (by omega) (gi_g hv20_0 hw12) hP hS (lv_sub hl [0, 1, 2, 3, 4, 5, 6] rfl)
          ·
            refine lv_if_eq (tgt := 72) hx hb dX11_greatestPart_37 (by decide) (fun c25 => ?_) (fun c25 => ?_)
            rotate_left
            · exact absurd c25 (by decide)
            clear c25
            refine lv_iconst (v := 0) hx hb dX11_greatestPart_72 (by decide) ?_
            refine lv_iadd hx hb dX11_greatestPart_73 ?_
            refine lv_topi (fun z26 ez26 => ?_)
            obtain rfl : z26 = nI (a20_5 + 0) := ez26.trans (nI_add a20_5 0)
            refine lv_istore (lv' := [(5, .int (nI (a20_5 + 0))), (6, .int (nI k20)), (4, .int (nI k5)), (3, .int (nI a5_3)), (0, .ref h0), (1, .int (nI j)), (2, .int (nI sb))]) hx hb dX11_greatestPart_74 hl (by decide) rfl (fun ls hl => ?_)
            refine lv_iinc (v := nI (k20 + 1)) (lv' := [(6, .int (nI (k20 + 1))), (5, .int (nI (a20_5 + 0))), (4, .int (nI k5)), (3, .int (nI a5_3)), (0, .ref h0), (1, .int (nI j)), (2, .int (nI sb))]) hx hb dX11_greatestPart_76 hl (k := 1) rfl ((rfl : nI k20 + Int32.ofInt 1 = nI k20 + 1).trans (nI_add k20 1)) (by decide) rfl (fun ls hl => ?_)
            refine lv_goto (tgt := 20) hx hb dX11_greatestPart_79 (by decide) ?_
            exact ih20 (k20 + 1) (a20_5 + 0) _ _ _ (by omega) (by omega) (gi_h hv20_0 hw8) hP hS (lv_sub hl [0, 1, 2, 3, 4, 5, 6] rfl)
set_option maxHeartbeats 4000000 in
set_option maxRecDepth 100000 in
theorem c_X11_lookAtD (l : Launch) (dC : Nat → ClassId) (dI : Nat → Nat → Nat) (cI cZ cQ : ClassId) (h0 : Nat) (nq : Nat) (nh : Nat) (m3 : Nat) (m4 : Nat) (m5 : Nat) (m7 : Nat) (m8 : Nat) (wm : Nat) (m38 : Nat) (m39 : Nat) (m40 : Nat) (f_h0 : List Value) (fm3 : Nat → Int32) (fm4 : Nat → Int32) (fm5 : Nat → Int32) (fm7 : Nat → Int32) (fm8 : Nat → Int32) (fm38 : Nat → Int32) (fm39 : Nat → Int32) (fm40 : Nat → Int32) (sz : Nat) (e_h0_2 : fAt f_h0 2 = some (.int (nI nq))) (e_h0_6 : fAt f_h0 6 = some (.int (nI nh))) (e_h0_3 : fAt f_h0 3 = some (.ref m3)) (e_h0_4 : fAt f_h0 4 = some (.ref m4)) (e_h0_5 : fAt f_h0 5 = some (.ref m5)) (e_h0_7 : fAt f_h0 7 = some (.ref m7)) (e_h0_8 : fAt f_h0 8 = some (.ref m8)) (e_h0_37 : fAt f_h0 37 = some (.int (nI wm))) (e_h0_38 : fAt f_h0 38 = some (.ref m38)) (e_h0_39 : fAt f_h0 39 = some (.ref m39)) (e_h0_40 : fAt f_h0 40 = some (.ref m40)) (hnq : nq ≤ 8) (hci : cIn fm5 nq) (hnh : nh ≤ 4) (hwm : wm ≤ 6) (hqi : qLt fm38 wm nq) (hpi : cIn fm39 wm) : Met l yX11_lookAt wsX11_lookAt ({ frames := 5, cells := 0, slots := 0, locals := 160 }) (va_Pc [.ref h0] (fun U => U.heap.size = sz ∧ va_P (dC, dI) vwCl [(h0, .inr (11, f_h0)), (m3, .inl (cI, 8, .inl fm3)), (m4, .inl (cI, 8, .inl fm4)), (m5, .inl (cI, 8, .inl fm5)), (m7, .inl (cI, 4, .inl fm7)), (m8, .inl (cI, 4, .inl fm8)), (m38, .inl (cI, 6, .inl fm38)), (m39, .inl (cI, 6, .inl fm39)), (m40, .inl (cI, 6, .inl fm40))] U.heap ∧ va_K (dC, dI) vwCl (tys0 cI cZ cQ) U)) (va_Qi (fun (r : Int32) (u : Nat → Nat) => lkP nq nh (wnQ (fun j k => wrF (fm3 j) (fm4 j) (fm5 j) (fm7 k) (fm8 k)) fm38 fm39 fm40 wm) (fun q h => saF (wrF (fm3 q) (fm4 q) (fm5 q) (fm7 h) (fm8 h)) 1) r) (fun (_ : Nat → Nat) (_ : State) => True) (fun _ : Nat => False)) 0 0 (fun _ : Nat => False) := by
  refine Met.ofW (cc := cX11_lookAt) (maxL := 6) (ret := (some .int)) (by decide) rfl ?_
  intro p e s m args below meth c s₁ B hml hv
  obtain ⟨rfl, hsz, hP, hK⟩ := hv
  have hx := B.exec
  have hb := B.bytes
  have hr := B.returns
  have hts := atoms_spec (ws := wsX11_lookAt) B.pre
  have hown : s.vm.findClass RX11 = some m.cls := findClass_of_methodNamed B.named
  have hlocks := B.notSynchronized
  have hi_X11 : ∀ w ∈ u_ws RX11 TX11 46, w ∈ wsX11_lookAt := fun _ h => List.mem_cons_of_mem _ (List.mem_append_right _ (h))
  subst hsz
  have hS : va_S (fun _ : Nat => False) s.heap s.heap [] := va_S.rf
  have hl := lv_entry ([.ref h0]) (n := 6) (Nat.le_of_ble_eq_true rfl)
  rw [lg_entry_eq]
  generalize (lg_sl ([.ref h0]) ++ List.replicate (6 - (lg_sl ([.ref h0])).length) Slot.unset).toArray = ls at hl ⊢
  have hl : lv_has ls 6 [(0, .ref h0)] := hl
  refine lv_aload_n hx hb dX11_lookAt_0 rfl (lv_at hl 0 rfl) ?_
  have hPc := hP.sub (ws' := [(h0, .inr (11, f_h0)), (m3, .inl (cI, 8, .inl fm3)), (m4, .inl (cI, 8, .inl fm4)), (m5, .inl (cI, 8, .inl fm5)), (m7, .inl (cI, 4, .inl fm7)), (m8, .inl (cI, 4, .inl fm8)), (m38, .inl (cI, 6, .inl fm38)), (m39, .inl (cI, 6, .inl fm39)), (m40, .inl (cI, 6, .inl fm40))]) [0, 1, 2, 3, 4, 5, 6, 7, 8] rfl
  refine va_calli (va_runV (As := []) (rest := []) ⟨hx, hb, hml, hown, hts⟩ (c_X11_handsThatFitD l dC dI cI cZ cQ h0 nq nh m3 m4 m5 m7 m8 wm m38 m39 m40 f_h0 fm3 fm4 fm5 fm7 fm8 fm38 fm39 fm40 s.heap.size e_h0_2 e_h0_6 e_h0_3 e_h0_4 e_h0_5 e_h0_7 e_h0_8 e_h0_37 e_h0_38 e_h0_39 e_h0_40 (by omega) (by first | assumption | decide) (by omega) (by omega) (by first | assumption | decide) (by first | assumption | decide)) (cwV 0 hts gX11_lookAt_X11_handsThatFit rfl rfl rfl hd_X11_handsThatFit_RX11 ⟨Nat.le_of_ble_eq_true rfl, Nat.le_of_ble_eq_true rfl⟩) (pv_R (va_recv hK hP (ci := 11) (q0 := 0) rfl rfl) hK hPc) rfl rfl hl.1 rfl (lv_room (Nat.le_of_ble_eq_true rfl)) dX11_lookAt_1 ⟨Nat.le_of_ble_eq_true rfl, Nat.le_of_ble_eq_true rfl⟩) hS (fun q _ h => False.elim h) (fun q h => False.elim h) (fun r1 u2 t H1 locs ht hvm hw3 hB hz1 hk1 hS => ?_)
  have hP := hP.kept (fun k q hk => hk1 q.1 (hP k q hk).lt (fun h => h))
  clear hz1 hk1 hPc
  generalize H1 = H at hP hS ht ⊢
  try dsimp only at hw3
  obtain ⟨w4, hw4, ew4, hbw4⟩ := fh_nat nh (by omega) _ hw3
  subst ew4
  have hxw4 : w4 < 16 := Nat.lt_of_lt_of_le hw4 (Nat.pow_le_pow_right (n := 2) (by decide) (show nh ≤ 4 by omega))
  refine lv_istore_n (lv' := [(1, .int (nI w4)), (0, .ref h0)]) hx hb dX11_lookAt_4 rfl hl (by decide) rfl (fun ls hl => ?_)
  refine lv_iconst (v := (-1)) hx hb dX11_lookAt_5 (by decide) ?_
  refine lv_istore_n (lv' := [(2, .int (-1)), (1, .int (nI w4)), (0, .ref h0)]) hx hb dX11_lookAt_6 rfl hl (by decide) rfl (fun ls hl => ?_)
  refine lv_iload_n hx hb dX11_lookAt_7 rfl (lv_at hl 1 rfl) ?_
  have hPc := hP.sub (ws' := []) [] rfl
  refine va_calli (va_runS (As := [.int (nI w4)]) (rest := []) ⟨hx, hb, hml, hown, hts⟩ (c_X11_bitsD l dC dI cI cZ cQ w4 H.size (by omega)) (va_cwS 1 hts gX11_lookAt_X11_bits rfl rfl rfl (by decide +kernel) ⟨Nat.le_of_ble_eq_true rfl, Nat.le_of_ble_eq_true rfl⟩) (ps_R hK hPc) rfl rfl hl.1 rfl (lv_room (Nat.le_of_ble_eq_true rfl)) dX11_lookAt_8 ⟨Nat.le_of_ble_eq_true rfl, Nat.le_of_ble_eq_true rfl⟩) hS (fun q _ h => False.elim h) (fun q h => False.elim h) (fun r5 u6 t H1 locs ht hvm hw7 hB hz1 hk1 hS => ?_)
  have hP := hP.kept (fun k q hk => hk1 q.1 (hP k q hk).lt (fun h => h))
  clear hz1 hk1 hPc
  generalize H1 = H at hP hS ht ⊢
  try dsimp only at hw7
  obtain ⟨w8, hw8, ew8, rfl⟩ := nat_ix pc_le hw7
  refine lv_istore_n (lv' := [(3, .int (nI w8)), (2, .int (-1)), (1, .int (nI w4)), (0, .ref h0)]) hx hb dX11_lookAt_11 rfl hl (by decide) rfl (fun ls hl => ?_)
  refine lv_iconst (v := 0) hx hb dX11_lookAt_12 (by decide) ?_
  refine lv_istore (lv' := [(4, .int 0), (3, .int (nI w8)), (2, .int (-1)), (1, .int (nI w4)), (0, .ref h0)]) hx hb dX11_lookAt_13 hl (by decide) rfl (fun ls hl => ?_)
  refine (fun (K : ∀ (d15 : Nat) (k15 : Nat) (a15_2 : Int32) (a15_3 : Nat) (H : Heap) (locs : List Loc) (ls : Array Slot), k15 + d15 = nq → a15_3 ≤ 4 → (a15_2, a15_3) = laS (fun q => gaN ((fun q h => saF (wrF (fm3 q) (fm4 q) (fm5 q) (fm7 h) (fm8 h)) 1) q) w4 nh nh) (pcN w4) k15 → va_P (dC, dI) vwCl [(h0, .inr (11, f_h0)), (m3, .inl (cI, 8, .inl fm3)), (m4, .inl (cI, 8, .inl fm4)), (m5, .inl (cI, 8, .inl fm5)), (m7, .inl (cI, 4, .inl fm7)), (m8, .inl (cI, 4, .inl fm8)), (m38, .inl (cI, 6, .inl fm38)), (m39, .inl (cI, 6, .inl fm39)), (m40, .inl (cI, 6, .inl fm40))] H → va_S (fun _ : Nat => False) s.heap H locs → lv_has ls 6 [(4, .int (nI k15)), (2, .int a15_2), (3, .int (nI a15_3)), (1, .int (nI w4)), (0, .ref h0)] → W p l e _ s m _ below meth c H locs _ _ _ (F0 m 15 ls [])) => K nq 0 (-1) w8 _ _ _ (by omega) (by omega) (by rw [← ew8.out]; rfl) hP hS (lv_sub hl [0, 2, 1, 3, 4] rfl)) ?_
  intro d15
  induction d15 with
  | zero =>
    intro k15 a15_2 a15_3 H locs ls hk15 hn15_3 hv15_0 hP hS hl
    refine lv_iload hx hb dX11_lookAt_15 (lv_at hl 0 rfl) ?_
    refine lv_aload_n hx hb dX11_lookAt_17 rfl (lv_at hl 4 rfl) ?_
    refine va_get (D := (dC, dI)) (ci := 11) (v := .int (nI nq)) (C := RX11) (T := TX11) (N := 46) hx hb hts hi_X11 hown hK hP 0 rfl rfl 2 (by decide) (hts (.fieldLink RX11 99 "LeftQuillsModel" "quills" "I") (wmx 1 rfl)) (fun _ h9 => h9) e_h0_2 dX11_lookAt_18 ?_
    refine lv_icmp_ge (tgt := 65) hx hb dX11_lookAt_21 (by decide) (fun c9 => ?_) (fun c9 => ?_)
    ·
      have c9 : nq ≤ k15 := (nI_leI (a := nq) (b := k15) (by omega) (by omega)).mp c9
      refine lv_iload_n hx hb dX11_lookAt_65 rfl (lv_at hl 1 rfl) ?_
      exact W.iret (v := a15_2) hx hb hr (fun t ht hW => ⟨⟨a15_2, (fun _ => 0), rfl, ⟨w4, hxw4, ⟨_, hw3, rfl⟩, (congrArg Prod.fst hv15_0).trans (by rw [show k15 = nq from by omega])⟩, trivial⟩, hS.F ht⟩) hS.2.2 dX11_lookAt_66
    ·
      have c9 : ¬ nq ≤ k15 := fun h => c9 ((nI_leI (a := nq) (b := k15) (by omega) (by omega)).mpr h)
      omega
  | succ d15 ih15 =>
    intro k15 a15_2 a15_3 H locs ls hk15 hn15_3 hv15_0 hP hS hl
    refine lv_iload hx hb dX11_lookAt_15 (lv_at hl 0 rfl) ?_
    refine lv_aload_n hx hb dX11_lookAt_17 rfl (lv_at hl 4 rfl) ?_
    refine va_get (D := (dC, dI)) (ci := 11) (v := .int (nI nq)) (C := RX11) (T := TX11) (N := 46) hx hb hts hi_X11 hown hK hP 0 rfl rfl 2 (by decide) (hts (.fieldLink RX11 99 "LeftQuillsModel" "quills" "I") (wmx 1 rfl)) (fun _ h9 => h9) e_h0_2 dX11_lookAt_18 ?_
    refine lv_icmp_ge (tgt := 65) hx hb dX11_lookAt_21 (by decide) (fun c10 => ?_) (fun c10 => ?_)
    ·
      have c10 : nq ≤ k15 := (nI_leI (a := nq) (b := k15) (by omega) (by omega)).mp c10
      omega
    ·
      have c10 : ¬ nq ≤ k15 := fun h => c10 ((nI_leI (a := nq) (b := k15) (by omega) (by omega)).mpr h)
      refine lv_aload_n hx hb dX11_lookAt_24 rfl (lv_at hl 4 rfl) ?_
      refine lv_iload hx hb dX11_lookAt_25 (lv_at hl 0 rfl) ?_
      refine lv_iload_n hx hb dX11_lookAt_27 rfl (lv_at hl 3 rfl) ?_
      have hPc := hP.sub (ws' := [(h0, .inr (11, f_h0)), (m3, .inl (cI, 8, .inl fm3)), (m4, .inl (cI, 8, .inl fm4)), (m5, .inl (cI, 8, .inl fm5)), (m7, .inl (cI, 4, .inl fm7)), (m8, .inl (cI, 4, .inl fm8))]) [0, 1, 2, 3, 4, 5] rfl
      refine va_calli (va_runV (As := [.int (nI k15), .int (nI w4)]) (rest := []) ⟨hx, hb, hml, hown, hts⟩ (c_X11_greatestPartD l dC dI cI cZ cQ h0 nq nh m3 m4 m5 m7 m8 f_h0 fm3 fm4 fm5 fm7 fm8 k15 w4 H.size e_h0_2 e_h0_6 e_h0_3 e_h0_4 e_h0_5 e_h0_7 e_h0_8 (by omega) (by first | assumption | decide) (by omega) (by omega) (by omega)) (cwV 2 hts gX11_lookAt_X11_greatestPart rfl rfl rfl hd_X11_greatestPart_RX11 ⟨Nat.le_of_ble_eq_true rfl, Nat.le_of_ble_eq_true rfl⟩) (pv_R (va_recv hK hP (ci := 11) (q0 := 0) rfl rfl) hK hPc) rfl rfl hl.1 rfl (lv_room (Nat.le_of_ble_eq_true rfl)) dX11_lookAt_28 ⟨Nat.le_of_ble_eq_true rfl, Nat.le_of_ble_eq_true rfl⟩) hS (fun q _ h => False.elim h) (fun q h => False.elim h) (fun r11 u12 t H1 locs ht hvm hw13 hB hz1 hk1 hS => ?_)
      have hP := hP.kept (fun k q hk => hk1 q.1 (hP k q hk).lt (fun h => h))
      clear hz1 hk1 hPc
      generalize H1 = H at hP hS ht ⊢
      try dsimp only at hw13
      obtain ⟨w14, hw14, ew14, rfl⟩ := nat_ix (gaN_le _) hw13
      refine lv_istore (lv' := [(5, .int (nI w14)), (4, .int (nI k15)), (2, .int a15_2), (3, .int (nI a15_3)), (1, .int (nI w4)), (0, .ref h0)]) hx hb dX11_lookAt_31 hl (by decide) rfl (fun ls hl => ?_)
      refine lv_iload hx hb dX11_lookAt_33 (lv_at hl 0 rfl) ?_
      refine lv_iload_n hx hb dX11_lookAt_35 rfl (lv_at hl 3 rfl) ?_
      refine lv_icmp_ge (tgt := 44) hx hb dX11_lookAt_36 (by decide) (fun c15 => ?_) (fun c15 => ?_)
      ·
        have c15 : a15_3 ≤ w14 := (nI_leI (a := a15_3) (b := w14) (by omega) (by omega)).mp c15
        refine lv_iload_n hx hb dX11_lookAt_44 rfl (lv_at hl 2 rfl) ?_
        refine lv_istore_n (lv' := [(2, .int a15_2), (5, .int (nI w14)), (4, .int (nI k15)), (3, .int (nI a15_3)), (1, .int (nI w4)), (0, .ref h0)]) hx hb dX11_lookAt_45 rfl hl (by decide) rfl (fun ls hl => ?_)
        refine lv_iload hx hb dX11_lookAt_46 (lv_at hl 1 rfl) ?_
        refine lv_iload_n hx hb dX11_lookAt_48 rfl (lv_at hl 3 rfl) ?_
        refine lv_icmp_ge (tgt := 57) hx hb dX11_lookAt_49 (by decide) (fun c16 => ?_) (fun c16 => ?_)
        ·
          have c16 : a15_3 ≤ w14 := (nI_leI (a := a15_3) (b := w14) (by omega) (by omega)).mp c16
          refine lv_iload_n hx hb dX11_lookAt_57 rfl (lv_at hl 3 rfl) ?_
          refine lv_istore_n (lv' := [(3, .int (nI a15_3)), (2, .int a15_2), (5, .int (nI w14)), (4, .int (nI k15)), (1, .int (nI w4)), (0, .ref h0)]) hx hb dX11_lookAt_58 rfl hl (by decide) rfl (fun ls hl => ?_)
          refine lv_iinc (v := nI (k15 + 1)) (lv' := [(4, .int (nI (k15 + 1))), (3, .int (nI a15_3)), (2, .int a15_2), (5, .int (nI w14)), (1, .int (nI w4)), (0, .ref h0)]) hx hb dX11_lookAt_59 hl (k := 3) rfl ((rfl : nI k15 + Int32.ofInt 1 = nI k15 + 1).trans (nI_add k15 1)) (by decide) rfl (fun ls hl => ?_)
          refine lv_goto (tgt := 15) hx hb dX11_lookAt_62 (by decide) ?_
          exact ih15 (k15 + 1) a15_2 a15_3 _ _ _ (by omega) (by omega) (la_n hv15_0 ew14.out (by omega)) hP hS (lv_sub hl [0, 2, 1, 4, 5] rfl)
        ·
          have c16 : ¬ a15_3 ≤ w14 := fun h => c16 ((nI_leI (a := a15_3) (b := w14) (by omega) (by omega)).mpr h)
          omega
      ·
        have c15 : ¬ a15_3 ≤ w14 := fun h => c15 ((nI_leI (a := a15_3) (b := w14) (by omega) (by omega)).mpr h)
        refine lv_iload hx hb dX11_lookAt_39 (lv_at hl 1 rfl) ?_
        refine lv_goto (tgt := 45) hx hb dX11_lookAt_41 (by decide) ?_
        refine lv_istore_n (lv' := [(2, .int (nI k15)), (5, .int (nI w14)), (4, .int (nI k15)), (3, .int (nI a15_3)), (1, .int (nI w4)), (0, .ref h0)]) hx hb dX11_lookAt_45 rfl hl (by decide) rfl (fun ls hl => ?_)
        refine lv_iload hx hb dX11_lookAt_46 (lv_at hl 1 rfl) ?_
        refine lv_iload_n hx hb dX11_lookAt_48 rfl (lv_at hl 3 rfl) ?_
        refine lv_icmp_ge (tgt := 57) hx hb dX11_lookAt_49 (by decide) (fun c17 => ?_) (fun c17 => ?_)
        ·
          have c17 : a15_3 ≤ w14 := (nI_leI (a := a15_3) (b := w14) (by omega) (by omega)).mp c17
          omega
        ·
          have c17 : ¬ a15_3 ≤ w14 := fun h => c17 ((nI_leI (a := a15_3) (b := w14) (by omega) (by omega)).mpr h)
          refine lv_iload hx hb dX11_lookAt_52 (lv_at hl 1 rfl) ?_
          refine lv_goto (tgt := 58) hx hb dX11_lookAt_54 (by decide) ?_
          refine lv_istore_n (lv' := [(3, .int (nI w14)), (2, .int (nI k15)), (5, .int (nI w14)), (4, .int (nI k15)), (1, .int (nI w4)), (0, .ref h0)]) hx hb dX11_lookAt_58 rfl hl (by decide) rfl (fun ls hl => ?_)
          refine lv_iinc (v := nI (k15 + 1)) (lv' := [(4, .int (nI (k15 + 1))), (3, .int (nI w14)), (2, .int (nI k15)), (5, .int (nI w14)), (1, .int (nI w4)), (0, .ref h0)]) hx hb dX11_lookAt_59 hl (k := 3) rfl ((rfl : nI k15 + Int32.ofInt 1 = nI k15 + 1).trans (nI_add k15 1)) (by decide) rfl (fun ls hl => ?_)
          refine lv_goto (tgt := 15) hx hb dX11_lookAt_62 (by decide) ?_
          exact ih15 (k15 + 1) (nI k15) w14 _ _ _ (by omega) (by omega) (la_y hv15_0 ew14.out (by omega)) hP hS (lv_sub hl [0, 2, 1, 4, 5] rfl)
