set_option maxHeartbeats 4000000 in
set_option maxRecDepth 100000 in
theorem c_X10_softerBy (l : Launch) (dC : Nat → ClassId) (dI : Nat → Nat → Nat) (cI cZ cQ : ClassId) (a0 : Int32) (a1 : Int32) (sz : Nat)  : Met l yX10_softerBy wsX10_softerBy ({ frames := 1, cells := 0, slots := 0, locals := 40 }) (va_Pc [.int a0, .int a1] (fun U => U.heap.size = sz ∧ va_P (dC, dI) vwCl [] U.heap ∧ va_K (dC, dI) vwCl (tys0 cI cZ cQ) U)) (va_Qi (fun (r : Int32) (u : Nat → Nat) => True) (fun (_ : Nat → Nat) (_ : State) => True) (fun _ : Nat => False)) 0 0 (fun _ : Nat => False) := by
  refine Met.ofW (cc := cX10_softerBy) (maxL := 2) (ret := (some .int)) (by decide) rfl ?_
  intro p e s m args below meth c s₁ B hml hv
  obtain ⟨rfl, hsz, hP, hK⟩ := hv
  have hx := B.exec
  have hb := B.bytes
  have hr := B.returns
  have hts := atoms_spec (ws := wsX10_softerBy) B.pre
  have hown : s.vm.findClass RX10 = some m.cls := findClass_of_methodNamed B.named
  have hlocks := B.notSynchronized
  subst hsz
  have hS : va_S (fun _ : Nat => False) s.heap s.heap [] := va_S.rf
  have hl := lv_entry ([.int a0, .int a1]) (n := 2) (Nat.le_of_ble_eq_true rfl)
  rw [lg_entry_eq]
  generalize (lg_sl ([.int a0, .int a1]) ++ List.replicate (2 - (lg_sl ([.int a0, .int a1])).length) Slot.unset).toArray = ls at hl ⊢
  have hl : lv_has ls 2 [(0, .int a0), (1, .int a1)] := hl
  refine lv_bipush (v := 99) hx hb dX10_softerBy_0 (by decide) ?_
  refine lv_iload_n hx hb dX10_softerBy_2 rfl (lv_at hl 0 rfl) ?_
  refine lv_iload_n hx hb dX10_softerBy_3 rfl (lv_at hl 1 rfl) ?_
  refine lv_iadd hx hb dX10_softerBy_4 ?_
  refine lv_topi (fun z1 ez1 => ?_)
  refine va_mmin hx hb (hml.trans hl.1.symm) hown (hts (.methodLink RX10 265 Lib.Math.min.name) (wmx 1 rfl)) (hts (.static Lib.Math.min.name) (wmx 2 rfl)) (hts (.initialized "java/lang/Math") (wmx 3 rfl)) (hts (.code Lib.Math.min.name Lib.Math.min.code 2 (some .int)) (wmx 4 rfl)) (Nat.le_of_ble_eq_true rfl) (Nat.le_of_ble_eq_true rfl) (Nat.le_of_ble_eq_true rfl) (Nat.le_of_ble_eq_true rfl) dX10_softerBy_5 ?_
  refine lv_topi (fun z2 ez2 => ?_)
  exact W.iret (v := z2) hx hb hr (fun t ht hW => ⟨⟨z2, (fun _ => 0), rfl, trivial, trivial⟩, hS.F ht⟩) hS.2.2 dX10_softerBy_8
set_option maxHeartbeats 4000000 in
set_option maxRecDepth 100000 in
theorem c_X10_driedSoftness (l : Launch) (dC : Nat → ClassId) (dI : Nat → Nat → Nat) (cI cZ cQ : ClassId) (a0 : Int32) (a1 : Int32) (sz : Nat)  : Met l yX10_driedSoftness wsX10_driedSoftness ({ frames := 1, cells := 0, slots := 0, locals := 40 }) (va_Pc [.int a0, .int a1] (fun U => U.heap.size = sz ∧ va_P (dC, dI) vwCl [] U.heap ∧ va_K (dC, dI) vwCl (tys0 cI cZ cQ) U)) (va_Qi (fun (r : Int32) (u : Nat → Nat) => True) (fun (_ : Nat → Nat) (_ : State) => True) (fun _ : Nat => False)) 0 0 (fun _ : Nat => False) := by
  refine Met.ofW (cc := cX10_driedSoftness) (maxL := 2) (ret := (some .int)) (by decide) rfl ?_
  intro p e s m args below meth c s₁ B hml hv
  obtain ⟨rfl, hsz, hP, hK⟩ := hv
  have hx := B.exec
  have hb := B.bytes
  have hr := B.returns
  have hts := atoms_spec (ws := wsX10_driedSoftness) B.pre
  have hown : s.vm.findClass RX10 = some m.cls := findClass_of_methodNamed B.named
  have hlocks := B.notSynchronized
  subst hsz
  have hS : va_S (fun _ : Nat => False) s.heap s.heap [] := va_S.rf
  have hl := lv_entry ([.int a0, .int a1]) (n := 2) (Nat.le_of_ble_eq_true rfl)
  rw [lg_entry_eq]
  generalize (lg_sl ([.int a0, .int a1]) ++ List.replicate (2 - (lg_sl ([.int a0, .int a1])).length) Slot.unset).toArray = ls at hl ⊢
  have hl : lv_has ls 2 [(0, .int a0), (1, .int a1)] := hl
  refine lv_iload_n hx hb dX10_driedSoftness_0 rfl (lv_at hl 0 rfl) ?_
  refine lv_bipush (v := 8) hx hb dX10_driedSoftness_1 (by decide) ?_
  refine lv_iload_n hx hb dX10_driedSoftness_3 rfl (lv_at hl 1 rfl) ?_
  refine lv_imul hx hb dX10_driedSoftness_4 ?_
  refine lv_topi (fun z1 ez1 => ?_)
  refine lv_isub hx hb dX10_driedSoftness_5 ?_
  refine lv_topi (fun z2 ez2 => ?_)
  refine lv_iload_n hx hb dX10_driedSoftness_6 rfl (lv_at hl 0 rfl) ?_
  refine lv_iconst (v := 3) hx hb dX10_driedSoftness_7 (by decide) ?_
  refine lv_idiv hx hb dX10_driedSoftness_8 (by decide) ?_
  refine lv_topi (fun z3 ez3 => ?_)
  refine va_mmax hx hb (hml.trans hl.1.symm) hown (hts (.methodLink RX10 305 Lib.Math.max.name) (wmx 1 rfl)) (hts (.static Lib.Math.max.name) (wmx 2 rfl)) (hts (.initialized "java/lang/Math") (wmx 3 rfl)) (hts (.code Lib.Math.max.name Lib.Math.max.code 2 (some .int)) (wmx 4 rfl)) (Nat.le_of_ble_eq_true rfl) (Nat.le_of_ble_eq_true rfl) (Nat.le_of_ble_eq_true rfl) (Nat.le_of_ble_eq_true rfl) dX10_driedSoftness_9 ?_
  refine lv_topi (fun z4 ez4 => ?_)
  exact W.iret (v := z4) hx hb hr (fun t ht hW => ⟨⟨z4, (fun _ => 0), rfl, trivial, trivial⟩, hS.F ht⟩) hS.2.2 dX10_driedSoftness_12
set_option maxHeartbeats 4000000 in
set_option maxRecDepth 100000 in
theorem c_X5_hardness (l : Launch) (dC : Nat → ClassId) (dI : Nat → Nat → Nat) (cI cZ cQ : ClassId) (h0 : Nat) (o6 : Nat) (o7 : Nat) (f_h0 : List Value) (fo6 : Nat → Int32) (fo7 : Nat → Int32) (j : Nat) (sz : Nat) (e_h0_6 : fAt f_h0 6 = some (.ref o6)) (e_h0_7 : fAt f_h0 7 = some (.ref o7)) (hj : j < 8) : Met l yX5_hardness wsX5_hardness ({ frames := 0, cells := 0, slots := 0, locals := 40 }) (va_Pc [.ref h0, .int (nI j)] (fun U => U.heap.size = sz ∧ va_P (dC, dI) vwCl [(h0, .inr (5, f_h0)), (o6, .inl (cI, 8, .inl fo6)), (o7, .inl (cI, 8, .inl fo7))] U.heap ∧ va_K (dC, dI) vwCl (tys0 cI cZ cQ) U)) (va_Qi (fun (r : Int32) (u : Nat → Nat) => True) (fun (_ : Nat → Nat) (_ : State) => True) (fun _ : Nat => False)) 0 0 (fun _ : Nat => False) := by
  refine Met.ofW (cc := cX5_hardness) (maxL := 2) (ret := (some .int)) (by decide) rfl ?_
  intro p e s m args below meth c s₁ B hml hv
  obtain ⟨rfl, hsz, hP, hK⟩ := hv
  have hx := B.exec
  have hb := B.bytes
  have hr := B.returns
  have hts := atoms_spec (ws := wsX5_hardness) B.pre
  have hown : s.vm.findClass RX5 = some m.cls := findClass_of_methodNamed B.named
  have hlocks := B.notSynchronized
  have hi_X5 : ∀ w ∈ u_ws RX5 TX5 13, w ∈ wsX5_hardness := fun _ h => List.mem_cons_of_mem _ (List.mem_append_right _ (h))
  subst hsz
  have hS : va_S (fun _ : Nat => False) s.heap s.heap [] := va_S.rf
  have hl := lv_entry ([.ref h0, .int (nI j)]) (n := 2) (Nat.le_of_ble_eq_true rfl)
  rw [lg_entry_eq]
  generalize (lg_sl ([.ref h0, .int (nI j)]) ++ List.replicate (2 - (lg_sl ([.ref h0, .int (nI j)])).length) Slot.unset).toArray = ls at hl ⊢
  have hl : lv_has ls 2 [(0, .ref h0), (1, .int (nI j))] := hl
  refine lv_aload_n hx hb dX5_hardness_0 rfl (lv_at hl 0 rfl) ?_
  refine va_get (D := (dC, dI)) (ci := 5) (v := .ref o6) (C := RX5) (T := TX5) (N := 13) hx hb hts hi_X5 hown hK hP 0 rfl rfl 6 (by decide) (hts (.fieldLink RX5 32 "LeftQuills$Office" "place" "[I") (wmx 1 rfl)) (fun _ h9 => h9) e_h0_6 dX5_hardness_1 ?_
  refine lv_iload_n hx hb dX5_hardness_4 rfl (lv_at hl 1 rfl) ?_
  refine va_iald hx hb hK hP 1 0 rfl rfl (vp_in_nI (n := j) (N := 8) (by omega) (by decide)) dX5_hardness_5 ?_
  refine W.eq (g2 := F0 m 6 ls [.int (fo6 j)]) (congrArg (fun y9 => F0 m 6 ls (.int (fo6 y9) :: [])) ((nI_clamp (n := j) (by omega)))) ?_
  by_cases c1 : (fo6 j).toInt < 2 ∨ 4 < (fo6 j).toInt
  · refine lv_tableOut (tgt := 54) hx hb dX5_hardness_6 c1 (by decide) ?_
    refine lv_iconst (v := 2) hx hb dX5_hardness_54 (by decide) ?_
    refine lv_aload_n hx hb dX5_hardness_55 rfl (lv_at hl 0 rfl) ?_
    refine va_get (D := (dC, dI)) (ci := 5) (v := .ref o7) (C := RX5) (T := TX5) (N := 13) hx hb hts hi_X5 hown hK hP 0 rfl rfl 7 (by decide) (hts (.fieldLink RX5 35 "LeftQuills$Office" "cooked" "[I") (wmx 2 rfl)) (fun _ h9 => h9) e_h0_7 dX5_hardness_56 ?_
    refine lv_iload_n hx hb dX5_hardness_59 rfl (lv_at hl 1 rfl) ?_
    refine va_iald hx hb hK hP 2 0 rfl rfl (vp_in_nI (n := j) (N := 8) (by omega) (by decide)) dX5_hardness_60 ?_
    refine W.eq (g2 := F0 m 61 ls [.int (fo7 j), .int 2]) (congrArg (fun y9 => F0 m 61 ls (.int (fo7 y9) :: [.int 2])) ((nI_clamp (n := j) (by omega)))) ?_
    refine lv_iadd hx hb dX5_hardness_61 ?_
    refine lv_topi (fun z2 ez2 => ?_)
    refine lv_iconst (v := 1) hx hb dX5_hardness_62 (by decide) ?_
    refine lv_iadd hx hb dX5_hardness_63 ?_
    refine lv_topi (fun z3 ez3 => ?_)
    exact W.iret (v := z3) hx hb hr (fun t ht hW => ⟨⟨z3, (fun _ => 0), rfl, trivial, trivial⟩, hS.F ht⟩) hS.2.2 dX5_hardness_64
  have h4 := x_sw_2_4 c1
  rcases h4 with h4 | h4 | h4
  · refine lv_tableIn (tgt := 32) hx hb dX5_hardness_6 (by rw [h4]; decide) (by rw [h4]; decide) (by rw [h4]; rfl) (by decide) ?_
    refine lv_iconst (v := 2) hx hb dX5_hardness_32 (by decide) ?_
    refine lv_aload_n hx hb dX5_hardness_33 rfl (lv_at hl 0 rfl) ?_
    refine va_get (D := (dC, dI)) (ci := 5) (v := .ref o7) (C := RX5) (T := TX5) (N := 13) hx hb hts hi_X5 hown hK hP 0 rfl rfl 7 (by decide) (hts (.fieldLink RX5 35 "LeftQuills$Office" "cooked" "[I") (wmx 2 rfl)) (fun _ h9 => h9) e_h0_7 dX5_hardness_34 ?_
    refine lv_iload_n hx hb dX5_hardness_37 rfl (lv_at hl 1 rfl) ?_
    refine va_iald hx hb hK hP 2 0 rfl rfl (vp_in_nI (n := j) (N := 8) (by omega) (by decide)) dX5_hardness_38 ?_
    refine W.eq (g2 := F0 m 39 ls [.int (fo7 j), .int 2]) (congrArg (fun y9 => F0 m 39 ls (.int (fo7 y9) :: [.int 2])) ((nI_clamp (n := j) (by omega)))) ?_
    refine lv_iadd hx hb dX5_hardness_39 ?_
    refine lv_topi (fun z5 ez5 => ?_)
    refine lv_iconst (v := 3) hx hb dX5_hardness_40 (by decide) ?_
    refine lv_iadd hx hb dX5_hardness_41 ?_
    refine lv_topi (fun z6 ez6 => ?_)
    exact W.iret (v := z6) hx hb hr (fun t ht hW => ⟨⟨z6, (fun _ => 0), rfl, trivial, trivial⟩, hS.F ht⟩) hS.2.2 dX5_hardness_42
  · refine lv_tableIn (tgt := 32) hx hb dX5_hardness_6 (by rw [h4]; decide) (by rw [h4]; decide) (by rw [h4]; rfl) (by decide) ?_
    refine lv_iconst (v := 2) hx hb dX5_hardness_32 (by decide) ?_
    refine lv_aload_n hx hb dX5_hardness_33 rfl (lv_at hl 0 rfl) ?_
    refine va_get (D := (dC, dI)) (ci := 5) (v := .ref o7) (C := RX5) (T := TX5) (N := 13) hx hb hts hi_X5 hown hK hP 0 rfl rfl 7 (by decide) (hts (.fieldLink RX5 35 "LeftQuills$Office" "cooked" "[I") (wmx 2 rfl)) (fun _ h9 => h9) e_h0_7 dX5_hardness_34 ?_
    refine lv_iload_n hx hb dX5_hardness_37 rfl (lv_at hl 1 rfl) ?_
    refine va_iald hx hb hK hP 2 0 rfl rfl (vp_in_nI (n := j) (N := 8) (by omega) (by decide)) dX5_hardness_38 ?_
    refine W.eq (g2 := F0 m 39 ls [.int (fo7 j), .int 2]) (congrArg (fun y9 => F0 m 39 ls (.int (fo7 y9) :: [.int 2])) ((nI_clamp (n := j) (by omega)))) ?_
    refine lv_iadd hx hb dX5_hardness_39 ?_
    refine lv_topi (fun z7 ez7 => ?_)
    refine lv_iconst (v := 3) hx hb dX5_hardness_40 (by decide) ?_
    refine lv_iadd hx hb dX5_hardness_41 ?_
    refine lv_topi (fun z8 ez8 => ?_)
    exact W.iret (v := z8) hx hb hr (fun t ht hW => ⟨⟨z8, (fun _ => 0), rfl, trivial, trivial⟩, hS.F ht⟩) hS.2.2 dX5_hardness_42
  · refine lv_tableIn (tgt := 43) hx hb dX5_hardness_6 (by rw [h4]; decide) (by rw [h4]; decide) (by rw [h4]; rfl) (by decide) ?_
    refine lv_iconst (v := 2) hx hb dX5_hardness_43 (by decide) ?_
    refine lv_aload_n hx hb dX5_hardness_44 rfl (lv_at hl 0 rfl) ?_
    refine va_get (D := (dC, dI)) (ci := 5) (v := .ref o7) (C := RX5) (T := TX5) (N := 13) hx hb hts hi_X5 hown hK hP 0 rfl rfl 7 (by decide) (hts (.fieldLink RX5 35 "LeftQuills$Office" "cooked" "[I") (wmx 2 rfl)) (fun _ h9 => h9) e_h0_7 dX5_hardness_45 ?_
    refine lv_iload_n hx hb dX5_hardness_48 rfl (lv_at hl 1 rfl) ?_
    refine va_iald hx hb hK hP 2 0 rfl rfl (vp_in_nI (n := j) (N := 8) (by omega) (by decide)) dX5_hardness_49 ?_
    refine W.eq (g2 := F0 m 50 ls [.int (fo7 j), .int 2]) (congrArg (fun y9 => F0 m 50 ls (.int (fo7 y9) :: [.int 2])) ((nI_clamp (n := j) (by omega)))) ?_
    refine lv_iadd hx hb dX5_hardness_50 ?_
    refine lv_topi (fun z9 ez9 => ?_)
    refine lv_iconst (v := 2) hx hb dX5_hardness_51 (by decide) ?_
    refine lv_iadd hx hb dX5_hardness_52 ?_
    refine lv_topi (fun z10 ez10 => ?_)
    exact W.iret (v := z10) hx hb hr (fun t ht hW => ⟨⟨z10, (fun _ => 0), rfl, trivial, trivial⟩, hS.F ht⟩) hS.2.2 dX5_hardness_53
set_option maxHeartbeats 4000000 in
set_option maxRecDepth 100000 in
theorem c_X5_fits (l : Launch) (dC : Nat → ClassId) (dI : Nat → Nat → Nat) (cI cZ cQ : ClassId) (h0 : Nat) (o5 : Nat) (o10 : Nat) (f_h0 : List Value) (fo5 : Nat → Int32) (fo10 : Nat → Int32) (j : Nat) (k : Nat) (sz : Nat) (e_h0_5 : fAt f_h0 5 = some (.ref o5)) (e_h0_10 : fAt f_h0 10 = some (.ref o10)) (hj : j < 8) (hk : k < 4) : Met l yX5_fits wsX5_fits ({ frames := 0, cells := 0, slots := 0, locals := 40 }) (va_Pc [.ref h0, .int (nI j), .int (nI k)] (fun U => U.heap.size = sz ∧ va_P (dC, dI) vwCl [(h0, .inr (5, f_h0)), (o5, .inl (cI, 8, .inl fo5)), (o10, .inl (cI, 4, .inl fo10))] U.heap ∧ va_K (dC, dI) vwCl (tys0 cI cZ cQ) U)) (va_Qi (fun (r : Int32) (u : Nat → Nat) => r = 1 ∨ r = 0) (fun (_ : Nat → Nat) (_ : State) => True) (fun _ : Nat => False)) 0 0 (fun _ : Nat => False) := by
  refine Met.ofW (cc := cX5_fits) (maxL := 3) (ret := (some .boolean)) (by decide) rfl ?_
  intro p e s m args below meth c s₁ B hml hv
  obtain ⟨rfl, hsz, hP, hK⟩ := hv
  have hx := B.exec
  have hb := B.bytes
  have hr := B.returns
  have hts := atoms_spec (ws := wsX5_fits) B.pre
  have hown : s.vm.findClass RX5 = some m.cls := findClass_of_methodNamed B.named
  have hlocks := B.notSynchronized
  have hi_X5 : ∀ w ∈ u_ws RX5 TX5 13, w ∈ wsX5_fits := fun _ h => List.mem_cons_of_mem _ (List.mem_append_right _ (h))
  subst hsz
  have hS : va_S (fun _ : Nat => False) s.heap s.heap [] := va_S.rf
  have hl := lv_entry ([.ref h0, .int (nI j), .int (nI k)]) (n := 3) (Nat.le_of_ble_eq_true rfl)
  rw [lg_entry_eq]
  generalize (lg_sl ([.ref h0, .int (nI j), .int (nI k)]) ++ List.replicate (3 - (lg_sl ([.ref h0, .int (nI j), .int (nI k)])).length) Slot.unset).toArray = ls at hl ⊢
  have hl : lv_has ls 3 [(0, .ref h0), (1, .int (nI j)), (2, .int (nI k))] := hl
  refine lv_aload_n hx hb dX5_fits_0 rfl (lv_at hl 0 rfl) ?_
  refine va_get (D := (dC, dI)) (ci := 5) (v := .ref o5) (C := RX5) (T := TX5) (N := 13) hx hb hts hi_X5 hown hK hP 0 rfl rfl 5 (by decide) (hts (.fieldLink RX5 28 "LeftQuills$Office" "wing" "[I") (wmx 1 rfl)) (fun _ h9 => h9) e_h0_5 dX5_fits_1 ?_
  refine lv_iload_n hx hb dX5_fits_4 rfl (lv_at hl 1 rfl) ?_
  refine va_iald hx hb hK hP 1 0 rfl rfl (vp_in_nI (n := j) (N := 8) (by omega) (by decide)) dX5_fits_5 ?_
  refine W.eq (g2 := F0 m 6 ls [.int (fo5 j)]) (congrArg (fun y9 => F0 m 6 ls (.int (fo5 y9) :: [])) ((nI_clamp (n := j) (by omega)))) ?_
  refine lv_aload_n hx hb dX5_fits_6 rfl (lv_at hl 0 rfl) ?_
  refine va_get (D := (dC, dI)) (ci := 5) (v := .ref o10) (C := RX5) (T := TX5) (N := 13) hx hb hts hi_X5 hown hK hP 0 rfl rfl 10 (by decide) (hts (.fieldLink RX5 44 "LeftQuills$Office" "side" "[I") (wmx 2 rfl)) (fun _ h9 => h9) e_h0_10 dX5_fits_7 ?_
  refine lv_iload_n hx hb dX5_fits_10 rfl (lv_at hl 2 rfl) ?_
  refine va_iald hx hb hK hP 2 0 rfl rfl (vp_in_nI (n := k) (N := 4) (by omega) (by decide)) dX5_fits_11 ?_
  refine W.eq (g2 := F0 m 12 ls [.int (fo10 k), .int (fo5 j)]) (congrArg (fun y9 => F0 m 12 ls (.int (fo10 y9) :: [.int (fo5 j)])) ((nI_clamp (n := k) (by omega)))) ?_
  refine lv_icmp_ne (tgt := 19) hx hb dX5_fits_12 (by decide) (fun c1 => ?_) (fun c1 => ?_)
  ·
    refine lv_iconst (v := 0) hx hb dX5_fits_19 (by decide) ?_
    exact W.zret (v := 0) hx hb hr (rfl) (fun t ht hW => ⟨⟨0, (fun _ => 0), rfl, Or.inr rfl, trivial⟩, hS.F ht⟩) hS.2.2 dX5_fits_20
  ·
    refine lv_iconst (v := 1) hx hb dX5_fits_15 (by decide) ?_
    refine lv_goto (tgt := 20) hx hb dX5_fits_16 (by decide) ?_
    exact W.zret (v := 1) hx hb hr (rfl) (fun t ht hW => ⟨⟨1, (fun _ => 0), rfl, Or.inl rfl, trivial⟩, hS.F ht⟩) hS.2.2 dX5_fits_20
set_option maxHeartbeats 4000000 in
set_option maxRecDepth 100000 in
theorem c_X5_wear (l : Launch) (dC : Nat → ClassId) (dI : Nat → Nat → Nat) (cI cZ cQ : ClassId) (h0 : Nat) (o5 : Nat) (o6 : Nat) (o7 : Nat) (o10 : Nat) (o11 : Nat) (f_h0 : List Value) (fo5 : Nat → Int32) (fo6 : Nat → Int32) (fo7 : Nat → Int32) (fo10 : Nat → Int32) (fo11 : Nat → Int32) (j : Nat) (k : Nat) (sz : Nat) (e_h0_5 : fAt f_h0 5 = some (.ref o5)) (e_h0_6 : fAt f_h0 6 = some (.ref o6)) (e_h0_7 : fAt f_h0 7 = some (.ref o7)) (e_h0_10 : fAt f_h0 10 = some (.ref o10)) (e_h0_11 : fAt f_h0 11 = some (.ref o11)) (hj : j < 8) (hk : k < 4) : Met l yX5_wear wsX5_wear ({ frames := 1, cells := 0, slots := 0, locals := 62 }) (va_Pc [.ref h0, .int (nI j), .int (nI k)] (fun U => U.heap.size = sz ∧ va_P (dC, dI) vwCl [(h0, .inr (5, f_h0)), (o5, .inl (cI, 8, .inl fo5)), (o6, .inl (cI, 8, .inl fo6)), (o7, .inl (cI, 8, .inl fo7)), (o10, .inl (cI, 4, .inl fo10)), (o11, .inl (cI, 4, .inl fo11))] U.heap ∧ va_K (dC, dI) vwCl (tys0 cI cZ cQ) U)) (va_Qi (fun (r : Int32) (u : Nat → Nat) => True) (fun (_ : Nat → Nat) (_ : State) => True) (fun _ : Nat => False)) 0 0 (fun _ : Nat => False) := by
  refine Met.ofW (cc := cX5_wear) (maxL := 4) (ret := (some .int)) (by decide) rfl ?_
  intro p e s m args below meth c s₁ B hml hv
  obtain ⟨rfl, hsz, hP, hK⟩ := hv
  have hx := B.exec
  have hb := B.bytes
  have hr := B.returns
  have hts := atoms_spec (ws := wsX5_wear) B.pre
  have hown : s.vm.findClass RX5 = some m.cls := findClass_of_methodNamed B.named
  have hlocks := B.notSynchronized
  have hi_X5 : ∀ w ∈ u_ws RX5 TX5 13, w ∈ wsX5_wear := fun _ h => List.mem_cons_of_mem _ (List.mem_append_right _ (h))
  subst hsz
  have hS : va_S (fun _ : Nat => False) s.heap s.heap [] := va_S.rf
  have hl := lv_entry ([.ref h0, .int (nI j), .int (nI k)]) (n := 4) (Nat.le_of_ble_eq_true rfl)
  rw [lg_entry_eq]
  generalize (lg_sl ([.ref h0, .int (nI j), .int (nI k)]) ++ List.replicate (4 - (lg_sl ([.ref h0, .int (nI j), .int (nI k)])).length) Slot.unset).toArray = ls at hl ⊢
  have hl : lv_has ls 4 [(0, .ref h0), (1, .int (nI j)), (2, .int (nI k))] := hl
  refine lv_iconst (v := 1) hx hb dX5_wear_0 (by decide) ?_
  refine lv_bipush (v := 12) hx hb dX5_wear_1 (by decide) ?_
  refine lv_aload_n hx hb dX5_wear_3 rfl (lv_at hl 0 rfl) ?_
  refine va_get (D := (dC, dI)) (ci := 5) (v := .ref o11) (C := RX5) (T := TX5) (N := 13) hx hb hts hi_X5 hown hK hP 0 rfl rfl 11 (by decide) (hts (.fieldLink RX5 47 "LeftQuills$Office" "presses" "[I") (wmx 1 rfl)) (fun _ h9 => h9) e_h0_11 dX5_wear_4 ?_
  refine lv_iload_n hx hb dX5_wear_7 rfl (lv_at hl 2 rfl) ?_
  refine va_iald hx hb hK hP 5 0 rfl rfl (vp_in_nI (n := k) (N := 4) (by omega) (by decide)) dX5_wear_8 ?_
  refine W.eq (g2 := F0 m 9 ls [.int (fo11 k), .int 12, .int 1]) (congrArg (fun y9 => F0 m 9 ls (.int (fo11 y9) :: [.int 12, .int 1])) ((nI_clamp (n := k) (by omega)))) ?_
  refine lv_imul hx hb dX5_wear_9 ?_
  refine lv_topi (fun z1 ez1 => ?_)
  refine lv_iconst (v := 1) hx hb dX5_wear_10 (by decide) ?_
  refine lv_aload_n hx hb dX5_wear_11 rfl (lv_at hl 0 rfl) ?_
  refine lv_iload_n hx hb dX5_wear_12 rfl (lv_at hl 1 rfl) ?_
  have hPc := hP.sub (ws' := [(h0, .inr (5, f_h0)), (o6, .inl (cI, 8, .inl fo6)), (o7, .inl (cI, 8, .inl fo7))]) [0, 2, 3] rfl
  refine va_calli (va_runV (As := [.int (nI j)]) (rest := [.int 1, .int z1, .int 1]) ⟨hx, hb, hml, hown, hts⟩ (c_X5_hardness l dC dI cI cZ cQ h0 o6 o7 f_h0 fo6 fo7 j s.heap.size e_h0_6 e_h0_7 (by omega)) (cwV 1 hts gX5_wear_X5_hardness rfl rfl rfl hd_X5_hardness_RX5 ⟨Nat.le_of_ble_eq_true rfl, Nat.le_of_ble_eq_true rfl⟩) (pv_R (va_recv hK hP (ci := 5) (q0 := 0) rfl rfl) hK hPc) rfl rfl hl.1 rfl (lv_room (Nat.le_of_ble_eq_true rfl)) dX5_wear_13 ⟨Nat.le_of_ble_eq_true rfl, Nat.le_of_ble_eq_true rfl⟩) hS (fun q _ h => False.elim h) (fun q h => False.elim h) (fun r2 u3 t H1 locs ht hvm hw4 hB hz1 hk1 hS => ?_)
  have hP := hP.kept (fun k q hk => hk1 q.1 (hP k q hk).lt (fun h => h))
  clear hz1 hk1 hPc
  generalize H1 = H at hP hS ht ⊢
  try dsimp only at hw4
  refine va_mmax hx hb (hml.trans hl.1.symm) hown (hts (.methodLink RX5 63 Lib.Math.max.name) (wmx 2 rfl)) (hts (.static Lib.Math.max.name) (wmx 3 rfl)) (hts (.initialized "java/lang/Math") (wmx 4 rfl)) (hts (.code Lib.Math.max.name Lib.Math.max.code 2 (some .int)) (wmx 5 rfl)) (Nat.le_of_ble_eq_true rfl) (Nat.le_of_ble_eq_true rfl) (Nat.le_of_ble_eq_true rfl) (Nat.le_of_ble_eq_true rfl) dX5_wear_16 ?_
  refine lv_topi (fun z5 ez5 => ?_)
  refine lv_idiv hx hb dX5_wear_19 (x_mx1 ez5) ?_
  refine lv_topi (fun z6 ez6 => ?_)
  refine va_mmax hx hb (hml.trans hl.1.symm) hown (hts (.methodLink RX5 63 Lib.Math.max.name) (wmx 2 rfl)) (hts (.static Lib.Math.max.name) (wmx 3 rfl)) (hts (.initialized "java/lang/Math") (wmx 4 rfl)) (hts (.code Lib.Math.max.name Lib.Math.max.code 2 (some .int)) (wmx 5 rfl)) (Nat.le_of_ble_eq_true rfl) (Nat.le_of_ble_eq_true rfl) (Nat.le_of_ble_eq_true rfl) (Nat.le_of_ble_eq_true rfl) dX5_wear_20 ?_
  refine lv_topi (fun z7 ez7 => ?_)
  refine lv_istore_n (lv' := [(3, .int z7), (0, .ref h0), (1, .int (nI j)), (2, .int (nI k))]) hx hb dX5_wear_23 rfl hl (by decide) rfl (fun ls hl => ?_)
  refine lv_aload_n hx hb dX5_wear_24 rfl (lv_at hl 1 rfl) ?_
  refine lv_iload_n hx hb dX5_wear_25 rfl (lv_at hl 2 rfl) ?_
  refine lv_iload_n hx hb dX5_wear_26 rfl (lv_at hl 3 rfl) ?_
  have hPc := hP.sub (ws' := [(h0, .inr (5, f_h0)), (o5, .inl (cI, 8, .inl fo5)), (o10, .inl (cI, 4, .inl fo10))]) [0, 1, 4] rfl
  refine va_calli (va_runV (As := [.int (nI j), .int (nI k)]) (rest := []) ⟨hx, hb, hml, hown, hts⟩ (c_X5_fits l dC dI cI cZ cQ h0 o5 o10 f_h0 fo5 fo10 j k H.size e_h0_5 e_h0_10 (by omega) (by omega)) (cwV 2 hts gX5_wear_X5_fits rfl rfl rfl hd_X5_fits_RX5 ⟨Nat.le_of_ble_eq_true rfl, Nat.le_of_ble_eq_true rfl⟩) (pv_R (va_recv hK hP (ci := 5) (q0 := 0) rfl rfl) hK hPc) rfl rfl hl.1 rfl (lv_room (Nat.le_of_ble_eq_true rfl)) dX5_wear_27 ⟨Nat.le_of_ble_eq_true rfl, Nat.le_of_ble_eq_true rfl⟩) hS (fun q _ h => False.elim h) (fun q h => False.elim h) (fun r8 u9 t H1 locs ht hvm hw10 hB hz1 hk1 hS => ?_)
  have hP := hP.kept (fun k q hk => hk1 q.1 (hP k q hk).lt (fun h => h))
  clear hz1 hk1 hPc
  generalize H1 = H at hP hS ht ⊢
  try dsimp only at hw10
  rcases hw10 with rfl | rfl
  ·
    refine lv_if_eq (tgt := 37) hx hb dX5_wear_30 (by decide) (fun c11 => ?_) (fun c11 => ?_)
    · exact absurd c11 (by decide)
    clear c11
    refine lv_iload_n hx hb dX5_wear_33 rfl (lv_at hl 0 rfl) ?_
    refine lv_goto (tgt := 40) hx hb dX5_wear_34 (by decide) ?_
    exact W.iret (v := z7) hx hb hr (fun t ht hW => ⟨⟨z7, (fun _ => 0), rfl, trivial, trivial⟩, hS.F ht⟩) hS.2.2 dX5_wear_40
  ·
    refine lv_if_eq (tgt := 37) hx hb dX5_wear_30 (by decide) (fun c12 => ?_) (fun c12 => ?_)
    rotate_left
    · exact absurd c12 (by decide)
    clear c12
    refine lv_iload_n hx hb dX5_wear_37 rfl (lv_at hl 0 rfl) ?_
    refine lv_iconst (v := 4) hx hb dX5_wear_38 (by decide) ?_
    refine lv_iadd hx hb dX5_wear_39 ?_
    refine lv_topi (fun z13 ez13 => ?_)
    exact W.iret (v := z13) hx hb hr (fun t ht hW => ⟨⟨z13, (fun _ => 0), rfl, trivial, trivial⟩, hS.F ht⟩) hS.2.2 dX5_wear_40
set_option maxHeartbeats 4000000 in
set_option maxRecDepth 100000 in
theorem c_X5_likesNib (l : Launch) (dC : Nat → ClassId) (dI : Nat → Nat → Nat) (cI cZ cQ : ClassId) (h0 : Nat) (o12 : Nat) (f_h0 : List Value) (fo12 : Nat → Int32) (k : Nat) (a0 : Int32) (sz : Nat) (e_h0_12 : fAt f_h0 12 = some (.ref o12)) (hk : k < 4) : Met l yX5_likesNib wsX5_likesNib ({ frames := 1, cells := 0, slots := 0, locals := 40 }) (va_Pc [.ref h0, .int (nI k), .int a0] (fun U => U.heap.size = sz ∧ va_P (dC, dI) vwCl [(h0, .inr (5, f_h0)), (o12, .inl (cI, 4, .inl fo12))] U.heap ∧ va_K (dC, dI) vwCl (tys0 cI cZ cQ) U)) (va_Qi (fun (r : Int32) (u : Nat → Nat) => r = 1 ∨ r = 0) (fun (_ : Nat → Nat) (_ : State) => True) (fun _ : Nat => False)) 0 0 (fun _ : Nat => False) := by
  refine Met.ofW (cc := cX5_likesNib) (maxL := 3) (ret := (some .boolean)) (by decide) rfl ?_
  intro p e s m args below meth c s₁ B hml hv
  obtain ⟨rfl, hsz, hP, hK⟩ := hv
  have hx := B.exec
  have hb := B.bytes
  have hr := B.returns
  have hts := atoms_spec (ws := wsX5_likesNib) B.pre
  have hown : s.vm.findClass RX5 = some m.cls := findClass_of_methodNamed B.named
  have hlocks := B.notSynchronized
  have hi_X5 : ∀ w ∈ u_ws RX5 TX5 13, w ∈ wsX5_likesNib := fun _ h => List.mem_cons_of_mem _ (List.mem_append_right _ (h))
  subst hsz
  have hS : va_S (fun _ : Nat => False) s.heap s.heap [] := va_S.rf
  have hl := lv_entry ([.ref h0, .int (nI k), .int a0]) (n := 3) (Nat.le_of_ble_eq_true rfl)
  rw [lg_entry_eq]
  generalize (lg_sl ([.ref h0, .int (nI k), .int a0]) ++ List.replicate (3 - (lg_sl ([.ref h0, .int (nI k), .int a0])).length) Slot.unset).toArray = ls at hl ⊢
  have hl : lv_has ls 3 [(0, .ref h0), (1, .int (nI k)), (2, .int a0)] := hl
  refine lv_iload_n hx hb dX5_likesNib_0 rfl (lv_at hl 2 rfl) ?_
  refine lv_aload_n hx hb dX5_likesNib_1 rfl (lv_at hl 0 rfl) ?_
  refine va_get (D := (dC, dI)) (ci := 5) (v := .ref o12) (C := RX5) (T := TX5) (N := 13) hx hb hts hi_X5 hown hK hP 0 rfl rfl 12 (by decide) (hts (.fieldLink RX5 50 "LeftQuills$Office" "wants" "[I") (wmx 1 rfl)) (fun _ h9 => h9) e_h0_12 dX5_likesNib_2 ?_
  refine lv_iload_n hx hb dX5_likesNib_5 rfl (lv_at hl 1 rfl) ?_
  refine va_iald hx hb hK hP 1 0 rfl rfl (vp_in_nI (n := k) (N := 4) (by omega) (by decide)) dX5_likesNib_6 ?_
  refine W.eq (g2 := F0 m 7 ls [.int (fo12 k), .int a0]) (congrArg (fun y9 => F0 m 7 ls (.int (fo12 y9) :: [.int a0])) ((nI_clamp (n := k) (by omega)))) ?_
  refine lv_isub hx hb dX5_likesNib_7 ?_
  refine lv_topi (fun z1 ez1 => ?_)
  refine va_mabs hx hb (hml.trans hl.1.symm) hown (hts (.methodLink RX5 73 Lib.Math.abs.name) (wmx 2 rfl)) (hts (.static Lib.Math.abs.name) (wmx 3 rfl)) (hts (.initialized "java/lang/Math") (wmx 4 rfl)) (hts (.code Lib.Math.abs.name Lib.Math.abs.code 1 (some .int)) (wmx 5 rfl)) (Nat.le_of_ble_eq_true rfl) (Nat.le_of_ble_eq_true rfl) (Nat.le_of_ble_eq_true rfl) (Nat.le_of_ble_eq_true rfl) dX5_likesNib_8 ?_
  refine lv_topi (fun z2 ez2 => ?_)
  refine lv_iconst (v := 1) hx hb dX5_likesNib_11 (by decide) ?_
  refine lv_icmp_gt (tgt := 19) hx hb dX5_likesNib_12 (by decide) (fun c3 => ?_) (fun c3 => ?_)
  ·
    refine lv_iconst (v := 0) hx hb dX5_likesNib_19 (by decide) ?_
    exact W.zret (v := 0) hx hb hr (rfl) (fun t ht hW => ⟨⟨0, (fun _ => 0), rfl, Or.inr rfl, trivial⟩, hS.F ht⟩) hS.2.2 dX5_likesNib_20
  ·
    refine lv_iconst (v := 1) hx hb dX5_likesNib_15 (by decide) ?_
    refine lv_goto (tgt := 20) hx hb dX5_likesNib_16 (by decide) ?_
    exact W.zret (v := 1) hx hb hr (rfl) (fun t ht hW => ⟨⟨1, (fun _ => 0), rfl, Or.inl rfl, trivial⟩, hS.F ht⟩) hS.2.2 dX5_likesNib_20
set_option maxHeartbeats 4000000 in
set_option maxRecDepth 100000 in
theorem c_X1_isBlunt (l : Launch) (dC : Nat → ClassId) (dI : Nat → Nat → Nat) (cI cZ cQ : ClassId) (h0 : Nat) (cu : Int32) (ho : Nat) (f_h0 : List Value) (bl : Int32) (f_ho : List Value) (sz : Nat) (e_h0_1 : fAt f_h0 1 = some (.int cu)) (e_h0_7 : fAt f_h0 7 = some (.ref ho)) (e_ho_1 : fAt f_ho 1 = some (.int bl)) : Met l yX1_isBlunt wsX1_isBlunt ({ frames := 0, cells := 0, slots := 0, locals := 40 }) (va_Pc [.ref h0] (fun U => U.heap.size = sz ∧ va_P (dC, dI) vwCl [(h0, .inr (1, f_h0)), (ho, .inr (5, f_ho))] U.heap ∧ va_K (dC, dI) vwCl (tys0 cI cZ cQ) U)) (va_Qi (fun (r : Int32) (u : Nat → Nat) => r = 1 ∨ r = 0) (fun (_ : Nat → Nat) (_ : State) => True) (fun _ : Nat => False)) 0 0 (fun _ : Nat => False) := by
  refine Met.ofW (cc := cX1_isBlunt) (maxL := 1) (ret := (some .boolean)) (by decide) rfl ?_
  intro p e s m args below meth c s₁ B hml hv
  obtain ⟨rfl, hsz, hP, hK⟩ := hv
  have hx := B.exec
  have hb := B.bytes
  have hr := B.returns
  have hts := atoms_spec (ws := wsX1_isBlunt) B.pre
  have hown : s.vm.findClass RX1 = some m.cls := findClass_of_methodNamed B.named
  have hlocks := B.notSynchronized
  have hi_X1 : ∀ w ∈ u_ws RX1 TX1 8, w ∈ wsX1_isBlunt := fun _ h => List.mem_cons_of_mem _ (List.mem_append_left _ (List.mem_append_right _ (h)))
  have hi_X5 : ∀ w ∈ u_ws RX5 TX5 13, w ∈ wsX1_isBlunt := fun _ h => List.mem_cons_of_mem _ (List.mem_append_right _ (h))
  subst hsz
  have hS : va_S (fun _ : Nat => False) s.heap s.heap [] := va_S.rf
  have hl := lv_entry ([.ref h0]) (n := 1) (Nat.le_of_ble_eq_true rfl)
  rw [lg_entry_eq]
  generalize (lg_sl ([.ref h0]) ++ List.replicate (1 - (lg_sl ([.ref h0])).length) Slot.unset).toArray = ls at hl ⊢
  have hl : lv_has ls 1 [(0, .ref h0)] := hl
  refine lv_aload_n hx hb dX1_isBlunt_0 rfl (lv_at hl 0 rfl) ?_
  refine va_get (D := (dC, dI)) (ci := 1) (v := .int cu) (C := RX1) (T := TX1) (N := 8) hx hb hts hi_X1 hown hK hP 0 rfl rfl 1 (by decide) (hts (.fieldLink RX1 15 "LeftQuills$Desk" "cuts" "I") (wmx 1 rfl)) (fun _ h9 => h9) e_h0_1 dX1_isBlunt_1 ?_
  refine lv_aload_n hx hb dX1_isBlunt_4 rfl (lv_at hl 0 rfl) ?_
  refine va_get (D := (dC, dI)) (ci := 1) (v := .ref ho) (C := RX1) (T := TX1) (N := 8) hx hb hts hi_X1 hown hK hP 0 rfl rfl 7 (by decide) (hts (.fieldLink RX1 34 "LeftQuills$Desk" "office" "LLeftQuills$Office;") (wmx 2 rfl)) (fun _ h9 => h9) e_h0_7 dX1_isBlunt_5 ?_
  refine va_get (D := (dC, dI)) (ci := 5) (v := .int bl) (C := RX5) (T := TX5) (N := 13) hx hb hts hi_X5 hown hK hP 1 rfl rfl 1 (by decide) (hts (.fieldLink RX1 63 "LeftQuills$Office" "bluntBehind" "I") (wmx 3 rfl)) (fun _ h9 => h9) e_ho_1 dX1_isBlunt_8 ?_
  refine lv_icmp_lt (tgt := 18) hx hb dX1_isBlunt_11 (by decide) (fun c1 => ?_) (fun c1 => ?_)
  ·
    refine lv_iconst (v := 0) hx hb dX1_isBlunt_18 (by decide) ?_
    exact W.zret (v := 0) hx hb hr (rfl) (fun t ht hW => ⟨⟨0, (fun _ => 0), rfl, Or.inr rfl, trivial⟩, hS.F ht⟩) hS.2.2 dX1_isBlunt_19
  ·
    refine lv_iconst (v := 1) hx hb dX1_isBlunt_14 (by decide) ?_
    refine lv_goto (tgt := 19) hx hb dX1_isBlunt_15 (by decide) ?_
    exact W.zret (v := 1) hx hb hr (rfl) (fun t ht hW => ⟨⟨1, (fun _ => 0), rfl, Or.inl rfl, trivial⟩, hS.F ht⟩) hS.2.2 dX1_isBlunt_19
set_option maxHeartbeats 4000000 in
set_option maxRecDepth 100000 in
theorem c_X1_canMend (l : Launch) (dC : Nat → ClassId) (dI : Nat → Nat → Nat) (cI cZ cQ : ClassId) (h0 : Nat) (cu : Int32) (a2 : Nat) (ho : Nat) (f_h0 : List Value) (bl : Int32) (f_ho : List Value) (fa2 : Nat → Int32) (j : Nat) (sz : Nat) (e_h0_1 : fAt f_h0 1 = some (.int cu)) (e_h0_2 : fAt f_h0 2 = some (.ref a2)) (e_h0_7 : fAt f_h0 7 = some (.ref ho)) (e_ho_1 : fAt f_ho 1 = some (.int bl)) (hj : j < 8) : Met l yX1_canMend wsX1_canMend ({ frames := 1, cells := 0, slots := 0, locals := 60 }) (va_Pc [.ref h0, .int (nI j)] (fun U => U.heap.size = sz ∧ va_P (dC, dI) vwCl [(h0, .inr (1, f_h0)), (ho, .inr (5, f_ho)), (a2, .inl (cI, 8, .inl fa2))] U.heap ∧ va_K (dC, dI) vwCl (tys0 cI cZ cQ) U)) (va_Qi (fun (r : Int32) (u : Nat → Nat) => r = 1 ∨ r = 0) (fun (_ : Nat → Nat) (_ : State) => True) (fun _ : Nat => False)) 0 0 (fun _ : Nat => False) := by
  refine Met.ofW (cc := cX1_canMend) (maxL := 2) (ret := (some .boolean)) (by decide) rfl ?_
  intro p e s m args below meth c s₁ B hml hv
  obtain ⟨rfl, hsz, hP, hK⟩ := hv
  have hx := B.exec
  have hb := B.bytes
  have hr := B.returns
  have hts := atoms_spec (ws := wsX1_canMend) B.pre
  have hown : s.vm.findClass RX1 = some m.cls := findClass_of_methodNamed B.named
  have hlocks := B.notSynchronized
  have hi_X1 : ∀ w ∈ u_ws RX1 TX1 8, w ∈ wsX1_canMend := fun _ h => List.mem_cons_of_mem _ (List.mem_append_left _ (List.mem_append_right _ (h)))
  subst hsz
  have hS : va_S (fun _ : Nat => False) s.heap s.heap [] := va_S.rf
  have hl := lv_entry ([.ref h0, .int (nI j)]) (n := 2) (Nat.le_of_ble_eq_true rfl)
  rw [lg_entry_eq]
  generalize (lg_sl ([.ref h0, .int (nI j)]) ++ List.replicate (2 - (lg_sl ([.ref h0, .int (nI j)])).length) Slot.unset).toArray = ls at hl ⊢
  have hl : lv_has ls 2 [(0, .ref h0), (1, .int (nI j))] := hl
  refine lv_aload_n hx hb dX1_canMend_0 rfl (lv_at hl 0 rfl) ?_
  refine va_get (D := (dC, dI)) (ci := 1) (v := .ref a2) (C := RX1) (T := TX1) (N := 8) hx hb hts hi_X1 hown hK hP 0 rfl rfl 2 (by decide) (hts (.fieldLink RX1 18 "LeftQuills$Desk" "length" "[I") (wmx 1 rfl)) (fun _ h9 => h9) e_h0_2 dX1_canMend_1 ?_
  refine lv_iload_n hx hb dX1_canMend_4 rfl (lv_at hl 1 rfl) ?_
  refine va_iald hx hb hK hP 2 0 rfl rfl (vp_in_nI (n := j) (N := 8) (by omega) (by decide)) dX1_canMend_5 ?_
  refine W.eq (g2 := F0 m 6 ls [.int (fa2 j)]) (congrArg (fun y9 => F0 m 6 ls (.int (fa2 y9) :: [])) ((nI_clamp (n := j) (by omega)))) ?_
  refine lv_aload_n hx hb dX1_canMend_6 rfl (lv_at hl 0 rfl) ?_
  have hPc := hP.sub (ws' := [(h0, .inr (1, f_h0)), (ho, .inr (5, f_ho))]) [0, 1] rfl
  refine va_calli (va_runV (As := []) (rest := [.int (fa2 j)]) ⟨hx, hb, hml, hown, hts⟩ (c_X1_isBlunt l dC dI cI cZ cQ h0 cu ho f_h0 bl f_ho s.heap.size e_h0_1 e_h0_7 e_ho_1) (cwV 0 hts gX1_canMend_X1_isBlunt rfl rfl rfl hd_X1_isBlunt_RX1 ⟨Nat.le_of_ble_eq_true rfl, Nat.le_of_ble_eq_true rfl⟩) (pv_R (va_recv hK hP (ci := 1) (q0 := 0) rfl rfl) hK hPc) rfl rfl hl.1 rfl (lv_room (Nat.le_of_ble_eq_true rfl)) dX1_canMend_7 ⟨Nat.le_of_ble_eq_true rfl, Nat.le_of_ble_eq_true rfl⟩) hS (fun q _ h => False.elim h) (fun q h => False.elim h) (fun r1 u2 t H1 locs ht hvm hw3 hB hz1 hk1 hS => ?_)
  have hP := hP.kept (fun k q hk => hk1 q.1 (hP k q hk).lt (fun h => h))
  clear hz1 hk1 hPc
  generalize H1 = H at hP hS ht ⊢
  try dsimp only at hw3
  rcases hw3 with rfl | rfl
  ·
    refine lv_if_eq (tgt := 18) hx hb dX1_canMend_10 (by decide) (fun c4 => ?_) (fun c4 => ?_)
    · exact absurd c4 (by decide)
    clear c4
    refine lv_bipush (v := 9) hx hb dX1_canMend_13 (by decide) ?_
    refine lv_goto (tgt := 19) hx hb dX1_canMend_15 (by decide) ?_
    refine lv_icmp_lt (tgt := 26) hx hb dX1_canMend_19 (by decide) (fun c5 => ?_) (fun c5 => ?_)
    ·
      refine lv_iconst (v := 0) hx hb dX1_canMend_26 (by decide) ?_
      exact W.zret (v := 0) hx hb hr (rfl) (fun t ht hW => ⟨⟨0, (fun _ => 0), rfl, Or.inr rfl, trivial⟩, hS.F ht⟩) hS.2.2 dX1_canMend_27
    ·
      refine lv_iconst (v := 1) hx hb dX1_canMend_22 (by decide) ?_
      refine lv_goto (tgt := 27) hx hb dX1_canMend_23 (by decide) ?_
      exact W.zret (v := 1) hx hb hr (rfl) (fun t ht hW => ⟨⟨1, (fun _ => 0), rfl, Or.inl rfl, trivial⟩, hS.F ht⟩) hS.2.2 dX1_canMend_27
  ·
    refine lv_if_eq (tgt := 18) hx hb dX1_canMend_10 (by decide) (fun c6 => ?_) (fun c6 => ?_)
    rotate_left
    · exact absurd c6 (by decide)
    clear c6
    refine lv_iconst (v := 5) hx hb dX1_canMend_18 (by decide) ?_
    refine lv_icmp_lt (tgt := 26) hx hb dX1_canMend_19 (by decide) (fun c7 => ?_) (fun c7 => ?_)
    ·
      refine lv_iconst (v := 0) hx hb dX1_canMend_26 (by decide) ?_
      exact W.zret (v := 0) hx hb hr (rfl) (fun t ht hW => ⟨⟨0, (fun _ => 0), rfl, Or.inr rfl, trivial⟩, hS.F ht⟩) hS.2.2 dX1_canMend_27
    ·
      refine lv_iconst (v := 1) hx hb dX1_canMend_22 (by decide) ?_
      refine lv_goto (tgt := 27) hx hb dX1_canMend_23 (by decide) ?_
      exact W.zret (v := 1) hx hb hr (rfl) (fun t ht hW => ⟨⟨1, (fun _ => 0), rfl, Or.inl rfl, trivial⟩, hS.F ht⟩) hS.2.2 dX1_canMend_27
set_option maxHeartbeats 4000000 in
set_option maxRecDepth 100000 in
theorem c_X1_allPages (l : Launch) (dC : Nat → ClassId) (dI : Nat → Nat → Nat) (cI cZ cQ : ClassId) (h0 : Nat) (a5 : Nat) (ho : Nat) (f_h0 : List Value) (nh : Nat) (f_ho : List Value) (fa5 : Nat → Int32) (sz : Nat) (e_h0_5 : fAt f_h0 5 = some (.ref a5)) (e_h0_7 : fAt f_h0 7 = some (.ref ho)) (e_ho_4 : fAt f_ho 4 = some (.int (nI nh))) (hnh : nh ≤ 4) : Met l yX1_allPages wsX1_allPages ({ frames := 0, cells := 0, slots := 0, locals := 40 }) (va_Pc [.ref h0] (fun U => U.heap.size = sz ∧ va_P (dC, dI) vwCl [(h0, .inr (1, f_h0)), (ho, .inr (5, f_ho)), (a5, .inl (cI, 4, .inl fa5))] U.heap ∧ va_K (dC, dI) vwCl (tys0 cI cZ cQ) U)) (va_Qi (fun (r : Int32) (u : Nat → Nat) => True) (fun (_ : Nat → Nat) (_ : State) => True) (fun _ : Nat => False)) 0 0 (fun _ : Nat => False) := by
  refine Met.ofW (cc := cX1_allPages) (maxL := 3) (ret := (some .int)) (by decide) rfl ?_
  intro p e s m args below meth c s₁ B hml hv
  obtain ⟨rfl, hsz, hP, hK⟩ := hv
  have hx := B.exec
  have hb := B.bytes
  have hr := B.returns
  have hts := atoms_spec (ws := wsX1_allPages) B.pre
  have hown : s.vm.findClass RX1 = some m.cls := findClass_of_methodNamed B.named
  have hlocks := B.notSynchronized
  have hi_X1 : ∀ w ∈ u_ws RX1 TX1 8, w ∈ wsX1_allPages := fun _ h => List.mem_cons_of_mem _ (List.mem_append_left _ (List.mem_append_right _ (h)))
  have hi_X5 : ∀ w ∈ u_ws RX5 TX5 13, w ∈ wsX1_allPages := fun _ h => List.mem_cons_of_mem _ (List.mem_append_right _ (h))
  subst hsz
  have hS : va_S (fun _ : Nat => False) s.heap s.heap [] := va_S.rf
  have hl := lv_entry ([.ref h0]) (n := 3) (Nat.le_of_ble_eq_true rfl)
  rw [lg_entry_eq]
  generalize (lg_sl ([.ref h0]) ++ List.replicate (3 - (lg_sl ([.ref h0])).length) Slot.unset).toArray = ls at hl ⊢
  have hl : lv_has ls 3 [(0, .ref h0)] := hl
  refine lv_iconst (v := 0) hx hb dX1_allPages_0 (by decide) ?_
  refine lv_istore_n (lv' := [(1, .int 0), (0, .ref h0)]) hx hb dX1_allPages_1 rfl hl (by decide) rfl (fun ls hl => ?_)
  refine lv_iconst (v := 0) hx hb dX1_allPages_2 (by decide) ?_
  refine lv_istore_n (lv' := [(2, .int 0), (1, .int 0), (0, .ref h0)]) hx hb dX1_allPages_3 rfl hl (by decide) rfl (fun ls hl => ?_)
  refine (fun (K : ∀ (d4 : Nat) (k4 : Nat) (a4_1 : Int32) (H : Heap) (locs : List Loc) (ls : Array Slot), k4 + d4 = nh → va_P (dC, dI) vwCl [(h0, .inr (1, f_h0)), (ho, .inr (5, f_ho)), (a5, .inl (cI, 4, .inl fa5))] H → va_S (fun _ : Nat => False) s.heap H locs → lv_has ls 3 [(2, .int (nI k4)), (1, .int a4_1), (0, .ref h0)] → W p l e _ s m _ below meth c H locs _ _ _ (F0 m 4 ls [])) => K nh 0 0 _ _ _ (by omega) hP hS (lv_sub hl [0, 1, 2] rfl)) ?_
  intro d4
  induction d4 with
  | zero =>
    intro k4 a4_1 H locs ls hk4 hP hS hl
    refine lv_iload_n hx hb dX1_allPages_4 rfl (lv_at hl 0 rfl) ?_
    refine lv_aload_n hx hb dX1_allPages_5 rfl (lv_at hl 2 rfl) ?_
    refine va_get (D := (dC, dI)) (ci := 1) (v := .ref ho) (C := RX1) (T := TX1) (N := 8) hx hb hts hi_X1 hown hK hP 0 rfl rfl 7 (by decide) (hts (.fieldLink RX1 34 "LeftQuills$Desk" "office" "LLeftQuills$Office;") (wmx 1 rfl)) (fun _ h9 => h9) e_h0_7 dX1_allPages_6 ?_
    refine va_get (D := (dC, dI)) (ci := 5) (v := .int (nI nh)) (C := RX5) (T := TX5) (N := 13) hx hb hts hi_X5 hown hK hP 1 rfl rfl 4 (by decide) (hts (.fieldLink RX1 78 "LeftQuills$Office" "hands" "I") (wmx 2 rfl)) (fun _ h9 => h9) e_ho_4 dX1_allPages_9 ?_
    refine lv_icmp_ge (tgt := 30) hx hb dX1_allPages_12 (by decide) (fun c1 => ?_) (fun c1 => ?_)
    ·
      have c1 : nh ≤ k4 := (nI_leI (a := nh) (b := k4) (by omega) (by omega)).mp c1
      refine lv_iload_n hx hb dX1_allPages_30 rfl (lv_at hl 1 rfl) ?_
      exact W.iret (v := a4_1) hx hb hr (fun t ht hW => ⟨⟨a4_1, (fun _ => 0), rfl, trivial, trivial⟩, hS.F ht⟩) hS.2.2 dX1_allPages_31
    ·
      have c1 : ¬ nh ≤ k4 := fun h => c1 ((nI_leI (a := nh) (b := k4) (by omega) (by omega)).mpr h)
      omega
  | succ d4 ih4 =>
    intro k4 a4_1 H locs ls hk4 hP hS hl
    refine lv_iload_n hx hb dX1_allPages_4 rfl (lv_at hl 0 rfl) ?_
    refine lv_aload_n hx hb dX1_allPages_5 rfl (lv_at hl 2 rfl) ?_
    refine va_get (D := (dC, dI)) (ci := 1) (v := .ref ho) (C := RX1) (T := TX1) (N := 8) hx hb hts hi_X1 hown hK hP 0 rfl rfl 7 (by decide) (hts (.fieldLink RX1 34 "LeftQuills$Desk" "office" "LLeftQuills$Office;") (wmx 1 rfl)) (fun _ h9 => h9) e_h0_7 dX1_allPages_6 ?_
    refine va_get (D := (dC, dI)) (ci := 5) (v := .int (nI nh)) (C := RX5) (T := TX5) (N := 13) hx hb hts hi_X5 hown hK hP 1 rfl rfl 4 (by decide) (hts (.fieldLink RX1 78 "LeftQuills$Office" "hands" "I") (wmx 2 rfl)) (fun _ h9 => h9) e_ho_4 dX1_allPages_9 ?_
    refine lv_icmp_ge (tgt := 30) hx hb dX1_allPages_12 (by decide) (fun c2 => ?_) (fun c2 => ?_)
    ·
      have c2 : nh ≤ k4 := (nI_leI (a := nh) (b := k4) (by omega) (by omega)).mp c2
      omega
    ·
      have c2 : ¬ nh ≤ k4 := fun h => c2 ((nI_leI (a := nh) (b := k4) (by omega) (by omega)).mpr h)
      refine lv_iload_n hx hb dX1_allPages_15 rfl (lv_at hl 1 rfl) ?_
      refine lv_aload_n hx hb dX1_allPages_16 rfl (lv_at hl 2 rfl) ?_
      refine va_get (D := (dC, dI)) (ci := 1) (v := .ref a5) (C := RX1) (T := TX1) (N := 8) hx hb hts hi_X1 hown hK hP 0 rfl rfl 5 (by decide) (hts (.fieldLink RX1 28 "LeftQuills$Desk" "pages" "[I") (wmx 3 rfl)) (fun _ h9 => h9) e_h0_5 dX1_allPages_17 ?_
      refine lv_iload_n hx hb dX1_allPages_20 rfl (lv_at hl 0 rfl) ?_
      refine va_iald hx hb hK hP 2 0 rfl rfl (vp_in_nI (n := k4) (N := 4) (by omega) (by decide)) dX1_allPages_21 ?_
      refine W.eq (g2 := F0 m 22 ls [.int (fa5 k4), .int a4_1]) (congrArg (fun y9 => F0 m 22 ls (.int (fa5 y9) :: [.int a4_1])) ((nI_clamp (n := k4) (by omega)))) ?_
      refine lv_iadd hx hb dX1_allPages_22 ?_
      refine lv_topi (fun z3 ez3 => ?_)
      refine lv_istore_n (lv' := [(1, .int z3), (2, .int (nI k4)), (0, .ref h0)]) hx hb dX1_allPages_23 rfl hl (by decide) rfl (fun ls hl => ?_)
      refine lv_iinc (v := nI (k4 + 1)) (lv' := [(2, .int (nI (k4 + 1))), (1, .int z3), (0, .ref h0)]) hx hb dX1_allPages_24 hl (k := 1) rfl ((rfl : nI k4 + Int32.ofInt 1 = nI k4 + 1).trans (nI_add k4 1)) (by decide) rfl (fun ls hl => ?_)
      refine lv_goto (tgt := 4) hx hb dX1_allPages_27 (by decide) ?_
      exact ih4 (k4 + 1) z3 _ _ _ (by omega) hP hS (lv_sub hl [0, 1, 2] rfl)
set_option maxHeartbeats 4000000 in
set_option maxRecDepth 100000 in
theorem c_X1_allGood (l : Launch) (dC : Nat → ClassId) (dI : Nat → Nat → Nat) (cI cZ cQ : ClassId) (h0 : Nat) (a6 : Nat) (ho : Nat) (f_h0 : List Value) (nh : Nat) (f_ho : List Value) (fa6 : Nat → Int32) (sz : Nat) (e_h0_6 : fAt f_h0 6 = some (.ref a6)) (e_h0_7 : fAt f_h0 7 = some (.ref ho)) (e_ho_4 : fAt f_ho 4 = some (.int (nI nh))) (hnh : nh ≤ 4) : Met l yX1_allGood wsX1_allGood ({ frames := 0, cells := 0, slots := 0, locals := 40 }) (va_Pc [.ref h0] (fun U => U.heap.size = sz ∧ va_P (dC, dI) vwCl [(h0, .inr (1, f_h0)), (ho, .inr (5, f_ho)), (a6, .inl (cI, 4, .inl fa6))] U.heap ∧ va_K (dC, dI) vwCl (tys0 cI cZ cQ) U)) (va_Qi (fun (r : Int32) (u : Nat → Nat) => True) (fun (_ : Nat → Nat) (_ : State) => True) (fun _ : Nat => False)) 0 0 (fun _ : Nat => False) := by
  refine Met.ofW (cc := cX1_allGood) (maxL := 3) (ret := (some .int)) (by decide) rfl ?_
  intro p e s m args below meth c s₁ B hml hv
  obtain ⟨rfl, hsz, hP, hK⟩ := hv
  have hx := B.exec
  have hb := B.bytes
  have hr := B.returns
  have hts := atoms_spec (ws := wsX1_allGood) B.pre
  have hown : s.vm.findClass RX1 = some m.cls := findClass_of_methodNamed B.named
  have hlocks := B.notSynchronized
  have hi_X1 : ∀ w ∈ u_ws RX1 TX1 8, w ∈ wsX1_allGood := fun _ h => List.mem_cons_of_mem _ (List.mem_append_left _ (List.mem_append_right _ (h)))
  have hi_X5 : ∀ w ∈ u_ws RX5 TX5 13, w ∈ wsX1_allGood := fun _ h => List.mem_cons_of_mem _ (List.mem_append_right _ (h))
  subst hsz
  have hS : va_S (fun _ : Nat => False) s.heap s.heap [] := va_S.rf
  have hl := lv_entry ([.ref h0]) (n := 3) (Nat.le_of_ble_eq_true rfl)
  rw [lg_entry_eq]
  generalize (lg_sl ([.ref h0]) ++ List.replicate (3 - (lg_sl ([.ref h0])).length) Slot.unset).toArray = ls at hl ⊢
  have hl : lv_has ls 3 [(0, .ref h0)] := hl
  refine lv_iconst (v := 0) hx hb dX1_allGood_0 (by decide) ?_
  refine lv_istore_n (lv' := [(1, .int 0), (0, .ref h0)]) hx hb dX1_allGood_1 rfl hl (by decide) rfl (fun ls hl => ?_)
  refine lv_iconst (v := 0) hx hb dX1_allGood_2 (by decide) ?_
  refine lv_istore_n (lv' := [(2, .int 0), (1, .int 0), (0, .ref h0)]) hx hb dX1_allGood_3 rfl hl (by decide) rfl (fun ls hl => ?_)
  refine (fun (K : ∀ (d4 : Nat) (k4 : Nat) (a4_1 : Int32) (H : Heap) (locs : List Loc) (ls : Array Slot), k4 + d4 = nh → va_P (dC, dI) vwCl [(h0, .inr (1, f_h0)), (ho, .inr (5, f_ho)), (a6, .inl (cI, 4, .inl fa6))] H → va_S (fun _ : Nat => False) s.heap H locs → lv_has ls 3 [(2, .int (nI k4)), (1, .int a4_1), (0, .ref h0)] → W p l e _ s m _ below meth c H locs _ _ _ (F0 m 4 ls [])) => K nh 0 0 _ _ _ (by omega) hP hS (lv_sub hl [0, 1, 2] rfl)) ?_
  intro d4
  induction d4 with
  | zero =>
    intro k4 a4_1 H locs ls hk4 hP hS hl
    refine lv_iload_n hx hb dX1_allGood_4 rfl (lv_at hl 0 rfl) ?_
    refine lv_aload_n hx hb dX1_allGood_5 rfl (lv_at hl 2 rfl) ?_
    refine va_get (D := (dC, dI)) (ci := 1) (v := .ref ho) (C := RX1) (T := TX1) (N := 8) hx hb hts hi_X1 hown hK hP 0 rfl rfl 7 (by decide) (hts (.fieldLink RX1 34 "LeftQuills$Desk" "office" "LLeftQuills$Office;") (wmx 1 rfl)) (fun _ h9 => h9) e_h0_7 dX1_allGood_6 ?_
    refine va_get (D := (dC, dI)) (ci := 5) (v := .int (nI nh)) (C := RX5) (T := TX5) (N := 13) hx hb hts hi_X5 hown hK hP 1 rfl rfl 4 (by decide) (hts (.fieldLink RX1 78 "LeftQuills$Office" "hands" "I") (wmx 2 rfl)) (fun _ h9 => h9) e_ho_4 dX1_allGood_9 ?_
    refine lv_icmp_ge (tgt := 30) hx hb dX1_allGood_12 (by decide) (fun c1 => ?_) (fun c1 => ?_)
    ·
      have c1 : nh ≤ k4 := (nI_leI (a := nh) (b := k4) (by omega) (by omega)).mp c1
      refine lv_iload_n hx hb dX1_allGood_30 rfl (lv_at hl 1 rfl) ?_
      exact W.iret (v := a4_1) hx hb hr (fun t ht hW => ⟨⟨a4_1, (fun _ => 0), rfl, trivial, trivial⟩, hS.F ht⟩) hS.2.2 dX1_allGood_31
    ·
      have c1 : ¬ nh ≤ k4 := fun h => c1 ((nI_leI (a := nh) (b := k4) (by omega) (by omega)).mpr h)
      omega
  | succ d4 ih4 =>
    intro k4 a4_1 H locs ls hk4 hP hS hl
    refine lv_iload_n hx hb dX1_allGood_4 rfl (lv_at hl 0 rfl) ?_
    refine lv_aload_n hx hb dX1_allGood_5 rfl (lv_at hl 2 rfl) ?_
    refine va_get (D := (dC, dI)) (ci := 1) (v := .ref ho) (C := RX1) (T := TX1) (N := 8) hx hb hts hi_X1 hown hK hP 0 rfl rfl 7 (by decide) (hts (.fieldLink RX1 34 "LeftQuills$Desk" "office" "LLeftQuills$Office;") (wmx 1 rfl)) (fun _ h9 => h9) e_h0_7 dX1_allGood_6 ?_
    refine va_get (D := (dC, dI)) (ci := 5) (v := .int (nI nh)) (C := RX5) (T := TX5) (N := 13) hx hb hts hi_X5 hown hK hP 1 rfl rfl 4 (by decide) (hts (.fieldLink RX1 78 "LeftQuills$Office" "hands" "I") (wmx 2 rfl)) (fun _ h9 => h9) e_ho_4 dX1_allGood_9 ?_
    refine lv_icmp_ge (tgt := 30) hx hb dX1_allGood_12 (by decide) (fun c2 => ?_) (fun c2 => ?_)
    ·
      have c2 : nh ≤ k4 := (nI_leI (a := nh) (b := k4) (by omega) (by omega)).mp c2
      omega
    ·
      have c2 : ¬ nh ≤ k4 := fun h => c2 ((nI_leI (a := nh) (b := k4) (by omega) (by omega)).mpr h)
      refine lv_iload_n hx hb dX1_allGood_15 rfl (lv_at hl 1 rfl) ?_
      refine lv_aload_n hx hb dX1_allGood_16 rfl (lv_at hl 2 rfl) ?_
      refine va_get (D := (dC, dI)) (ci := 1) (v := .ref a6) (C := RX1) (T := TX1) (N := 8) hx hb hts hi_X1 hown hK hP 0 rfl rfl 6 (by decide) (hts (.fieldLink RX1 31 "LeftQuills$Desk" "good" "[I") (wmx 3 rfl)) (fun _ h9 => h9) e_h0_6 dX1_allGood_17 ?_
      refine lv_iload_n hx hb dX1_allGood_20 rfl (lv_at hl 0 rfl) ?_
      refine va_iald hx hb hK hP 2 0 rfl rfl (vp_in_nI (n := k4) (N := 4) (by omega) (by decide)) dX1_allGood_21 ?_
      refine W.eq (g2 := F0 m 22 ls [.int (fa6 k4), .int a4_1]) (congrArg (fun y9 => F0 m 22 ls (.int (fa6 y9) :: [.int a4_1])) ((nI_clamp (n := k4) (by omega)))) ?_
      refine lv_iadd hx hb dX1_allGood_22 ?_
      refine lv_topi (fun z3 ez3 => ?_)
      refine lv_istore_n (lv' := [(1, .int z3), (2, .int (nI k4)), (0, .ref h0)]) hx hb dX1_allGood_23 rfl hl (by decide) rfl (fun ls hl => ?_)
      refine lv_iinc (v := nI (k4 + 1)) (lv' := [(2, .int (nI (k4 + 1))), (1, .int z3), (0, .ref h0)]) hx hb dX1_allGood_24 hl (k := 1) rfl ((rfl : nI k4 + Int32.ofInt 1 = nI k4 + 1).trans (nI_add k4 1)) (by decide) rfl (fun ls hl => ?_)
      refine lv_goto (tgt := 4) hx hb dX1_allGood_27 (by decide) ?_
      exact ih4 (k4 + 1) z3 _ _ _ (by omega) hP hS (lv_sub hl [0, 1, 2] rfl)
set_option maxHeartbeats 4000000 in
set_option maxRecDepth 100000 in
theorem c_X1_softQuills (l : Launch) (dC : Nat → ClassId) (dI : Nat → Nat → Nat) (cI cZ cQ : ClassId) (h0 : Nat) (a4 : Nat) (ho : Nat) (f_h0 : List Value) (nq : Nat) (f_ho : List Value) (fa4 : Nat → Int32) (sz : Nat) (e_h0_4 : fAt f_h0 4 = some (.ref a4)) (e_h0_7 : fAt f_h0 7 = some (.ref ho)) (e_ho_3 : fAt f_ho 3 = some (.int (nI nq))) (hnq : nq ≤ 8) : Met l yX1_softQuills wsX1_softQuills ({ frames := 0, cells := 0, slots := 0, locals := 40 }) (va_Pc [.ref h0] (fun U => U.heap.size = sz ∧ va_P (dC, dI) vwCl [(h0, .inr (1, f_h0)), (ho, .inr (5, f_ho)), (a4, .inl (cI, 8, .inl fa4))] U.heap ∧ va_K (dC, dI) vwCl (tys0 cI cZ cQ) U)) (va_Qi (fun (r : Int32) (u : Nat → Nat) => True) (fun (_ : Nat → Nat) (_ : State) => True) (fun _ : Nat => False)) 0 0 (fun _ : Nat => False) := by
  refine Met.ofW (cc := cX1_softQuills) (maxL := 3) (ret := (some .int)) (by decide) rfl ?_
  intro p e s m args below meth c s₁ B hml hv
  obtain ⟨rfl, hsz, hP, hK⟩ := hv
  have hx := B.exec
  have hb := B.bytes
  have hr := B.returns
  have hts := atoms_spec (ws := wsX1_softQuills) B.pre
  have hown : s.vm.findClass RX1 = some m.cls := findClass_of_methodNamed B.named
  have hlocks := B.notSynchronized
  have hi_X1 : ∀ w ∈ u_ws RX1 TX1 8, w ∈ wsX1_softQuills := fun _ h => List.mem_cons_of_mem _ (List.mem_append_left _ (List.mem_append_right _ (h)))
  have hi_X5 : ∀ w ∈ u_ws RX5 TX5 13, w ∈ wsX1_softQuills := fun _ h => List.mem_cons_of_mem _ (List.mem_append_right _ (h))
  subst hsz
  have hS : va_S (fun _ : Nat => False) s.heap s.heap [] := va_S.rf
  have hl := lv_entry ([.ref h0]) (n := 3) (Nat.le_of_ble_eq_true rfl)
  rw [lg_entry_eq]
  generalize (lg_sl ([.ref h0]) ++ List.replicate (3 - (lg_sl ([.ref h0])).length) Slot.unset).toArray = ls at hl ⊢
  have hl : lv_has ls 3 [(0, .ref h0)] := hl
  refine lv_iconst (v := 0) hx hb dX1_softQuills_0 (by decide) ?_
  refine lv_istore_n (lv' := [(1, .int 0), (0, .ref h0)]) hx hb dX1_softQuills_1 rfl hl (by decide) rfl (fun ls hl => ?_)
  refine lv_iconst (v := 0) hx hb dX1_softQuills_2 (by decide) ?_
  refine lv_istore_n (lv' := [(2, .int 0), (1, .int 0), (0, .ref h0)]) hx hb dX1_softQuills_3 rfl hl (by decide) rfl (fun ls hl => ?_)
  refine (fun (K : ∀ (d4 : Nat) (k4 : Nat) (a4_1 : Int32) (H : Heap) (locs : List Loc) (ls : Array Slot), k4 + d4 = nq → va_P (dC, dI) vwCl [(h0, .inr (1, f_h0)), (ho, .inr (5, f_ho)), (a4, .inl (cI, 8, .inl fa4))] H → va_S (fun _ : Nat => False) s.heap H locs → lv_has ls 3 [(2, .int (nI k4)), (1, .int a4_1), (0, .ref h0)] → W p l e _ s m _ below meth c H locs _ _ _ (F0 m 4 ls [])) => K nq 0 0 _ _ _ (by omega) hP hS (lv_sub hl [0, 1, 2] rfl)) ?_
  intro d4
  induction d4 with
  | zero =>
    intro k4 a4_1 H locs ls hk4 hP hS hl
    refine lv_iload_n hx hb dX1_softQuills_4 rfl (lv_at hl 0 rfl) ?_
    refine lv_aload_n hx hb dX1_softQuills_5 rfl (lv_at hl 2 rfl) ?_
    refine va_get (D := (dC, dI)) (ci := 1) (v := .ref ho) (C := RX1) (T := TX1) (N := 8) hx hb hts hi_X1 hown hK hP 0 rfl rfl 7 (by decide) (hts (.fieldLink RX1 34 "LeftQuills$Desk" "office" "LLeftQuills$Office;") (wmx 1 rfl)) (fun _ h9 => h9) e_h0_7 dX1_softQuills_6 ?_
    refine va_get (D := (dC, dI)) (ci := 5) (v := .int (nI nq)) (C := RX5) (T := TX5) (N := 13) hx hb hts hi_X5 hown hK hP 1 rfl rfl 3 (by decide) (hts (.fieldLink RX1 81 "LeftQuills$Office" "quills" "I") (wmx 2 rfl)) (fun _ h9 => h9) e_ho_3 dX1_softQuills_9 ?_
    refine lv_icmp_ge (tgt := 38) hx hb dX1_softQuills_12 (by decide) (fun c1 => ?_) (fun c1 => ?_)
    ·
      have c1 : nq ≤ k4 := (nI_leI (a := nq) (b := k4) (by omega) (by omega)).mp c1
      refine lv_iload_n hx hb dX1_softQuills_38 rfl (lv_at hl 1 rfl) ?_
      exact W.iret (v := a4_1) hx hb hr (fun t ht hW => ⟨⟨a4_1, (fun _ => 0), rfl, trivial, trivial⟩, hS.F ht⟩) hS.2.2 dX1_softQuills_39
    ·
      have c1 : ¬ nq ≤ k4 := fun h => c1 ((nI_leI (a := nq) (b := k4) (by omega) (by omega)).mpr h)
      omega
  | succ d4 ih4 =>
    intro k4 a4_1 H locs ls hk4 hP hS hl
    refine lv_iload_n hx hb dX1_softQuills_4 rfl (lv_at hl 0 rfl) ?_
    refine lv_aload_n hx hb dX1_softQuills_5 rfl (lv_at hl 2 rfl) ?_
    refine va_get (D := (dC, dI)) (ci := 1) (v := .ref ho) (C := RX1) (T := TX1) (N := 8) hx hb hts hi_X1 hown hK hP 0 rfl rfl 7 (by decide) (hts (.fieldLink RX1 34 "LeftQuills$Desk" "office" "LLeftQuills$Office;") (wmx 1 rfl)) (fun _ h9 => h9) e_h0_7 dX1_softQuills_6 ?_
    refine va_get (D := (dC, dI)) (ci := 5) (v := .int (nI nq)) (C := RX5) (T := TX5) (N := 13) hx hb hts hi_X5 hown hK hP 1 rfl rfl 3 (by decide) (hts (.fieldLink RX1 81 "LeftQuills$Office" "quills" "I") (wmx 2 rfl)) (fun _ h9 => h9) e_ho_3 dX1_softQuills_9 ?_
    refine lv_icmp_ge (tgt := 38) hx hb dX1_softQuills_12 (by decide) (fun c2 => ?_) (fun c2 => ?_)
    ·
      have c2 : nq ≤ k4 := (nI_leI (a := nq) (b := k4) (by omega) (by omega)).mp c2
      omega
    ·
      have c2 : ¬ nq ≤ k4 := fun h => c2 ((nI_leI (a := nq) (b := k4) (by omega) (by omega)).mpr h)
      refine lv_aload_n hx hb dX1_softQuills_15 rfl (lv_at hl 2 rfl) ?_
      refine va_get (D := (dC, dI)) (ci := 1) (v := .ref a4) (C := RX1) (T := TX1) (N := 8) hx hb hts hi_X1 hown hK hP 0 rfl rfl 4 (by decide) (hts (.fieldLink RX1 25 "LeftQuills$Desk" "softness" "[I") (wmx 3 rfl)) (fun _ h9 => h9) e_h0_4 dX1_softQuills_16 ?_
      refine lv_iload_n hx hb dX1_softQuills_19 rfl (lv_at hl 0 rfl) ?_
      refine va_iald hx hb hK hP 2 0 rfl rfl (vp_in_nI (n := k4) (N := 8) (by omega) (by decide)) dX1_softQuills_20 ?_
      refine W.eq (g2 := F0 m 21 ls [.int (fa4 k4)]) (congrArg (fun y9 => F0 m 21 ls (.int (fa4 y9) :: [])) ((nI_clamp (n := k4) (by omega)))) ?_
      refine lv_bipush (v := 50) hx hb dX1_softQuills_21 (by decide) ?_
      refine lv_icmp_le (tgt := 32) hx hb dX1_softQuills_23 (by decide) (fun c3 => ?_) (fun c3 => ?_)
      ·
        refine lv_iinc (v := nI (k4 + 1)) (lv' := [(2, .int (nI (k4 + 1))), (1, .int a4_1), (0, .ref h0)]) hx hb dX1_softQuills_32 hl (k := 0) rfl ((rfl : nI k4 + Int32.ofInt 1 = nI k4 + 1).trans (nI_add k4 1)) (by decide) rfl (fun ls hl => ?_)
        refine lv_goto (tgt := 4) hx hb dX1_softQuills_35 (by decide) ?_
        exact ih4 (k4 + 1) a4_1 _ _ _ (by omega) hP hS (lv_sub hl [0, 1, 2] rfl)
      ·
        refine lv_iload_n hx hb dX1_softQuills_26 rfl (lv_at hl 1 rfl) ?_
        refine lv_iconst (v := 1) hx hb dX1_softQuills_27 (by decide) ?_
        refine lv_iload_n hx hb dX1_softQuills_28 rfl (lv_at hl 0 rfl) ?_
        refine lv_ishl hx hb dX1_softQuills_29 ?_
        refine lv_topi (fun z4 ez4 => ?_)
        refine lv_ior hx hb dX1_softQuills_30 ?_
        refine lv_topi (fun z5 ez5 => ?_)
        refine lv_istore_n (lv' := [(1, .int z5), (2, .int (nI k4)), (0, .ref h0)]) hx hb dX1_softQuills_31 rfl hl (by decide) rfl (fun ls hl => ?_)
        refine lv_iinc (v := nI (k4 + 1)) (lv' := [(2, .int (nI (k4 + 1))), (1, .int z5), (0, .ref h0)]) hx hb dX1_softQuills_32 hl (k := 1) rfl ((rfl : nI k4 + Int32.ofInt 1 = nI k4 + 1).trans (nI_add k4 1)) (by decide) rfl (fun ls hl => ?_)
        refine lv_goto (tgt := 4) hx hb dX1_softQuills_35 (by decide) ?_
        exact ih4 (k4 + 1) z5 _ _ _ (by omega) hP hS (lv_sub hl [0, 1, 2] rfl)
set_option maxHeartbeats 4000000 in
set_option maxRecDepth 100000 in
theorem c_X1_mendQuill (l : Launch) (dC : Nat → ClassId) (dI : Nat → Nat → Nat) (cI cZ cQ : ClassId) (h0 : Nat) (mi : Int32) (cu : Int32) (a2 : Nat) (a3 : Nat) (a4 : Nat) (a5 : Nat) (a6 : Nat) (ho : Nat) (bl : Int32) (mm : Int32) (f_ho : List Value) (fa2 : Nat → Int32) (fa3 : Nat → Int32) (fa4 : Nat → Int32) (j : Nat) (sz : Nat) (e_ho_1 : fAt f_ho 1 = some (.int bl)) (e_ho_2 : fAt f_ho 2 = some (.int mm)) (hj : j < 8) : Met l yX1_mendQuill wsX1_mendQuill ({ frames := 1, cells := 0, slots := 0, locals := 60 }) (va_Pc [.ref h0, .int (nI j)] (fun U => U.heap.size = sz ∧ va_P (dC, dI) vwCl [(h0, .inr (1, [.int mi, .int cu, .ref a2, .ref a3, .ref a4, .ref a5, .ref a6, .ref ho])), (ho, .inr (5, f_ho)), (a2, .inl (cI, 8, .inl fa2)), (a3, .inl (cI, 8, .inl fa3)), (a4, .inl (cI, 8, .inl fa4))] U.heap ∧ va_K (dC, dI) vwCl (tys0 cI cZ cQ) U ∧ va_D (fun _ => True) [(h0, .inr (1, [.int mi, .int cu, .ref a2, .ref a3, .ref a4, .ref a5, .ref a6, .ref ho])), (ho, .inr (5, f_ho)), (a2, .inl (cI, 8, .inl fa2)), (a3, .inl (cI, 8, .inl fa3)), (a4, .inl (cI, 8, .inl fa4))])) (va_Qv (fun (u : Nat → Nat) => True) (fun (_ : Nat → Nat) (t : State) => ∃ (gg0 gg1 gg2 : Nat → Int32) (ii0 ii1 : Int32) , va_P (dC, dI) vwCl [(h0, .inr (1, [.int ii0, .int ii1, .ref a2, .ref a3, .ref a4, .ref a5, .ref a6, .ref ho])), (ho, .inr (5, f_ho)), (a2, .inl (cI, 8, .inl gg0)), (a3, .inl (cI, 8, .inl gg1)), (a4, .inl (cI, 8, .inl gg2))] t.heap ∧ va_D (va_A [(h0, .inr (1, [.int mi, .int cu, .ref a2, .ref a3, .ref a4, .ref a5, .ref a6, .ref ho])), (ho, .inr (5, f_ho)), (a2, .inl (cI, 8, .inl fa2)), (a3, .inl (cI, 8, .inl fa3)), (a4, .inl (cI, 8, .inl fa4))] sz) [(h0, .inr (1, [.int ii0, .int ii1, .ref a2, .ref a3, .ref a4, .ref a5, .ref a6, .ref ho])), (ho, .inr (5, f_ho)), (a2, .inl (cI, 8, .inl gg0)), (a3, .inl (cI, 8, .inl gg1)), (a4, .inl (cI, 8, .inl gg2))]) (va_A [(h0, .inr (1, [.int mi, .int cu, .ref a2, .ref a3, .ref a4, .ref a5, .ref a6, .ref ho])), (ho, .inr (5, f_ho)), (a2, .inl (cI, 8, .inl fa2)), (a3, .inl (cI, 8, .inl fa3)), (a4, .inl (cI, 8, .inl fa4))] sz)) 0 0 (va_A [(h0, .inr (1, [.int mi, .int cu, .ref a2, .ref a3, .ref a4, .ref a5, .ref a6, .ref ho])), (ho, .inr (5, f_ho)), (a2, .inl (cI, 8, .inl fa2)), (a3, .inl (cI, 8, .inl fa3)), (a4, .inl (cI, 8, .inl fa4))] sz) := by
  refine Met.ofW (cc := cX1_mendQuill) (maxL := 2) (ret := none) (by decide) rfl ?_
  intro p e s m args below meth c s₁ B hml hv
  obtain ⟨rfl, hsz, hP, hK, hD0⟩ := hv
  have hx := B.exec
  have hb := B.bytes
  have hr := B.returns
  have hts := atoms_spec (ws := wsX1_mendQuill) B.pre
  have hown : s.vm.findClass RX1 = some m.cls := findClass_of_methodNamed B.named
  have hlocks := B.notSynchronized
  have hi_X1 : ∀ w ∈ u_ws RX1 TX1 8, w ∈ wsX1_mendQuill := fun _ h => List.mem_cons_of_mem _ (List.mem_append_left _ (List.mem_append_right _ (h)))
  have hi_X5 : ∀ w ∈ u_ws RX5 TX5 13, w ∈ wsX1_mendQuill := fun _ h => List.mem_cons_of_mem _ (List.mem_append_right _ (h))
  subst hsz
  have hD := hD0.self (sz := s.heap.size)
  generalize hAe : va_A [(h0, .inr (1, [.int mi, .int cu, .ref a2, .ref a3, .ref a4, .ref a5, .ref a6, .ref ho])), (ho, .inr (5, f_ho)), (a2, .inl (cI, 8, .inl fa2)), (a3, .inl (cI, 8, .inl fa3)), (a4, .inl (cI, 8, .inl fa4))] s.heap.size = A at hD ⊢
  have hA : ∀ q : Nat, s.heap.size ≤ q → A q := fun q h => by rw [← hAe]; exact Or.inr h
  have hS : va_S A s.heap s.heap [] := va_S.rf
  have hl := lv_entry ([.ref h0, .int (nI j)]) (n := 2) (Nat.le_of_ble_eq_true rfl)
  rw [lg_entry_eq]
  generalize (lg_sl ([.ref h0, .int (nI j)]) ++ List.replicate (2 - (lg_sl ([.ref h0, .int (nI j)])).length) Slot.unset).toArray = ls at hl ⊢
  have hl : lv_has ls 2 [(0, .ref h0), (1, .int (nI j))] := hl
  refine lv_aload_n hx hb dX1_mendQuill_0 rfl (lv_at hl 0 rfl) ?_
  have hPc := hP.sub (ws' := [(h0, .inr (1, [.int mi, .int cu, .ref a2, .ref a3, .ref a4, .ref a5, .ref a6, .ref ho])), (ho, .inr (5, f_ho))]) [0, 1] rfl
  refine va_calli (va_runV (As := []) (rest := []) ⟨hx, hb, hml, hown, hts⟩ (c_X1_isBlunt l dC dI cI cZ cQ h0 cu ho ([.int mi, .int cu, .ref a2, .ref a3, .ref a4, .ref a5, .ref a6, .ref ho]) bl f_ho s.heap.size rfl rfl e_ho_1) (cwV 0 hts gX1_mendQuill_X1_isBlunt rfl rfl rfl hd_X1_isBlunt_RX1 ⟨Nat.le_of_ble_eq_true rfl, Nat.le_of_ble_eq_true rfl⟩) (pv_R (va_recv hK hP (ci := 1) (q0 := 0) rfl rfl) hK hPc) rfl rfl hl.1 rfl (lv_room (Nat.le_of_ble_eq_true rfl)) dX1_mendQuill_1 ⟨Nat.le_of_ble_eq_true rfl, Nat.le_of_ble_eq_true rfl⟩) hS (fun q _ h => False.elim h) (fun q h => False.elim h) (fun r1 u2 t H1 locs ht hvm hw3 hB hz1 hk1 hS => ?_)
  have hP := hP.kept (fun k q hk => hk1 q.1 (hP k q hk).lt (fun h => h))
  clear hz1 hk1 hPc
  generalize H1 = H at hP hS ht ⊢
  try dsimp only at hw3
  rcases hw3 with rfl | rfl
  ·
    refine lv_if_eq (tgt := 40) hx hb dX1_mendQuill_4 (by decide) (fun c4 => ?_) (fun c4 => ?_)
    · exact absurd c4 (by decide)
    clear c4
    refine lv_aload_n hx hb dX1_mendQuill_7 rfl (lv_at hl 0 rfl) ?_
    refine va_get (D := (dC, dI)) (ci := 1) (v := .ref a2) (C := RX1) (T := TX1) (N := 8) hx hb hts hi_X1 hown hK hP 0 rfl rfl 2 (by decide) (hts (.fieldLink RX1 18 "LeftQuills$Desk" "length" "[I") (wmx 1 rfl)) (fun _ h9 => h9) rfl dX1_mendQuill_8 ?_
    refine lv_iload_n hx hb dX1_mendQuill_11 rfl (lv_at hl 1 rfl) ?_
    refine lv_dup2_11 hx hb dX1_mendQuill_12 rfl rfl ?_
    refine va_iald hx hb hK hP 2 0 rfl rfl (vp_in_nI (n := j) (N := 8) (by omega) (by decide)) dX1_mendQuill_13 ?_
    refine W.eq (g2 := F0 m 14 ls [.int (fa2 j), .int (nI j), .ref a2]) (congrArg (fun y9 => F0 m 14 ls (.int (fa2 y9) :: [.int (nI j), .ref a2])) ((nI_clamp (n := j) (by omega)))) ?_
    refine lv_bipush (v := 9) hx hb dX1_mendQuill_14 (by decide) ?_
    refine lv_isub hx hb dX1_mendQuill_16 ?_
    refine lv_topi (fun z5 ez5 => ?_)
    refine va_iast hx hb hK hP hD hS 2 0 rfl rfl (vp_in_nI (n := j) (N := 8) (by omega) (by decide)) dX1_mendQuill_17 (fun H locs hP hD hS => ?_)
    generalize hgf6 : upd fa2 ((nI j).toNatClampNeg) z5 = f6 at hP hD
    have hPD : pdW (dC, dI) vwCl A [(h0, .inr (1, [.int mi, .int cu, .ref a2, .ref a3, .ref a4, .ref a5, .ref a6, .ref ho])), (ho, .inr (5, f_ho)), (a2, .inl (cI, 8, .inl f6)), (a3, .inl (cI, 8, .inl fa3)), (a4, .inl (cI, 8, .inl fa4))] H := ⟨hP, hD⟩
    have hP := hPD.1
    have hD := hPD.2
    clear hPD
    refine lv_aload_n hx hb dX1_mendQuill_18 rfl (lv_at hl 0 rfl) ?_
    refine va_get (D := (dC, dI)) (ci := 1) (v := .ref a3) (C := RX1) (T := TX1) (N := 8) hx hb hts hi_X1 hown hK hP 0 rfl rfl 3 (by decide) (hts (.fieldLink RX1 22 "LeftQuills$Desk" "nib" "[I") (wmx 2 rfl)) (fun _ h9 => h9) rfl dX1_mendQuill_19 ?_
    refine lv_iload_n hx hb dX1_mendQuill_22 rfl (lv_at hl 1 rfl) ?_
    refine lv_bipush (v := 9) hx hb dX1_mendQuill_23 (by decide) ?_
    refine lv_aload_n hx hb dX1_mendQuill_25 rfl (lv_at hl 0 rfl) ?_
    refine va_get (D := (dC, dI)) (ci := 1) (v := .ref a3) (C := RX1) (T := TX1) (N := 8) hx hb hts hi_X1 hown hK hP 0 rfl rfl 3 (by decide) (hts (.fieldLink RX1 22 "LeftQuills$Desk" "nib" "[I") (wmx 2 rfl)) (fun _ h9 => h9) rfl dX1_mendQuill_26 ?_
    refine lv_iload_n hx hb dX1_mendQuill_29 rfl (lv_at hl 1 rfl) ?_
    refine va_iald hx hb hK hP 3 0 rfl rfl (vp_in_nI (n := j) (N := 8) (by omega) (by decide)) dX1_mendQuill_30 ?_
    refine W.eq (g2 := F0 m 31 ls [.int (fa3 j), .int 9, .int (nI j), .ref a3]) (congrArg (fun y9 => F0 m 31 ls (.int (fa3 y9) :: [.int 9, .int (nI j), .ref a3])) ((nI_clamp (n := j) (by omega)))) ?_
    refine lv_iconst (v := 1) hx hb dX1_mendQuill_31 (by decide) ?_
    refine lv_iadd hx hb dX1_mendQuill_32 ?_
    refine lv_topi (fun z7 ez7 => ?_)
    refine va_mmin hx hb (hml.trans hl.1.symm) hown (hts (.methodLink RX1 70 Lib.Math.min.name) (wmx 3 rfl)) (hts (.static Lib.Math.min.name) (wmx 4 rfl)) (hts (.initialized "java/lang/Math") (wmx 5 rfl)) (hts (.code Lib.Math.min.name Lib.Math.min.code 2 (some .int)) (wmx 6 rfl)) (Nat.le_of_ble_eq_true rfl) (Nat.le_of_ble_eq_true rfl) (Nat.le_of_ble_eq_true rfl) (Nat.le_of_ble_eq_true rfl) dX1_mendQuill_33 ?_
    refine lv_topi (fun z8 ez8 => ?_)
    refine va_iast hx hb hK hP hD hS 3 0 rfl rfl (vp_in_nI (n := j) (N := 8) (by omega) (by decide)) dX1_mendQuill_36 (fun H locs hP hD hS => ?_)
    generalize hgf9 : upd fa3 ((nI j).toNatClampNeg) z8 = f9 at hP hD
    have hPD : pdW (dC, dI) vwCl A [(h0, .inr (1, [.int mi, .int cu, .ref a2, .ref a3, .ref a4, .ref a5, .ref a6, .ref ho])), (ho, .inr (5, f_ho)), (a2, .inl (cI, 8, .inl f6)), (a3, .inl (cI, 8, .inl f9)), (a4, .inl (cI, 8, .inl fa4))] H := ⟨hP, hD⟩
    have hP := hPD.1
    have hD := hPD.2
    clear hPD
    refine lv_goto (tgt := 50) hx hb dX1_mendQuill_37 (by decide) ?_
    refine lv_aload_n hx hb dX1_mendQuill_50 rfl (lv_at hl 0 rfl) ?_
    refine va_get (D := (dC, dI)) (ci := 1) (v := .ref a4) (C := RX1) (T := TX1) (N := 8) hx hb hts hi_X1 hown hK hP 0 rfl rfl 4 (by decide) (hts (.fieldLink RX1 25 "LeftQuills$Desk" "softness" "[I") (wmx 7 rfl)) (fun _ h9 => h9) rfl dX1_mendQuill_51 ?_
    refine lv_iload_n hx hb dX1_mendQuill_54 rfl (lv_at hl 1 rfl) ?_
    refine lv_iconst (v := 0) hx hb dX1_mendQuill_55 (by decide) ?_
    refine va_iast hx hb hK hP hD hS 4 0 rfl rfl (vp_in_nI (n := j) (N := 8) (by omega) (by decide)) dX1_mendQuill_56 (fun H locs hP hD hS => ?_)
    generalize hgf10 : upd fa4 ((nI j).toNatClampNeg) 0 = f10 at hP hD
    have hPD : pdW (dC, dI) vwCl A [(h0, .inr (1, [.int mi, .int cu, .ref a2, .ref a3, .ref a4, .ref a5, .ref a6, .ref ho])), (ho, .inr (5, f_ho)), (a2, .inl (cI, 8, .inl f6)), (a3, .inl (cI, 8, .inl f9)), (a4, .inl (cI, 8, .inl f10))] H := ⟨hP, hD⟩
    have hP := hPD.1
    have hD := hPD.2
    clear hPD
    refine lv_aload_n hx hb dX1_mendQuill_57 rfl (lv_at hl 0 rfl) ?_
    refine lv_dup hx hb dX1_mendQuill_58 rfl ?_
    refine va_get (D := (dC, dI)) (ci := 1) (v := .int cu) (C := RX1) (T := TX1) (N := 8) hx hb hts hi_X1 hown hK hP 0 rfl rfl 1 (by decide) (hts (.fieldLink RX1 15 "LeftQuills$Desk" "cuts" "I") (wmx 8 rfl)) (fun _ h9 => h9) rfl dX1_mendQuill_59 ?_
    refine lv_iconst (v := 1) hx hb dX1_mendQuill_62 (by decide) ?_
    refine lv_iadd hx hb dX1_mendQuill_63 ?_
    refine lv_topi (fun z11 ez11 => ?_)
    refine va_put (D := (dC, dI)) (ci := 1) (v := .int z11) (ty := .int) (C := RX1) (T := TX1) (N := 8) hx hb hts hi_X1 tyX1 tyX1_ok nmX1 hown hK hP hD hS 0 rfl rfl 1 (by decide) (hts (.fieldLink RX1 15 "LeftQuills$Desk" "cuts" "I") (wmx 8 rfl)) (fun _ h9 => h9) rfl (by decide +kernel) rfl rfl (Nat.le_of_ble_eq_true rfl) dX1_mendQuill_64 (fun H locs hP hD hS => ?_)
    have hPD : pdW (dC, dI) vwCl A [(h0, .inr (1, [.int mi, .int z11, .ref a2, .ref a3, .ref a4, .ref a5, .ref a6, .ref ho])), (ho, .inr (5, f_ho)), (a2, .inl (cI, 8, .inl f6)), (a3, .inl (cI, 8, .inl f9)), (a4, .inl (cI, 8, .inl f10))] H := ⟨hP, hD⟩
    have hP := hPD.1
    have hD := hPD.2
    clear hPD
    refine lv_aload_n hx hb dX1_mendQuill_67 rfl (lv_at hl 0 rfl) ?_
    refine lv_dup hx hb dX1_mendQuill_68 rfl ?_
    refine va_get (D := (dC, dI)) (ci := 1) (v := .int mi) (C := RX1) (T := TX1) (N := 8) hx hb hts hi_X1 hown hK hP 0 rfl rfl 0 (by decide) (hts (.fieldLink RX1 9 "LeftQuills$Desk" "minutes" "I") (wmx 9 rfl)) (fun _ h9 => h9) rfl dX1_mendQuill_69 ?_
    refine lv_aload_n hx hb dX1_mendQuill_72 rfl (lv_at hl 0 rfl) ?_
    refine va_get (D := (dC, dI)) (ci := 1) (v := .ref ho) (C := RX1) (T := TX1) (N := 8) hx hb hts hi_X1 hown hK hP 0 rfl rfl 7 (by decide) (hts (.fieldLink RX1 34 "LeftQuills$Desk" "office" "LLeftQuills$Office;") (wmx 10 rfl)) (fun _ h9 => h9) rfl dX1_mendQuill_73 ?_
    refine va_get (D := (dC, dI)) (ci := 5) (v := .int mm) (C := RX5) (T := TX5) (N := 13) hx hb hts hi_X5 hown hK hP 1 rfl rfl 2 (by decide) (hts (.fieldLink RX1 75 "LeftQuills$Office" "mendMinutes" "I") (wmx 11 rfl)) (fun _ h9 => h9) e_ho_2 dX1_mendQuill_76 ?_
    refine lv_iadd hx hb dX1_mendQuill_79 ?_
    refine lv_topi (fun z12 ez12 => ?_)
    refine va_put (D := (dC, dI)) (ci := 1) (v := .int z12) (ty := .int) (C := RX1) (T := TX1) (N := 8) hx hb hts hi_X1 tyX1 tyX1_ok nmX1 hown hK hP hD hS 0 rfl rfl 0 (by decide) (hts (.fieldLink RX1 9 "LeftQuills$Desk" "minutes" "I") (wmx 9 rfl)) (fun _ h9 => h9) rfl (by decide +kernel) rfl rfl (Nat.le_of_ble_eq_true rfl) dX1_mendQuill_80 (fun H locs hP hD hS => ?_)
    have hPD : pdW (dC, dI) vwCl A [(h0, .inr (1, [.int z12, .int z11, .ref a2, .ref a3, .ref a4, .ref a5, .ref a6, .ref ho])), (ho, .inr (5, f_ho)), (a2, .inl (cI, 8, .inl f6)), (a3, .inl (cI, 8, .inl f9)), (a4, .inl (cI, 8, .inl f10))] H := ⟨hP, hD⟩
    have hP := hPD.1
    have hD := hPD.2
    clear hPD
    have hP9 := hP.sub (ws' := [(h0, .inr (1, [.int z12, .int z11, .ref a2, .ref a3, .ref a4, .ref a5, .ref a6, .ref ho])), (ho, .inr (5, f_ho)), (a2, .inl (cI, 8, .inl f6)), (a3, .inl (cI, 8, .inl f9)), (a4, .inl (cI, 8, .inl f10))]) [0, 1, 2, 3, 4] rfl
    have hD9 := hD.sub (ws' := [(h0, .inr (1, [.int z12, .int z11, .ref a2, .ref a3, .ref a4, .ref a5, .ref a6, .ref ho])), (ho, .inr (5, f_ho)), (a2, .inl (cI, 8, .inl f6)), (a3, .inl (cI, 8, .inl f9)), (a4, .inl (cI, 8, .inl f10))]) [0, 1, 2, 3, 4] (by decide +kernel) rfl
    exact W.vret hx hb hr (fun t ht hW => ⟨⟨(fun _ => 0), rfl, trivial, ⟨f6, f9, f10, z12, z11, va_hq ht hP9, hD9⟩⟩, hS.F ht⟩) hS.2.2 dX1_mendQuill_83
  ·
    refine lv_if_eq (tgt := 40) hx hb dX1_mendQuill_4 (by decide) (fun c13 => ?_) (fun c13 => ?_)
    rotate_left
    · exact absurd c13 (by decide)
    clear c13
    refine lv_aload_n hx hb dX1_mendQuill_40 rfl (lv_at hl 0 rfl) ?_
    refine va_get (D := (dC, dI)) (ci := 1) (v := .ref a2) (C := RX1) (T := TX1) (N := 8) hx hb hts hi_X1 hown hK hP 0 rfl rfl 2 (by decide) (hts (.fieldLink RX1 18 "LeftQuills$Desk" "length" "[I") (wmx 1 rfl)) (fun _ h9 => h9) rfl dX1_mendQuill_41 ?_
    refine lv_iload_n hx hb dX1_mendQuill_44 rfl (lv_at hl 1 rfl) ?_
    refine lv_dup2_11 hx hb dX1_mendQuill_45 rfl rfl ?_
    refine va_iald hx hb hK hP 2 0 rfl rfl (vp_in_nI (n := j) (N := 8) (by omega) (by decide)) dX1_mendQuill_46 ?_
    refine W.eq (g2 := F0 m 47 ls [.int (fa2 j), .int (nI j), .ref a2]) (congrArg (fun y9 => F0 m 47 ls (.int (fa2 y9) :: [.int (nI j), .ref a2])) ((nI_clamp (n := j) (by omega)))) ?_
    refine lv_iconst (v := 5) hx hb dX1_mendQuill_47 (by decide) ?_
    refine lv_isub hx hb dX1_mendQuill_48 ?_
    refine lv_topi (fun z14 ez14 => ?_)
    refine va_iast hx hb hK hP hD hS 2 0 rfl rfl (vp_in_nI (n := j) (N := 8) (by omega) (by decide)) dX1_mendQuill_49 (fun H locs hP hD hS => ?_)
    generalize hgf15 : upd fa2 ((nI j).toNatClampNeg) z14 = f15 at hP hD
    have hPD : pdW (dC, dI) vwCl A [(h0, .inr (1, [.int mi, .int cu, .ref a2, .ref a3, .ref a4, .ref a5, .ref a6, .ref ho])), (ho, .inr (5, f_ho)), (a2, .inl (cI, 8, .inl f15)), (a3, .inl (cI, 8, .inl fa3)), (a4, .inl (cI, 8, .inl fa4))] H := ⟨hP, hD⟩
    have hP := hPD.1
    have hD := hPD.2
    clear hPD
    refine lv_aload_n hx hb dX1_mendQuill_50 rfl (lv_at hl 0 rfl) ?_
    refine va_get (D := (dC, dI)) (ci := 1) (v := .ref a4) (C := RX1) (T := TX1) (N := 8) hx hb hts hi_X1 hown hK hP 0 rfl rfl 4 (by decide) (hts (.fieldLink RX1 25 "LeftQuills$Desk" "softness" "[I") (wmx 7 rfl)) (fun _ h9 => h9) rfl dX1_mendQuill_51 ?_
    refine lv_iload_n hx hb dX1_mendQuill_54 rfl (lv_at hl 1 rfl) ?_
    refine lv_iconst (v := 0) hx hb dX1_mendQuill_55 (by decide) ?_
    refine va_iast hx hb hK hP hD hS 4 0 rfl rfl (vp_in_nI (n := j) (N := 8) (by omega) (by decide)) dX1_mendQuill_56 (fun H locs hP hD hS => ?_)
    generalize hgf16 : upd fa4 ((nI j).toNatClampNeg) 0 = f16 at hP hD
    have hPD : pdW (dC, dI) vwCl A [(h0, .inr (1, [.int mi, .int cu, .ref a2, .ref a3, .ref a4, .ref a5, .ref a6, .ref ho])), (ho, .inr (5, f_ho)), (a2, .inl (cI, 8, .inl f15)), (a3, .inl (cI, 8, .inl fa3)), (a4, .inl (cI, 8, .inl f16))] H := ⟨hP, hD⟩
    have hP := hPD.1
    have hD := hPD.2
    clear hPD
    refine lv_aload_n hx hb dX1_mendQuill_57 rfl (lv_at hl 0 rfl) ?_
    refine lv_dup hx hb dX1_mendQuill_58 rfl ?_
    refine va_get (D := (dC, dI)) (ci := 1) (v := .int cu) (C := RX1) (T := TX1) (N := 8) hx hb hts hi_X1 hown hK hP 0 rfl rfl 1 (by decide) (hts (.fieldLink RX1 15 "LeftQuills$Desk" "cuts" "I") (wmx 8 rfl)) (fun _ h9 => h9) rfl dX1_mendQuill_59 ?_
    refine lv_iconst (v := 1) hx hb dX1_mendQuill_62 (by decide) ?_
    refine lv_iadd hx hb dX1_mendQuill_63 ?_
    refine lv_topi (fun z17 ez17 => ?_)
    refine va_put (D := (dC, dI)) (ci := 1) (v := .int z17) (ty := .int) (C := RX1) (T := TX1) (N := 8) hx hb hts hi_X1 tyX1 tyX1_ok nmX1 hown hK hP hD hS 0 rfl rfl 1 (by decide) (hts (.fieldLink RX1 15 "LeftQuills$Desk" "cuts" "I") (wmx 8 rfl)) (fun _ h9 => h9) rfl (by decide +kernel) rfl rfl (Nat.le_of_ble_eq_true rfl) dX1_mendQuill_64 (fun H locs hP hD hS => ?_)
    have hPD : pdW (dC, dI) vwCl A [(h0, .inr (1, [.int mi, .int z17, .ref a2, .ref a3, .ref a4, .ref a5, .ref a6, .ref ho])), (ho, .inr (5, f_ho)), (a2, .inl (cI, 8, .inl f15)), (a3, .inl (cI, 8, .inl fa3)), (a4, .inl (cI, 8, .inl f16))] H := ⟨hP, hD⟩
    have hP := hPD.1
    have hD := hPD.2
    clear hPD
    refine lv_aload_n hx hb dX1_mendQuill_67 rfl (lv_at hl 0 rfl) ?_
    refine lv_dup hx hb dX1_mendQuill_68 rfl ?_
    refine va_get (D := (dC, dI)) (ci := 1) (v := .int mi) (C := RX1) (T := TX1) (N := 8) hx hb hts hi_X1 hown hK hP 0 rfl rfl 0 (by decide) (hts (.fieldLink RX1 9 "LeftQuills$Desk" "minutes" "I") (wmx 9 rfl)) (fun _ h9 => h9) rfl dX1_mendQuill_69 ?_
    refine lv_aload_n hx hb dX1_mendQuill_72 rfl (lv_at hl 0 rfl) ?_
    refine va_get (D := (dC, dI)) (ci := 1) (v := .ref ho) (C := RX1) (T := TX1) (N := 8) hx hb hts hi_X1 hown hK hP 0 rfl rfl 7 (by decide) (hts (.fieldLink RX1 34 "LeftQuills$Desk" "office" "LLeftQuills$Office;") (wmx 10 rfl)) (fun _ h9 => h9) rfl dX1_mendQuill_73 ?_
    refine va_get (D := (dC, dI)) (ci := 5) (v := .int mm) (C := RX5) (T := TX5) (N := 13) hx hb hts hi_X5 hown hK hP 1 rfl rfl 2 (by decide) (hts (.fieldLink RX1 75 "LeftQuills$Office" "mendMinutes" "I") (wmx 11 rfl)) (fun _ h9 => h9) e_ho_2 dX1_mendQuill_76 ?_
    refine lv_iadd hx hb dX1_mendQuill_79 ?_
    refine lv_topi (fun z18 ez18 => ?_)
    refine va_put (D := (dC, dI)) (ci := 1) (v := .int z18) (ty := .int) (C := RX1) (T := TX1) (N := 8) hx hb hts hi_X1 tyX1 tyX1_ok nmX1 hown hK hP hD hS 0 rfl rfl 0 (by decide) (hts (.fieldLink RX1 9 "LeftQuills$Desk" "minutes" "I") (wmx 9 rfl)) (fun _ h9 => h9) rfl (by decide +kernel) rfl rfl (Nat.le_of_ble_eq_true rfl) dX1_mendQuill_80 (fun H locs hP hD hS => ?_)
    have hPD : pdW (dC, dI) vwCl A [(h0, .inr (1, [.int z18, .int z17, .ref a2, .ref a3, .ref a4, .ref a5, .ref a6, .ref ho])), (ho, .inr (5, f_ho)), (a2, .inl (cI, 8, .inl f15)), (a3, .inl (cI, 8, .inl fa3)), (a4, .inl (cI, 8, .inl f16))] H := ⟨hP, hD⟩
    have hP := hPD.1
    have hD := hPD.2
    clear hPD
    have hP9 := hP.sub (ws' := [(h0, .inr (1, [.int z18, .int z17, .ref a2, .ref a3, .ref a4, .ref a5, .ref a6, .ref ho])), (ho, .inr (5, f_ho)), (a2, .inl (cI, 8, .inl f15)), (a3, .inl (cI, 8, .inl fa3)), (a4, .inl (cI, 8, .inl f16))]) [0, 1, 2, 3, 4] rfl
    have hD9 := hD.sub (ws' := [(h0, .inr (1, [.int z18, .int z17, .ref a2, .ref a3, .ref a4, .ref a5, .ref a6, .ref ho])), (ho, .inr (5, f_ho)), (a2, .inl (cI, 8, .inl f15)), (a3, .inl (cI, 8, .inl fa3)), (a4, .inl (cI, 8, .inl f16))]) [0, 1, 2, 3, 4] (by decide +kernel) rfl
    exact W.vret hx hb hr (fun t ht hW => ⟨⟨(fun _ => 0), rfl, trivial, ⟨f15, fa3, f16, z18, z17, va_hq ht hP9, hD9⟩⟩, hS.F ht⟩) hS.2.2 dX1_mendQuill_83
set_option maxHeartbeats 4000000 in
set_option maxRecDepth 100000 in
theorem c_X1_writePage (l : Launch) (dC : Nat → ClassId) (dI : Nat → Nat → Nat) (cI cZ cQ : ClassId) (h0 : Nat) (mi : Int32) (cu : Int32) (a2 : Nat) (a3 : Nat) (a4 : Nat) (a5 : Nat) (a6 : Nat) (ho : Nat) (o5 : Nat) (o6 : Nat) (o7 : Nat) (o10 : Nat) (o11 : Nat) (o12 : Nat) (f_ho : List Value) (fa3 : Nat → Int32) (fa4 : Nat → Int32) (fa5 : Nat → Int32) (fa6 : Nat → Int32) (fo5 : Nat → Int32) (fo6 : Nat → Int32) (fo7 : Nat → Int32) (fo10 : Nat → Int32) (fo11 : Nat → Int32) (fo12 : Nat → Int32) (j : Nat) (k : Nat) (sz : Nat) (e_ho_5 : fAt f_ho 5 = some (.ref o5)) (e_ho_6 : fAt f_ho 6 = some (.ref o6)) (e_ho_7 : fAt f_ho 7 = some (.ref o7)) (e_ho_10 : fAt f_ho 10 = some (.ref o10)) (e_ho_11 : fAt f_ho 11 = some (.ref o11)) (e_ho_12 : fAt f_ho 12 = some (.ref o12)) (hj : j < 8) (hk : k < 4) : Met l yX1_writePage wsX1_writePage ({ frames := 2, cells := 0, slots := 0, locals := 85 }) (va_Pc [.ref h0, .int (nI j), .int (nI k)] (fun U => U.heap.size = sz ∧ va_P (dC, dI) vwCl [(h0, .inr (1, [.int mi, .int cu, .ref a2, .ref a3, .ref a4, .ref a5, .ref a6, .ref ho])), (ho, .inr (5, f_ho)), (a3, .inl (cI, 8, .inl fa3)), (a4, .inl (cI, 8, .inl fa4)), (a5, .inl (cI, 4, .inl fa5)), (a6, .inl (cI, 4, .inl fa6)), (o5, .inl (cI, 8, .inl fo5)), (o6, .inl (cI, 8, .inl fo6)), (o7, .inl (cI, 8, .inl fo7)), (o10, .inl (cI, 4, .inl fo10)), (o11, .inl (cI, 4, .inl fo11)), (o12, .inl (cI, 4, .inl fo12))] U.heap ∧ va_K (dC, dI) vwCl (tys0 cI cZ cQ) U ∧ va_D (fun _ => True) [(h0, .inr (1, [.int mi, .int cu, .ref a2, .ref a3, .ref a4, .ref a5, .ref a6, .ref ho])), (ho, .inr (5, f_ho)), (a3, .inl (cI, 8, .inl fa3)), (a4, .inl (cI, 8, .inl fa4)), (a5, .inl (cI, 4, .inl fa5)), (a6, .inl (cI, 4, .inl fa6)), (o5, .inl (cI, 8, .inl fo5)), (o6, .inl (cI, 8, .inl fo6)), (o7, .inl (cI, 8, .inl fo7)), (o10, .inl (cI, 4, .inl fo10)), (o11, .inl (cI, 4, .inl fo11)), (o12, .inl (cI, 4, .inl fo12))] ∧ xN U)) (va_Qi (fun (r : Int32) (u : Nat → Nat) => r = 1 ∨ r = 0) (fun (_ : Nat → Nat) (t : State) => ∃ (gg0 gg1 gg2 : Nat → Int32) (ii0 : Int32) , va_P (dC, dI) vwCl [(h0, .inr (1, [.int ii0, .int cu, .ref a2, .ref a3, .ref a4, .ref a5, .ref a6, .ref ho])), (ho, .inr (5, f_ho)), (a3, .inl (cI, 8, .inl fa3)), (a4, .inl (cI, 8, .inl gg0)), (a5, .inl (cI, 4, .inl gg1)), (a6, .inl (cI, 4, .inl gg2)), (o5, .inl (cI, 8, .inl fo5)), (o6, .inl (cI, 8, .inl fo6)), (o7, .inl (cI, 8, .inl fo7)), (o10, .inl (cI, 4, .inl fo10)), (o11, .inl (cI, 4, .inl fo11)), (o12, .inl (cI, 4, .inl fo12))] t.heap ∧ va_D (va_A [(h0, .inr (1, [.int mi, .int cu, .ref a2, .ref a3, .ref a4, .ref a5, .ref a6, .ref ho])), (ho, .inr (5, f_ho)), (a3, .inl (cI, 8, .inl fa3)), (a4, .inl (cI, 8, .inl fa4)), (a5, .inl (cI, 4, .inl fa5)), (a6, .inl (cI, 4, .inl fa6)), (o5, .inl (cI, 8, .inl fo5)), (o6, .inl (cI, 8, .inl fo6)), (o7, .inl (cI, 8, .inl fo7)), (o10, .inl (cI, 4, .inl fo10)), (o11, .inl (cI, 4, .inl fo11)), (o12, .inl (cI, 4, .inl fo12))] sz) [(h0, .inr (1, [.int ii0, .int cu, .ref a2, .ref a3, .ref a4, .ref a5, .ref a6, .ref ho])), (ho, .inr (5, f_ho)), (a3, .inl (cI, 8, .inl fa3)), (a4, .inl (cI, 8, .inl gg0)), (a5, .inl (cI, 4, .inl gg1)), (a6, .inl (cI, 4, .inl gg2)), (o5, .inl (cI, 8, .inl fo5)), (o6, .inl (cI, 8, .inl fo6)), (o7, .inl (cI, 8, .inl fo7)), (o10, .inl (cI, 4, .inl fo10)), (o11, .inl (cI, 4, .inl fo11)), (o12, .inl (cI, 4, .inl fo12))]) (va_A [(h0, .inr (1, [.int mi, .int cu, .ref a2, .ref a3, .ref a4, .ref a5, .ref a6, .ref ho])), (ho, .inr (5, f_ho)), (a3, .inl (cI, 8, .inl fa3)), (a4, .inl (cI, 8, .inl fa4)), (a5, .inl (cI, 4, .inl fa5)), (a6, .inl (cI, 4, .inl fa6)), (o5, .inl (cI, 8, .inl fo5)), (o6, .inl (cI, 8, .inl fo6)), (o7, .inl (cI, 8, .inl fo7)), (o10, .inl (cI, 4, .inl fo10)), (o11, .inl (cI, 4, .inl fo11)), (o12, .inl (cI, 4, .inl fo12))] sz)) 0 0 (va_A [(h0, .inr (1, [.int mi, .int cu, .ref a2, .ref a3, .ref a4, .ref a5, .ref a6, .ref ho])), (ho, .inr (5, f_ho)), (a3, .inl (cI, 8, .inl fa3)), (a4, .inl (cI, 8, .inl fa4)), (a5, .inl (cI, 4, .inl fa5)), (a6, .inl (cI, 4, .inl fa6)), (o5, .inl (cI, 8, .inl fo5)), (o6, .inl (cI, 8, .inl fo6)), (o7, .inl (cI, 8, .inl fo7)), (o10, .inl (cI, 4, .inl fo10)), (o11, .inl (cI, 4, .inl fo11)), (o12, .inl (cI, 4, .inl fo12))] sz) := by
  refine Met.ofW (cc := cX1_writePage) (maxL := 4) (ret := (some .boolean)) (by decide) rfl ?_
  intro p e s m args below meth c s₁ B hml hv
  obtain ⟨rfl, hsz, hP, hK, hD0, hN⟩ := hv
  have hx := B.exec
  have hb := B.bytes
  have hr := B.returns
  have hts := atoms_spec (ws := wsX1_writePage) B.pre
  have hown : s.vm.findClass RX1 = some m.cls := findClass_of_methodNamed B.named
  have hlocks := B.notSynchronized
  have hi_X1 : ∀ w ∈ u_ws RX1 TX1 8, w ∈ wsX1_writePage := fun _ h => List.mem_cons_of_mem _ (List.mem_append_left _ (List.mem_append_right _ (h)))
  subst hsz
  have hD := hD0.self (sz := s.heap.size)
  generalize hAe : va_A [(h0, .inr (1, [.int mi, .int cu, .ref a2, .ref a3, .ref a4, .ref a5, .ref a6, .ref ho])), (ho, .inr (5, f_ho)), (a3, .inl (cI, 8, .inl fa3)), (a4, .inl (cI, 8, .inl fa4)), (a5, .inl (cI, 4, .inl fa5)), (a6, .inl (cI, 4, .inl fa6)), (o5, .inl (cI, 8, .inl fo5)), (o6, .inl (cI, 8, .inl fo6)), (o7, .inl (cI, 8, .inl fo7)), (o10, .inl (cI, 4, .inl fo10)), (o11, .inl (cI, 4, .inl fo11)), (o12, .inl (cI, 4, .inl fo12))] s.heap.size = A at hD ⊢
  have hA : ∀ q : Nat, s.heap.size ≤ q → A q := fun q h => by rw [← hAe]; exact Or.inr h
  have hS : va_S A s.heap s.heap [] := va_S.rf
  have hl := lv_entry ([.ref h0, .int (nI j), .int (nI k)]) (n := 4) (Nat.le_of_ble_eq_true rfl)
  rw [lg_entry_eq]
  generalize (lg_sl ([.ref h0, .int (nI j), .int (nI k)]) ++ List.replicate (4 - (lg_sl ([.ref h0, .int (nI j), .int (nI k)])).length) Slot.unset).toArray = ls at hl ⊢
  have hl : lv_has ls 4 [(0, .ref h0), (1, .int (nI j)), (2, .int (nI k))] := hl
  refine lv_aload_n hx hb dX1_writePage_0 rfl (lv_at hl 0 rfl) ?_
  refine va_get (D := (dC, dI)) (ci := 1) (v := .ref a4) (C := RX1) (T := TX1) (N := 8) hx hb hts hi_X1 hown hK hP 0 rfl rfl 4 (by decide) (hts (.fieldLink RX1 25 "LeftQuills$Desk" "softness" "[I") (wmx 1 rfl)) (fun _ h9 => h9) rfl dX1_writePage_1 ?_
  refine lv_iload_n hx hb dX1_writePage_4 rfl (lv_at hl 1 rfl) ?_
  refine lv_aload_n hx hb dX1_writePage_5 rfl (lv_at hl 0 rfl) ?_
  refine va_get (D := (dC, dI)) (ci := 1) (v := .ref a4) (C := RX1) (T := TX1) (N := 8) hx hb hts hi_X1 hown hK hP 0 rfl rfl 4 (by decide) (hts (.fieldLink RX1 25 "LeftQuills$Desk" "softness" "[I") (wmx 1 rfl)) (fun _ h9 => h9) rfl dX1_writePage_6 ?_
  refine lv_iload_n hx hb dX1_writePage_9 rfl (lv_at hl 1 rfl) ?_
  refine va_iald hx hb hK hP 3 0 rfl rfl (vp_in_nI (n := j) (N := 8) (by omega) (by decide)) dX1_writePage_10 ?_
  refine W.eq (g2 := F0 m 11 ls [.int (fa4 j), .int (nI j), .ref a4]) (congrArg (fun y9 => F0 m 11 ls (.int (fa4 y9) :: [.int (nI j), .ref a4])) ((nI_clamp (n := j) (by omega)))) ?_
  refine lv_aload_n hx hb dX1_writePage_11 rfl (lv_at hl 0 rfl) ?_
  refine va_get (D := (dC, dI)) (ci := 1) (v := .ref ho) (C := RX1) (T := TX1) (N := 8) hx hb hts hi_X1 hown hK hP 0 rfl rfl 7 (by decide) (hts (.fieldLink RX1 34 "LeftQuills$Desk" "office" "LLeftQuills$Office;") (wmx 2 rfl)) (fun _ h9 => h9) rfl dX1_writePage_12 ?_
  refine lv_iload_n hx hb dX1_writePage_15 rfl (lv_at hl 1 rfl) ?_
  refine lv_iload_n hx hb dX1_writePage_16 rfl (lv_at hl 2 rfl) ?_
  have hPc := hP.sub (ws' := [(ho, .inr (5, f_ho)), (o5, .inl (cI, 8, .inl fo5)), (o6, .inl (cI, 8, .inl fo6)), (o7, .inl (cI, 8, .inl fo7)), (o10, .inl (cI, 4, .inl fo10)), (o11, .inl (cI, 4, .inl fo11))]) [1, 6, 7, 8, 9, 10] rfl
  refine va_calli (va_runV (As := [.int (nI j), .int (nI k)]) (rest := [.int (fa4 j), .int (nI j), .ref a4]) ⟨hx, hb, hml, hown, hts⟩ (c_X5_wear l dC dI cI cZ cQ ho o5 o6 o7 o10 o11 f_ho fo5 fo6 fo7 fo10 fo11 j k s.heap.size e_ho_5 e_ho_6 e_ho_7 e_ho_10 e_ho_11 (by omega) (by omega)) (cwV 2 hts gX1_writePage_X5_wear rfl rfl rfl hd_X5_wear_RX5 ⟨Nat.le_of_ble_eq_true rfl, Nat.le_of_ble_eq_true rfl⟩) (pv_R (va_recv hK hP (ci := 5) (q0 := 1) rfl rfl) hK hPc) rfl rfl hl.1 rfl (lv_room (Nat.le_of_ble_eq_true rfl)) dX1_writePage_17 ⟨Nat.le_of_ble_eq_true rfl, Nat.le_of_ble_eq_true rfl⟩) hS (fun q _ h => False.elim h) (fun q h => False.elim h) (fun r1 u2 t H1 locs ht hvm hw3 hB hz1 hk1 hS => ?_)
  have hP := hP.kept (fun k q hk => hk1 q.1 (hP k q hk).lt (fun h => h))
  clear hz1 hk1 hPc
  generalize H1 = H at hP hS ht ⊢
  try dsimp only at hw3
  have hPc := hP.sub (ws' := []) [] rfl
  refine va_calli (va_runSN (As := [.int (fa4 j), .int r1]) (rest := [.int (nI j), .ref a4]) ⟨hx, hb, hml, hown, hts⟩ (c_X10_softerBy l dC dI cI cZ cQ (fa4 j) r1 H.size ) ⟨va_cnB 2 hts gX1_writePage_X10_softerBy_n56 rfl rfl rfl (hN.n_X1_56) (hts (.initialized RX10) (wmx 30 rfl)) (by decide +kernel) ⟨Nat.le_of_ble_eq_true rfl, Nat.le_of_ble_eq_true rfl⟩, hts (.static yX10_softerBy) (by decide +kernel), trivial⟩ (ps_R hK hPc) rfl rfl hl.1 rfl (lv_room (Nat.le_of_ble_eq_true rfl)) dX1_writePage_20 ⟨Nat.le_of_ble_eq_true rfl, Nat.le_of_ble_eq_true rfl⟩) hS (fun q _ h => False.elim h) (fun q h => False.elim h) (fun r4 u5 t H1 locs ht hvm hw6 hB hz1 hk1 hS => ?_)
  have hP := hP.kept (fun k q hk => hk1 q.1 (hP k q hk).lt (fun h => h))
  clear hz1 hk1 hPc
  generalize H1 = H at hP hS ht ⊢
  try dsimp only at hw6
  refine va_iast hx hb hK hP hD hS 3 0 rfl rfl (vp_in_nI (n := j) (N := 8) (by omega) (by decide)) dX1_writePage_23 (fun H locs hP hD hS => ?_)
  generalize hgf7 : upd fa4 ((nI j).toNatClampNeg) r4 = f7 at hP hD
  have hPD : pdW (dC, dI) vwCl A [(h0, .inr (1, [.int mi, .int cu, .ref a2, .ref a3, .ref a4, .ref a5, .ref a6, .ref ho])), (ho, .inr (5, f_ho)), (a3, .inl (cI, 8, .inl fa3)), (a4, .inl (cI, 8, .inl f7)), (a5, .inl (cI, 4, .inl fa5)), (a6, .inl (cI, 4, .inl fa6)), (o5, .inl (cI, 8, .inl fo5)), (o6, .inl (cI, 8, .inl fo6)), (o7, .inl (cI, 8, .inl fo7)), (o10, .inl (cI, 4, .inl fo10)), (o11, .inl (cI, 4, .inl fo11)), (o12, .inl (cI, 4, .inl fo12))] H := ⟨hP, hD⟩
  have hP := hPD.1
  have hD := hPD.2
  clear hPD
  refine lv_aload_n hx hb dX1_writePage_24 rfl (lv_at hl 0 rfl) ?_
  refine va_get (D := (dC, dI)) (ci := 1) (v := .ref a4) (C := RX1) (T := TX1) (N := 8) hx hb hts hi_X1 hown hK hP 0 rfl rfl 4 (by decide) (hts (.fieldLink RX1 25 "LeftQuills$Desk" "softness" "[I") (wmx 1 rfl)) (fun _ h9 => h9) rfl dX1_writePage_25 ?_
  refine lv_iload_n hx hb dX1_writePage_28 rfl (lv_at hl 1 rfl) ?_
  refine va_iald hx hb hK hP 3 0 rfl rfl (vp_in_nI (n := j) (N := 8) (by omega) (by decide)) dX1_writePage_29 ?_
  refine W.eq (g2 := F0 m 30 ls [.int (f7 j)]) (congrArg (fun y9 => F0 m 30 ls (.int (f7 y9) :: [])) ((nI_clamp (n := j) (by omega)))) ?_
  refine lv_bipush (v := 50) hx hb dX1_writePage_30 (by decide) ?_
  refine lv_icmp_gt (tgt := 56) hx hb dX1_writePage_32 (by decide) (fun c8 => ?_) (fun c8 => ?_)
  ·
    refine lv_iconst (v := 0) hx hb dX1_writePage_56 (by decide) ?_
    refine lv_istore_n (lv' := [(3, .int 0), (0, .ref h0), (1, .int (nI j)), (2, .int (nI k))]) hx hb dX1_writePage_57 rfl hl (by decide) rfl (fun ls hl => ?_)
    refine lv_aload_n hx hb dX1_writePage_58 rfl (lv_at hl 1 rfl) ?_
    refine va_get (D := (dC, dI)) (ci := 1) (v := .ref a5) (C := RX1) (T := TX1) (N := 8) hx hb hts hi_X1 hown hK hP 0 rfl rfl 5 (by decide) (hts (.fieldLink RX1 28 "LeftQuills$Desk" "pages" "[I") (wmx 4 rfl)) (fun _ h9 => h9) rfl dX1_writePage_59 ?_
    refine lv_iload_n hx hb dX1_writePage_62 rfl (lv_at hl 3 rfl) ?_
    refine lv_dup2_11 hx hb dX1_writePage_63 rfl rfl ?_
    refine va_iald hx hb hK hP 4 0 rfl rfl (vp_in_nI (n := k) (N := 4) (by omega) (by decide)) dX1_writePage_64 ?_
    refine W.eq (g2 := F0 m 65 ls [.int (fa5 k), .int (nI k), .ref a5]) (congrArg (fun y9 => F0 m 65 ls (.int (fa5 y9) :: [.int (nI k), .ref a5])) ((nI_clamp (n := k) (by omega)))) ?_
    refine lv_iconst (v := 1) hx hb dX1_writePage_65 (by decide) ?_
    refine lv_iadd hx hb dX1_writePage_66 ?_
    refine lv_topi (fun z9 ez9 => ?_)
    refine va_iast hx hb hK hP hD hS 4 0 rfl rfl (vp_in_nI (n := k) (N := 4) (by omega) (by decide)) dX1_writePage_67 (fun H locs hP hD hS => ?_)
    generalize hgf10 : upd fa5 ((nI k).toNatClampNeg) z9 = f10 at hP hD
    have hPD : pdW (dC, dI) vwCl A [(h0, .inr (1, [.int mi, .int cu, .ref a2, .ref a3, .ref a4, .ref a5, .ref a6, .ref ho])), (ho, .inr (5, f_ho)), (a3, .inl (cI, 8, .inl fa3)), (a4, .inl (cI, 8, .inl f7)), (a5, .inl (cI, 4, .inl f10)), (a6, .inl (cI, 4, .inl fa6)), (o5, .inl (cI, 8, .inl fo5)), (o6, .inl (cI, 8, .inl fo6)), (o7, .inl (cI, 8, .inl fo7)), (o10, .inl (cI, 4, .inl fo10)), (o11, .inl (cI, 4, .inl fo11)), (o12, .inl (cI, 4, .inl fo12))] H := ⟨hP, hD⟩
    have hP := hPD.1
    have hD := hPD.2
    clear hPD
    refine lv_iload_n hx hb dX1_writePage_68 rfl (lv_at hl 0 rfl) ?_
    refine lv_if_eq (tgt := 82) hx hb dX1_writePage_69 (by decide) (fun c11 => ?_) (fun c11 => ?_)
    rotate_left
    · exact absurd c11 (by decide)
    clear c11
    refine lv_aload_n hx hb dX1_writePage_82 rfl (lv_at hl 1 rfl) ?_
    refine lv_dup hx hb dX1_writePage_83 rfl ?_
    refine va_get (D := (dC, dI)) (ci := 1) (v := .int mi) (C := RX1) (T := TX1) (N := 8) hx hb hts hi_X1 hown hK hP 0 rfl rfl 0 (by decide) (hts (.fieldLink RX1 9 "LeftQuills$Desk" "minutes" "I") (wmx 6 rfl)) (fun _ h9 => h9) rfl dX1_writePage_84 ?_
    refine lv_iconst (v := 2) hx hb dX1_writePage_87 (by decide) ?_
    refine lv_iadd hx hb dX1_writePage_88 ?_
    refine lv_topi (fun z12 ez12 => ?_)
    refine va_put (D := (dC, dI)) (ci := 1) (v := .int z12) (ty := .int) (C := RX1) (T := TX1) (N := 8) hx hb hts hi_X1 tyX1 tyX1_ok nmX1 hown hK hP hD hS 0 rfl rfl 0 (by decide) (hts (.fieldLink RX1 9 "LeftQuills$Desk" "minutes" "I") (wmx 6 rfl)) (fun _ h9 => h9) rfl (by decide +kernel) rfl rfl (Nat.le_of_ble_eq_true rfl) dX1_writePage_89 (fun H locs hP hD hS => ?_)
    have hPD : pdW (dC, dI) vwCl A [(h0, .inr (1, [.int z12, .int cu, .ref a2, .ref a3, .ref a4, .ref a5, .ref a6, .ref ho])), (ho, .inr (5, f_ho)), (a3, .inl (cI, 8, .inl fa3)), (a4, .inl (cI, 8, .inl f7)), (a5, .inl (cI, 4, .inl f10)), (a6, .inl (cI, 4, .inl fa6)), (o5, .inl (cI, 8, .inl fo5)), (o6, .inl (cI, 8, .inl fo6)), (o7, .inl (cI, 8, .inl fo7)), (o10, .inl (cI, 4, .inl fo10)), (o11, .inl (cI, 4, .inl fo11)), (o12, .inl (cI, 4, .inl fo12))] H := ⟨hP, hD⟩
    have hP := hPD.1
    have hD := hPD.2
    clear hPD
    refine lv_iload_n hx hb dX1_writePage_92 rfl (lv_at hl 0 rfl) ?_
    have hP9 := hP.sub (ws' := [(h0, .inr (1, [.int z12, .int cu, .ref a2, .ref a3, .ref a4, .ref a5, .ref a6, .ref ho])), (ho, .inr (5, f_ho)), (a3, .inl (cI, 8, .inl fa3)), (a4, .inl (cI, 8, .inl f7)), (a5, .inl (cI, 4, .inl f10)), (a6, .inl (cI, 4, .inl fa6)), (o5, .inl (cI, 8, .inl fo5)), (o6, .inl (cI, 8, .inl fo6)), (o7, .inl (cI, 8, .inl fo7)), (o10, .inl (cI, 4, .inl fo10)), (o11, .inl (cI, 4, .inl fo11)), (o12, .inl (cI, 4, .inl fo12))]) [0, 1, 2, 3, 4, 5, 6, 7, 8, 9, 10, 11] rfl
    have hD9 := hD.sub (ws' := [(h0, .inr (1, [.int z12, .int cu, .ref a2, .ref a3, .ref a4, .ref a5, .ref a6, .ref ho])), (ho, .inr (5, f_ho)), (a3, .inl (cI, 8, .inl fa3)), (a4, .inl (cI, 8, .inl f7)), (a5, .inl (cI, 4, .inl f10)), (a6, .inl (cI, 4, .inl fa6)), (o5, .inl (cI, 8, .inl fo5)), (o6, .inl (cI, 8, .inl fo6)), (o7, .inl (cI, 8, .inl fo7)), (o10, .inl (cI, 4, .inl fo10)), (o11, .inl (cI, 4, .inl fo11)), (o12, .inl (cI, 4, .inl fo12))]) [0, 1, 2, 3, 4, 5, 6, 7, 8, 9, 10, 11] (by decide +kernel) rfl
    exact W.zret (v := 0) hx hb hr (rfl) (fun t ht hW => ⟨⟨0, (fun _ => 0), rfl, Or.inr rfl, ⟨f7, f10, fa6, z12, va_hq ht hP9, hD9⟩⟩, hS.F ht⟩) hS.2.2 dX1_writePage_93
  ·
    refine lv_aload_n hx hb dX1_writePage_35 rfl (lv_at hl 0 rfl) ?_
    refine va_get (D := (dC, dI)) (ci := 1) (v := .ref ho) (C := RX1) (T := TX1) (N := 8) hx hb hts hi_X1 hown hK hP 0 rfl rfl 7 (by decide) (hts (.fieldLink RX1 34 "LeftQuills$Desk" "office" "LLeftQuills$Office;") (wmx 2 rfl)) (fun _ h9 => h9) rfl dX1_writePage_36 ?_
    refine lv_iload_n hx hb dX1_writePage_39 rfl (lv_at hl 2 rfl) ?_
    refine lv_aload_n hx hb dX1_writePage_40 rfl (lv_at hl 0 rfl) ?_
    refine va_get (D := (dC, dI)) (ci := 1) (v := .ref a3) (C := RX1) (T := TX1) (N := 8) hx hb hts hi_X1 hown hK hP 0 rfl rfl 3 (by decide) (hts (.fieldLink RX1 22 "LeftQuills$Desk" "nib" "[I") (wmx 3 rfl)) (fun _ h9 => h9) rfl dX1_writePage_41 ?_
    refine lv_iload_n hx hb dX1_writePage_44 rfl (lv_at hl 1 rfl) ?_
    refine va_iald hx hb hK hP 2 0 rfl rfl (vp_in_nI (n := j) (N := 8) (by omega) (by decide)) dX1_writePage_45 ?_
    refine W.eq (g2 := F0 m 46 ls [.int (fa3 j), .int (nI k), .ref ho]) (congrArg (fun y9 => F0 m 46 ls (.int (fa3 y9) :: [.int (nI k), .ref ho])) ((nI_clamp (n := j) (by omega)))) ?_
    have hPc := hP.sub (ws' := [(ho, .inr (5, f_ho)), (o12, .inl (cI, 4, .inl fo12))]) [1, 11] rfl
    refine va_calli (va_runV (As := [.int (nI k), .int (fa3 j)]) (rest := []) ⟨hx, hb, hml, hown, hts⟩ (c_X5_likesNib l dC dI cI cZ cQ ho o12 f_ho fo12 k (fa3 j) H.size e_ho_12 (by omega)) (cwV 2 hts gX1_writePage_X5_likesNib rfl rfl rfl hd_X5_likesNib_RX5 ⟨Nat.le_of_ble_eq_true rfl, Nat.le_of_ble_eq_true rfl⟩) (pv_R (va_recv hK hP (ci := 5) (q0 := 1) rfl rfl) hK hPc) rfl rfl hl.1 rfl (lv_room (Nat.le_of_ble_eq_true rfl)) dX1_writePage_46 ⟨Nat.le_of_ble_eq_true rfl, Nat.le_of_ble_eq_true rfl⟩) hS (fun q _ h => False.elim h) (fun q h => False.elim h) (fun r13 u14 t H1 locs ht hvm hw15 hB hz1 hk1 hS => ?_)
    have hP := hP.kept (fun k q hk => hk1 q.1 (hP k q hk).lt (fun h => h))
    clear hz1 hk1 hPc
    generalize H1 = H at hP hS ht ⊢
    try dsimp only at hw15
    rcases hw15 with rfl | rfl
    ·
      refine lv_if_eq (tgt := 56) hx hb dX1_writePage_49 (by decide) (fun c16 => ?_) (fun c16 => ?_)
      · exact absurd c16 (by decide)
      clear c16
      refine lv_iconst (v := 1) hx hb dX1_writePage_52 (by decide) ?_
      refine lv_goto (tgt := 57) hx hb dX1_writePage_53 (by decide) ?_
      refine lv_istore_n (lv' := [(3, .int 1), (0, .ref h0), (1, .int (nI j)), (2, .int (nI k))]) hx hb dX1_writePage_57 rfl hl (by decide) rfl (fun ls hl => ?_)
      refine lv_aload_n hx hb dX1_writePage_58 rfl (lv_at hl 1 rfl) ?_
      refine va_get (D := (dC, dI)) (ci := 1) (v := .ref a5) (C := RX1) (T := TX1) (N := 8) hx hb hts hi_X1 hown hK hP 0 rfl rfl 5 (by decide) (hts (.fieldLink RX1 28 "LeftQuills$Desk" "pages" "[I") (wmx 4 rfl)) (fun _ h9 => h9) rfl dX1_writePage_59 ?_
      refine lv_iload_n hx hb dX1_writePage_62 rfl (lv_at hl 3 rfl) ?_
      refine lv_dup2_11 hx hb dX1_writePage_63 rfl rfl ?_
      refine va_iald hx hb hK hP 4 0 rfl rfl (vp_in_nI (n := k) (N := 4) (by omega) (by decide)) dX1_writePage_64 ?_
      refine W.eq (g2 := F0 m 65 ls [.int (fa5 k), .int (nI k), .ref a5]) (congrArg (fun y9 => F0 m 65 ls (.int (fa5 y9) :: [.int (nI k), .ref a5])) ((nI_clamp (n := k) (by omega)))) ?_
      refine lv_iconst (v := 1) hx hb dX1_writePage_65 (by decide) ?_
      refine lv_iadd hx hb dX1_writePage_66 ?_
      refine lv_topi (fun z17 ez17 => ?_)
      refine va_iast hx hb hK hP hD hS 4 0 rfl rfl (vp_in_nI (n := k) (N := 4) (by omega) (by decide)) dX1_writePage_67 (fun H locs hP hD hS => ?_)
      generalize hgf18 : upd fa5 ((nI k).toNatClampNeg) z17 = f18 at hP hD
      have hPD : pdW (dC, dI) vwCl A [(h0, .inr (1, [.int mi, .int cu, .ref a2, .ref a3, .ref a4, .ref a5, .ref a6, .ref ho])), (ho, .inr (5, f_ho)), (a3, .inl (cI, 8, .inl fa3)), (a4, .inl (cI, 8, .inl f7)), (a5, .inl (cI, 4, .inl f18)), (a6, .inl (cI, 4, .inl fa6)), (o5, .inl (cI, 8, .inl fo5)), (o6, .inl (cI, 8, .inl fo6)), (o7, .inl (cI, 8, .inl fo7)), (o10, .inl (cI, 4, .inl fo10)), (o11, .inl (cI, 4, .inl fo11)), (o12, .inl (cI, 4, .inl fo12))] H := ⟨hP, hD⟩
      have hP := hPD.1
      have hD := hPD.2
      clear hPD
      refine lv_iload_n hx hb dX1_writePage_68 rfl (lv_at hl 0 rfl) ?_
      refine lv_if_eq (tgt := 82) hx hb dX1_writePage_69 (by decide) (fun c19 => ?_) (fun c19 => ?_)
      · exact absurd c19 (by decide)
      clear c19
      refine lv_aload_n hx hb dX1_writePage_72 rfl (lv_at hl 1 rfl) ?_
      refine va_get (D := (dC, dI)) (ci := 1) (v := .ref a6) (C := RX1) (T := TX1) (N := 8) hx hb hts hi_X1 hown hK hP 0 rfl rfl 6 (by decide) (hts (.fieldLink RX1 31 "LeftQuills$Desk" "good" "[I") (wmx 5 rfl)) (fun _ h9 => h9) rfl dX1_writePage_73 ?_
      refine lv_iload_n hx hb dX1_writePage_76 rfl (lv_at hl 3 rfl) ?_
      refine lv_dup2_11 hx hb dX1_writePage_77 rfl rfl ?_
      refine va_iald hx hb hK hP 5 0 rfl rfl (vp_in_nI (n := k) (N := 4) (by omega) (by decide)) dX1_writePage_78 ?_
      refine W.eq (g2 := F0 m 79 ls [.int (fa6 k), .int (nI k), .ref a6]) (congrArg (fun y9 => F0 m 79 ls (.int (fa6 y9) :: [.int (nI k), .ref a6])) ((nI_clamp (n := k) (by omega)))) ?_
      refine lv_iconst (v := 1) hx hb dX1_writePage_79 (by decide) ?_
      refine lv_iadd hx hb dX1_writePage_80 ?_
      refine lv_topi (fun z20 ez20 => ?_)
      refine va_iast hx hb hK hP hD hS 5 0 rfl rfl (vp_in_nI (n := k) (N := 4) (by omega) (by decide)) dX1_writePage_81 (fun H locs hP hD hS => ?_)
      generalize hgf21 : upd fa6 ((nI k).toNatClampNeg) z20 = f21 at hP hD
      have hPD : pdW (dC, dI) vwCl A [(h0, .inr (1, [.int mi, .int cu, .ref a2, .ref a3, .ref a4, .ref a5, .ref a6, .ref ho])), (ho, .inr (5, f_ho)), (a3, .inl (cI, 8, .inl fa3)), (a4, .inl (cI, 8, .inl f7)), (a5, .inl (cI, 4, .inl f18)), (a6, .inl (cI, 4, .inl f21)), (o5, .inl (cI, 8, .inl fo5)), (o6, .inl (cI, 8, .inl fo6)), (o7, .inl (cI, 8, .inl fo7)), (o10, .inl (cI, 4, .inl fo10)), (o11, .inl (cI, 4, .inl fo11)), (o12, .inl (cI, 4, .inl fo12))] H := ⟨hP, hD⟩
      have hP := hPD.1
      have hD := hPD.2
      clear hPD
      refine lv_aload_n hx hb dX1_writePage_82 rfl (lv_at hl 1 rfl) ?_
      refine lv_dup hx hb dX1_writePage_83 rfl ?_
      refine va_get (D := (dC, dI)) (ci := 1) (v := .int mi) (C := RX1) (T := TX1) (N := 8) hx hb hts hi_X1 hown hK hP 0 rfl rfl 0 (by decide) (hts (.fieldLink RX1 9 "LeftQuills$Desk" "minutes" "I") (wmx 6 rfl)) (fun _ h9 => h9) rfl dX1_writePage_84 ?_
      refine lv_iconst (v := 2) hx hb dX1_writePage_87 (by decide) ?_
      refine lv_iadd hx hb dX1_writePage_88 ?_
      refine lv_topi (fun z22 ez22 => ?_)
      refine va_put (D := (dC, dI)) (ci := 1) (v := .int z22) (ty := .int) (C := RX1) (T := TX1) (N := 8) hx hb hts hi_X1 tyX1 tyX1_ok nmX1 hown hK hP hD hS 0 rfl rfl 0 (by decide) (hts (.fieldLink RX1 9 "LeftQuills$Desk" "minutes" "I") (wmx 6 rfl)) (fun _ h9 => h9) rfl (by decide +kernel) rfl rfl (Nat.le_of_ble_eq_true rfl) dX1_writePage_89 (fun H locs hP hD hS => ?_)
      have hPD : pdW (dC, dI) vwCl A [(h0, .inr (1, [.int z22, .int cu, .ref a2, .ref a3, .ref a4, .ref a5, .ref a6, .ref ho])), (ho, .inr (5, f_ho)), (a3, .inl (cI, 8, .inl fa3)), (a4, .inl (cI, 8, .inl f7)), (a5, .inl (cI, 4, .inl f18)), (a6, .inl (cI, 4, .inl f21)), (o5, .inl (cI, 8, .inl fo5)), (o6, .inl (cI, 8, .inl fo6)), (o7, .inl (cI, 8, .inl fo7)), (o10, .inl (cI, 4, .inl fo10)), (o11, .inl (cI, 4, .inl fo11)), (o12, .inl (cI, 4, .inl fo12))] H := ⟨hP, hD⟩
      have hP := hPD.1
      have hD := hPD.2
      clear hPD
      refine lv_iload_n hx hb dX1_writePage_92 rfl (lv_at hl 0 rfl) ?_
      have hP9 := hP.sub (ws' := [(h0, .inr (1, [.int z22, .int cu, .ref a2, .ref a3, .ref a4, .ref a5, .ref a6, .ref ho])), (ho, .inr (5, f_ho)), (a3, .inl (cI, 8, .inl fa3)), (a4, .inl (cI, 8, .inl f7)), (a5, .inl (cI, 4, .inl f18)), (a6, .inl (cI, 4, .inl f21)), (o5, .inl (cI, 8, .inl fo5)), (o6, .inl (cI, 8, .inl fo6)), (o7, .inl (cI, 8, .inl fo7)), (o10, .inl (cI, 4, .inl fo10)), (o11, .inl (cI, 4, .inl fo11)), (o12, .inl (cI, 4, .inl fo12))]) [0, 1, 2, 3, 4, 5, 6, 7, 8, 9, 10, 11] rfl
      have hD9 := hD.sub (ws' := [(h0, .inr (1, [.int z22, .int cu, .ref a2, .ref a3, .ref a4, .ref a5, .ref a6, .ref ho])), (ho, .inr (5, f_ho)), (a3, .inl (cI, 8, .inl fa3)), (a4, .inl (cI, 8, .inl f7)), (a5, .inl (cI, 4, .inl f18)), (a6, .inl (cI, 4, .inl f21)), (o5, .inl (cI, 8, .inl fo5)), (o6, .inl (cI, 8, .inl fo6)), (o7, .inl (cI, 8, .inl fo7)), (o10, .inl (cI, 4, .inl fo10)), (o11, .inl (cI, 4, .inl fo11)), (o12, .inl (cI, 4, .inl fo12))]) [0, 1, 2, 3, 4, 5, 6, 7, 8, 9, 10, 11] (by decide +kernel) rfl
      exact W.zret (v := 1) hx hb hr (rfl) (fun t ht hW => ⟨⟨1, (fun _ => 0), rfl, Or.inl rfl, ⟨f7, f18, f21, z22, va_hq ht hP9, hD9⟩⟩, hS.F ht⟩) hS.2.2 dX1_writePage_93
    ·
      refine lv_if_eq (tgt := 56) hx hb dX1_writePage_49 (by decide) (fun c23 => ?_) (fun c23 => ?_)
      rotate_left
      · exact absurd c23 (by decide)
      clear c23
      refine lv_iconst (v := 0) hx hb dX1_writePage_56 (by decide) ?_
      refine lv_istore_n (lv' := [(3, .int 0), (0, .ref h0), (1, .int (nI j)), (2, .int (nI k))]) hx hb dX1_writePage_57 rfl hl (by decide) rfl (fun ls hl => ?_)
      refine lv_aload_n hx hb dX1_writePage_58 rfl (lv_at hl 1 rfl) ?_
      refine va_get (D := (dC, dI)) (ci := 1) (v := .ref a5) (C := RX1) (T := TX1) (N := 8) hx hb hts hi_X1 hown hK hP 0 rfl rfl 5 (by decide) (hts (.fieldLink RX1 28 "LeftQuills$Desk" "pages" "[I") (wmx 4 rfl)) (fun _ h9 => h9) rfl dX1_writePage_59 ?_
      refine lv_iload_n hx hb dX1_writePage_62 rfl (lv_at hl 3 rfl) ?_
      refine lv_dup2_11 hx hb dX1_writePage_63 rfl rfl ?_
      refine va_iald hx hb hK hP 4 0 rfl rfl (vp_in_nI (n := k) (N := 4) (by omega) (by decide)) dX1_writePage_64 ?_
      refine W.eq (g2 := F0 m 65 ls [.int (fa5 k), .int (nI k), .ref a5]) (congrArg (fun y9 => F0 m 65 ls (.int (fa5 y9) :: [.int (nI k), .ref a5])) ((nI_clamp (n := k) (by omega)))) ?_
      refine lv_iconst (v := 1) hx hb dX1_writePage_65 (by decide) ?_
      refine lv_iadd hx hb dX1_writePage_66 ?_
      refine lv_topi (fun z24 ez24 => ?_)
      refine va_iast hx hb hK hP hD hS 4 0 rfl rfl (vp_in_nI (n := k) (N := 4) (by omega) (by decide)) dX1_writePage_67 (fun H locs hP hD hS => ?_)
      generalize hgf25 : upd fa5 ((nI k).toNatClampNeg) z24 = f25 at hP hD
      have hPD : pdW (dC, dI) vwCl A [(h0, .inr (1, [.int mi, .int cu, .ref a2, .ref a3, .ref a4, .ref a5, .ref a6, .ref ho])), (ho, .inr (5, f_ho)), (a3, .inl (cI, 8, .inl fa3)), (a4, .inl (cI, 8, .inl f7)), (a5, .inl (cI, 4, .inl f25)), (a6, .inl (cI, 4, .inl fa6)), (o5, .inl (cI, 8, .inl fo5)), (o6, .inl (cI, 8, .inl fo6)), (o7, .inl (cI, 8, .inl fo7)), (o10, .inl (cI, 4, .inl fo10)), (o11, .inl (cI, 4, .inl fo11)), (o12, .inl (cI, 4, .inl fo12))] H := ⟨hP, hD⟩
      have hP := hPD.1
      have hD := hPD.2
      clear hPD
      refine lv_iload_n hx hb dX1_writePage_68 rfl (lv_at hl 0 rfl) ?_
      refine lv_if_eq (tgt := 82) hx hb dX1_writePage_69 (by decide) (fun c26 => ?_) (fun c26 => ?_)
      rotate_left
      · exact absurd c26 (by decide)
      clear c26
      refine lv_aload_n hx hb dX1_writePage_82 rfl (lv_at hl 1 rfl) ?_
      refine lv_dup hx hb dX1_writePage_83 rfl ?_
      refine va_get (D := (dC, dI)) (ci := 1) (v := .int mi) (C := RX1) (T := TX1) (N := 8) hx hb hts hi_X1 hown hK hP 0 rfl rfl 0 (by decide) (hts (.fieldLink RX1 9 "LeftQuills$Desk" "minutes" "I") (wmx 6 rfl)) (fun _ h9 => h9) rfl dX1_writePage_84 ?_
      refine lv_iconst (v := 2) hx hb dX1_writePage_87 (by decide) ?_
      refine lv_iadd hx hb dX1_writePage_88 ?_
      refine lv_topi (fun z27 ez27 => ?_)
      refine va_put (D := (dC, dI)) (ci := 1) (v := .int z27) (ty := .int) (C := RX1) (T := TX1) (N := 8) hx hb hts hi_X1 tyX1 tyX1_ok nmX1 hown hK hP hD hS 0 rfl rfl 0 (by decide) (hts (.fieldLink RX1 9 "LeftQuills$Desk" "minutes" "I") (wmx 6 rfl)) (fun _ h9 => h9) rfl (by decide +kernel) rfl rfl (Nat.le_of_ble_eq_true rfl) dX1_writePage_89 (fun H locs hP hD hS => ?_)
      have hPD : pdW (dC, dI) vwCl A [(h0, .inr (1, [.int z27, .int cu, .ref a2, .ref a3, .ref a4, .ref a5, .ref a6, .ref ho])), (ho, .inr (5, f_ho)), (a3, .inl (cI, 8, .inl fa3)), (a4, .inl (cI, 8, .inl f7)), (a5, .inl (cI, 4, .inl f25)), (a6, .inl (cI, 4, .inl fa6)), (o5, .inl (cI, 8, .inl fo5)), (o6, .inl (cI, 8, .inl fo6)), (o7, .inl (cI, 8, .inl fo7)), (o10, .inl (cI, 4, .inl fo10)), (o11, .inl (cI, 4, .inl fo11)), (o12, .inl (cI, 4, .inl fo12))] H := ⟨hP, hD⟩
      have hP := hPD.1
      have hD := hPD.2
      clear hPD
      refine lv_iload_n hx hb dX1_writePage_92 rfl (lv_at hl 0 rfl) ?_
      have hP9 := hP.sub (ws' := [(h0, .inr (1, [.int z27, .int cu, .ref a2, .ref a3, .ref a4, .ref a5, .ref a6, .ref ho])), (ho, .inr (5, f_ho)), (a3, .inl (cI, 8, .inl fa3)), (a4, .inl (cI, 8, .inl f7)), (a5, .inl (cI, 4, .inl f25)), (a6, .inl (cI, 4, .inl fa6)), (o5, .inl (cI, 8, .inl fo5)), (o6, .inl (cI, 8, .inl fo6)), (o7, .inl (cI, 8, .inl fo7)), (o10, .inl (cI, 4, .inl fo10)), (o11, .inl (cI, 4, .inl fo11)), (o12, .inl (cI, 4, .inl fo12))]) [0, 1, 2, 3, 4, 5, 6, 7, 8, 9, 10, 11] rfl
      have hD9 := hD.sub (ws' := [(h0, .inr (1, [.int z27, .int cu, .ref a2, .ref a3, .ref a4, .ref a5, .ref a6, .ref ho])), (ho, .inr (5, f_ho)), (a3, .inl (cI, 8, .inl fa3)), (a4, .inl (cI, 8, .inl f7)), (a5, .inl (cI, 4, .inl f25)), (a6, .inl (cI, 4, .inl fa6)), (o5, .inl (cI, 8, .inl fo5)), (o6, .inl (cI, 8, .inl fo6)), (o7, .inl (cI, 8, .inl fo7)), (o10, .inl (cI, 4, .inl fo10)), (o11, .inl (cI, 4, .inl fo11)), (o12, .inl (cI, 4, .inl fo12))]) [0, 1, 2, 3, 4, 5, 6, 7, 8, 9, 10, 11] (by decide +kernel) rfl
      exact W.zret (v := 0) hx hb hr (rfl) (fun t ht hW => ⟨⟨0, (fun _ => 0), rfl, Or.inr rfl, ⟨f7, f25, fa6, z27, va_hq ht hP9, hD9⟩⟩, hS.F ht⟩) hS.2.2 dX1_writePage_93
set_option maxHeartbeats 4000000 in
set_option maxRecDepth 100000 in
theorem c_X1_copyFrom (l : Launch) (dC : Nat → ClassId) (dI : Nat → Nat → Nat) (cI cZ cQ : ClassId) (h0 : Nat) (mia : Int32) (cua : Int32) (a2 : Nat) (a3 : Nat) (a4 : Nat) (a5 : Nat) (a6 : Nat) (ho : Nat) (fa2 : Nat → Int32) (fa3 : Nat → Int32) (fa4 : Nat → Int32) (fa5 : Nat → Int32) (fa6 : Nat → Int32) (hq : Nat) (mib : Int32) (cub : Int32) (b2 : Nat) (b3 : Nat) (b4 : Nat) (b5 : Nat) (b6 : Nat) (hp : Nat) (fb2 : Nat → Int32) (fb3 : Nat → Int32) (fb4 : Nat → Int32) (fb5 : Nat → Int32) (fb6 : Nat → Int32) (sz : Nat)  : Met l yX1_copyFrom wsX1_copyFrom ({ frames := 1, cells := 0, slots := 0, locals := 40 }) (va_Pc [.ref h0, .ref hq] (fun U => U.heap.size = sz ∧ va_P (dC, dI) vwCl [(h0, .inr (1, [.int mia, .int cua, .ref a2, .ref a3, .ref a4, .ref a5, .ref a6, .ref ho])), (a2, .inl (cI, 8, .inl fa2)), (a3, .inl (cI, 8, .inl fa3)), (a4, .inl (cI, 8, .inl fa4)), (a5, .inl (cI, 4, .inl fa5)), (a6, .inl (cI, 4, .inl fa6)), (hq, .inr (1, [.int mib, .int cub, .ref b2, .ref b3, .ref b4, .ref b5, .ref b6, .ref hp])), (b2, .inl (cI, 8, .inl fb2)), (b3, .inl (cI, 8, .inl fb3)), (b4, .inl (cI, 8, .inl fb4)), (b5, .inl (cI, 4, .inl fb5)), (b6, .inl (cI, 4, .inl fb6))] U.heap ∧ va_K (dC, dI) vwCl (tys0 cI cZ cQ) U ∧ va_D (fun _ => True) [(h0, .inr (1, [.int mia, .int cua, .ref a2, .ref a3, .ref a4, .ref a5, .ref a6, .ref ho])), (a2, .inl (cI, 8, .inl fa2)), (a3, .inl (cI, 8, .inl fa3)), (a4, .inl (cI, 8, .inl fa4)), (a5, .inl (cI, 4, .inl fa5)), (a6, .inl (cI, 4, .inl fa6)), (hq, .inr (1, [.int mib, .int cub, .ref b2, .ref b3, .ref b4, .ref b5, .ref b6, .ref hp])), (b2, .inl (cI, 8, .inl fb2)), (b3, .inl (cI, 8, .inl fb3)), (b4, .inl (cI, 8, .inl fb4)), (b5, .inl (cI, 4, .inl fb5)), (b6, .inl (cI, 4, .inl fb6))])) (va_Qv (fun (u : Nat → Nat) => True) (fun (_ : Nat → Nat) (t : State) => ∃ (gg0 gg1 gg2 gg3 gg4 : Nat → Int32) (ii0 ii1 : Int32) , va_P (dC, dI) vwCl [(h0, .inr (1, [.int ii0, .int ii1, .ref a2, .ref a3, .ref a4, .ref a5, .ref a6, .ref ho])), (a2, .inl (cI, 8, .inl gg0)), (a3, .inl (cI, 8, .inl gg1)), (a4, .inl (cI, 8, .inl gg2)), (a5, .inl (cI, 4, .inl gg3)), (a6, .inl (cI, 4, .inl gg4)), (hq, .inr (1, [.int mib, .int cub, .ref b2, .ref b3, .ref b4, .ref b5, .ref b6, .ref hp])), (b2, .inl (cI, 8, .inl fb2)), (b3, .inl (cI, 8, .inl fb3)), (b4, .inl (cI, 8, .inl fb4)), (b5, .inl (cI, 4, .inl fb5)), (b6, .inl (cI, 4, .inl fb6))] t.heap ∧ va_D (va_A [(h0, .inr (1, [.int mia, .int cua, .ref a2, .ref a3, .ref a4, .ref a5, .ref a6, .ref ho])), (a2, .inl (cI, 8, .inl fa2)), (a3, .inl (cI, 8, .inl fa3)), (a4, .inl (cI, 8, .inl fa4)), (a5, .inl (cI, 4, .inl fa5)), (a6, .inl (cI, 4, .inl fa6)), (hq, .inr (1, [.int mib, .int cub, .ref b2, .ref b3, .ref b4, .ref b5, .ref b6, .ref hp])), (b2, .inl (cI, 8, .inl fb2)), (b3, .inl (cI, 8, .inl fb3)), (b4, .inl (cI, 8, .inl fb4)), (b5, .inl (cI, 4, .inl fb5)), (b6, .inl (cI, 4, .inl fb6))] sz) [(h0, .inr (1, [.int ii0, .int ii1, .ref a2, .ref a3, .ref a4, .ref a5, .ref a6, .ref ho])), (a2, .inl (cI, 8, .inl gg0)), (a3, .inl (cI, 8, .inl gg1)), (a4, .inl (cI, 8, .inl gg2)), (a5, .inl (cI, 4, .inl gg3)), (a6, .inl (cI, 4, .inl gg4)), (hq, .inr (1, [.int mib, .int cub, .ref b2, .ref b3, .ref b4, .ref b5, .ref b6, .ref hp])), (b2, .inl (cI, 8, .inl fb2)), (b3, .inl (cI, 8, .inl fb3)), (b4, .inl (cI, 8, .inl fb4)), (b5, .inl (cI, 4, .inl fb5)), (b6, .inl (cI, 4, .inl fb6))]) (va_A [(h0, .inr (1, [.int mia, .int cua, .ref a2, .ref a3, .ref a4, .ref a5, .ref a6, .ref ho])), (a2, .inl (cI, 8, .inl fa2)), (a3, .inl (cI, 8, .inl fa3)), (a4, .inl (cI, 8, .inl fa4)), (a5, .inl (cI, 4, .inl fa5)), (a6, .inl (cI, 4, .inl fa6)), (hq, .inr (1, [.int mib, .int cub, .ref b2, .ref b3, .ref b4, .ref b5, .ref b6, .ref hp])), (b2, .inl (cI, 8, .inl fb2)), (b3, .inl (cI, 8, .inl fb3)), (b4, .inl (cI, 8, .inl fb4)), (b5, .inl (cI, 4, .inl fb5)), (b6, .inl (cI, 4, .inl fb6))] sz)) 0 0 (va_A [(h0, .inr (1, [.int mia, .int cua, .ref a2, .ref a3, .ref a4, .ref a5, .ref a6, .ref ho])), (a2, .inl (cI, 8, .inl fa2)), (a3, .inl (cI, 8, .inl fa3)), (a4, .inl (cI, 8, .inl fa4)), (a5, .inl (cI, 4, .inl fa5)), (a6, .inl (cI, 4, .inl fa6)), (hq, .inr (1, [.int mib, .int cub, .ref b2, .ref b3, .ref b4, .ref b5, .ref b6, .ref hp])), (b2, .inl (cI, 8, .inl fb2)), (b3, .inl (cI, 8, .inl fb3)), (b4, .inl (cI, 8, .inl fb4)), (b5, .inl (cI, 4, .inl fb5)), (b6, .inl (cI, 4, .inl fb6))] sz) := by
  refine Met.ofW (cc := cX1_copyFrom) (maxL := 2) (ret := none) (by decide) rfl ?_
  intro p e s m args below meth c s₁ B hml hv
  obtain ⟨rfl, hsz, hP, hK, hD0⟩ := hv
  have hx := B.exec
  have hb := B.bytes
  have hr := B.returns
  have hts := atoms_spec (ws := wsX1_copyFrom) B.pre
  have hown : s.vm.findClass RX1 = some m.cls := findClass_of_methodNamed B.named
  have hlocks := B.notSynchronized
  have hi_X1 : ∀ w ∈ u_ws RX1 TX1 8, w ∈ wsX1_copyFrom := fun _ h => List.mem_cons_of_mem _ (List.mem_append_right _ (h))
  subst hsz
  have hD := hD0.self (sz := s.heap.size)
  generalize hAe : va_A [(h0, .inr (1, [.int mia, .int cua, .ref a2, .ref a3, .ref a4, .ref a5, .ref a6, .ref ho])), (a2, .inl (cI, 8, .inl fa2)), (a3, .inl (cI, 8, .inl fa3)), (a4, .inl (cI, 8, .inl fa4)), (a5, .inl (cI, 4, .inl fa5)), (a6, .inl (cI, 4, .inl fa6)), (hq, .inr (1, [.int mib, .int cub, .ref b2, .ref b3, .ref b4, .ref b5, .ref b6, .ref hp])), (b2, .inl (cI, 8, .inl fb2)), (b3, .inl (cI, 8, .inl fb3)), (b4, .inl (cI, 8, .inl fb4)), (b5, .inl (cI, 4, .inl fb5)), (b6, .inl (cI, 4, .inl fb6))] s.heap.size = A at hD ⊢
  have hA : ∀ q : Nat, s.heap.size ≤ q → A q := fun q h => by rw [← hAe]; exact Or.inr h
  have hS : va_S A s.heap s.heap [] := va_S.rf
  have hl := lv_entry ([.ref h0, .ref hq]) (n := 2) (Nat.le_of_ble_eq_true rfl)
  rw [lg_entry_eq]
  generalize (lg_sl ([.ref h0, .ref hq]) ++ List.replicate (2 - (lg_sl ([.ref h0, .ref hq])).length) Slot.unset).toArray = ls at hl ⊢
  have hl : lv_has ls 2 [(0, .ref h0), (1, .ref hq)] := hl
  refine lv_aload_n hx hb dX1_copyFrom_0 rfl (lv_at hl 0 rfl) ?_
  refine lv_aload_n hx hb dX1_copyFrom_1 rfl (lv_at hl 1 rfl) ?_
  refine va_get (D := (dC, dI)) (ci := 1) (v := .int mib) (C := RX1) (T := TX1) (N := 8) hx hb hts hi_X1 hown hK hP 6 rfl rfl 0 (by decide) (hts (.fieldLink RX1 9 "LeftQuills$Desk" "minutes" "I") (wmx 1 rfl)) (fun _ h9 => h9) rfl dX1_copyFrom_2 ?_
  refine va_put (D := (dC, dI)) (ci := 1) (v := .int mib) (ty := .int) (C := RX1) (T := TX1) (N := 8) hx hb hts hi_X1 tyX1 tyX1_ok nmX1 hown hK hP hD hS 0 rfl rfl 0 (by decide) (hts (.fieldLink RX1 9 "LeftQuills$Desk" "minutes" "I") (wmx 1 rfl)) (fun _ h9 => h9) rfl (by decide +kernel) rfl rfl (Nat.le_of_ble_eq_true rfl) dX1_copyFrom_5 (fun H locs hP hD hS => ?_)
  have hPD : pdW (dC, dI) vwCl A [(h0, .inr (1, [.int mib, .int cua, .ref a2, .ref a3, .ref a4, .ref a5, .ref a6, .ref ho])), (a2, .inl (cI, 8, .inl fa2)), (a3, .inl (cI, 8, .inl fa3)), (a4, .inl (cI, 8, .inl fa4)), (a5, .inl (cI, 4, .inl fa5)), (a6, .inl (cI, 4, .inl fa6)), (hq, .inr (1, [.int mib, .int cub, .ref b2, .ref b3, .ref b4, .ref b5, .ref b6, .ref hp])), (b2, .inl (cI, 8, .inl fb2)), (b3, .inl (cI, 8, .inl fb3)), (b4, .inl (cI, 8, .inl fb4)), (b5, .inl (cI, 4, .inl fb5)), (b6, .inl (cI, 4, .inl fb6))] H := ⟨hP, hD⟩
  have hP := hPD.1
  have hD := hPD.2
  clear hPD
  refine lv_aload_n hx hb dX1_copyFrom_8 rfl (lv_at hl 0 rfl) ?_
  refine lv_aload_n hx hb dX1_copyFrom_9 rfl (lv_at hl 1 rfl) ?_
  refine va_get (D := (dC, dI)) (ci := 1) (v := .int cub) (C := RX1) (T := TX1) (N := 8) hx hb hts hi_X1 hown hK hP 6 rfl rfl 1 (by decide) (hts (.fieldLink RX1 15 "LeftQuills$Desk" "cuts" "I") (wmx 2 rfl)) (fun _ h9 => h9) rfl dX1_copyFrom_10 ?_
  refine va_put (D := (dC, dI)) (ci := 1) (v := .int cub) (ty := .int) (C := RX1) (T := TX1) (N := 8) hx hb hts hi_X1 tyX1 tyX1_ok nmX1 hown hK hP hD hS 0 rfl rfl 1 (by decide) (hts (.fieldLink RX1 15 "LeftQuills$Desk" "cuts" "I") (wmx 2 rfl)) (fun _ h9 => h9) rfl (by decide +kernel) rfl rfl (Nat.le_of_ble_eq_true rfl) dX1_copyFrom_13 (fun H locs hP hD hS => ?_)
  have hPD : pdW (dC, dI) vwCl A [(h0, .inr (1, [.int mib, .int cub, .ref a2, .ref a3, .ref a4, .ref a5, .ref a6, .ref ho])), (a2, .inl (cI, 8, .inl fa2)), (a3, .inl (cI, 8, .inl fa3)), (a4, .inl (cI, 8, .inl fa4)), (a5, .inl (cI, 4, .inl fa5)), (a6, .inl (cI, 4, .inl fa6)), (hq, .inr (1, [.int mib, .int cub, .ref b2, .ref b3, .ref b4, .ref b5, .ref b6, .ref hp])), (b2, .inl (cI, 8, .inl fb2)), (b3, .inl (cI, 8, .inl fb3)), (b4, .inl (cI, 8, .inl fb4)), (b5, .inl (cI, 4, .inl fb5)), (b6, .inl (cI, 4, .inl fb6))] H := ⟨hP, hD⟩
  have hP := hPD.1
  have hD := hPD.2
  clear hPD
  refine lv_aload_n hx hb dX1_copyFrom_16 rfl (lv_at hl 1 rfl) ?_
  refine va_get (D := (dC, dI)) (ci := 1) (v := .ref b2) (C := RX1) (T := TX1) (N := 8) hx hb hts hi_X1 hown hK hP 6 rfl rfl 2 (by decide) (hts (.fieldLink RX1 18 "LeftQuills$Desk" "length" "[I") (wmx 3 rfl)) (fun _ h9 => h9) rfl dX1_copyFrom_17 ?_
  refine lv_iconst (v := 0) hx hb dX1_copyFrom_20 (by decide) ?_
  refine lv_aload_n hx hb dX1_copyFrom_21 rfl (lv_at hl 0 rfl) ?_
  refine va_get (D := (dC, dI)) (ci := 1) (v := .ref a2) (C := RX1) (T := TX1) (N := 8) hx hb hts hi_X1 hown hK hP 0 rfl rfl 2 (by decide) (hts (.fieldLink RX1 18 "LeftQuills$Desk" "length" "[I") (wmx 3 rfl)) (fun _ h9 => h9) rfl dX1_copyFrom_22 ?_
  refine lv_iconst (v := 0) hx hb dX1_copyFrom_25 (by decide) ?_
  refine lv_bipush (v := 8) hx hb dX1_copyFrom_26 (by decide) ?_
  refine va_copyi hx hb (hml.trans hl.1.symm) hown (hts (.methodLink RX1 46 arraycopyName) (wmx 4 rfl)) (hts (.native arraycopyName) (wmx 5 rfl)) (hts (.static arraycopyName) (wmx 6 rfl)) (hts (.initialized "java/lang/System") (wmx 7 rfl)) hK hP hD hS 7 1 0 0 rfl rfl rfl rfl rfl (by decide) (by decide) (by decide) (by decide) (by decide) (fun _ _ => rfl) (Nat.le_of_ble_eq_true rfl) (Nat.le_of_ble_eq_true rfl) dX1_copyFrom_28 (fun H locs hP hD hS => ?_)
  generalize hgf1 : va_cpy _ _ _ _ _ = f1 at hP hD
  have hPD : pdW (dC, dI) vwCl A [(h0, .inr (1, [.int mib, .int cub, .ref a2, .ref a3, .ref a4, .ref a5, .ref a6, .ref ho])), (a2, .inl (cI, 8, .inl f1)), (a3, .inl (cI, 8, .inl fa3)), (a4, .inl (cI, 8, .inl fa4)), (a5, .inl (cI, 4, .inl fa5)), (a6, .inl (cI, 4, .inl fa6)), (hq, .inr (1, [.int mib, .int cub, .ref b2, .ref b3, .ref b4, .ref b5, .ref b6, .ref hp])), (b2, .inl (cI, 8, .inl fb2)), (b3, .inl (cI, 8, .inl fb3)), (b4, .inl (cI, 8, .inl fb4)), (b5, .inl (cI, 4, .inl fb5)), (b6, .inl (cI, 4, .inl fb6))] H := ⟨hP, hD⟩
  have hP := hPD.1
  have hD := hPD.2
  clear hPD
  refine lv_aload_n hx hb dX1_copyFrom_31 rfl (lv_at hl 1 rfl) ?_
  refine va_get (D := (dC, dI)) (ci := 1) (v := .ref b3) (C := RX1) (T := TX1) (N := 8) hx hb hts hi_X1 hown hK hP 6 rfl rfl 3 (by decide) (hts (.fieldLink RX1 22 "LeftQuills$Desk" "nib" "[I") (wmx 8 rfl)) (fun _ h9 => h9) rfl dX1_copyFrom_32 ?_
  refine lv_iconst (v := 0) hx hb dX1_copyFrom_35 (by decide) ?_
  refine lv_aload_n hx hb dX1_copyFrom_36 rfl (lv_at hl 0 rfl) ?_
  refine va_get (D := (dC, dI)) (ci := 1) (v := .ref a3) (C := RX1) (T := TX1) (N := 8) hx hb hts hi_X1 hown hK hP 0 rfl rfl 3 (by decide) (hts (.fieldLink RX1 22 "LeftQuills$Desk" "nib" "[I") (wmx 8 rfl)) (fun _ h9 => h9) rfl dX1_copyFrom_37 ?_
  refine lv_iconst (v := 0) hx hb dX1_copyFrom_40 (by decide) ?_
  refine lv_bipush (v := 8) hx hb dX1_copyFrom_41 (by decide) ?_
  refine va_copyi hx hb (hml.trans hl.1.symm) hown (hts (.methodLink RX1 46 arraycopyName) (wmx 4 rfl)) (hts (.native arraycopyName) (wmx 5 rfl)) (hts (.static arraycopyName) (wmx 6 rfl)) (hts (.initialized "java/lang/System") (wmx 7 rfl)) hK hP hD hS 8 2 0 0 rfl rfl rfl rfl rfl (by decide) (by decide) (by decide) (by decide) (by decide) (fun _ _ => rfl) (Nat.le_of_ble_eq_true rfl) (Nat.le_of_ble_eq_true rfl) dX1_copyFrom_43 (fun H locs hP hD hS => ?_)
  generalize hgf2 : va_cpy _ _ _ _ _ = f2 at hP hD
  have hPD : pdW (dC, dI) vwCl A [(h0, .inr (1, [.int mib, .int cub, .ref a2, .ref a3, .ref a4, .ref a5, .ref a6, .ref ho])), (a2, .inl (cI, 8, .inl f1)), (a3, .inl (cI, 8, .inl f2)), (a4, .inl (cI, 8, .inl fa4)), (a5, .inl (cI, 4, .inl fa5)), (a6, .inl (cI, 4, .inl fa6)), (hq, .inr (1, [.int mib, .int cub, .ref b2, .ref b3, .ref b4, .ref b5, .ref b6, .ref hp])), (b2, .inl (cI, 8, .inl fb2)), (b3, .inl (cI, 8, .inl fb3)), (b4, .inl (cI, 8, .inl fb4)), (b5, .inl (cI, 4, .inl fb5)), (b6, .inl (cI, 4, .inl fb6))] H := ⟨hP, hD⟩
  have hP := hPD.1
  have hD := hPD.2
  clear hPD
  refine lv_aload_n hx hb dX1_copyFrom_46 rfl (lv_at hl 1 rfl) ?_
  refine va_get (D := (dC, dI)) (ci := 1) (v := .ref b4) (C := RX1) (T := TX1) (N := 8) hx hb hts hi_X1 hown hK hP 6 rfl rfl 4 (by decide) (hts (.fieldLink RX1 25 "LeftQuills$Desk" "softness" "[I") (wmx 9 rfl)) (fun _ h9 => h9) rfl dX1_copyFrom_47 ?_
  refine lv_iconst (v := 0) hx hb dX1_copyFrom_50 (by decide) ?_
  refine lv_aload_n hx hb dX1_copyFrom_51 rfl (lv_at hl 0 rfl) ?_
  refine va_get (D := (dC, dI)) (ci := 1) (v := .ref a4) (C := RX1) (T := TX1) (N := 8) hx hb hts hi_X1 hown hK hP 0 rfl rfl 4 (by decide) (hts (.fieldLink RX1 25 "LeftQuills$Desk" "softness" "[I") (wmx 9 rfl)) (fun _ h9 => h9) rfl dX1_copyFrom_52 ?_
  refine lv_iconst (v := 0) hx hb dX1_copyFrom_55 (by decide) ?_
  refine lv_bipush (v := 8) hx hb dX1_copyFrom_56 (by decide) ?_
  refine va_copyi hx hb (hml.trans hl.1.symm) hown (hts (.methodLink RX1 46 arraycopyName) (wmx 4 rfl)) (hts (.native arraycopyName) (wmx 5 rfl)) (hts (.static arraycopyName) (wmx 6 rfl)) (hts (.initialized "java/lang/System") (wmx 7 rfl)) hK hP hD hS 9 3 0 0 rfl rfl rfl rfl rfl (by decide) (by decide) (by decide) (by decide) (by decide) (fun _ _ => rfl) (Nat.le_of_ble_eq_true rfl) (Nat.le_of_ble_eq_true rfl) dX1_copyFrom_58 (fun H locs hP hD hS => ?_)
  generalize hgf3 : va_cpy _ _ _ _ _ = f3 at hP hD
  have hPD : pdW (dC, dI) vwCl A [(h0, .inr (1, [.int mib, .int cub, .ref a2, .ref a3, .ref a4, .ref a5, .ref a6, .ref ho])), (a2, .inl (cI, 8, .inl f1)), (a3, .inl (cI, 8, .inl f2)), (a4, .inl (cI, 8, .inl f3)), (a5, .inl (cI, 4, .inl fa5)), (a6, .inl (cI, 4, .inl fa6)), (hq, .inr (1, [.int mib, .int cub, .ref b2, .ref b3, .ref b4, .ref b5, .ref b6, .ref hp])), (b2, .inl (cI, 8, .inl fb2)), (b3, .inl (cI, 8, .inl fb3)), (b4, .inl (cI, 8, .inl fb4)), (b5, .inl (cI, 4, .inl fb5)), (b6, .inl (cI, 4, .inl fb6))] H := ⟨hP, hD⟩
  have hP := hPD.1
  have hD := hPD.2
  clear hPD
  refine lv_aload_n hx hb dX1_copyFrom_61 rfl (lv_at hl 1 rfl) ?_
  refine va_get (D := (dC, dI)) (ci := 1) (v := .ref b5) (C := RX1) (T := TX1) (N := 8) hx hb hts hi_X1 hown hK hP 6 rfl rfl 5 (by decide) (hts (.fieldLink RX1 28 "LeftQuills$Desk" "pages" "[I") (wmx 10 rfl)) (fun _ h9 => h9) rfl dX1_copyFrom_62 ?_
  refine lv_iconst (v := 0) hx hb dX1_copyFrom_65 (by decide) ?_
  refine lv_aload_n hx hb dX1_copyFrom_66 rfl (lv_at hl 0 rfl) ?_
  refine va_get (D := (dC, dI)) (ci := 1) (v := .ref a5) (C := RX1) (T := TX1) (N := 8) hx hb hts hi_X1 hown hK hP 0 rfl rfl 5 (by decide) (hts (.fieldLink RX1 28 "LeftQuills$Desk" "pages" "[I") (wmx 10 rfl)) (fun _ h9 => h9) rfl dX1_copyFrom_67 ?_
  refine lv_iconst (v := 0) hx hb dX1_copyFrom_70 (by decide) ?_
  refine lv_iconst (v := 4) hx hb dX1_copyFrom_71 (by decide) ?_
  refine va_copyi hx hb (hml.trans hl.1.symm) hown (hts (.methodLink RX1 46 arraycopyName) (wmx 4 rfl)) (hts (.native arraycopyName) (wmx 5 rfl)) (hts (.static arraycopyName) (wmx 6 rfl)) (hts (.initialized "java/lang/System") (wmx 7 rfl)) hK hP hD hS 10 4 0 0 rfl rfl rfl rfl rfl (by decide) (by decide) (by decide) (by decide) (by decide) (fun _ _ => rfl) (Nat.le_of_ble_eq_true rfl) (Nat.le_of_ble_eq_true rfl) dX1_copyFrom_72 (fun H locs hP hD hS => ?_)
  generalize hgf4 : va_cpy _ _ _ _ _ = f4 at hP hD
  have hPD : pdW (dC, dI) vwCl A [(h0, .inr (1, [.int mib, .int cub, .ref a2, .ref a3, .ref a4, .ref a5, .ref a6, .ref ho])), (a2, .inl (cI, 8, .inl f1)), (a3, .inl (cI, 8, .inl f2)), (a4, .inl (cI, 8, .inl f3)), (a5, .inl (cI, 4, .inl f4)), (a6, .inl (cI, 4, .inl fa6)), (hq, .inr (1, [.int mib, .int cub, .ref b2, .ref b3, .ref b4, .ref b5, .ref b6, .ref hp])), (b2, .inl (cI, 8, .inl fb2)), (b3, .inl (cI, 8, .inl fb3)), (b4, .inl (cI, 8, .inl fb4)), (b5, .inl (cI, 4, .inl fb5)), (b6, .inl (cI, 4, .inl fb6))] H := ⟨hP, hD⟩
  have hP := hPD.1
  have hD := hPD.2
  clear hPD
  refine lv_aload_n hx hb dX1_copyFrom_75 rfl (lv_at hl 1 rfl) ?_
  refine va_get (D := (dC, dI)) (ci := 1) (v := .ref b6) (C := RX1) (T := TX1) (N := 8) hx hb hts hi_X1 hown hK hP 6 rfl rfl 6 (by decide) (hts (.fieldLink RX1 31 "LeftQuills$Desk" "good" "[I") (wmx 11 rfl)) (fun _ h9 => h9) rfl dX1_copyFrom_76 ?_
  refine lv_iconst (v := 0) hx hb dX1_copyFrom_79 (by decide) ?_
  refine lv_aload_n hx hb dX1_copyFrom_80 rfl (lv_at hl 0 rfl) ?_
  refine va_get (D := (dC, dI)) (ci := 1) (v := .ref a6) (C := RX1) (T := TX1) (N := 8) hx hb hts hi_X1 hown hK hP 0 rfl rfl 6 (by decide) (hts (.fieldLink RX1 31 "LeftQuills$Desk" "good" "[I") (wmx 11 rfl)) (fun _ h9 => h9) rfl dX1_copyFrom_81 ?_
  refine lv_iconst (v := 0) hx hb dX1_copyFrom_84 (by decide) ?_
  refine lv_iconst (v := 4) hx hb dX1_copyFrom_85 (by decide) ?_
  refine va_copyi hx hb (hml.trans hl.1.symm) hown (hts (.methodLink RX1 46 arraycopyName) (wmx 4 rfl)) (hts (.native arraycopyName) (wmx 5 rfl)) (hts (.static arraycopyName) (wmx 6 rfl)) (hts (.initialized "java/lang/System") (wmx 7 rfl)) hK hP hD hS 11 5 0 0 rfl rfl rfl rfl rfl (by decide) (by decide) (by decide) (by decide) (by decide) (fun _ _ => rfl) (Nat.le_of_ble_eq_true rfl) (Nat.le_of_ble_eq_true rfl) dX1_copyFrom_86 (fun H locs hP hD hS => ?_)
  generalize hgf5 : va_cpy _ _ _ _ _ = f5 at hP hD
  have hPD : pdW (dC, dI) vwCl A [(h0, .inr (1, [.int mib, .int cub, .ref a2, .ref a3, .ref a4, .ref a5, .ref a6, .ref ho])), (a2, .inl (cI, 8, .inl f1)), (a3, .inl (cI, 8, .inl f2)), (a4, .inl (cI, 8, .inl f3)), (a5, .inl (cI, 4, .inl f4)), (a6, .inl (cI, 4, .inl f5)), (hq, .inr (1, [.int mib, .int cub, .ref b2, .ref b3, .ref b4, .ref b5, .ref b6, .ref hp])), (b2, .inl (cI, 8, .inl fb2)), (b3, .inl (cI, 8, .inl fb3)), (b4, .inl (cI, 8, .inl fb4)), (b5, .inl (cI, 4, .inl fb5)), (b6, .inl (cI, 4, .inl fb6))] H := ⟨hP, hD⟩
  have hP := hPD.1
  have hD := hPD.2
  clear hPD
  have hP9 := hP.sub (ws' := [(h0, .inr (1, [.int mib, .int cub, .ref a2, .ref a3, .ref a4, .ref a5, .ref a6, .ref ho])), (a2, .inl (cI, 8, .inl f1)), (a3, .inl (cI, 8, .inl f2)), (a4, .inl (cI, 8, .inl f3)), (a5, .inl (cI, 4, .inl f4)), (a6, .inl (cI, 4, .inl f5)), (hq, .inr (1, [.int mib, .int cub, .ref b2, .ref b3, .ref b4, .ref b5, .ref b6, .ref hp])), (b2, .inl (cI, 8, .inl fb2)), (b3, .inl (cI, 8, .inl fb3)), (b4, .inl (cI, 8, .inl fb4)), (b5, .inl (cI, 4, .inl fb5)), (b6, .inl (cI, 4, .inl fb6))]) [0, 1, 2, 3, 4, 5, 6, 7, 8, 9, 10, 11] rfl
  have hD9 := hD.sub (ws' := [(h0, .inr (1, [.int mib, .int cub, .ref a2, .ref a3, .ref a4, .ref a5, .ref a6, .ref ho])), (a2, .inl (cI, 8, .inl f1)), (a3, .inl (cI, 8, .inl f2)), (a4, .inl (cI, 8, .inl f3)), (a5, .inl (cI, 4, .inl f4)), (a6, .inl (cI, 4, .inl f5)), (hq, .inr (1, [.int mib, .int cub, .ref b2, .ref b3, .ref b4, .ref b5, .ref b6, .ref hp])), (b2, .inl (cI, 8, .inl fb2)), (b3, .inl (cI, 8, .inl fb3)), (b4, .inl (cI, 8, .inl fb4)), (b5, .inl (cI, 4, .inl fb5)), (b6, .inl (cI, 4, .inl fb6))]) [0, 1, 2, 3, 4, 5, 6, 7, 8, 9, 10, 11] (by decide +kernel) rfl
  exact W.vret hx hb hr (fun t ht hW => ⟨⟨(fun _ => 0), rfl, trivial, ⟨f1, f2, f3, f4, f5, mib, cub, va_hq ht hP9, hD9⟩⟩, hS.F ht⟩) hS.2.2 dX1_copyFrom_89

