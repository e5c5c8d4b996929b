set_option maxHeartbeats 4000000 in
set_option maxRecDepth 100000 in
theorem c_X10_softerByD (l : Launch) (dC : Nat → ClassId) (dI : Nat → Nat → Nat) (cI cZ cQ : ClassId) (a0 : Int32) (a1 : Int32) (sz : Nat)  : Met l yX10_softerBy wsX10_softerBy ({ frames := 1, cells := 0, slots := 0, locals := 40 }) (va_Pc [.int a0, .int a1] (fun U => U.heap.size = sz ∧ va_P (dC, dI) vwCl [] U.heap ∧ va_K (dC, dI) vwCl (tys0 cI cZ cQ) U)) (va_Qi (fun (r : Int32) (u : Nat → Nat) => r = sbF a0 a1) (fun (_ : Nat → Nat) (_ : State) => True) (fun _ : Nat => False)) 0 0 (fun _ : Nat => False) := by
  refine Met.ofW (cc := cX10_softerBy) (maxL := 2) (ret := (some .int)) (by decide) rfl ?_
  intro p e s m args below meth c s₁ B hml hv
  obtain ⟨rfl, hsz, hP, hK⟩ := hv
  have hx := B.exec
  have hb := B.bytes
  have hr := B.returns
  have hts := atoms_spec (ws := wsX10_softerBy) B.pre
  have hown : s.vm.findClass RX10 = some m.cls := findClass_of_methodNamed B.named
  have hlocks := B.notSynchronized
  subst hsz
  have hS : va_S (fun _ : Nat => False) s.heap s.heap [] := va_S.rf
  have hl := lv_entry ([.int a0, .int a1]) (n := 2) (Nat.le_of_ble_eq_true rfl)
  rw [lg_entry_eq]
  generalize (lg_sl ([.int a0, .int a1]) ++ List.replicate (2 - (lg_sl ([.int a0, .int a1])).length) Slot.unset).toArray = ls at hl ⊢
  have hl : lv_has ls 2 [(0, .int a0), (1, .int a1)] := hl
  refine lv_bipush (v := 99) hx hb dX10_softerBy_0 (by decide) ?_
  refine lv_iload_n hx hb dX10_softerBy_2 rfl (lv_at hl 0 rfl) ?_
  refine lv_iload_n hx hb dX10_softerBy_3 rfl (lv_at hl 1 rfl) ?_
  refine lv_iadd hx hb dX10_softerBy_4 ?_
  refine va_mmin hx hb (hml.trans hl.1.symm) hown (hts (.methodLink RX10 265 Lib.Math.min.name) (wmx 1 rfl)) (hts (.static Lib.Math.min.name) (wmx 2 rfl)) (hts (.initialized "java/lang/Math") (wmx 3 rfl)) (hts (.code Lib.Math.min.name Lib.Math.min.code 2 (some .int)) (wmx 4 rfl)) (Nat.le_of_ble_eq_true rfl) (Nat.le_of_ble_eq_true rfl) (Nat.le_of_ble_eq_true rfl) (Nat.le_of_ble_eq_true rfl) dX10_softerBy_5 ?_
  exact W.iret (v := if a0 + a1 < 99 then a0 + a1 else 99) hx hb hr (fun t ht hW => ⟨⟨if a0 + a1 < 99 then a0 + a1 else 99, (fun _ => 0), rfl, rfl, trivial⟩, hS.F ht⟩) hS.2.2 dX10_softerBy_8
set_option maxHeartbeats 4000000 in
set_option maxRecDepth 100000 in
theorem c_X10_driedD (l : Launch) (dC : Nat → ClassId) (dI : Nat → Nat → Nat) (cI cZ cQ : ClassId) (a0 : Int32) (a1 : Int32) (sz : Nat)  : Met l yX10_driedSoftness wsX10_driedSoftness ({ frames := 1, cells := 0, slots := 0, locals := 40 }) (va_Pc [.int a0, .int a1] (fun U => U.heap.size = sz ∧ va_P (dC, dI) vwCl [] U.heap ∧ va_K (dC, dI) vwCl (tys0 cI cZ cQ) U)) (va_Qi (fun (r : Int32) (u : Nat → Nat) => r = dsF a0 a1) (fun (_ : Nat → Nat) (_ : State) => True) (fun _ : Nat => False)) 0 0 (fun _ : Nat => False) := by
  refine Met.ofW (cc := cX10_driedSoftness) (maxL := 2) (ret := (some .int)) (by decide) rfl ?_
  intro p e s m args below meth c s₁ B hml hv
  obtain ⟨rfl, hsz, hP, hK⟩ := hv
  have hx := B.exec
  have hb := B.bytes
  have hr := B.returns
  have hts := atoms_spec (ws := wsX10_driedSoftness) B.pre
  have hown : s.vm.findClass RX10 = some m.cls := findClass_of_methodNamed B.named
  have hlocks := B.notSynchronized
  subst hsz
  have hS : va_S (fun _ : Nat => False) s.heap s.heap [] := va_S.rf
  have hl := lv_entry ([.int a0, .int a1]) (n := 2) (Nat.le_of_ble_eq_true rfl)
  rw [lg_entry_eq]
  generalize (lg_sl ([.int a0, .int a1]) ++ List.replicate (2 - (lg_sl ([.int a0, .int a1])).length) Slot.unset).toArray = ls at hl ⊢
  have hl : lv_has ls 2 [(0, .int a0), (1, .int a1)] := hl
  refine lv_iload_n hx hb dX10_driedSoftness_0 rfl (lv_at hl 0 rfl) ?_
  refine lv_bipush (v := 8) hx hb dX10_driedSoftness_1 (by decide) ?_
  refine lv_iload_n hx hb dX10_driedSoftness_3 rfl (lv_at hl 1 rfl) ?_
  refine lv_imul hx hb dX10_driedSoftness_4 ?_
  refine lv_isub hx hb dX10_driedSoftness_5 ?_
  refine lv_iload_n hx hb dX10_driedSoftness_6 rfl (lv_at hl 0 rfl) ?_
  refine lv_iconst (v := 3) hx hb dX10_driedSoftness_7 (by decide) ?_
  refine lv_idiv hx hb dX10_driedSoftness_8 (by decide) ?_
  refine va_mmax hx hb (hml.trans hl.1.symm) hown (hts (.methodLink RX10 305 Lib.Math.max.name) (wmx 1 rfl)) (hts (.static Lib.Math.max.name) (wmx 2 rfl)) (hts (.initialized "java/lang/Math") (wmx 3 rfl)) (hts (.code Lib.Math.max.name Lib.Math.max.code 2 (some .int)) (wmx 4 rfl)) (Nat.le_of_ble_eq_true rfl) (Nat.le_of_ble_eq_true rfl) (Nat.le_of_ble_eq_true rfl) (Nat.le_of_ble_eq_true rfl) dX10_driedSoftness_9 ?_
  exact W.iret (v := if a0 - (8 * a1) < a0 / 3 then a0 / 3 else a0 - (8 * a1)) hx hb hr (fun t ht hW => ⟨⟨if a0 - (8 * a1) < a0 / 3 then a0 / 3 else a0 - (8 * a1), (fun _ => 0), rfl, rfl, trivial⟩, hS.F ht⟩) hS.2.2 dX10_driedSoftness_12
set_option maxHeartbeats 4000000 in
set_option maxRecDepth 100000 in
theorem c_X5_hardnessD (l : Launch) (dC : Nat → ClassId) (dI : Nat → Nat → Nat) (cI cZ cQ : ClassId) (h0 : Nat) (o6 : Nat) (o7 : Nat) (f_h0 : List Value) (fo6 : Nat → Int32) (fo7 : Nat → Int32) (j : Nat) (sz : Nat) (e_h0_6 : fAt f_h0 6 = some (.ref o6)) (e_h0_7 : fAt f_h0 7 = some (.ref o7)) (hj : j < 8) : Met l yX5_hardness wsX5_hardness ({ frames := 0, cells := 0, slots := 0, locals := 40 }) (va_Pc [.ref h0, .int (nI j)] (fun U => U.heap.size = sz ∧ va_P (dC, dI) vwCl [(h0, .inr (5, f_h0)), (o6, .inl (cI, 8, .inl fo6)), (o7, .inl (cI, 8, .inl fo7))] U.heap ∧ va_K (dC, dI) vwCl (tys0 cI cZ cQ) U)) (va_Qi (fun (r : Int32) (u : Nat → Nat) => r = hdF (fo6 j) (fo7 j)) (fun (_ : Nat → Nat) (_ : State) => True) (fun _ : Nat => False)) 0 0 (fun _ : Nat => False) := by
  refine Met.ofW (cc := cX5_hardness) (maxL := 2) (ret := (some .int)) (by decide) rfl ?_
  intro p e s m args below meth c s₁ B hml hv
  obtain ⟨rfl, hsz, hP, hK⟩ := hv
  have hx := B.exec
  have hb := B.bytes
  have hr := B.returns
  have hts := atoms_spec (ws := wsX5_hardness) B.pre
  have hown : s.vm.findClass RX5 = some m.cls := findClass_of_methodNamed B.named
  have hlocks := B.notSynchronized
  have hi_X5 : ∀ w ∈ u_ws RX5 TX5 13, w ∈ wsX5_hardness := fun _ h => List.mem_cons_of_mem _ (List.mem_append_right _ (h))
  subst hsz
  have hS : va_S (fun _ : Nat => False) s.heap s.heap [] := va_S.rf
  have hl := lv_entry ([.ref h0, .int (nI j)]) (n := 2) (Nat.le_of_ble_eq_true rfl)
  rw [lg_entry_eq]
  generalize (lg_sl ([.ref h0, .int (nI j)]) ++ List.replicate (2 - (lg_sl ([.ref h0, .int (nI j)])).length) Slot.unset).toArray = ls at hl ⊢
  have hl : lv_has ls 2 [(0, .ref h0), (1, .int (nI j))] := hl
  refine lv_aload_n hx hb dX5_hardness_0 rfl (lv_at hl 0 rfl) ?_
  refine va_get (D := (dC, dI)) (ci := 5) (v := .ref o6) (C := RX5) (T := TX5) (N := 13) hx hb hts hi_X5 hown hK hP 0 rfl rfl 6 (by decide) (hts (.fieldLink RX5 32 "LeftQuills$Office" "place" "[I") (wmx 1 rfl)) (fun _ h9 => h9) e_h0_6 dX5_hardness_1 ?_
  refine lv_iload_n hx hb dX5_hardness_4 rfl (lv_at hl 1 rfl) ?_
  refine va_iald hx hb hK hP 1 0 rfl rfl (vp_in_nI (n := j) (N := 8) (by omega) (by decide)) dX5_hardness_5 ?_
  refine W.eq (g2 := F0 m 6 ls [.int (fo6 j)]) (congrArg (fun y9 => F0 m 6 ls (.int (fo6 y9) :: [])) ((nI_clamp (n := j) (by omega)))) ?_
  by_cases c1 : (fo6 j).toInt < 2 ∨ 4 < (fo6 j).toInt
  · refine lv_tableOut (tgt := 54) hx hb dX5_hardness_6 c1 (by decide) ?_
    refine lv_iconst (v := 2) hx hb dX5_hardness_54 (by decide) ?_
    refine lv_aload_n hx hb dX5_hardness_55 rfl (lv_at hl 0 rfl) ?_
    refine va_get (D := (dC, dI)) (ci := 5) (v := .ref o7) (C := RX5) (T := TX5) (N := 13) hx hb hts hi_X5 hown hK hP 0 rfl rfl 7 (by decide) (hts (.fieldLink RX5 35 "LeftQuills$Office" "cooked" "[I") (wmx 2 rfl)) (fun _ h9 => h9) e_h0_7 dX5_hardness_56 ?_
    refine lv_iload_n hx hb dX5_hardness_59 rfl (lv_at hl 1 rfl) ?_
    refine va_iald hx hb hK hP 2 0 rfl rfl (vp_in_nI (n := j) (N := 8) (by omega) (by decide)) dX5_hardness_60 ?_
    refine W.eq (g2 := F0 m 61 ls [.int (fo7 j), .int 2]) (congrArg (fun y9 => F0 m 61 ls (.int (fo7 y9) :: [.int 2])) ((nI_clamp (n := j) (by omega)))) ?_
    refine lv_iadd hx hb dX5_hardness_61 ?_
    refine lv_iconst (v := 1) hx hb dX5_hardness_62 (by decide) ?_
    refine lv_iadd hx hb dX5_hardness_63 ?_
    exact W.iret (v := (2 + (fo7 j)) + 1) hx hb hr (fun t ht hW => ⟨⟨(2 + (fo7 j)) + 1, (fun _ => 0), rfl, (hd_o c1), trivial⟩, hS.F ht⟩) hS.2.2 dX5_hardness_64
  have h2 := x_sw_2_4 c1
  rcases h2 with h2 | h2 | h2
  · refine lv_tableIn (tgt := 32) hx hb dX5_hardness_6 (by rw [h2]; decide) (by rw [h2]; decide) (by rw [h2]; rfl) (by decide) ?_
    refine lv_iconst (v := 2) hx hb dX5_hardness_32 (by decide) ?_
    refine lv_aload_n hx hb dX5_hardness_33 rfl (lv_at hl 0 rfl) ?_
    refine va_get (D := (dC, dI)) (ci := 5) (v := .ref o7) (C := RX5) (T := TX5) (N := 13) hx hb hts hi_X5 hown hK hP 0 rfl rfl 7 (by decide) (hts (.fieldLink RX5 35 "LeftQuills$Office" "cooked" "[I") (wmx 2 rfl)) (fun _ h9 => h9) e_h0_7 dX5_hardness_34 ?_
    refine lv_iload_n hx hb dX5_hardness_37 rfl (lv_at hl 1 rfl) ?_
    refine va_iald hx hb hK hP 2 0 rfl rfl (vp_in_nI (n := j) (N := 8) (by omega) (by decide)) dX5_hardness_38 ?_
    refine W.eq (g2 := F0 m 39 ls [.int (fo7 j), .int 2]) (congrArg (fun y9 => F0 m 39 ls (.int (fo7 y9) :: [.int 2])) ((nI_clamp (n := j) (by omega)))) ?_
    refine lv_iadd hx hb dX5_hardness_39 ?_
    refine lv_iconst (v := 3) hx hb dX5_hardness_40 (by decide) ?_
    refine lv_iadd hx hb dX5_hardness_41 ?_
    exact W.iret (v := (2 + (fo7 j)) + 3) hx hb hr (fun t ht hW => ⟨⟨(2 + (fo7 j)) + 3, (fun _ => 0), rfl, (hd_2 h2), trivial⟩, hS.F ht⟩) hS.2.2 dX5_hardness_42
  · refine lv_tableIn (tgt := 32) hx hb dX5_hardness_6 (by rw [h2]; decide) (by rw [h2]; decide) (by rw [h2]; rfl) (by decide) ?_
    refine lv_iconst (v := 2) hx hb dX5_hardness_32 (by decide) ?_
    refine lv_aload_n hx hb dX5_hardness_33 rfl (lv_at hl 0 rfl) ?_
    refine va_get (D := (dC, dI)) (ci := 5) (v := .ref o7) (C := RX5) (T := TX5) (N := 13) hx hb hts hi_X5 hown hK hP 0 rfl rfl 7 (by decide) (hts (.fieldLink RX5 35 "LeftQuills$Office" "cooked" "[I") (wmx 2 rfl)) (fun _ h9 => h9) e_h0_7 dX5_hardness_34 ?_
    refine lv_iload_n hx hb dX5_hardness_37 rfl (lv_at hl 1 rfl) ?_
    refine va_iald hx hb hK hP 2 0 rfl rfl (vp_in_nI (n := j) (N := 8) (by omega) (by decide)) dX5_hardness_38 ?_
    refine W.eq (g2 := F0 m 39 ls [.int (fo7 j), .int 2]) (congrArg (fun y9 => F0 m 39 ls (.int (fo7 y9) :: [.int 2])) ((nI_clamp (n := j) (by omega)))) ?_
    refine lv_iadd hx hb dX5_hardness_39 ?_
    refine lv_iconst (v := 3) hx hb dX5_hardness_40 (by decide) ?_
    refine lv_iadd hx hb dX5_hardness_41 ?_
    exact W.iret (v := (2 + (fo7 j)) + 3) hx hb hr (fun t ht hW => ⟨⟨(2 + (fo7 j)) + 3, (fun _ => 0), rfl, (hd_3 h2), trivial⟩, hS.F ht⟩) hS.2.2 dX5_hardness_42
  · refine lv_tableIn (tgt := 43) hx hb dX5_hardness_6 (by rw [h2]; decide) (by rw [h2]; decide) (by rw [h2]; rfl) (by decide) ?_
    refine lv_iconst (v := 2) hx hb dX5_hardness_43 (by decide) ?_
    refine lv_aload_n hx hb dX5_hardness_44 rfl (lv_at hl 0 rfl) ?_
    refine va_get (D := (dC, dI)) (ci := 5) (v := .ref o7) (C := RX5) (T := TX5) (N := 13) hx hb hts hi_X5 hown hK hP 0 rfl rfl 7 (by decide) (hts (.fieldLink RX5 35 "LeftQuills$Office" "cooked" "[I") (wmx 2 rfl)) (fun _ h9 => h9) e_h0_7 dX5_hardness_45 ?_
    refine lv_iload_n hx hb dX5_hardness_48 rfl (lv_at hl 1 rfl) ?_
    refine va_iald hx hb hK hP 2 0 rfl rfl (vp_in_nI (n := j) (N := 8) (by omega) (by decide)) dX5_hardness_49 ?_
    refine W.eq (g2 := F0 m 50 ls [.int (fo7 j), .int 2]) (congrArg (fun y9 => F0 m 50 ls (.int (fo7 y9) :: [.int 2])) ((nI_clamp (n := j) (by omega)))) ?_
    refine lv_iadd hx hb dX5_hardness_50 ?_
    refine lv_iconst (v := 2) hx hb dX5_hardness_51 (by decide) ?_
    refine lv_iadd hx hb dX5_hardness_52 ?_
    exact W.iret (v := (2 + (fo7 j)) + 2) hx hb hr (fun t ht hW => ⟨⟨(2 + (fo7 j)) + 2, (fun _ => 0), rfl, (hd_4 h2), trivial⟩, hS.F ht⟩) hS.2.2 dX5_hardness_53
set_option maxHeartbeats 4000000 in
set_option maxRecDepth 100000 in
theorem c_X5_fitsD (l : Launch) (dC : Nat → ClassId) (dI : Nat → Nat → Nat) (cI cZ cQ : ClassId) (h0 : Nat) (o5 : Nat) (o10 : Nat) (f_h0 : List Value) (fo5 : Nat → Int32) (fo10 : Nat → Int32) (j : Nat) (k : Nat) (sz : Nat) (e_h0_5 : fAt f_h0 5 = some (.ref o5)) (e_h0_10 : fAt f_h0 10 = some (.ref o10)) (hj : j < 8) (hk : k < 4) : Met l yX5_fits wsX5_fits ({ frames := 0, cells := 0, slots := 0, locals := 40 }) (va_Pc [.ref h0, .int (nI j), .int (nI k)] (fun U => U.heap.size = sz ∧ va_P (dC, dI) vwCl [(h0, .inr (5, f_h0)), (o5, .inl (cI, 8, .inl fo5)), (o10, .inl (cI, 4, .inl fo10))] U.heap ∧ va_K (dC, dI) vwCl (tys0 cI cZ cQ) U)) (va_Qi (fun (r : Int32) (u : Nat → Nat) => (r = 1 ∧ fo5 j = fo10 k) ∨ (r = 0 ∧ ¬ fo5 j = fo10 k)) (fun (_ : Nat → Nat) (_ : State) => True) (fun _ : Nat => False)) 0 0 (fun _ : Nat => False) := by
  refine Met.ofW (cc := cX5_fits) (maxL := 3) (ret := (some .boolean)) (by decide) rfl ?_
  intro p e s m args below meth c s₁ B hml hv
  obtain ⟨rfl, hsz, hP, hK⟩ := hv
  have hx := B.exec
  have hb := B.bytes
  have hr := B.returns
  have hts := atoms_spec (ws := wsX5_fits) B.pre
  have hown : s.vm.findClass RX5 = some m.cls := findClass_of_methodNamed B.named
  have hlocks := B.notSynchronized
  have hi_X5 : ∀ w ∈ u_ws RX5 TX5 13, w ∈ wsX5_fits := fun _ h => List.mem_cons_of_mem _ (List.mem_append_right _ (h))
  subst hsz
  have hS : va_S (fun _ : Nat => False) s.heap s.heap [] := va_S.rf
  have hl := lv_entry ([.ref h0, .int (nI j), .int (nI k)]) (n := 3) (Nat.le_of_ble_eq_true rfl)
  rw [lg_entry_eq]
  generalize (lg_sl ([.ref h0, .int (nI j), .int (nI k)]) ++ List.replicate (3 - (lg_sl ([.ref h0, .int (nI j), .int (nI k)])).length) Slot.unset).toArray = ls at hl ⊢
  have hl : lv_has ls 3 [(0, .ref h0), (1, .int (nI j)), (2, .int (nI k))] := hl
  refine lv_aload_n hx hb dX5_fits_0 rfl (lv_at hl 0 rfl) ?_
  refine va_get (D := (dC, dI)) (ci := 5) (v := .ref o5) (C := RX5) (T := TX5) (N := 13) hx hb hts hi_X5 hown hK hP 0 rfl rfl 5 (by decide) (hts (.fieldLink RX5 28 "LeftQuills$Office" "wing" "[I") (wmx 1 rfl)) (fun _ h9 => h9) e_h0_5 dX5_fits_1 ?_
  refine lv_iload_n hx hb dX5_fits_4 rfl (lv_at hl 1 rfl) ?_
  refine va_iald hx hb hK hP 1 0 rfl rfl (vp_in_nI (n := j) (N := 8) (by omega) (by decide)) dX5_fits_5 ?_
  refine W.eq (g2 := F0 m 6 ls [.int (fo5 j)]) (congrArg (fun y9 => F0 m 6 ls (.int (fo5 y9) :: [])) ((nI_clamp (n := j) (by omega)))) ?_
  refine lv_aload_n hx hb dX5_fits_6 rfl (lv_at hl 0 rfl) ?_
  refine va_get (D := (dC, dI)) (ci := 5) (v := .ref o10) (C := RX5) (T := TX5) (N := 13) hx hb hts hi_X5 hown hK hP 0 rfl rfl 10 (by decide) (hts (.fieldLink RX5 44 "LeftQuills$Office" "side" "[I") (wmx 2 rfl)) (fun _ h9 => h9) e_h0_10 dX5_fits_7 ?_
  refine lv_iload_n hx hb dX5_fits_10 rfl (lv_at hl 2 rfl) ?_
  refine va_iald hx hb hK hP 2 0 rfl rfl (vp_in_nI (n := k) (N := 4) (by omega) (by decide)) dX5_fits_11 ?_
  refine W.eq (g2 := F0 m 12 ls [.int (fo10 k), .int (fo5 j)]) (congrArg (fun y9 => F0 m 12 ls (.int (fo10 y9) :: [.int (fo5 j)])) ((nI_clamp (n := k) (by omega)))) ?_
  refine lv_icmp_ne (tgt := 19) hx hb dX5_fits_12 (by decide) (fun c1 => ?_) (fun c1 => ?_)
  ·
    refine lv_iconst (v := 0) hx hb dX5_fits_19 (by decide) ?_
    exact W.zret (v := 0) hx hb hr (rfl) (fun t ht hW => ⟨⟨0, (fun _ => 0), rfl, Or.inr ⟨rfl, c1⟩, trivial⟩, hS.F ht⟩) hS.2.2 dX5_fits_20
  ·
    refine lv_iconst (v := 1) hx hb dX5_fits_15 (by decide) ?_
    refine lv_goto (tgt := 20) hx hb dX5_fits_16 (by decide) ?_
    exact W.zret (v := 1) hx hb hr (rfl) (fun t ht hW => ⟨⟨1, (fun _ => 0), rfl, Or.inl ⟨rfl, c1⟩, trivial⟩, hS.F ht⟩) hS.2.2 dX5_fits_20
set_option maxHeartbeats 4000000 in
set_option maxRecDepth 100000 in
theorem c_X5_wearD (l : Launch) (dC : Nat → ClassId) (dI : Nat → Nat → Nat) (cI cZ cQ : ClassId) (h0 : Nat) (o5 : Nat) (o6 : Nat) (o7 : Nat) (o10 : Nat) (o11 : Nat) (f_h0 : List Value) (fo5 : Nat → Int32) (fo6 : Nat → Int32) (fo7 : Nat → Int32) (fo10 : Nat → Int32) (fo11 : Nat → Int32) (j : Nat) (k : Nat) (sz : Nat) (e_h0_5 : fAt f_h0 5 = some (.ref o5)) (e_h0_6 : fAt f_h0 6 = some (.ref o6)) (e_h0_7 : fAt f_h0 7 = some (.ref o7)) (e_h0_10 : fAt f_h0 10 = some (.ref o10)) (e_h0_11 : fAt f_h0 11 = some (.ref o11)) (hj : j < 8) (hk : k < 4) : Met l yX5_wear wsX5_wear ({ frames := 1, cells := 0, slots := 0, locals := 62 }) (va_Pc [.ref h0, .int (nI j), .int (nI k)] (fun U => U.heap.size = sz ∧ va_P (dC, dI) vwCl [(h0, .inr (5, f_h0)), (o5, .inl (cI, 8, .inl fo5)), (o6, .inl (cI, 8, .inl fo6)), (o7, .inl (cI, 8, .inl fo7)), (o10, .inl (cI, 4, .inl fo10)), (o11, .inl (cI, 4, .inl fo11))] U.heap ∧ va_K (dC, dI) vwCl (tys0 cI cZ cQ) U)) (va_Qi (fun (r : Int32) (u : Nat → Nat) => r = wrF (fo5 j) (fo6 j) (fo7 j) (fo10 k) (fo11 k)) (fun (_ : Nat → Nat) (_ : State) => True) (fun _ : Nat => False)) 0 0 (fun _ : Nat => False) := by
  refine Met.ofW (cc := cX5_wear) (maxL := 4) (ret := (some .int)) (by decide) rfl ?_
  intro p e s m args below meth c s₁ B hml hv
  obtain ⟨rfl, hsz, hP, hK⟩ := hv
  have hx := B.exec
  have hb := B.bytes
  have hr := B.returns
  have hts := atoms_spec (ws := wsX5_wear) B.pre
  have hown : s.vm.findClass RX5 = some m.cls := findClass_of_methodNamed B.named
  have hlocks := B.notSynchronized
  have hi_X5 : ∀ w ∈ u_ws RX5 TX5 13, w ∈ wsX5_wear := fun _ h => List.mem_cons_of_mem _ (List.mem_append_right _ (h))
  subst hsz
  have hS : va_S (fun _ : Nat => False) s.heap s.heap [] := va_S.rf
  have hl := lv_entry ([.ref h0, .int (nI j), .int (nI k)]) (n := 4) (Nat.le_of_ble_eq_true rfl)
  rw [lg_entry_eq]
  generalize (lg_sl ([.ref h0, .int (nI j), .int (nI k)]) ++ List.replicate (4 - (lg_sl ([.ref h0, .int (nI j), .int (nI k)])).length) Slot.unset).toArray = ls at hl ⊢
  have hl : lv_has ls 4 [(0, .ref h0), (1, .int (nI j)), (2, .int (nI k))] := hl
  refine lv_iconst (v := 1) hx hb dX5_wear_0 (by decide) ?_
  refine lv_bipush (v := 12) hx hb dX5_wear_1 (by decide) ?_
  refine lv_aload_n hx hb dX5_wear_3 rfl (lv_at hl 0 rfl) ?_
  refine va_get (D := (dC, dI)) (ci := 5) (v := .ref o11) (C := RX5) (T := TX5) (N := 13) hx hb hts hi_X5 hown hK hP 0 rfl rfl 11 (by decide) (hts (.fieldLink RX5 47 "LeftQuills$Office" "presses" "[I") (wmx 1 rfl)) (fun _ h9 => h9) e_h0_11 dX5_wear_4 ?_
  refine lv_iload_n hx hb dX5_wear_7 rfl (lv_at hl 2 rfl) ?_
  refine va_iald hx hb hK hP 5 0 rfl rfl (vp_in_nI (n := k) (N := 4) (by omega) (by decide)) dX5_wear_8 ?_
  refine W.eq (g2 := F0 m 9 ls [.int (fo11 k), .int 12, .int 1]) (congrArg (fun y9 => F0 m 9 ls (.int (fo11 y9) :: [.int 12, .int 1])) ((nI_clamp (n := k) (by omega)))) ?_
  refine lv_imul hx hb dX5_wear_9 ?_
  refine lv_iconst (v := 1) hx hb dX5_wear_10 (by decide) ?_
  refine lv_aload_n hx hb dX5_wear_11 rfl (lv_at hl 0 rfl) ?_
  refine lv_iload_n hx hb dX5_wear_12 rfl (lv_at hl 1 rfl) ?_
  have hPc := hP.sub (ws' := [(h0, .inr (5, f_h0)), (o6, .inl (cI, 8, .inl fo6)), (o7, .inl (cI, 8, .inl fo7))]) [0, 2, 3] rfl
  refine va_calli (va_runV (As := [.int (nI j)]) (rest := [.int 1, .int (12 * (fo11 k)), .int 1]) ⟨hx, hb, hml, hown, hts⟩ (c_X5_hardnessD l dC dI cI cZ cQ h0 o6 o7 f_h0 fo6 fo7 j s.heap.size e_h0_6 e_h0_7 (by omega)) (cwV 1 hts gX5_wear_X5_hardness rfl rfl rfl hd_X5_hardness_RX5 ⟨Nat.le_of_ble_eq_true rfl, Nat.le_of_ble_eq_true rfl⟩) (pv_R (va_recv hK hP (ci := 5) (q0 := 0) rfl rfl) hK hPc) rfl rfl hl.1 rfl (lv_room (Nat.le_of_ble_eq_true rfl)) dX5_wear_13 ⟨Nat.le_of_ble_eq_true rfl, Nat.le_of_ble_eq_true rfl⟩) hS (fun q _ h => False.elim h) (fun q h => False.elim h) (fun r1 u2 t H1 locs ht hvm hw3 hB hz1 hk1 hS => ?_)
  have hP := hP.kept (fun k q hk => hk1 q.1 (hP k q hk).lt (fun h => h))
  clear hz1 hk1 hPc
  generalize H1 = H at hP hS ht ⊢
  try dsimp only at hw3
  subst hw3
  refine va_mmax hx hb (hml.trans hl.1.symm) hown (hts (.methodLink RX5 63 Lib.Math.max.name) (wmx 2 rfl)) (hts (.static Lib.Math.max.name) (wmx 3 rfl)) (hts (.initialized "java/lang/Math") (wmx 4 rfl)) (hts (.code Lib.Math.max.name Lib.Math.max.code 2 (some .int)) (wmx 5 rfl)) (Nat.le_of_ble_eq_true rfl) (Nat.le_of_ble_eq_true rfl) (Nat.le_of_ble_eq_true rfl) (Nat.le_of_ble_eq_true rfl) dX5_wear_16 ?_
  refine lv_idiv hx hb dX5_wear_19 mx_ne ?_
  refine va_mmax hx hb (hml.trans hl.1.symm) hown (hts (.methodLink RX5 63 Lib.Math.max.name) (wmx 2 rfl)) (hts (.static Lib.Math.max.name) (wmx 3 rfl)) (hts (.initialized "java/lang/Math") (wmx 4 rfl)) (hts (.code Lib.Math.max.name Lib.Math.max.code 2 (some .int)) (wmx 5 rfl)) (Nat.le_of_ble_eq_true rfl) (Nat.le_of_ble_eq_true rfl) (Nat.le_of_ble_eq_true rfl) (Nat.le_of_ble_eq_true rfl) dX5_wear_20 ?_
  refine lv_istore_n (lv' := [(3, .int (if 1 < (12 * (fo11 k)) / (if 1 < hdF (fo6 j) (fo7 j) then hdF (fo6 j) (fo7 j) else 1) then (12 * (fo11 k)) / (if 1 < hdF (fo6 j) (fo7 j) then hdF (fo6 j) (fo7 j) else 1) else 1)), (0, .ref h0), (1, .int (nI j)), (2, .int (nI k))]) hx hb dX5_wear_23 rfl hl (by decide) rfl (fun ls hl => ?_)
  refine lv_aload_n hx hb dX5_wear_24 rfl (lv_at hl 1 rfl) ?_
  refine lv_iload_n hx hb dX5_wear_25 rfl (lv_at hl 2 rfl) ?_
  refine lv_iload_n hx hb dX5_wear_26 rfl (lv_at hl 3 rfl) ?_
  have hPc := hP.sub (ws' := [(h0, .inr (5, f_h0)), (o5, .inl (cI, 8, .inl fo5)), (o10, .inl (cI, 4, .inl fo10))]) [0, 1, 4] rfl
  refine va_calli (va_runV (As := [.int (nI j), .int (nI k)]) (rest := []) ⟨hx, hb, hml, hown, hts⟩ (c_X5_fitsD l dC dI cI cZ cQ h0 o5 o10 f_h0 fo5 fo10 j k H.size e_h0_5 e_h0_10 (by omega) (by omega)) (cwV 2 hts gX5_wear_X5_fits rfl rfl rfl hd_X5_fits_RX5 ⟨Nat.le_of_ble_eq_true rfl, Nat.le_of_ble_eq_true rfl⟩) (pv_R (va_recv hK hP (ci := 5) (q0 := 0) rfl rfl) hK hPc) rfl rfl hl.1 rfl (lv_room (Nat.le_of_ble_eq_true rfl)) dX5_wear_27 ⟨Nat.le_of_ble_eq_true rfl, Nat.le_of_ble_eq_true rfl⟩) hS (fun q _ h => False.elim h) (fun q h => False.elim h) (fun r4 u5 t H1 locs ht hvm hw6 hB hz1 hk1 hS => ?_)
  have hP := hP.kept (fun k q hk => hk1 q.1 (hP k q hk).lt (fun h => h))
  clear hz1 hk1 hPc
  generalize H1 = H at hP hS ht ⊢
  try dsimp only at hw6
  rcases hw6 with ⟨rfl, hw6⟩ | ⟨rfl, hw6⟩
  ·
    refine lv_if_eq (tgt := 37) hx hb dX5_wear_30 (by decide) (fun c7 => ?_) (fun c7 => ?_)
    · exact absurd c7 (by decide)
    clear c7
    refine lv_iload_n hx hb dX5_wear_33 rfl (lv_at hl 0 rfl) ?_
    refine lv_goto (tgt := 40) hx hb dX5_wear_34 (by decide) ?_
    exact W.iret (v := if 1 < (12 * (fo11 k)) / (if 1 < hdF (fo6 j) (fo7 j) then hdF (fo6 j) (fo7 j) else 1) then (12 * (fo11 k)) / (if 1 < hdF (fo6 j) (fo7 j) then hdF (fo6 j) (fo7 j) else 1) else 1) hx hb hr (fun t ht hW => ⟨⟨if 1 < (12 * (fo11 k)) / (if 1 < hdF (fo6 j) (fo7 j) then hdF (fo6 j) (fo7 j) else 1) then (12 * (fo11 k)) / (if 1 < hdF (fo6 j) (fo7 j) then hdF (fo6 j) (fo7 j) else 1) else 1, (fun _ => 0), rfl, ((if_pos hw6).symm), trivial⟩, hS.F ht⟩) hS.2.2 dX5_wear_40
  ·
    refine lv_if_eq (tgt := 37) hx hb dX5_wear_30 (by decide) (fun c8 => ?_) (fun c8 => ?_)
    rotate_left
    · exact absurd c8 (by decide)
    clear c8
    refine lv_iload_n hx hb dX5_wear_37 rfl (lv_at hl 0 rfl) ?_
    refine lv_iconst (v := 4) hx hb dX5_wear_38 (by decide) ?_
    refine lv_iadd hx hb dX5_wear_39 ?_
    exact W.iret (v := (if 1 < (12 * (fo11 k)) / (if 1 < hdF (fo6 j) (fo7 j) then hdF (fo6 j) (fo7 j) else 1) then (12 * (fo11 k)) / (if 1 < hdF (fo6 j) (fo7 j) then hdF (fo6 j) (fo7 j) else 1) else 1) + 4) hx hb hr (fun t ht hW => ⟨⟨(if 1 < (12 * (fo11 k)) / (if 1 < hdF (fo6 j) (fo7 j) then hdF (fo6 j) (fo7 j) else 1) then (12 * (fo11 k)) / (if 1 < hdF (fo6 j) (fo7 j) then hdF (fo6 j) (fo7 j) else 1) else 1) + 4, (fun _ => 0), rfl, ((if_neg hw6).symm), trivial⟩, hS.F ht⟩) hS.2.2 dX5_wear_40
set_option maxHeartbeats 4000000 in
set_option maxRecDepth 100000 in
theorem c_X5_likesNibD (l : Launch) (dC : Nat → ClassId) (dI : Nat → Nat → Nat) (cI cZ cQ : ClassId) (h0 : Nat) (o12 : Nat) (f_h0 : List Value) (fo12 : Nat → Int32) (k : Nat) (a0 : Int32) (sz : Nat) (e_h0_12 : fAt f_h0 12 = some (.ref o12)) (hk : k < 4) : Met l yX5_likesNib wsX5_likesNib ({ frames := 1, cells := 0, slots := 0, locals := 40 }) (va_Pc [.ref h0, .int (nI k), .int a0] (fun U => U.heap.size = sz ∧ va_P (dC, dI) vwCl [(h0, .inr (5, f_h0)), (o12, .inl (cI, 4, .inl fo12))] U.heap ∧ va_K (dC, dI) vwCl (tys0 cI cZ cQ) U)) (va_Qi (fun (r : Int32) (u : Nat → Nat) => (r = 1 ∧ lcB a0 (fo12 k) = true) ∨ (r = 0 ∧ ¬ lcB a0 (fo12 k) = true)) (fun (_ : Nat → Nat) (_ : State) => True) (fun _ : Nat => False)) 0 0 (fun _ : Nat => False) := by
  refine Met.ofW (cc := cX5_likesNib) (maxL := 3) (ret := (some .boolean)) (by decide) rfl ?_
  intro p e s m args below meth c s₁ B hml hv
  obtain ⟨rfl, hsz, hP, hK⟩ := hv
  have hx := B.exec
  have hb := B.bytes
  have hr := B.returns
  have hts := atoms_spec (ws := wsX5_likesNib) B.pre
  have hown : s.vm.findClass RX5 = some m.cls := findClass_of_methodNamed B.named
  have hlocks := B.notSynchronized
  have hi_X5 : ∀ w ∈ u_ws RX5 TX5 13, w ∈ wsX5_likesNib := fun _ h => List.mem_cons_of_mem _ (List.mem_append_right _ (h))
  subst hsz
  have hS : va_S (fun _ : Nat => False) s.heap s.heap [] := va_S.rf
  have hl := lv_entry ([.ref h0, .int (nI k), .int a0]) (n := 3) (Nat.le_of_ble_eq_true rfl)
  rw [lg_entry_eq]
  generalize (lg_sl ([.ref h0, .int (nI k), .int a0]) ++ List.replicate (3 - (lg_sl ([.ref h0, .int (nI k), .int a0])).length) Slot.unset).toArray = ls at hl ⊢
  have hl : lv_has ls 3 [(0, .ref h0), (1, .int (nI k)), (2, .int a0)] := hl
  refine lv_iload_n hx hb dX5_likesNib_0 rfl (lv_at hl 2 rfl) ?_
  refine lv_aload_n hx hb dX5_likesNib_1 rfl (lv_at hl 0 rfl) ?_
  refine va_get (D := (dC, dI)) (ci := 5) (v := .ref o12) (C := RX5) (T := TX5) (N := 13) hx hb hts hi_X5 hown hK hP 0 rfl rfl 12 (by decide) (hts (.fieldLink RX5 50 "LeftQuills$Office" "wants" "[I") (wmx 1 rfl)) (fun _ h9 => h9) e_h0_12 dX5_likesNib_2 ?_
  refine lv_iload_n hx hb dX5_likesNib_5 rfl (lv_at hl 1 rfl) ?_
  refine va_iald hx hb hK hP 1 0 rfl rfl (vp_in_nI (n := k) (N := 4) (by omega) (by decide)) dX5_likesNib_6 ?_
  refine W.eq (g2 := F0 m 7 ls [.int (fo12 k), .int a0]) (congrArg (fun y9 => F0 m 7 ls (.int (fo12 y9) :: [.int a0])) ((nI_clamp (n := k) (by omega)))) ?_
  refine lv_isub hx hb dX5_likesNib_7 ?_
  refine va_mabs hx hb (hml.trans hl.1.symm) hown (hts (.methodLink RX5 73 Lib.Math.abs.name) (wmx 2 rfl)) (hts (.static Lib.Math.abs.name) (wmx 3 rfl)) (hts (.initialized "java/lang/Math") (wmx 4 rfl)) (hts (.code Lib.Math.abs.name Lib.Math.abs.code 1 (some .int)) (wmx 5 rfl)) (Nat.le_of_ble_eq_true rfl) (Nat.le_of_ble_eq_true rfl) (Nat.le_of_ble_eq_true rfl) (Nat.le_of_ble_eq_true rfl) dX5_likesNib_8 ?_
  refine lv_iconst (v := 1) hx hb dX5_likesNib_11 (by decide) ?_
  refine lv_icmp_gt (tgt := 19) hx hb dX5_likesNib_12 (by decide) (fun c1 => ?_) (fun c1 => ?_)
  ·
    refine lv_iconst (v := 0) hx hb dX5_likesNib_19 (by decide) ?_
    exact W.zret (v := 0) hx hb hr (rfl) (fun t ht hW => ⟨⟨0, (fun _ => 0), rfl, Or.inr ⟨rfl, fun h9 => absurd (of_decide_eq_true h9) (fa_ltn c1)⟩, trivial⟩, hS.F ht⟩) hS.2.2 dX5_likesNib_20
  ·
    refine lv_iconst (v := 1) hx hb dX5_likesNib_15 (by decide) ?_
    refine lv_goto (tgt := 20) hx hb dX5_likesNib_16 (by decide) ?_
    exact W.zret (v := 1) hx hb hr (rfl) (fun t ht hW => ⟨⟨1, (fun _ => 0), rfl, Or.inl ⟨rfl, decide_eq_true (fa_nlt c1)⟩, trivial⟩, hS.F ht⟩) hS.2.2 dX5_likesNib_20
set_option maxHeartbeats 4000000 in
set_option maxRecDepth 100000 in
theorem c_X1_isBluntD (l : Launch) (dC : Nat → ClassId) (dI : Nat → Nat → Nat) (cI cZ cQ : ClassId) (h0 : Nat) (cu : Int32) (ho : Nat) (f_h0 : List Value) (bl : Int32) (f_ho : List Value) (sz : Nat) (e_h0_1 : fAt f_h0 1 = some (.int cu)) (e_h0_7 : fAt f_h0 7 = some (.ref ho)) (e_ho_1 : fAt f_ho 1 = some (.int bl)) : Met l yX1_isBlunt wsX1_isBlunt ({ frames := 0, cells := 0, slots := 0, locals := 40 }) (va_Pc [.ref h0] (fun U => U.heap.size = sz ∧ va_P (dC, dI) vwCl [(h0, .inr (1, f_h0)), (ho, .inr (5, f_ho))] U.heap ∧ va_K (dC, dI) vwCl (tys0 cI cZ cQ) U)) (va_Qi (fun (r : Int32) (u : Nat → Nat) => (r = 1 ∧ bl ≤ cu) ∨ (r = 0 ∧ ¬ bl ≤ cu)) (fun (_ : Nat → Nat) (_ : State) => True) (fun _ : Nat => False)) 0 0 (fun _ : Nat => False) := by
  refine Met.ofW (cc := cX1_isBlunt) (maxL := 1) (ret := (some .boolean)) (by decide) rfl ?_
  intro p e s m args below meth c s₁ B hml hv
  obtain ⟨rfl, hsz, hP, hK⟩ := hv
  have hx := B.exec
  have hb := B.bytes
  have hr := B.returns
  have hts := atoms_spec (ws := wsX1_isBlunt) B.pre
  have hown : s.vm.findClass RX1 = some m.cls := findClass_of_methodNamed B.named
  have hlocks := B.notSynchronized
  have hi_X1 : ∀ w ∈ u_ws RX1 TX1 8, w ∈ wsX1_isBlunt := fun _ h => List.mem_cons_of_mem _ (List.mem_append_left _ (List.mem_append_right _ (h)))
  have hi_X5 : ∀ w ∈ u_ws RX5 TX5 13, w ∈ wsX1_isBlunt := fun _ h => List.mem_cons_of_mem _ (List.mem_append_right _ (h))
  subst hsz
  have hS : va_S (fun _ : Nat => False) s.heap s.heap [] := va_S.rf
  have hl := lv_entry ([.ref h0]) (n := 1) (Nat.le_of_ble_eq_true rfl)
  rw [lg_entry_eq]
  generalize (lg_sl ([.ref h0]) ++ List.replicate (1 - (lg_sl ([.ref h0])).length) Slot.unset).toArray = ls at hl ⊢
  have hl : lv_has ls 1 [(0, .ref h0)] := hl
  refine lv_aload_n hx hb dX1_isBlunt_0 rfl (lv_at hl 0 rfl) ?_
  refine va_get (D := (dC, dI)) (ci := 1) (v := .int cu) (C := RX1) (T := TX1) (N := 8) hx hb hts hi_X1 hown hK hP 0 rfl rfl 1 (by decide) (hts (.fieldLink RX1 15 "LeftQuills$Desk" "cuts" "I") (wmx 1 rfl)) (fun _ h9 => h9) e_h0_1 dX1_isBlunt_1 ?_
  refine lv_aload_n hx hb dX1_isBlunt_4 rfl (lv_at hl 0 rfl) ?_
  refine va_get (D := (dC, dI)) (ci := 1) (v := .ref ho) (C := RX1) (T := TX1) (N := 8) hx hb hts hi_X1 hown hK hP 0 rfl rfl 7 (by decide) (hts (.fieldLink RX1 34 "LeftQuills$Desk" "office" "LLeftQuills$Office;") (wmx 2 rfl)) (fun _ h9 => h9) e_h0_7 dX1_isBlunt_5 ?_
  refine va_get (D := (dC, dI)) (ci := 5) (v := .int bl) (C := RX5) (T := TX5) (N := 13) hx hb hts hi_X5 hown hK hP 1 rfl rfl 1 (by decide) (hts (.fieldLink RX1 63 "LeftQuills$Office" "bluntBehind" "I") (wmx 3 rfl)) (fun _ h9 => h9) e_ho_1 dX1_isBlunt_8 ?_
  refine lv_icmp_lt (tgt := 18) hx hb dX1_isBlunt_11 (by decide) (fun c1 => ?_) (fun c1 => ?_)
  ·
    refine lv_iconst (v := 0) hx hb dX1_isBlunt_18 (by decide) ?_
    exact W.zret (v := 0) hx hb hr (rfl) (fun t ht hW => ⟨⟨0, (fun _ => 0), rfl, Or.inr ⟨rfl, fa_ltn c1⟩, trivial⟩, hS.F ht⟩) hS.2.2 dX1_isBlunt_19
  ·
    refine lv_iconst (v := 1) hx hb dX1_isBlunt_14 (by decide) ?_
    refine lv_goto (tgt := 19) hx hb dX1_isBlunt_15 (by decide) ?_
    exact W.zret (v := 1) hx hb hr (rfl) (fun t ht hW => ⟨⟨1, (fun _ => 0), rfl, Or.inl ⟨rfl, fa_nlt c1⟩, trivial⟩, hS.F ht⟩) hS.2.2 dX1_isBlunt_19
set_option maxHeartbeats 4000000 in
set_option maxRecDepth 100000 in
theorem c_X1_canMendD (l : Launch) (dC : Nat → ClassId) (dI : Nat → Nat → Nat) (cI cZ cQ : ClassId) (h0 : Nat) (cu : Int32) (a2 : Nat) (ho : Nat) (f_h0 : List Value) (bl : Int32) (f_ho : List Value) (fa2 : Nat → Int32) (j : Nat) (sz : Nat) (e_h0_1 : fAt f_h0 1 = some (.int cu)) (e_h0_2 : fAt f_h0 2 = some (.ref a2)) (e_h0_7 : fAt f_h0 7 = some (.ref ho)) (e_ho_1 : fAt f_ho 1 = some (.int bl)) (hj : j < 8) : Met l yX1_canMend wsX1_canMend ({ frames := 1, cells := 0, slots := 0, locals := 60 }) (va_Pc [.ref h0, .int (nI j)] (fun U => U.heap.size = sz ∧ va_P (dC, dI) vwCl [(h0, .inr (1, f_h0)), (ho, .inr (5, f_ho)), (a2, .inl (cI, 8, .inl fa2))] U.heap ∧ va_K (dC, dI) vwCl (tys0 cI cZ cQ) U)) (va_Qi (fun (r : Int32) (u : Nat → Nat) => (r = 1 ∧ (if bl ≤ cu then (9 : Int32) else 5) ≤ fa2 j) ∨ (r = 0 ∧ ¬ (if bl ≤ cu then (9 : Int32) else 5) ≤ fa2 j)) (fun (_ : Nat → Nat) (_ : State) => True) (fun _ : Nat => False)) 0 0 (fun _ : Nat => False) := by
  refine Met.ofW (cc := cX1_canMend) (maxL := 2) (ret := (some .boolean)) (by decide) rfl ?_
  intro p e s m args below meth c s₁ B hml hv
  obtain ⟨rfl, hsz, hP, hK⟩ := hv
  have hx := B.exec
  have hb := B.bytes
  have hr := B.returns
  have hts := atoms_spec (ws := wsX1_canMend) B.pre
  have hown : s.vm.findClass RX1 = some m.cls := findClass_of_methodNamed B.named
  have hlocks := B.notSynchronized
  have hi_X1 : ∀ w ∈ u_ws RX1 TX1 8, w ∈ wsX1_canMend := fun _ h => List.mem_cons_of_mem _ (List.mem_append_left _ (List.mem_append_right _ (h)))
  subst hsz
  have hS : va_S (fun _ : Nat => False) s.heap s.heap [] := va_S.rf
  have hl := lv_entry ([.ref h0, .int (nI j)]) (n := 2) (Nat.le_of_ble_eq_true rfl)
  rw [lg_entry_eq]
  generalize (lg_sl ([.ref h0, .int (nI j)]) ++ List.replicate (2 - (lg_sl ([.ref h0, .int (nI j)])).length) Slot.unset).toArray = ls at hl ⊢
  have hl : lv_has ls 2 [(0, .ref h0), (1, .int (nI j))] := hl
  refine lv_aload_n hx hb dX1_canMend_0 rfl (lv_at hl 0 rfl) ?_
  refine va_get (D := (dC, dI)) (ci := 1) (v := .ref a2) (C := RX1) (T := TX1) (N := 8) hx hb hts hi_X1 hown hK hP 0 rfl rfl 2 (by decide) (hts (.fieldLink RX1 18 "LeftQuills$Desk" "length" "[I") (wmx 1 rfl)) (fun _ h9 => h9) e_h0_2 dX1_canMend_1 ?_
  refine lv_iload_n hx hb dX1_canMend_4 rfl (lv_at hl 1 rfl) ?_
  refine va_iald hx hb hK hP 2 0 rfl rfl (vp_in_nI (n := j) (N := 8) (by omega) (by decide)) dX1_canMend_5 ?_
  refine W.eq (g2 := F0 m 6 ls [.int (fa2 j)]) (congrArg (fun y9 => F0 m 6 ls (.int (fa2 y9) :: [])) ((nI_clamp (n := j) (by omega)))) ?_
  refine lv_aload_n hx hb dX1_canMend_6 rfl (lv_at hl 0 rfl) ?_
  have hPc := hP.sub (ws' := [(h0, .inr (1, f_h0)), (ho, .inr (5, f_ho))]) [0, 1] rfl
  refine va_calli (va_runV (As := []) (rest := [.int (fa2 j)]) ⟨hx, hb, hml, hown, hts⟩ (c_X1_isBluntD l dC dI cI cZ cQ h0 cu ho f_h0 bl f_ho s.heap.size e_h0_1 e_h0_7 e_ho_1) (cwV 0 hts gX1_canMend_X1_isBlunt rfl rfl rfl hd_X1_isBlunt_RX1 ⟨Nat.le_of_ble_eq_true rfl, Nat.le_of_ble_eq_true rfl⟩) (pv_R (va_recv hK hP (ci := 1) (q0 := 0) rfl rfl) hK hPc) rfl rfl hl.1 rfl (lv_room (Nat.le_of_ble_eq_true rfl)) dX1_canMend_7 ⟨Nat.le_of_ble_eq_true rfl, Nat.le_of_ble_eq_true rfl⟩) hS (fun q _ h => False.elim h) (fun q h => False.elim h) (fun r1 u2 t H1 locs ht hvm hw3 hB hz1 hk1 hS => ?_)
  have hP := hP.kept (fun k q hk => hk1 q.1 (hP k q hk).lt (fun h => h))
  clear hz1 hk1 hPc
  generalize H1 = H at hP hS ht ⊢
  try dsimp only at hw3
  rcases hw3 with ⟨rfl, hw3⟩ | ⟨rfl, hw3⟩
  ·
    refine lv_if_eq (tgt := 18) hx hb dX1_canMend_10 (by decide) (fun c4 => ?_) (fun c4 => ?_)
    · exact absurd c4 (by decide)
    clear c4
    refine lv_bipush (v := 9) hx hb dX1_canMend_13 (by decide) ?_
    refine lv_goto (tgt := 19) hx hb dX1_canMend_15 (by decide) ?_
    refine lv_icmp_lt (tgt := 26) hx hb dX1_canMend_19 (by decide) (fun c5 => ?_) (fun c5 => ?_)
    ·
      refine lv_iconst (v := 0) hx hb dX1_canMend_26 (by decide) ?_
      exact W.zret (v := 0) hx hb hr (rfl) (fun t ht hW => ⟨⟨0, (fun _ => 0), rfl, Or.inr ⟨rfl, by rw [if_pos hw3]; exact fa_ltn c5⟩, trivial⟩, hS.F ht⟩) hS.2.2 dX1_canMend_27
    ·
      refine lv_iconst (v := 1) hx hb dX1_canMend_22 (by decide) ?_
      refine lv_goto (tgt := 27) hx hb dX1_canMend_23 (by decide) ?_
      exact W.zret (v := 1) hx hb hr (rfl) (fun t ht hW => ⟨⟨1, (fun _ => 0), rfl, Or.inl ⟨rfl, by rw [if_pos hw3]; exact fa_nlt c5⟩, trivial⟩, hS.F ht⟩) hS.2.2 dX1_canMend_27
  ·
    refine lv_if_eq (tgt := 18) hx hb dX1_canMend_10 (by decide) (fun c6 => ?_) (fun c6 => ?_)
    rotate_left
    · exact absurd c6 (by decide)
    clear c6
    refine lv_iconst (v := 5) hx hb dX1_canMend_18 (by decide) ?_
    refine lv_icmp_lt (tgt := 26) hx hb dX1_canMend_19 (by decide) (fun c7 => ?_) (fun c7 => ?_)
    ·
      refine lv_iconst (v := 0) hx hb dX1_canMend_26 (by decide) ?_
      exact W.zret (v := 0) hx hb hr (rfl) (fun t ht hW => ⟨⟨0, (fun _ => 0), rfl, Or.inr ⟨rfl, by rw [if_neg hw3]; exact fa_ltn c7⟩, trivial⟩, hS.F ht⟩) hS.2.2 dX1_canMend_27
    ·
      refine lv_iconst (v := 1) hx hb dX1_canMend_22 (by decide) ?_
      refine lv_goto (tgt := 27) hx hb dX1_canMend_23 (by decide) ?_
      exact W.zret (v := 1) hx hb hr (rfl) (fun t ht hW => ⟨⟨1, (fun _ => 0), rfl, Or.inl ⟨rfl, by rw [if_neg hw3]; exact fa_nlt c7⟩, trivial⟩, hS.F ht⟩) hS.2.2 dX1_canMend_27
set_option maxHeartbeats 4000000 in
set_option maxRecDepth 100000 in
theorem c_X1_mendQuillD (l : Launch) (dC : Nat → ClassId) (dI : Nat → Nat → Nat) (cI cZ cQ : ClassId) (h0 : Nat) (mi : Int32) (cu : Int32) (a2 : Nat) (a3 : Nat) (a4 : Nat) (a5 : Nat) (a6 : Nat) (ho : Nat) (bl : Int32) (mm : Int32) (f_ho : List Value) (fa2 : Nat → Int32) (fa3 : Nat → Int32) (fa4 : Nat → Int32) (fa5 : Nat → Int32) (fa6 : Nat → Int32) (j : Nat) (sz : Nat) (e_ho_1 : fAt f_ho 1 = some (.int bl)) (e_ho_2 : fAt f_ho 2 = some (.int mm)) (hj : j < 8) : Met l yX1_mendQuill wsX1_mendQuill ({ frames := 1, cells := 0, slots := 0, locals := 60 }) (va_Pc [.ref h0, .int (nI j)] (fun U => U.heap.size = sz ∧ va_P (dC, dI) vwCl [(h0, .inr (1, [.int mi, .int cu, .ref a2, .ref a3, .ref a4, .ref a5, .ref a6, .ref ho])), (ho, .inr (5, f_ho)), (a2, .inl (cI, 8, .inl fa2)), (a3, .inl (cI, 8, .inl fa3)), (a4, .inl (cI, 8, .inl fa4)), (a5, .inl (cI, 4, .inl fa5)), (a6, .inl (cI, 4, .inl fa6))] U.heap ∧ va_K (dC, dI) vwCl (tys0 cI cZ cQ) U ∧ va_D (fun _ => True) [(h0, .inr (1, [.int mi, .int cu, .ref a2, .ref a3, .ref a4, .ref a5, .ref a6, .ref ho])), (ho, .inr (5, f_ho)), (a2, .inl (cI, 8, .inl fa2)), (a3, .inl (cI, 8, .inl fa3)), (a4, .inl (cI, 8, .inl fa4)), (a5, .inl (cI, 4, .inl fa5)), (a6, .inl (cI, 4, .inl fa6))])) (va_Qv (fun (u : Nat → Nat) => True) (fun (_ : Nat → Nat) (t : State) => ∃ (gg0 gg1 gg2 : Nat → Int32) (ii0 ii1 : Int32) , (dk ii0 ii1 gg0 gg1 gg2 fa5 fa6 = mdX bcF bl mm j (dk mi cu fa2 fa3 fa4 fa5 fa6)) ∧ va_P (dC, dI) vwCl [(h0, .inr (1, [.int ii0, .int ii1, .ref a2, .ref a3, .ref a4, .ref a5, .ref a6, .ref ho])), (ho, .inr (5, f_ho)), (a2, .inl (cI, 8, .inl gg0)), (a3, .inl (cI, 8, .inl gg1)), (a4, .inl (cI, 8, .inl gg2)), (a5, .inl (cI, 4, .inl fa5)), (a6, .inl (cI, 4, .inl fa6))] t.heap ∧ va_D (va_A [(h0, .inr (1, [.int mi, .int cu, .ref a2, .ref a3, .ref a4, .ref a5, .ref a6, .ref ho])), (ho, .inr (5, f_ho)), (a2, .inl (cI, 8, .inl fa2)), (a3, .inl (cI, 8, .inl fa3)), (a4, .inl (cI, 8, .inl fa4)), (a5, .inl (cI, 4, .inl fa5)), (a6, .inl (cI, 4, .inl fa6))] sz) [(h0, .inr (1, [.int ii0, .int ii1, .ref a2, .ref a3, .ref a4, .ref a5, .ref a6, .ref ho])), (ho, .inr (5, f_ho)), (a2, .inl (cI, 8, .inl gg0)), (a3, .inl (cI, 8, .inl gg1)), (a4, .inl (cI, 8, .inl gg2)), (a5, .inl (cI, 4, .inl fa5)), (a6, .inl (cI, 4, .inl fa6))]) (va_A [(h0, .inr (1, [.int mi, .int cu, .ref a2, .ref a3, .ref a4, .ref a5, .ref a6, .ref ho])), (ho, .inr (5, f_ho)), (a2, .inl (cI, 8, .inl fa2)), (a3, .inl (cI, 8, .inl fa3)), (a4, .inl (cI, 8, .inl fa4)), (a5, .inl (cI, 4, .inl fa5)), (a6, .inl (cI, 4, .inl fa6))] sz)) 0 0 (va_A [(h0, .inr (1, [.int mi, .int cu, .ref a2, .ref a3, .ref a4, .ref a5, .ref a6, .ref ho])), (ho, .inr (5, f_ho)), (a2, .inl (cI, 8, .inl fa2)), (a3, .inl (cI, 8, .inl fa3)), (a4, .inl (cI, 8, .inl fa4)), (a5, .inl (cI, 4, .inl fa5)), (a6, .inl (cI, 4, .inl fa6))] sz) := by
  refine Met.ofW (cc := cX1_mendQuill) (maxL := 2) (ret := none) (by decide) rfl ?_
  intro p e s m args below meth c s₁ B hml hv
  obtain ⟨rfl, hsz, hP, hK, hD0⟩ := hv
  have hx := B.exec
  have hb := B.bytes
  have hr := B.returns
  have hts := atoms_spec (ws := wsX1_mendQuill) B.pre
  have hown : s.vm.findClass RX1 = some m.cls := findClass_of_methodNamed B.named
  have hlocks := B.notSynchronized
  have hi_X1 : ∀ w ∈ u_ws RX1 TX1 8, w ∈ wsX1_mendQuill := fun _ h => List.mem_cons_of_mem _ (List.mem_append_left _ (List.mem_append_right _ (h)))
  have hi_X5 : ∀ w ∈ u_ws RX5 TX5 13, w ∈ wsX1_mendQuill := fun _ h => List.mem_cons_of_mem _ (List.mem_append_right _ (h))
  subst hsz
  have hD := hD0.self (sz := s.heap.size)
  generalize hAe : va_A [(h0, .inr (1, [.int mi, .int cu, .ref a2, .ref a3, .ref a4, .ref a5, .ref a6, .ref ho])), (ho, .inr (5, f_ho)), (a2, .inl (cI, 8, .inl fa2)), (a3, .inl (cI, 8, .inl fa3)), (a4, .inl (cI, 8, .inl fa4)), (a5, .inl (cI, 4, .inl fa5)), (a6, .inl (cI, 4, .inl fa6))] s.heap.size = A at hD ⊢
  have hA : ∀ q : Nat, s.heap.size ≤ q → A q := fun q h => by rw [← hAe]; exact Or.inr h
  have hS : va_S A s.heap s.heap [] := va_S.rf
  have hl := lv_entry ([.ref h0, .int (nI j)]) (n := 2) (Nat.le_of_ble_eq_true rfl)
  rw [lg_entry_eq]
  generalize (lg_sl ([.ref h0, .int (nI j)]) ++ List.replicate (2 - (lg_sl ([.ref h0, .int (nI j)])).length) Slot.unset).toArray = ls at hl ⊢
  have hl : lv_has ls 2 [(0, .ref h0), (1, .int (nI j))] := hl
  refine lv_aload_n hx hb dX1_mendQuill_0 rfl (lv_at hl 0 rfl) ?_
  have hPc := hP.sub (ws' := [(h0, .inr (1, [.int mi, .int cu, .ref a2, .ref a3, .ref a4, .ref a5, .ref a6, .ref ho])), (ho, .inr (5, f_ho))]) [0, 1] rfl
  refine va_calli (va_runV (As := []) (rest := []) ⟨hx, hb, hml, hown, hts⟩ (c_X1_isBluntD l dC dI cI cZ cQ h0 cu ho ([.int mi, .int cu, .ref a2, .ref a3, .ref a4, .ref a5, .ref a6, .ref ho]) bl f_ho s.heap.size rfl rfl e_ho_1) (cwV 0 hts gX1_mendQuill_X1_isBlunt rfl rfl rfl hd_X1_isBlunt_RX1 ⟨Nat.le_of_ble_eq_true rfl, Nat.le_of_ble_eq_true rfl⟩) (pv_R (va_recv hK hP (ci := 1) (q0 := 0) rfl rfl) hK hPc) rfl rfl hl.1 rfl (lv_room (Nat.le_of_ble_eq_true rfl)) dX1_mendQuill_1 ⟨Nat.le_of_ble_eq_true rfl, Nat.le_of_ble_eq_true rfl⟩) hS (fun q _ h => False.elim h) (fun q h => False.elim h) (fun r1 u2 t H1 locs ht hvm hw3 hB hz1 hk1 hS => ?_)
  have hP := hP.kept (fun k q hk => hk1 q.1 (hP k q hk).lt (fun h => h))
  clear hz1 hk1 hPc
  generalize H1 = H at hP hS ht ⊢
  try dsimp only at hw3
  rcases hw3 with ⟨rfl, hw3⟩ | ⟨rfl, hw3⟩
  ·
    refine lv_if_eq (tgt := 40) hx hb dX1_mendQuill_4 (by decide) (fun c4 => ?_) (fun c4 => ?_)
    · exact absurd c4 (by decide)
    clear c4
    refine lv_aload_n hx hb dX1_mendQuill_7 rfl (lv_at hl 0 rfl) ?_
    refine va_get (D := (dC, dI)) (ci := 1) (v := .ref a2) (C := RX1) (T := TX1) (N := 8) hx hb hts hi_X1 hown hK hP 0 rfl rfl 2 (by decide) (hts (.fieldLink RX1 18 "LeftQuills$Desk" "length" "[I") (wmx 1 rfl)) (fun _ h9 => h9) rfl dX1_mendQuill_8 ?_
    refine lv_iload_n hx hb dX1_mendQuill_11 rfl (lv_at hl 1 rfl) ?_
    refine lv_dup2_11 hx hb dX1_mendQuill_12 rfl rfl ?_
    refine va_iald hx hb hK hP 2 0 rfl rfl (vp_in_nI (n := j) (N := 8) (by omega) (by decide)) dX1_mendQuill_13 ?_
    refine W.eq (g2 := F0 m 14 ls [.int (fa2 j), .int (nI j), .ref a2]) (congrArg (fun y9 => F0 m 14 ls (.int (fa2 y9) :: [.int (nI j), .ref a2])) ((nI_clamp (n := j) (by omega)))) ?_
    refine lv_bipush (v := 9) hx hb dX1_mendQuill_14 (by decide) ?_
    refine lv_isub hx hb dX1_mendQuill_16 ?_
    refine va_iast hx hb hK hP hD hS 2 0 rfl rfl (vp_in_nI (n := j) (N := 8) (by omega) (by decide)) dX1_mendQuill_17 (fun H locs hP hD hS => ?_)
    have hcl := (nI_clamp (n := j) (by omega))
    rw [hcl] at hP hD
    clear hcl
    have hPD : pdW (dC, dI) vwCl A [(h0, .inr (1, [.int mi, .int cu, .ref a2, .ref a3, .ref a4, .ref a5, .ref a6, .ref ho])), (ho, .inr (5, f_ho)), (a2, .inl (cI, 8, .inl (upd fa2 j ((fa2 j) - 9)))), (a3, .inl (cI, 8, .inl fa3)), (a4, .inl (cI, 8, .inl fa4)), (a5, .inl (cI, 4, .inl fa5)), (a6, .inl (cI, 4, .inl fa6))] H := ⟨hP, hD⟩
    have hP := hPD.1
    have hD := hPD.2
    clear hPD
    refine lv_aload_n hx hb dX1_mendQuill_18 rfl (lv_at hl 0 rfl) ?_
    refine va_get (D := (dC, dI)) (ci := 1) (v := .ref a3) (C := RX1) (T := TX1) (N := 8) hx hb hts hi_X1 hown hK hP 0 rfl rfl 3 (by decide) (hts (.fieldLink RX1 22 "LeftQuills$Desk" "nib" "[I") (wmx 2 rfl)) (fun _ h9 => h9) rfl dX1_mendQuill_19 ?_
    refine lv_iload_n hx hb dX1_mendQuill_22 rfl (lv_at hl 1 rfl) ?_
    refine lv_bipush (v := 9) hx hb dX1_mendQuill_23 (by decide) ?_
    refine lv_aload_n hx hb dX1_mendQuill_25 rfl (lv_at hl 0 rfl) ?_
    refine va_get (D := (dC, dI)) (ci := 1) (v := .ref a3) (C := RX1) (T := TX1) (N := 8) hx hb hts hi_X1 hown hK hP 0 rfl rfl 3 (by decide) (hts (.fieldLink RX1 22 "LeftQuills$Desk" "nib" "[I") (wmx 2 rfl)) (fun _ h9 => h9) rfl dX1_mendQuill_26 ?_
    refine lv_iload_n hx hb dX1_mendQuill_29 rfl (lv_at hl 1 rfl) ?_
    refine va_iald hx hb hK hP 3 0 rfl rfl (vp_in_nI (n := j) (N := 8) (by omega) (by decide)) dX1_mendQuill_30 ?_
    refine W.eq (g2 := F0 m 31 ls [.int (fa3 j), .int 9, .int (nI j), .ref a3]) (congrArg (fun y9 => F0 m 31 ls (.int (fa3 y9) :: [.int 9, .int (nI j), .ref a3])) ((nI_clamp (n := j) (by omega)))) ?_
    refine lv_iconst (v := 1) hx hb dX1_mendQuill_31 (by decide) ?_
    refine lv_iadd hx hb dX1_mendQuill_32 ?_
    refine va_mmin hx hb (hml.trans hl.1.symm) hown (hts (.methodLink RX1 70 Lib.Math.min.name) (wmx 3 rfl)) (hts (.static Lib.Math.min.name) (wmx 4 rfl)) (hts (.initialized "java/lang/Math") (wmx 5 rfl)) (hts (.code Lib.Math.min.name Lib.Math.min.code 2 (some .int)) (wmx 6 rfl)) (Nat.le_of_ble_eq_true rfl) (Nat.le_of_ble_eq_true rfl) (Nat.le_of_ble_eq_true rfl) (Nat.le_of_ble_eq_true rfl) dX1_mendQuill_33 ?_
    refine va_iast hx hb hK hP hD hS 3 0 rfl rfl (vp_in_nI (n := j) (N := 8) (by omega) (by decide)) dX1_mendQuill_36 (fun H locs hP hD hS => ?_)
    have hcl := (nI_clamp (n := j) (by omega))
    rw [hcl] at hP hD
    clear hcl
    have hPD : pdW (dC, dI) vwCl A [(h0, .inr (1, [.int mi, .int cu, .ref a2, .ref a3, .ref a4, .ref a5, .ref a6, .ref ho])), (ho, .inr (5, f_ho)), (a2, .inl (cI, 8, .inl (upd fa2 j ((fa2 j) - 9)))), (a3, .inl (cI, 8, .inl (upd fa3 j (if (fa3 j) + 1 < 9 then (fa3 j) + 1 else 9)))), (a4, .inl (cI, 8, .inl fa4)), (a5, .inl (cI, 4, .inl fa5)), (a6, .inl (cI, 4, .inl fa6))] H := ⟨hP, hD⟩
    have hP := hPD.1
    have hD := hPD.2
    clear hPD
    refine lv_goto (tgt := 50) hx hb dX1_mendQuill_37 (by decide) ?_
    refine lv_aload_n hx hb dX1_mendQuill_50 rfl (lv_at hl 0 rfl) ?_
    refine va_get (D := (dC, dI)) (ci := 1) (v := .ref a4) (C := RX1) (T := TX1) (N := 8) hx hb hts hi_X1 hown hK hP 0 rfl rfl 4 (by decide) (hts (.fieldLink RX1 25 "LeftQuills$Desk" "softness" "[I") (wmx 7 rfl)) (fun _ h9 => h9) rfl dX1_mendQuill_51 ?_
    refine lv_iload_n hx hb dX1_mendQuill_54 rfl (lv_at hl 1 rfl) ?_
    refine lv_iconst (v := 0) hx hb dX1_mendQuill_55 (by decide) ?_
    refine va_iast hx hb hK hP hD hS 4 0 rfl rfl (vp_in_nI (n := j) (N := 8) (by omega) (by decide)) dX1_mendQuill_56 (fun H locs hP hD hS => ?_)
    have hcl := (nI_clamp (n := j) (by omega))
    rw [hcl] at hP hD
    clear hcl
    have hPD : pdW (dC, dI) vwCl A [(h0, .inr (1, [.int mi, .int cu, .ref a2, .ref a3, .ref a4, .ref a5, .ref a6, .ref ho])), (ho, .inr (5, f_ho)), (a2, .inl (cI, 8, .inl (upd fa2 j ((fa2 j) - 9)))), (a3, .inl (cI, 8, .inl (upd fa3 j (if (fa3 j) + 1 < 9 then (fa3 j) + 1 else 9)))), (a4, .inl (cI, 8, .inl (upd fa4 j 0))), (a5, .inl (cI, 4, .inl fa5)), (a6, .inl (cI, 4, .inl fa6))] H := ⟨hP, hD⟩
    have hP := hPD.1
    have hD := hPD.2
    clear hPD
    refine lv_aload_n hx hb dX1_mendQuill_57 rfl (lv_at hl 0 rfl) ?_
    refine lv_dup hx hb dX1_mendQuill_58 rfl ?_
    refine va_get (D := (dC, dI)) (ci := 1) (v := .int cu) (C := RX1) (T := TX1) (N := 8) hx hb hts hi_X1 hown hK hP 0 rfl rfl 1 (by decide) (hts (.fieldLink RX1 15 "LeftQuills$Desk" "cuts" "I") (wmx 8 rfl)) (fun _ h9 => h9) rfl dX1_mendQuill_59 ?_
    refine lv_iconst (v := 1) hx hb dX1_mendQuill_62 (by decide) ?_
    refine lv_iadd hx hb dX1_mendQuill_63 ?_
    refine va_put (D := (dC, dI)) (ci := 1) (v := .int (cu + 1)) (ty := .int) (C := RX1) (T := TX1) (N := 8) hx hb hts hi_X1 tyX1 tyX1_ok nmX1 hown hK hP hD hS 0 rfl rfl 1 (by decide) (hts (.fieldLink RX1 15 "LeftQuills$Desk" "cuts" "I") (wmx 8 rfl)) (fun _ h9 => h9) rfl (by decide +kernel) rfl rfl (Nat.le_of_ble_eq_true rfl) dX1_mendQuill_64 (fun H locs hP hD hS => ?_)
    have hPD : pdW (dC, dI) vwCl A [(h0, .inr (1, [.int mi, .int (cu + 1), .ref a2, .ref a3, .ref a4, .ref a5, .ref a6, .ref ho])), (ho, .inr (5, f_ho)), (a2, .inl (cI, 8, .inl (upd fa2 j ((fa2 j) - 9)))), (a3, .inl (cI, 8, .inl (upd fa3 j (if (fa3 j) + 1 < 9 then (fa3 j) + 1 else 9)))), (a4, .inl (cI, 8, .inl (upd fa4 j 0))), (a5, .inl (cI, 4, .inl fa5)), (a6, .inl (cI, 4, .inl fa6))] H := ⟨hP, hD⟩
    have hP := hPD.1
    have hD := hPD.2
    clear hPD
    refine lv_aload_n hx hb dX1_mendQuill_67 rfl (lv_at hl 0 rfl) ?_
    refine lv_dup hx hb dX1_mendQuill_68 rfl ?_
    refine va_get (D := (dC, dI)) (ci := 1) (v := .int mi) (C := RX1) (T := TX1) (N := 8) hx hb hts hi_X1 hown hK hP 0 rfl rfl 0 (by decide) (hts (.fieldLink RX1 9 "LeftQuills$Desk" "minutes" "I") (wmx 9 rfl)) (fun _ h9 => h9) rfl dX1_mendQuill_69 ?_
    refine lv_aload_n hx hb dX1_mendQuill_72 rfl (lv_at hl 0 rfl) ?_
    refine va_get (D := (dC, dI)) (ci := 1) (v := .ref ho) (C := RX1) (T := TX1) (N := 8) hx hb hts hi_X1 hown hK hP 0 rfl rfl 7 (by decide) (hts (.fieldLink RX1 34 "LeftQuills$Desk" "office" "LLeftQuills$Office;") (wmx 10 rfl)) (fun _ h9 => h9) rfl dX1_mendQuill_73 ?_
    refine va_get (D := (dC, dI)) (ci := 5) (v := .int mm) (C := RX5) (T := TX5) (N := 13) hx hb hts hi_X5 hown hK hP 1 rfl rfl 2 (by decide) (hts (.fieldLink RX1 75 "LeftQuills$Office" "mendMinutes" "I") (wmx 11 rfl)) (fun _ h9 => h9) e_ho_2 dX1_mendQuill_76 ?_
    refine lv_iadd hx hb dX1_mendQuill_79 ?_
    refine va_put (D := (dC, dI)) (ci := 1) (v := .int (mi + mm)) (ty := .int) (C := RX1) (T := TX1) (N := 8) hx hb hts hi_X1 tyX1 tyX1_ok nmX1 hown hK hP hD hS 0 rfl rfl 0 (by decide) (hts (.fieldLink RX1 9 "LeftQuills$Desk" "minutes" "I") (wmx 9 rfl)) (fun _ h9 => h9) rfl (by decide +kernel) rfl rfl (Nat.le_of_ble_eq_true rfl) dX1_mendQuill_80 (fun H locs hP hD hS => ?_)
    have hPD : pdW (dC, dI) vwCl A [(h0, .inr (1, [.int (mi + mm), .int (cu + 1), .ref a2, .ref a3, .ref a4, .ref a5, .ref a6, .ref ho])), (ho, .inr (5, f_ho)), (a2, .inl (cI, 8, .inl (upd fa2 j ((fa2 j) - 9)))), (a3, .inl (cI, 8, .inl (upd fa3 j (if (fa3 j) + 1 < 9 then (fa3 j) + 1 else 9)))), (a4, .inl (cI, 8, .inl (upd fa4 j 0))), (a5, .inl (cI, 4, .inl fa5)), (a6, .inl (cI, 4, .inl fa6))] H := ⟨hP, hD⟩
    have hP := hPD.1
    have hD := hPD.2
    clear hPD
    have hP9 := hP.sub (ws' := [(h0, .inr (1, [.int (mi + mm), .int (cu + 1), .ref a2, .ref a3, .ref a4, .ref a5, .ref a6, .ref ho])), (ho, .inr (5, f_ho)), (a2, .inl (cI, 8, .inl (upd fa2 j ((fa2 j) - 9)))), (a3, .inl (cI, 8, .inl (upd fa3 j (if (fa3 j) + 1 < 9 then (fa3 j) + 1 else 9)))), (a4, .inl (cI, 8, .inl (upd fa4 j 0))), (a5, .inl (cI, 4, .inl fa5)), (a6, .inl (cI, 4, .inl fa6))]) [0, 1, 2, 3, 4, 5, 6] rfl
    have hD9 := hD.sub (ws' := [(h0, .inr (1, [.int (mi + mm), .int (cu + 1), .ref a2, .ref a3, .ref a4, .ref a5, .ref a6, .ref ho])), (ho, .inr (5, f_ho)), (a2, .inl (cI, 8, .inl (upd fa2 j ((fa2 j) - 9)))), (a3, .inl (cI, 8, .inl (upd fa3 j (if (fa3 j) + 1 < 9 then (fa3 j) + 1 else 9)))), (a4, .inl (cI, 8, .inl (upd fa4 j 0))), (a5, .inl (cI, 4, .inl fa5)), (a6, .inl (cI, 4, .inl fa6))]) [0, 1, 2, 3, 4, 5, 6] (by decide +kernel) rfl
    exact W.vret hx hb hr (fun t ht hW => ⟨⟨(fun _ => 0), rfl, trivial, ⟨(upd fa2 j ((fa2 j) - 9)), (upd fa3 j (if (fa3 j) + 1 < 9 then (fa3 j) + 1 else 9)), (upd fa4 j 0), (mi + mm), (cu + 1), (md_b hj hw3), va_hq ht hP9, hD9⟩⟩, hS.F ht⟩) hS.2.2 dX1_mendQuill_83
  ·
    refine lv_if_eq (tgt := 40) hx hb dX1_mendQuill_4 (by decide) (fun c8 => ?_) (fun c8 => ?_)
    rotate_left
    · exact absurd c8 (by decide)
    clear c8
    refine lv_aload_n hx hb dX1_mendQuill_40 rfl (lv_at hl 0 rfl) ?_
    refine va_get (D := (dC, dI)) (ci := 1) (v := .ref a2) (C := RX1) (T := TX1) (N := 8) hx hb hts hi_X1 hown hK hP 0 rfl rfl 2 (by decide) (hts (.fieldLink RX1 18 "LeftQuills$Desk" "length" "[I") (wmx 1 rfl)) (fun _ h9 => h9) rfl dX1_mendQuill_41 ?_
    refine lv_iload_n hx hb dX1_mendQuill_44 rfl (lv_at hl 1 rfl) ?_
    refine lv_dup2_11 hx hb dX1_mendQuill_45 rfl rfl ?_
    refine va_iald hx hb hK hP 2 0 rfl rfl (vp_in_nI (n := j) (N := 8) (by omega) (by decide)) dX1_mendQuill_46 ?_
    refine W.eq (g2 := F0 m 47 ls [.int (fa2 j), .int (nI j), .ref a2]) (congrArg (fun y9 => F0 m 47 ls (.int (fa2 y9) :: [.int (nI j), .ref a2])) ((nI_clamp (n := j) (by omega)))) ?_
    refine lv_iconst (v := 5) hx hb dX1_mendQuill_47 (by decide) ?_
    refine lv_isub hx hb dX1_mendQuill_48 ?_
    refine va_iast hx hb hK hP hD hS 2 0 rfl rfl (vp_in_nI (n := j) (N := 8) (by omega) (by decide)) dX1_mendQuill_49 (fun H locs hP hD hS => ?_)
    have hcl := (nI_clamp (n := j) (by omega))
    rw [hcl] at hP hD
    clear hcl
    have hPD : pdW (dC, dI) vwCl A [(h0, .inr (1, [.int mi, .int cu, .ref a2, .ref a3, .ref a4, .ref a5, .ref a6, .ref ho])), (ho, .inr (5, f_ho)), (a2, .inl (cI, 8, .inl (upd fa2 j ((fa2 j) - 5)))), (a3, .inl (cI, 8, .inl fa3)), (a4, .inl (cI, 8, .inl fa4)), (a5, .inl (cI, 4, .inl fa5)), (a6, .inl (cI, 4, .inl fa6))] H := ⟨hP, hD⟩
    have hP := hPD.1
    have hD := hPD.2
    clear hPD
    refine lv_aload_n hx hb dX1_mendQuill_50 rfl (lv_at hl 0 rfl) ?_
    refine va_get (D := (dC, dI)) (ci := 1) (v := .ref a4) (C := RX1) (T := TX1) (N := 8) hx hb hts hi_X1 hown hK hP 0 rfl rfl 4 (by decide) (hts (.fieldLink RX1 25 "LeftQuills$Desk" "softness" "[I") (wmx 7 rfl)) (fun _ h9 => h9) rfl dX1_mendQuill_51 ?_
    refine lv_iload_n hx hb dX1_mendQuill_54 rfl (lv_at hl 1 rfl) ?_
    refine lv_iconst (v := 0) hx hb dX1_mendQuill_55 (by decide) ?_
    refine va_iast hx hb hK hP hD hS 4 0 rfl rfl (vp_in_nI (n := j) (N := 8) (by omega) (by decide)) dX1_mendQuill_56 (fun H locs hP hD hS => ?_)
    have hcl := (nI_clamp (n := j) (by omega))
    rw [hcl] at hP hD
    clear hcl
    have hPD : pdW (dC, dI) vwCl A [(h0, .inr (1, [.int mi, .int cu, .ref a2, .ref a3, .ref a4, .ref a5, .ref a6, .ref ho])), (ho, .inr (5, f_ho)), (a2, .inl (cI, 8, .inl (upd fa2 j ((fa2 j) - 5)))), (a3, .inl (cI, 8, .inl fa3)), (a4, .inl (cI, 8, .inl (upd fa4 j 0))), (a5, .inl (cI, 4, .inl fa5)), (a6, .inl (cI, 4, .inl fa6))] H := ⟨hP, hD⟩
    have hP := hPD.1
    have hD := hPD.2
    clear hPD
    refine lv_aload_n hx hb dX1_mendQuill_57 rfl (lv_at hl 0 rfl) ?_
    refine lv_dup hx hb dX1_mendQuill_58 rfl ?_
    refine va_get (D := (dC, dI)) (ci := 1) (v := .int cu) (C := RX1) (T := TX1) (N := 8) hx hb hts hi_X1 hown hK hP 0 rfl rfl 1 (by decide) (hts (.fieldLink RX1 15 "LeftQuills$Desk" "cuts" "I") (wmx 8 rfl)) (fun _ h9 => h9) rfl dX1_mendQuill_59 ?_
    refine lv_iconst (v := 1) hx hb dX1_mendQuill_62 (by decide) ?_
    refine lv_iadd hx hb dX1_mendQuill_63 ?_
    refine va_put (D := (dC, dI)) (ci := 1) (v := .int (cu + 1)) (ty := .int) (C := RX1) (T := TX1) (N := 8) hx hb hts hi_X1 tyX1 tyX1_ok nmX1 hown hK hP hD hS 0 rfl rfl 1 (by decide) (hts (.fieldLink RX1 15 "LeftQuills$Desk" "cuts" "I") (wmx 8 rfl)) (fun _ h9 => h9) rfl (by decide +kernel) rfl rfl (Nat.le_of_ble_eq_true rfl) dX1_mendQuill_64 (fun H locs hP hD hS => ?_)
    have hPD : pdW (dC, dI) vwCl A [(h0, .inr (1, [.int mi, .int (cu + 1), .ref a2, .ref a3, .ref a4, .ref a5, .ref a6, .ref ho])), (ho, .inr (5, f_ho)), (a2, .inl (cI, 8, .inl (upd fa2 j ((fa2 j) - 5)))), (a3, .inl (cI, 8, .inl fa3)), (a4, .inl (cI, 8, .inl (upd fa4 j 0))), (a5, .inl (cI, 4, .inl fa5)), (a6, .inl (cI, 4, .inl fa6))] H := ⟨hP, hD⟩
    have hP := hPD.1
    have hD := hPD.2
    clear hPD
    refine lv_aload_n hx hb dX1_mendQuill_67 rfl (lv_at hl 0 rfl) ?_
    refine lv_dup hx hb dX1_mendQuill_68 rfl ?_
    refine va_get (D := (dC, dI)) (ci := 1) (v := .int mi) (C := RX1) (T := TX1) (N := 8) hx hb hts hi_X1 hown hK hP 0 rfl rfl 0 (by decide) (hts (.fieldLink RX1 9 "LeftQuills$Desk" "minutes" "I") (wmx 9 rfl)) (fun _ h9 => h9) rfl dX1_mendQuill_69 ?_
    refine lv_aload_n hx hb dX1_mendQuill_72 rfl (lv_at hl 0 rfl) ?_
    refine va_get (D := (dC, dI)) (ci := 1) (v := .ref ho) (C := RX1) (T := TX1) (N := 8) hx hb hts hi_X1 hown hK hP 0 rfl rfl 7 (by decide) (hts (.fieldLink RX1 34 "LeftQuills$Desk" "office" "LLeftQuills$Office;") (wmx 10 rfl)) (fun _ h9 => h9) rfl dX1_mendQuill_73 ?_
    refine va_get (D := (dC, dI)) (ci := 5) (v := .int mm) (C := RX5) (T := TX5) (N := 13) hx hb hts hi_X5 hown hK hP 1 rfl rfl 2 (by decide) (hts (.fieldLink RX1 75 "LeftQuills$Office" "mendMinutes" "I") (wmx 11 rfl)) (fun _ h9 => h9) e_ho_2 dX1_mendQuill_76 ?_
    refine lv_iadd hx hb dX1_mendQuill_79 ?_
    refine va_put (D := (dC, dI)) (ci := 1) (v := .int (mi + mm)) (ty := .int) (C := RX1) (T := TX1) (N := 8) hx hb hts hi_X1 tyX1 tyX1_ok nmX1 hown hK hP hD hS 0 rfl rfl 0 (by decide) (hts (.fieldLink RX1 9 "LeftQuills$Desk" "minutes" "I") (wmx 9 rfl)) (fun _ h9 => h9) rfl (by decide +kernel) rfl rfl (Nat.le_of_ble_eq_true rfl) dX1_mendQuill_80 (fun H locs hP hD hS => ?_)
    have hPD : pdW (dC, dI) vwCl A [(h0, .inr (1, [.int (mi + mm), .int (cu + 1), .ref a2, .ref a3, .ref a4, .ref a5, .ref a6, .ref ho])), (ho, .inr (5, f_ho)), (a2, .inl (cI, 8, .inl (upd fa2 j ((fa2 j) - 5)))), (a3, .inl (cI, 8, .inl fa3)), (a4, .inl (cI, 8, .inl (upd fa4 j 0))), (a5, .inl (cI, 4, .inl fa5)), (a6, .inl (cI, 4, .inl fa6))] H := ⟨hP, hD⟩
    have hP := hPD.1
    have hD := hPD.2
    clear hPD
    have hP9 := hP.sub (ws' := [(h0, .inr (1, [.int (mi + mm), .int (cu + 1), .ref a2, .ref a3, .ref a4, .ref a5, .ref a6, .ref ho])), (ho, .inr (5, f_ho)), (a2, .inl (cI, 8, .inl (upd fa2 j ((fa2 j) - 5)))), (a3, .inl (cI, 8, .inl fa3)), (a4, .inl (cI, 8, .inl (upd fa4 j 0))), (a5, .inl (cI, 4, .inl fa5)), (a6, .inl (cI, 4, .inl fa6))]) [0, 1, 2, 3, 4, 5, 6] rfl
    have hD9 := hD.sub (ws' := [(h0, .inr (1, [.int (mi + mm), .int (cu + 1), .ref a2, .ref a3, .ref a4, .ref a5, .ref a6, .ref ho])), (ho, .inr (5, f_ho)), (a2, .inl (cI, 8, .inl (upd fa2 j ((fa2 j) - 5)))), (a3, .inl (cI, 8, .inl fa3)), (a4, .inl (cI, 8, .inl (upd fa4 j 0))), (a5, .inl (cI, 4, .inl fa5)), (a6, .inl (cI, 4, .inl fa6))]) [0, 1, 2, 3, 4, 5, 6] (by decide +kernel) rfl
    exact W.vret hx hb hr (fun t ht hW => ⟨⟨(fun _ => 0), rfl, trivial, ⟨(upd fa2 j ((fa2 j) - 5)), fa3, (upd fa4 j 0), (mi + mm), (cu + 1), (md_n hj hw3), va_hq ht hP9, hD9⟩⟩, hS.F ht⟩) hS.2.2 dX1_mendQuill_83
set_option maxHeartbeats 4000000 in
set_option maxRecDepth 100000 in
theorem c_X1_writePageD (l : Launch) (dC : Nat → ClassId) (dI : Nat → Nat → Nat) (cI cZ cQ : ClassId) (h0 : Nat) (mi : Int32) (cu : Int32) (a2 : Nat) (a3 : Nat) (a4 : Nat) (a5 : Nat) (a6 : Nat) (ho : Nat) (o5 : Nat) (o6 : Nat) (o7 : Nat) (o10 : Nat) (o11 : Nat) (o12 : Nat) (f_ho : List Value) (fa2 : Nat → Int32) (fa3 : Nat → Int32) (fa4 : Nat → Int32) (fa5 : Nat → Int32) (fa6 : Nat → Int32) (fo5 : Nat → Int32) (fo6 : Nat → Int32) (fo7 : Nat → Int32) (fo10 : Nat → Int32) (fo11 : Nat → Int32) (fo12 : Nat → Int32) (j : Nat) (k : Nat) (sz : Nat) (e_ho_5 : fAt f_ho 5 = some (.ref o5)) (e_ho_6 : fAt f_ho 6 = some (.ref o6)) (e_ho_7 : fAt f_ho 7 = some (.ref o7)) (e_ho_10 : fAt f_ho 10 = some (.ref o10)) (e_ho_11 : fAt f_ho 11 = some (.ref o11)) (e_ho_12 : fAt f_ho 12 = some (.ref o12)) (hj : j < 8) (hk : k < 4) : Met l yX1_writePage wsX1_writePage ({ frames := 2, cells := 0, slots := 0, locals := 85 }) (va_Pc [.ref h0, .int (nI j), .int (nI k)] (fun U => U.heap.size = sz ∧ va_P (dC, dI) vwCl [(h0, .inr (1, [.int mi, .int cu, .ref a2, .ref a3, .ref a4, .ref a5, .ref a6, .ref ho])), (ho, .inr (5, f_ho)), (a2, .inl (cI, 8, .inl fa2)), (a3, .inl (cI, 8, .inl fa3)), (a4, .inl (cI, 8, .inl fa4)), (a5, .inl (cI, 4, .inl fa5)), (a6, .inl (cI, 4, .inl fa6)), (o5, .inl (cI, 8, .inl fo5)), (o6, .inl (cI, 8, .inl fo6)), (o7, .inl (cI, 8, .inl fo7)), (o10, .inl (cI, 4, .inl fo10)), (o11, .inl (cI, 4, .inl fo11)), (o12, .inl (cI, 4, .inl fo12))] U.heap ∧ va_K (dC, dI) vwCl (tys0 cI cZ cQ) U ∧ va_D (fun _ => True) [(h0, .inr (1, [.int mi, .int cu, .ref a2, .ref a3, .ref a4, .ref a5, .ref a6, .ref ho])), (ho, .inr (5, f_ho)), (a2, .inl (cI, 8, .inl fa2)), (a3, .inl (cI, 8, .inl fa3)), (a4, .inl (cI, 8, .inl fa4)), (a5, .inl (cI, 4, .inl fa5)), (a6, .inl (cI, 4, .inl fa6)), (o5, .inl (cI, 8, .inl fo5)), (o6, .inl (cI, 8, .inl fo6)), (o7, .inl (cI, 8, .inl fo7)), (o10, .inl (cI, 4, .inl fo10)), (o11, .inl (cI, 4, .inl fo11)), (o12, .inl (cI, 4, .inl fo12))] ∧ xN U)) (va_Qi (fun (r : Int32) (u : Nat → Nat) => r = gdX lcB (wrF (fo5 j) (fo6 j) (fo7 j) (fo10 k) (fo11 k)) (fo12 k) j (dk mi cu fa2 fa3 fa4 fa5 fa6)) (fun (_ : Nat → Nat) (t : State) => ∃ (gg0 gg1 gg2 : Nat → Int32) (ii0 : Int32) , (dk ii0 cu fa2 fa3 gg0 gg1 gg2 = pgX lcB (wrF (fo5 j) (fo6 j) (fo7 j) (fo10 k) (fo11 k)) (fo12 k) j k (dk mi cu fa2 fa3 fa4 fa5 fa6)) ∧ va_P (dC, dI) vwCl [(h0, .inr (1, [.int ii0, .int cu, .ref a2, .ref a3, .ref a4, .ref a5, .ref a6, .ref ho])), (ho, .inr (5, f_ho)), (a2, .inl (cI, 8, .inl fa2)), (a3, .inl (cI, 8, .inl fa3)), (a4, .inl (cI, 8, .inl gg0)), (a5, .inl (cI, 4, .inl gg1)), (a6, .inl (cI, 4, .inl gg2)), (o5, .inl (cI, 8, .inl fo5)), (o6, .inl (cI, 8, .inl fo6)), (o7, .inl (cI, 8, .inl fo7)), (o10, .inl (cI, 4, .inl fo10)), (o11, .inl (cI, 4, .inl fo11)), (o12, .inl (cI, 4, .inl fo12))] t.heap ∧ va_D (va_A [(h0, .inr (1, [.int mi, .int cu, .ref a2, .ref a3, .ref a4, .ref a5, .ref a6, .ref ho])), (ho, .inr (5, f_ho)), (a2, .inl (cI, 8, .inl fa2)), (a3, .inl (cI, 8, .inl fa3)), (a4, .inl (cI, 8, .inl fa4)), (a5, .inl (cI, 4, .inl fa5)), (a6, .inl (cI, 4, .inl fa6)), (o5, .inl (cI, 8, .inl fo5)), (o6, .inl (cI, 8, .inl fo6)), (o7, .inl (cI, 8, .inl fo7)), (o10, .inl (cI, 4, .inl fo10)), (o11, .inl (cI, 4, .inl fo11)), (o12, .inl (cI, 4, .inl fo12))] sz) [(h0, .inr (1, [.int ii0, .int cu, .ref a2, .ref a3, .ref a4, .ref a5, .ref a6, .ref ho])), (ho, .inr (5, f_ho)), (a2, .inl (cI, 8, .inl fa2)), (a3, .inl (cI, 8, .inl fa3)), (a4, .inl (cI, 8, .inl gg0)), (a5, .inl (cI, 4, .inl gg1)), (a6, .inl (cI, 4, .inl gg2)), (o5, .inl (cI, 8, .inl fo5)), (o6, .inl (cI, 8, .inl fo6)), (o7, .inl (cI, 8, .inl fo7)), (o10, .inl (cI, 4, .inl fo10)), (o11, .inl (cI, 4, .inl fo11)), (o12, .inl (cI, 4, .inl fo12))]) (va_A [(h0, .inr (1, [.int mi, .int cu, .ref a2, .ref a3, .ref a4, .ref a5, .ref a6, .ref ho])), (ho, .inr (5, f_ho)), (a2, .inl (cI, 8, .inl fa2)), (a3, .inl (cI, 8, .inl fa3)), (a4, .inl (cI, 8, .inl fa4)), (a5, .inl (cI, 4, .inl fa5)), (a6, .inl (cI, 4, .inl fa6)), (o5, .inl (cI, 8, .inl fo5)), (o6, .inl (cI, 8, .inl fo6)), (o7, .inl (cI, 8, .inl fo7)), (o10, .inl (cI, 4, .inl fo10)), (o11, .inl (cI, 4, .inl fo11)), (o12, .inl (cI, 4, .inl fo12))] sz)) 0 0 (va_A [(h0, .inr (1, [.int mi, .int cu, .ref a2, .ref a3, .ref a4, .ref a5, .ref a6, .ref ho])), (ho, .inr (5, f_ho)), (a2, .inl (cI, 8, .inl fa2)), (a3, .inl (cI, 8, .inl fa3)), (a4, .inl (cI, 8, .inl fa4)), (a5, .inl (cI, 4, .inl fa5)), (a6, .inl (cI, 4, .inl fa6)), (o5, .inl (cI, 8, .inl fo5)), (o6, .inl (cI, 8, .inl fo6)), (o7, .inl (cI, 8, .inl fo7)), (o10, .inl (cI, 4, .inl fo10)), (o11, .inl (cI, 4, .inl fo11)), (o12, .inl (cI, 4, .inl fo12))] sz) := by
  refine Met.ofW (cc := cX1_writePage) (maxL := 4) (ret := (some .boolean)) (by decide) rfl ?_
  intro p e s m args below meth c s₁ B hml hv
  obtain ⟨rfl, hsz, hP, hK, hD0, hN⟩ := hv
  have hx := B.exec
  have hb := B.bytes
  have hr := B.returns
  have hts := atoms_spec (ws := wsX1_writePage) B.pre
  have hown : s.vm.findClass RX1 = some m.cls := findClass_of_methodNamed B.named
  have hlocks := B.notSynchronized
  have hi_X1 : ∀ w ∈ u_ws RX1 TX1 8, w ∈ wsX1_writePage := fun _ h => List.mem_cons_of_mem _ (List.mem_append_left _ (List.mem_append_right _ (h)))
  subst hsz
  have hD := hD0.self (sz := s.heap.size)
  generalize hAe : va_A [(h0, .inr (1, [.int mi, .int cu, .ref a2, .ref a3, .ref a4, .ref a5, .ref a6, .ref ho])), (ho, .inr (5, f_ho)), (a2, .inl (cI, 8, .inl fa2)), (a3, .inl (cI, 8, .inl fa3)), (a4, .inl (cI, 8, .inl fa4)), (a5, .inl (cI, 4, .inl fa5)), (a6, .inl (cI, 4, .inl fa6)), (o5, .inl (cI, 8, .inl fo5)), (o6, .inl (cI, 8, .inl fo6)), (o7, .inl (cI, 8, .inl fo7)), (o10, .inl (cI, 4, .inl fo10)), (o11, .inl (cI, 4, .inl fo11)), (o12, .inl (cI, 4, .inl fo12))] s.heap.size = A at hD ⊢
  have hA : ∀ q : Nat, s.heap.size ≤ q → A q := fun q h => by rw [← hAe]; exact Or.inr h
  have hS : va_S A s.heap s.heap [] := va_S.rf
  have hl := lv_entry ([.ref h0, .int (nI j), .int (nI k)]) (n := 4) (Nat.le_of_ble_eq_true rfl)
  rw [lg_entry_eq]
  generalize (lg_sl ([.ref h0, .int (nI j), .int (nI k)]) ++ List.replicate (4 - (lg_sl ([.ref h0, .int (nI j), .int (nI k)])).length) Slot.unset).toArray = ls at hl ⊢
  have hl : lv_has ls 4 [(0, .ref h0), (1, .int (nI j)), (2, .int (nI k))] := hl
  refine lv_aload_n hx hb dX1_writePage_0 rfl (lv_at hl 0 rfl) ?_
  refine va_get (D := (dC, dI)) (ci := 1) (v := .ref a4) (C := RX1) (T := TX1) (N := 8) hx hb hts hi_X1 hown hK hP 0 rfl rfl 4 (by decide) (hts (.fieldLink RX1 25 "LeftQuills$Desk" "softness" "[I") (wmx 1 rfl)) (fun _ h9 => h9) rfl dX1_writePage_1 ?_
  refine lv_iload_n hx hb dX1_writePage_4 rfl (lv_at hl 1 rfl) ?_
  refine lv_aload_n hx hb dX1_writePage_5 rfl (lv_at hl 0 rfl) ?_
  refine va_get (D := (dC, dI)) (ci := 1) (v := .ref a4) (C := RX1) (T := TX1) (N := 8) hx hb hts hi_X1 hown hK hP 0 rfl rfl 4 (by decide) (hts (.fieldLink RX1 25 "LeftQuills$Desk" "softness" "[I") (wmx 1 rfl)) (fun _ h9 => h9) rfl dX1_writePage_6 ?_
  refine lv_iload_n hx hb dX1_writePage_9 rfl (lv_at hl 1 rfl) ?_
  refine va_iald hx hb hK hP 4 0 rfl rfl (vp_in_nI (n := j) (N := 8) (by omega) (by decide)) dX1_writePage_10 ?_
  refine W.eq (g2 := F0 m 11 ls [.int (fa4 j), .int (nI j), .ref a4]) (congrArg (fun y9 => F0 m 11 ls (.int (fa4 y9) :: [.int (nI j), .ref a4])) ((nI_clamp (n := j) (by omega)))) ?_
  refine lv_aload_n hx hb dX1_writePage_11 rfl (lv_at hl 0 rfl) ?_
  refine va_get (D := (dC, dI)) (ci := 1) (v := .ref ho) (C := RX1) (T := TX1) (N := 8) hx hb hts hi_X1 hown hK hP 0 rfl rfl 7 (by decide) (hts (.fieldLink RX1 34 "LeftQuills$Desk" "office" "LLeftQuills$Office;") (wmx 2 rfl)) (fun _ h9 => h9) rfl dX1_writePage_12 ?_
  refine lv_iload_n hx hb dX1_writePage_15 rfl (lv_at hl 1 rfl) ?_
  refine lv_iload_n hx hb dX1_writePage_16 rfl (lv_at hl 2 rfl) ?_
  have hPc := hP.sub (ws' := [(ho, .inr (5, f_ho)), (o5, .inl (cI, 8, .inl fo5)), (o6, .inl (cI, 8, .inl fo6)), (o7, .inl (cI, 8, .inl fo7)), (o10, .inl (cI, 4, .inl fo10)), (o11, .inl (cI, 4, .inl fo11))]) [1, 7, 8, 9, 10, 11] rfl
  refine va_calli (va_runV (As := [.int (nI j), .int (nI k)]) (rest := [.int (fa4 j), .int (nI j), .ref a4]) ⟨hx, hb, hml, hown, hts⟩ (c_X5_wearD l dC dI cI cZ cQ ho o5 o6 o7 o10 o11 f_ho fo5 fo6 fo7 fo10 fo11 j k s.heap.size e_ho_5 e_ho_6 e_ho_7 e_ho_10 e_ho_11 (by omega) (by omega)) (cwV 2 hts gX1_writePage_X5_wear rfl rfl rfl hd_X5_wear_RX5 ⟨Nat.le_of_ble_eq_true rfl, Nat.le_of_ble_eq_true rfl⟩) (pv_R (va_recv hK hP (ci := 5) (q0 := 1) rfl rfl) hK hPc) rfl rfl hl.1 rfl (lv_room (Nat.le_of_ble_eq_true rfl)) dX1_writePage_17 ⟨Nat.le_of_ble_eq_true rfl, Nat.le_of_ble_eq_true rfl⟩) hS (fun q _ h => False.elim h) (fun q h => False.elim h) (fun r1 u2 t H1 locs ht hvm hw3 hB hz1 hk1 hS => ?_)
  have hP := hP.kept (fun k q hk => hk1 q.1 (hP k q hk).lt (fun h => h))
  clear hz1 hk1 hPc
  generalize H1 = H at hP hS ht ⊢
  try dsimp only at hw3
  subst hw3
  have hPc := hP.sub (ws' := []) [] rfl
  refine va_calli (va_runSN (As := [.int (fa4 j), .int (wrF (fo5 j) (fo6 j) (fo7 j) (fo10 k) (fo11 k))]) (rest := [.int (nI j), .ref a4]) ⟨hx, hb, hml, hown, hts⟩ (c_X10_softerByD l dC dI cI cZ cQ (fa4 j) (wrF (fo5 j) (fo6 j) (fo7 j) (fo10 k) (fo11 k)) H.size ) ⟨va_cnB 2 hts gX1_writePage_X10_softerBy_n56 rfl rfl rfl (hN.n_X1_56) (hts (.initialized RX10) (wmx 30 rfl)) (by decide +kernel) ⟨Nat.le_of_ble_eq_true rfl, Nat.le_of_ble_eq_true rfl⟩, hts (.static yX10_softerBy) (by decide +kernel), trivial⟩ (ps_R hK hPc) rfl rfl hl.1 rfl (lv_room (Nat.le_of_ble_eq_true rfl)) dX1_writePage_20 ⟨Nat.le_of_ble_eq_true rfl, Nat.le_of_ble_eq_true rfl⟩) hS (fun q _ h => False.elim h) (fun q h => False.elim h) (fun r4 u5 t H1 locs ht hvm hw6 hB hz1 hk1 hS => ?_)
  have hP := hP.kept (fun k q hk => hk1 q.1 (hP k q hk).lt (fun h => h))
  clear hz1 hk1 hPc
  generalize H1 = H at hP hS ht ⊢
  try dsimp only at hw6
  subst hw6
  refine va_iast hx hb hK hP hD hS 4 0 rfl rfl (vp_in_nI (n := j) (N := 8) (by omega) (by decide)) dX1_writePage_23 (fun H locs hP hD hS => ?_)
  have hcl := (nI_clamp (n := j) (by omega))
  rw [hcl] at hP hD
  clear hcl
  have hPD : pdW (dC, dI) vwCl A [(h0, .inr (1, [.int mi, .int cu, .ref a2, .ref a3, .ref a4, .ref a5, .ref a6, .ref ho])), (ho, .inr (5, f_ho)), (a2, .inl (cI, 8, .inl fa2)), (a3, .inl (cI, 8, .inl fa3)), (a4, .inl (cI, 8, .inl (upd fa4 j (sbF (fa4 j) (wrF (fo5 j) (fo6 j) (fo7 j) (fo10 k) (fo11 k)))))), (a5, .inl (cI, 4, .inl fa5)), (a6, .inl (cI, 4, .inl fa6)), (o5, .inl (cI, 8, .inl fo5)), (o6, .inl (cI, 8, .inl fo6)), (o7, .inl (cI, 8, .inl fo7)), (o10, .inl (cI, 4, .inl fo10)), (o11, .inl (cI, 4, .inl fo11)), (o12, .inl (cI, 4, .inl fo12))] H := ⟨hP, hD⟩
  have hP := hPD.1
  have hD := hPD.2
  clear hPD
  refine lv_aload_n hx hb dX1_writePage_24 rfl (lv_at hl 0 rfl) ?_
  refine va_get (D := (dC, dI)) (ci := 1) (v := .ref a4) (C := RX1) (T := TX1) (N := 8) hx hb hts hi_X1 hown hK hP 0 rfl rfl 4 (by decide) (hts (.fieldLink RX1 25 "LeftQuills$Desk" "softness" "[I") (wmx 1 rfl)) (fun _ h9 => h9) rfl dX1_writePage_25 ?_
  refine lv_iload_n hx hb dX1_writePage_28 rfl (lv_at hl 1 rfl) ?_
  refine va_iald hx hb hK hP 4 0 rfl rfl (vp_in_nI (n := j) (N := 8) (by omega) (by decide)) dX1_writePage_29 ?_
  refine W.eq (g2 := F0 m 30 ls [.int ((upd fa4 j (sbF (fa4 j) (wrF (fo5 j) (fo6 j) (fo7 j) (fo10 k) (fo11 k)))) j)]) (congrArg (fun y9 => F0 m 30 ls (.int ((upd fa4 j (sbF (fa4 j) (wrF (fo5 j) (fo6 j) (fo7 j) (fo10 k) (fo11 k)))) y9) :: [])) ((nI_clamp (n := j) (by omega)))) ?_
  refine lv_topi (fun z8 ez8 => ?_)
  obtain rfl : z8 = sbF (fa4 j) (wrF (fo5 j) (fo6 j) (fo7 j) (fo10 k) (fo11 k)) := ez8.trans pk_us
  refine lv_bipush (v := 50) hx hb dX1_writePage_30 (by decide) ?_
  refine lv_icmp_gt (tgt := 56) hx hb dX1_writePage_32 (by decide) (fun c9 => ?_) (fun c9 => ?_)
  ·
    refine lv_iconst (v := 0) hx hb dX1_writePage_56 (by decide) ?_
    refine lv_istore_n (lv' := [(3, .int 0), (0, .ref h0), (1, .int (nI j)), (2, .int (nI k))]) hx hb dX1_writePage_57 rfl hl (by decide) rfl (fun ls hl => ?_)
    refine lv_aload_n hx hb dX1_writePage_58 rfl (lv_at hl 1 rfl) ?_
    refine va_get (D := (dC, dI)) (ci := 1) (v := .ref a5) (C := RX1) (T := TX1) (N := 8) hx hb hts hi_X1 hown hK hP 0 rfl rfl 5 (by decide) (hts (.fieldLink RX1 28 "LeftQuills$Desk" "pages" "[I") (wmx 4 rfl)) (fun _ h9 => h9) rfl dX1_writePage_59 ?_
    refine lv_iload_n hx hb dX1_writePage_62 rfl (lv_at hl 3 rfl) ?_
    refine lv_dup2_11 hx hb dX1_writePage_63 rfl rfl ?_
    refine va_iald hx hb hK hP 5 0 rfl rfl (vp_in_nI (n := k) (N := 4) (by omega) (by decide)) dX1_writePage_64 ?_
    refine W.eq (g2 := F0 m 65 ls [.int (fa5 k), .int (nI k), .ref a5]) (congrArg (fun y9 => F0 m 65 ls (.int (fa5 y9) :: [.int (nI k), .ref a5])) ((nI_clamp (n := k) (by omega)))) ?_
    refine lv_iconst (v := 1) hx hb dX1_writePage_65 (by decide) ?_
    refine lv_iadd hx hb dX1_writePage_66 ?_
    refine va_iast hx hb hK hP hD hS 5 0 rfl rfl (vp_in_nI (n := k) (N := 4) (by omega) (by decide)) dX1_writePage_67 (fun H locs hP hD hS => ?_)
    have hcl := (nI_clamp (n := k) (by omega))
    rw [hcl] at hP hD
    clear hcl
    have hPD : pdW (dC, dI) vwCl A [(h0, .inr (1, [.int mi, .int cu, .ref a2, .ref a3, .ref a4, .ref a5, .ref a6, .ref ho])), (ho, .inr (5, f_ho)), (a2, .inl (cI, 8, .inl fa2)), (a3, .inl (cI, 8, .inl fa3)), (a4, .inl (cI, 8, .inl (upd fa4 j (sbF (fa4 j) (wrF (fo5 j) (fo6 j) (fo7 j) (fo10 k) (fo11 k)))))), (a5, .inl (cI, 4, .inl (upd fa5 k ((fa5 k) + 1)))), (a6, .inl (cI, 4, .inl fa6)), (o5, .inl (cI, 8, .inl fo5)), (o6, .inl (cI, 8, .inl fo6)), (o7, .inl (cI, 8, .inl fo7)), (o10, .inl (cI, 4, .inl fo10)), (o11, .inl (cI, 4, .inl fo11)), (o12, .inl (cI, 4, .inl fo12))] H := ⟨hP, hD⟩
    have hP := hPD.1
    have hD := hPD.2
    clear hPD
    refine lv_iload_n hx hb dX1_writePage_68 rfl (lv_at hl 0 rfl) ?_
    refine lv_if_eq (tgt := 82) hx hb dX1_writePage_69 (by decide) (fun c11 => ?_) (fun c11 => ?_)
    rotate_left
    · exact absurd c11 (by decide)
    clear c11
    refine lv_aload_n hx hb dX1_writePage_82 rfl (lv_at hl 1 rfl) ?_
    refine lv_dup hx hb dX1_writePage_83 rfl ?_
    refine va_get (D := (dC, dI)) (ci := 1) (v := .int mi) (C := RX1) (T := TX1) (N := 8) hx hb hts hi_X1 hown hK hP 0 rfl rfl 0 (by decide) (hts (.fieldLink RX1 9 "LeftQuills$Desk" "minutes" "I") (wmx 6 rfl)) (fun _ h9 => h9) rfl dX1_writePage_84 ?_
    refine lv_iconst (v := 2) hx hb dX1_writePage_87 (by decide) ?_
    refine lv_iadd hx hb dX1_writePage_88 ?_
    refine va_put (D := (dC, dI)) (ci := 1) (v := .int (mi + 2)) (ty := .int) (C := RX1) (T := TX1) (N := 8) hx hb hts hi_X1 tyX1 tyX1_ok nmX1 hown hK hP hD hS 0 rfl rfl 0 (by decide) (hts (.fieldLink RX1 9 "LeftQuills$Desk" "minutes" "I") (wmx 6 rfl)) (fun _ h9 => h9) rfl (by decide +kernel) rfl rfl (Nat.le_of_ble_eq_true rfl) dX1_writePage_89 (fun H locs hP hD hS => ?_)
    have hPD : pdW (dC, dI) vwCl A [(h0, .inr (1, [.int (mi + 2), .int cu, .ref a2, .ref a3, .ref a4, .ref a5, .ref a6, .ref ho])), (ho, .inr (5, f_ho)), (a2, .inl (cI, 8, .inl fa2)), (a3, .inl (cI, 8, .inl fa3)), (a4, .inl (cI, 8, .inl (upd fa4 j (sbF (fa4 j) (wrF (fo5 j) (fo6 j) (fo7 j) (fo10 k) (fo11 k)))))), (a5, .inl (cI, 4, .inl (upd fa5 k ((fa5 k) + 1)))), (a6, .inl (cI, 4, .inl fa6)), (o5, .inl (cI, 8, .inl fo5)), (o6, .inl (cI, 8, .inl fo6)), (o7, .inl (cI, 8, .inl fo7)), (o10, .inl (cI, 4, .inl fo10)), (o11, .inl (cI, 4, .inl fo11)), (o12, .inl (cI, 4, .inl fo12))] H := ⟨hP, hD⟩
    have hP := hPD.1
    have hD := hPD.2
    clear hPD
    refine lv_iload_n hx hb dX1_writePage_92 rfl (lv_at hl 0 rfl) ?_
    have hP9 := hP.sub (ws' := [(h0, .inr (1, [.int (mi + 2), .int cu, .ref a2, .ref a3, .ref a4, .ref a5, .ref a6, .ref ho])), (ho, .inr (5, f_ho)), (a2, .inl (cI, 8, .inl fa2)), (a3, .inl (cI, 8, .inl fa3)), (a4, .inl (cI, 8, .inl (upd fa4 j (sbF (fa4 j) (wrF (fo5 j) (fo6 j) (fo7 j) (fo10 k) (fo11 k)))))), (a5, .inl (cI, 4, .inl (upd fa5 k ((fa5 k) + 1)))), (a6, .inl (cI, 4, .inl fa6)), (o5, .inl (cI, 8, .inl fo5)), (o6, .inl (cI, 8, .inl fo6)), (o7, .inl (cI, 8, .inl fo7)), (o10, .inl (cI, 4, .inl fo10)), (o11, .inl (cI, 4, .inl fo11)), (o12, .inl (cI, 4, .inl fo12))]) [0, 1, 2, 3, 4, 5, 6, 7, 8, 9, 10, 11, 12] rfl
    have hD9 := hD.sub (ws' := [(h0, .inr (1, [.int (mi + 2), .int cu, .ref a2, .ref a3, .ref a4, .ref a5, .ref a6, .ref ho])), (ho, .inr (5, f_ho)), (a2, .inl (cI, 8, .inl fa2)), (a3, .inl (cI, 8, .inl fa3)), (a4, .inl (cI, 8, .inl (upd fa4 j (sbF (fa4 j) (wrF (fo5 j) (fo6 j) (fo7 j) (fo10 k) (fo11 k)))))), (a5, .inl (cI, 4, .inl (upd fa5 k ((fa5 k) + 1)))), (a6, .inl (cI, 4, .inl fa6)), (o5, .inl (cI, 8, .inl fo5)), (o6, .inl (cI, 8, .inl fo6)), (o7, .inl (cI, 8, .inl fo7)), (o10, .inl (cI, 4, .inl fo10)), (o11, .inl (cI, 4, .inl fo11)), (o12, .inl (cI, 4, .inl fo12))]) [0, 1, 2, 3, 4, 5, 6, 7, 8, 9, 10, 11, 12] (by decide +kernel) rfl
    exact W.zret (v := 0) hx hb hr (rfl) (fun t ht hW => ⟨⟨0, (fun _ => 0), rfl, (pg_0 hj hk (fun h9 => absurd h9.1 (fa_ltn c9))).1, ⟨(upd fa4 j (sbF (fa4 j) (wrF (fo5 j) (fo6 j) (fo7 j) (fo10 k) (fo11 k)))), (upd fa5 k ((fa5 k) + 1)), fa6, (mi + 2), (pg_0 hj hk (fun h9 => absurd h9.1 (fa_ltn c9))).2, va_hq ht hP9, hD9⟩⟩, hS.F ht⟩) hS.2.2 dX1_writePage_93
  ·
    refine lv_aload_n hx hb dX1_writePage_35 rfl (lv_at hl 0 rfl) ?_
    refine va_get (D := (dC, dI)) (ci := 1) (v := .ref ho) (C := RX1) (T := TX1) (N := 8) hx hb hts hi_X1 hown hK hP 0 rfl rfl 7 (by decide) (hts (.fieldLink RX1 34 "LeftQuills$Desk" "office" "LLeftQuills$Office;") (wmx 2 rfl)) (fun _ h9 => h9) rfl dX1_writePage_36 ?_
    refine lv_iload_n hx hb dX1_writePage_39 rfl (lv_at hl 2 rfl) ?_
    refine lv_aload_n hx hb dX1_writePage_40 rfl (lv_at hl 0 rfl) ?_
    refine va_get (D := (dC, dI)) (ci := 1) (v := .ref a3) (C := RX1) (T := TX1) (N := 8) hx hb hts hi_X1 hown hK hP 0 rfl rfl 3 (by decide) (hts (.fieldLink RX1 22 "LeftQuills$Desk" "nib" "[I") (wmx 3 rfl)) (fun _ h9 => h9) rfl dX1_writePage_41 ?_
    refine lv_iload_n hx hb dX1_writePage_44 rfl (lv_at hl 1 rfl) ?_
    refine va_iald hx hb hK hP 3 0 rfl rfl (vp_in_nI (n := j) (N := 8) (by omega) (by decide)) dX1_writePage_45 ?_
    refine W.eq (g2 := F0 m 46 ls [.int (fa3 j), .int (nI k), .ref ho]) (congrArg (fun y9 => F0 m 46 ls (.int (fa3 y9) :: [.int (nI k), .ref ho])) ((nI_clamp (n := j) (by omega)))) ?_
    have hPc := hP.sub (ws' := [(ho, .inr (5, f_ho)), (o12, .inl (cI, 4, .inl fo12))]) [1, 12] rfl
    refine va_calli (va_runV (As := [.int (nI k), .int (fa3 j)]) (rest := []) ⟨hx, hb, hml, hown, hts⟩ (c_X5_likesNibD l dC dI cI cZ cQ ho o12 f_ho fo12 k (fa3 j) H.size e_ho_12 (by omega)) (cwV 2 hts gX1_writePage_X5_likesNib rfl rfl rfl hd_X5_likesNib_RX5 ⟨Nat.le_of_ble_eq_true rfl, Nat.le_of_ble_eq_true rfl⟩) (pv_R (va_recv hK hP (ci := 5) (q0 := 1) rfl rfl) hK hPc) rfl rfl hl.1 rfl (lv_room (Nat.le_of_ble_eq_true rfl)) dX1_writePage_46 ⟨Nat.le_of_ble_eq_true rfl, Nat.le_of_ble_eq_true rfl⟩) hS (fun q _ h => False.elim h) (fun q h => False.elim h) (fun r12 u13 t H1 locs ht hvm hw14 hB hz1 hk1 hS => ?_)
    have hP := hP.kept (fun k q hk => hk1 q.1 (hP k q hk).lt (fun h => h))
    clear hz1 hk1 hPc
    generalize H1 = H at hP hS ht ⊢
    try dsimp only at hw14
    rcases hw14 with ⟨rfl, hw14⟩ | ⟨rfl, hw14⟩
    ·
      refine lv_if_eq (tgt := 56) hx hb dX1_writePage_49 (by decide) (fun c15 => ?_) (fun c15 => ?_)
      · exact absurd c15 (by decide)
      clear c15
      refine lv_iconst (v := 1) hx hb dX1_writePage_52 (by decide) ?_
      refine lv_goto (tgt := 57) hx hb dX1_writePage_53 (by decide) ?_
      refine lv_istore_n (lv' := [(3, .int 1), (0, .ref h0), (1, .int (nI j)), (2, .int (nI k))]) hx hb dX1_writePage_57 rfl hl (by decide) rfl (fun ls hl => ?_)
      refine lv_aload_n hx hb dX1_writePage_58 rfl (lv_at hl 1 rfl) ?_
      refine va_get (D := (dC, dI)) (ci := 1) (v := .ref a5) (C := RX1) (T := TX1) (N := 8) hx hb hts hi_X1 hown hK hP 0 rfl rfl 5 (by decide) (hts (.fieldLink RX1 28 "LeftQuills$Desk" "pages" "[I") (wmx 4 rfl)) (fun _ h9 => h9) rfl dX1_writePage_59 ?_
      refine lv_iload_n hx hb dX1_writePage_62 rfl (lv_at hl 3 rfl) ?_
      refine lv_dup2_11 hx hb dX1_writePage_63 rfl rfl ?_
      refine va_iald hx hb hK hP 5 0 rfl rfl (vp_in_nI (n := k) (N := 4) (by omega) (by decide)) dX1_writePage_64 ?_
      refine W.eq (g2 := F0 m 65 ls [.int (fa5 k), .int (nI k), .ref a5]) (congrArg (fun y9 => F0 m 65 ls (.int (fa5 y9) :: [.int (nI k), .ref a5])) ((nI_clamp (n := k) (by omega)))) ?_
      refine lv_iconst (v := 1) hx hb dX1_writePage_65 (by decide) ?_
      refine lv_iadd hx hb dX1_writePage_66 ?_
      refine va_iast hx hb hK hP hD hS 5 0 rfl rfl (vp_in_nI (n := k) (N := 4) (by omega) (by decide)) dX1_writePage_67 (fun H locs hP hD hS => ?_)
      have hcl := (nI_clamp (n := k) (by omega))
      rw [hcl] at hP hD
      clear hcl
      have hPD : pdW (dC, dI) vwCl A [(h0, .inr (1, [.int mi, .int cu, .ref a2, .ref a3, .ref a4, .ref a5, .ref a6, .ref ho])), (ho, .inr (5, f_ho)), (a2, .inl (cI, 8, .inl fa2)), (a3, .inl (cI, 8, .inl fa3)), (a4, .inl (cI, 8, .inl (upd fa4 j (sbF (fa4 j) (wrF (fo5 j) (fo6 j) (fo7 j) (fo10 k) (fo11 k)))))), (a5, .inl (cI, 4, .inl (upd fa5 k ((fa5 k) + 1)))), (a6, .inl (cI, 4, .inl fa6)), (o5, .inl (cI, 8, .inl fo5)), (o6, .inl (cI, 8, .inl fo6)), (o7, .inl (cI, 8, .inl fo7)), (o10, .inl (cI, 4, .inl fo10)), (o11, .inl (cI, 4, .inl fo11)), (o12, .inl (cI, 4, .inl fo12))] H := ⟨hP, hD⟩
      have hP := hPD.1
      have hD := hPD.2
      clear hPD
      refine lv_iload_n hx hb dX1_writePage_68 rfl (lv_at hl 0 rfl) ?_
      refine lv_if_eq (tgt := 82) hx hb dX1_writePage_69 (by decide) (fun c17 => ?_) (fun c17 => ?_)
      · exact absurd c17 (by decide)
      clear c17
      refine lv_aload_n hx hb dX1_writePage_72 rfl (lv_at hl 1 rfl) ?_
      refine va_get (D := (dC, dI)) (ci := 1) (v := .ref a6) (C := RX1) (T := TX1) (N := 8) hx hb hts hi_X1 hown hK hP 0 rfl rfl 6 (by decide) (hts (.fieldLink RX1 31 "LeftQuills$Desk" "good" "[I") (wmx 5 rfl)) (fun _ h9 => h9) rfl dX1_writePage_73 ?_
      refine lv_iload_n hx hb dX1_writePage_76 rfl (lv_at hl 3 rfl) ?_
      refine lv_dup2_11 hx hb dX1_writePage_77 rfl rfl ?_
      refine va_iald hx hb hK hP 6 0 rfl rfl (vp_in_nI (n := k) (N := 4) (by omega) (by decide)) dX1_writePage_78 ?_
      refine W.eq (g2 := F0 m 79 ls [.int (fa6 k), .int (nI k), .ref a6]) (congrArg (fun y9 => F0 m 79 ls (.int (fa6 y9) :: [.int (nI k), .ref a6])) ((nI_clamp (n := k) (by omega)))) ?_
      refine lv_iconst (v := 1) hx hb dX1_writePage_79 (by decide) ?_
      refine lv_iadd hx hb dX1_writePage_80 ?_
      refine va_iast hx hb hK hP hD hS 6 0 rfl rfl (vp_in_nI (n := k) (N := 4) (by omega) (by decide)) dX1_writePage_81 (fun H locs hP hD hS => ?_)
      have hcl := (nI_clamp (n := k) (by omega))
      rw [hcl] at hP hD
      clear hcl
      have hPD : pdW (dC, dI) vwCl A [(h0, .inr (1, [.int mi, .int cu, .ref a2, .ref a3, .ref a4, .ref a5, .ref a6, .ref ho])), (ho, .inr (5, f_ho)), (a2, .inl (cI, 8, .inl fa2)), (a3, .inl (cI, 8, .inl fa3)), (a4, .inl (cI, 8, .inl (upd fa4 j (sbF (fa4 j) (wrF (fo5 j) (fo6 j) (fo7 j) (fo10 k) (fo11 k)))))), (a5, .inl (cI, 4, .inl (upd fa5 k ((fa5 k) + 1)))), (a6, .inl (cI, 4, .inl (upd fa6 k ((fa6 k) + 1)))), (o5, .inl (cI, 8, .inl fo5)), (o6, .inl (cI, 8, .inl fo6)), (o7, .inl (cI, 8, .inl fo7)), (o10, .inl (cI, 4, .inl fo10)), (o11, .inl (cI, 4, .inl fo11)), (o12, .inl (cI, 4, .inl fo12))] H := ⟨hP, hD⟩
      have hP := hPD.1
      have hD := hPD.2
      clear hPD
      refine lv_aload_n hx hb dX1_writePage_82 rfl (lv_at hl 1 rfl) ?_
      refine lv_dup hx hb dX1_writePage_83 rfl ?_
      refine va_get (D := (dC, dI)) (ci := 1) (v := .int mi) (C := RX1) (T := TX1) (N := 8) hx hb hts hi_X1 hown hK hP 0 rfl rfl 0 (by decide) (hts (.fieldLink RX1 9 "LeftQuills$Desk" "minutes" "I") (wmx 6 rfl)) (fun _ h9 => h9) rfl dX1_writePage_84 ?_
      refine lv_iconst (v := 2) hx hb dX1_writePage_87 (by decide) ?_
      refine lv_iadd hx hb dX1_writePage_88 ?_
      refine va_put (D := (dC, dI)) (ci := 1) (v := .int (mi + 2)) (ty := .int) (C := RX1) (T := TX1) (N := 8) hx hb hts hi_X1 tyX1 tyX1_ok nmX1 hown hK hP hD hS 0 rfl rfl 0 (by decide) (hts (.fieldLink RX1 9 "LeftQuills$Desk" "minutes" "I") (wmx 6 rfl)) (fun _ h9 => h9) rfl (by decide +kernel) rfl rfl (Nat.le_of_ble_eq_true rfl) dX1_writePage_89 (fun H locs hP hD hS => ?_)
      have hPD : pdW (dC, dI) vwCl A [(h0, .inr (1, [.int (mi + 2), .int cu, .ref a2, .ref a3, .ref a4, .ref a5, .ref a6, .ref ho])), (ho, .inr (5, f_ho)), (a2, .inl (cI, 8, .inl fa2)), (a3, .inl (cI, 8, .inl fa3)), (a4, .inl (cI, 8, .inl (upd fa4 j (sbF (fa4 j) (wrF (fo5 j) (fo6 j) (fo7 j) (fo10 k) (fo11 k)))))), (a5, .inl (cI, 4, .inl (upd fa5 k ((fa5 k) + 1)))), (a6, .inl (cI, 4, .inl (upd fa6 k ((fa6 k) + 1)))), (o5, .inl (cI, 8, .inl fo5)), (o6, .inl (cI, 8, .inl fo6)), (o7, .inl (cI, 8, .inl fo7)), (o10, .inl (cI, 4, .inl fo10)), (o11, .inl (cI, 4, .inl fo11)), (o12, .inl (cI, 4, .inl fo12))] H := ⟨hP, hD⟩
      have hP := hPD.1
      have hD := hPD.2
      clear hPD
      refine lv_iload_n hx hb dX1_writePage_92 rfl (lv_at hl 0 rfl) ?_
      have hP9 := hP.sub (ws' := [(h0, .inr (1, [.int (mi + 2), .int cu, .ref a2, .ref a3, .ref a4, .ref a5, .ref a6, .ref ho])), (ho, .inr (5, f_ho)), (a2, .inl (cI, 8, .inl fa2)), (a3, .inl (cI, 8, .inl fa3)), (a4, .inl (cI, 8, .inl (upd fa4 j (sbF (fa4 j) (wrF (fo5 j) (fo6 j) (fo7 j) (fo10 k) (fo11 k)))))), (a5, .inl (cI, 4, .inl (upd fa5 k ((fa5 k) + 1)))), (a6, .inl (cI, 4, .inl (upd fa6 k ((fa6 k) + 1)))), (o5, .inl (cI, 8, .inl fo5)), (o6, .inl (cI, 8, .inl fo6)), (o7, .inl (cI, 8, .inl fo7)), (o10, .inl (cI, 4, .inl fo10)), (o11, .inl (cI, 4, .inl fo11)), (o12, .inl (cI, 4, .inl fo12))]) [0, 1, 2, 3, 4, 5, 6, 7, 8, 9, 10, 11, 12] rfl
      have hD9 := hD.sub (ws' := [(h0, .inr (1, [.int (mi + 2), .int cu, .ref a2, .ref a3, .ref a4, .ref a5, .ref a6, .ref ho])), (ho, .inr (5, f_ho)), (a2, .inl (cI, 8, .inl fa2)), (a3, .inl (cI, 8, .inl fa3)), (a4, .inl (cI, 8, .inl (upd fa4 j (sbF (fa4 j) (wrF (fo5 j) (fo6 j) (fo7 j) (fo10 k) (fo11 k)))))), (a5, .inl (cI, 4, .inl (upd fa5 k ((fa5 k) + 1)))), (a6, .inl (cI, 4, .inl (upd fa6 k ((fa6 k) + 1)))), (o5, .inl (cI, 8, .inl fo5)), (o6, .inl (cI, 8, .inl fo6)), (o7, .inl (cI, 8, .inl fo7)), (o10, .inl (cI, 4, .inl fo10)), (o11, .inl (cI, 4, .inl fo11)), (o12, .inl (cI, 4, .inl fo12))]) [0, 1, 2, 3, 4, 5, 6, 7, 8, 9, 10, 11, 12] (by decide +kernel) rfl
      exact W.zret (v := 1) hx hb hr (rfl) (fun t ht hW => ⟨⟨1, (fun _ => 0), rfl, (pg_1 hj hk ⟨fa_nlt c9, hw14⟩).1, ⟨(upd fa4 j (sbF (fa4 j) (wrF (fo5 j) (fo6 j) (fo7 j) (fo10 k) (fo11 k)))), (upd fa5 k ((fa5 k) + 1)), (upd fa6 k ((fa6 k) + 1)), (mi + 2), (pg_1 hj hk ⟨fa_nlt c9, hw14⟩).2, va_hq ht hP9, hD9⟩⟩, hS.F ht⟩) hS.2.2 dX1_writePage_93
    ·
      refine lv_if_eq (tgt := 56) hx hb dX1_writePage_49 (by decide) (fun c19 => ?_) (fun c19 => ?_)
      rotate_left
      · exact absurd c19 (by decide)
      clear c19
      refine lv_iconst (v := 0) hx hb dX1_writePage_56 (by decide) ?_
      refine lv_istore_n (lv' := [(3, .int 0), (0, .ref h0), (1, .int (nI j)), (2, .int (nI k))]) hx hb dX1_writePage_57 rfl hl (by decide) rfl (fun ls hl => ?_)
      refine lv_aload_n hx hb dX1_writePage_58 rfl (lv_at hl 1 rfl) ?_
      refine va_get (D := (dC, dI)) (ci := 1) (v := .ref a5) (C := RX1) (T := TX1) (N := 8) hx hb hts hi_X1 hown hK hP 0 rfl rfl 5 (by decide) (hts (.fieldLink RX1 28 "LeftQuills$Desk" "pages" "[I") (wmx 4 rfl)) (fun _ h9 => h9) rfl dX1_writePage_59 ?_
      refine lv_iload_n hx hb dX1_writePage_62 rfl (lv_at hl 3 rfl) ?_
      refine lv_dup2_11 hx hb dX1_writePage_63 rfl rfl ?_
      refine va_iald hx hb hK hP 5 0 rfl rfl (vp_in_nI (n := k) (N := 4) (by omega) (by decide)) dX1_writePage_64 ?_
      refine W.eq (g2 := F0 m 65 ls [.int (fa5 k), .int (nI k), .ref a5]) (congrArg (fun y9 => F0 m 65 ls (.int (fa5 y9) :: [.int (nI k), .ref a5])) ((nI_clamp (n := k) (by omega)))) ?_
      refine lv_iconst (v := 1) hx hb dX1_writePage_65 (by decide) ?_
      refine lv_iadd hx hb dX1_writePage_66 ?_
      refine va_iast hx hb hK hP hD hS 5 0 rfl rfl (vp_in_nI (n := k) (N := 4) (by omega) (by decide)) dX1_writePage_67 (fun H locs hP hD hS => ?_)
      have hcl := (nI_clamp (n := k) (by omega))
      rw [hcl] at hP hD
      clear hcl
      have hPD : pdW (dC, dI) vwCl A [(h0, .inr (1, [.int mi, .int cu, .ref a2, .ref a3, .ref a4, .ref a5, .ref a6, .ref ho])), (ho, .inr (5, f_ho)), (a2, .inl (cI, 8, .inl fa2)), (a3, .inl (cI, 8, .inl fa3)), (a4, .inl (cI, 8, .inl (upd fa4 j (sbF (fa4 j) (wrF (fo5 j) (fo6 j) (fo7 j) (fo10 k) (fo11 k)))))), (a5, .inl (cI, 4, .inl (upd fa5 k ((fa5 k) + 1)))), (a6, .inl (cI, 4, .inl fa6)), (o5, .inl (cI, 8, .inl fo5)), (o6, .inl (cI, 8, .inl fo6)), (o7, .inl (cI, 8, .inl fo7)), (o10, .inl (cI, 4, .inl fo10)), (o11, .inl (cI, 4, .inl fo11)), (o12, .inl (cI, 4, .inl fo12))] H := ⟨hP, hD⟩
      have hP := hPD.1
      have hD := hPD.2
      clear hPD
      refine lv_iload_n hx hb dX1_writePage_68 rfl (lv_at hl 0 rfl) ?_
      refine lv_if_eq (tgt := 82) hx hb dX1_writePage_69 (by decide) (fun c21 => ?_) (fun c21 => ?_)
      rotate_left
      · exact absurd c21 (by decide)
      clear c21
      refine lv_aload_n hx hb dX1_writePage_82 rfl (lv_at hl 1 rfl) ?_
      refine lv_dup hx hb dX1_writePage_83 rfl ?_
      refine va_get (D := (dC, dI)) (ci := 1) (v := .int mi) (C := RX1) (T := TX1) (N := 8) hx hb hts hi_X1 hown hK hP 0 rfl rfl 0 (by decide) (hts (.fieldLink RX1 9 "LeftQuills$Desk" "minutes" "I") (wmx 6 rfl)) (fun _ h9 => h9) rfl dX1_writePage_84 ?_
      refine lv_iconst (v := 2) hx hb dX1_writePage_87 (by decide) ?_
      refine lv_iadd hx hb dX1_writePage_88 ?_
      refine va_put (D := (dC, dI)) (ci := 1) (v := .int (mi + 2)) (ty := .int) (C := RX1) (T := TX1) (N := 8) hx hb hts hi_X1 tyX1 tyX1_ok nmX1 hown hK hP hD hS 0 rfl rfl 0 (by decide) (hts (.fieldLink RX1 9 "LeftQuills$Desk" "minutes" "I") (wmx 6 rfl)) (fun _ h9 => h9) rfl (by decide +kernel) rfl rfl (Nat.le_of_ble_eq_true rfl) dX1_writePage_89 (fun H locs hP hD hS => ?_)
      have hPD : pdW (dC, dI) vwCl A [(h0, .inr (1, [.int (mi + 2), .int cu, .ref a2, .ref a3, .ref a4, .ref a5, .ref a6, .ref ho])), (ho, .inr (5, f_ho)), (a2, .inl (cI, 8, .inl fa2)), (a3, .inl (cI, 8, .inl fa3)), (a4, .inl (cI, 8, .inl (upd fa4 j (sbF (fa4 j) (wrF (fo5 j) (fo6 j) (fo7 j) (fo10 k) (fo11 k)))))), (a5, .inl (cI, 4, .inl (upd fa5 k ((fa5 k) + 1)))), (a6, .inl (cI, 4, .inl fa6)), (o5, .inl (cI, 8, .inl fo5)), (o6, .inl (cI, 8, .inl fo6)), (o7, .inl (cI, 8, .inl fo7)), (o10, .inl (cI, 4, .inl fo10)), (o11, .inl (cI, 4, .inl fo11)), (o12, .inl (cI, 4, .inl fo12))] H := ⟨hP, hD⟩
      have hP := hPD.1
      have hD := hPD.2
      clear hPD
      refine lv_iload_n hx hb dX1_writePage_92 rfl (lv_at hl 0 rfl) ?_
      have hP9 := hP.sub (ws' := [(h0, .inr (1, [.int (mi + 2), .int cu, .ref a2, .ref a3, .ref a4, .ref a5, .ref a6, .ref ho])), (ho, .inr (5, f_ho)), (a2, .inl (cI, 8, .inl fa2)), (a3, .inl (cI, 8, .inl fa3)), (a4, .inl (cI, 8, .inl (upd fa4 j (sbF (fa4 j) (wrF (fo5 j) (fo6 j) (fo7 j) (fo10 k) (fo11 k)))))), (a5, .inl (cI, 4, .inl (upd fa5 k ((fa5 k) + 1)))), (a6, .inl (cI, 4, .inl fa6)), (o5, .inl (cI, 8, .inl fo5)), (o6, .inl (cI, 8, .inl fo6)), (o7, .inl (cI, 8, .inl fo7)), (o10, .inl (cI, 4, .inl fo10)), (o11, .inl (cI, 4, .inl fo11)), (o12, .inl (cI, 4, .inl fo12))]) [0, 1, 2, 3, 4, 5, 6, 7, 8, 9, 10, 11, 12] rfl
      have hD9 := hD.sub (ws' := [(h0, .inr (1, [.int (mi + 2), .int cu, .ref a2, .ref a3, .ref a4, .ref a5, .ref a6, .ref ho])), (ho, .inr (5, f_ho)), (a2, .inl (cI, 8, .inl fa2)), (a3, .inl (cI, 8, .inl fa3)), (a4, .inl (cI, 8, .inl (upd fa4 j (sbF (fa4 j) (wrF (fo5 j) (fo6 j) (fo7 j) (fo10 k) (fo11 k)))))), (a5, .inl (cI, 4, .inl (upd fa5 k ((fa5 k) + 1)))), (a6, .inl (cI, 4, .inl fa6)), (o5, .inl (cI, 8, .inl fo5)), (o6, .inl (cI, 8, .inl fo6)), (o7, .inl (cI, 8, .inl fo7)), (o10, .inl (cI, 4, .inl fo10)), (o11, .inl (cI, 4, .inl fo11)), (o12, .inl (cI, 4, .inl fo12))]) [0, 1, 2, 3, 4, 5, 6, 7, 8, 9, 10, 11, 12] (by decide +kernel) rfl
      exact W.zret (v := 0) hx hb hr (rfl) (fun t ht hW => ⟨⟨0, (fun _ => 0), rfl, (pg_0 hj hk (fun h9 => hw14 h9.2)).1, ⟨(upd fa4 j (sbF (fa4 j) (wrF (fo5 j) (fo6 j) (fo7 j) (fo10 k) (fo11 k)))), (upd fa5 k ((fa5 k) + 1)), fa6, (mi + 2), (pg_0 hj hk (fun h9 => hw14 h9.2)).2, va_hq ht hP9, hD9⟩⟩, hS.F ht⟩) hS.2.2 dX1_writePage_93
set_option maxHeartbeats 4000000 in
set_option maxRecDepth 100000 in
theorem c_X1_copyFromD (l : Launch) (dC : Nat → ClassId) (dI : Nat → Nat → Nat) (cI cZ cQ : ClassId) (h0 : Nat) (mia : Int32) (cua : Int32) (a2 : Nat) (a3 : Nat) (a4 : Nat) (a5 : Nat) (a6 : Nat) (ho : Nat) (fa2 : Nat → Int32) (fa3 : Nat → Int32) (fa4 : Nat → Int32) (fa5 : Nat → Int32) (fa6 : Nat → Int32) (hq : Nat) (mib : Int32) (cub : Int32) (b2 : Nat) (b3 : Nat) (b4 : Nat) (b5 : Nat) (b6 : Nat) (hp : Nat) (fb2 : Nat → Int32) (fb3 : Nat → Int32) (fb4 : Nat → Int32) (fb5 : Nat → Int32) (fb6 : Nat → Int32) (sz : Nat)  : Met l yX1_copyFrom wsX1_copyFrom ({ frames := 1, cells := 0, slots := 0, locals := 40 }) (va_Pc [.ref h0, .ref hq] (fun U => U.heap.size = sz ∧ va_P (dC, dI) vwCl [(h0, .inr (1, [.int mia, .int cua, .ref a2, .ref a3, .ref a4, .ref a5, .ref a6, .ref ho])), (a2, .inl (cI, 8, .inl fa2)), (a3, .inl (cI, 8, .inl fa3)), (a4, .inl (cI, 8, .inl fa4)), (a5, .inl (cI, 4, .inl fa5)), (a6, .inl (cI, 4, .inl fa6)), (hq, .inr (1, [.int mib, .int cub, .ref b2, .ref b3, .ref b4, .ref b5, .ref b6, .ref hp])), (b2, .inl (cI, 8, .inl fb2)), (b3, .inl (cI, 8, .inl fb3)), (b4, .inl (cI, 8, .inl fb4)), (b5, .inl (cI, 4, .inl fb5)), (b6, .inl (cI, 4, .inl fb6))] U.heap ∧ va_K (dC, dI) vwCl (tys0 cI cZ cQ) U ∧ va_D (fun _ => True) [(h0, .inr (1, [.int mia, .int cua, .ref a2, .ref a3, .ref a4, .ref a5, .ref a6, .ref ho])), (a2, .inl (cI, 8, .inl fa2)), (a3, .inl (cI, 8, .inl fa3)), (a4, .inl (cI, 8, .inl fa4)), (a5, .inl (cI, 4, .inl fa5)), (a6, .inl (cI, 4, .inl fa6)), (hq, .inr (1, [.int mib, .int cub, .ref b2, .ref b3, .ref b4, .ref b5, .ref b6, .ref hp])), (b2, .inl (cI, 8, .inl fb2)), (b3, .inl (cI, 8, .inl fb3)), (b4, .inl (cI, 8, .inl fb4)), (b5, .inl (cI, 4, .inl fb5)), (b6, .inl (cI, 4, .inl fb6))])) (va_Qv (fun (u : Nat → Nat) => True) (fun (_ : Nat → Nat) (t : State) => ∃ (gg0 gg1 gg2 gg3 gg4 : Nat → Int32) (ii0 ii1 : Int32) , (∀ i, i < 34 → dk ii0 ii1 gg0 gg1 gg2 gg3 gg4 i = dk mib cub fb2 fb3 fb4 fb5 fb6 i) ∧ va_P (dC, dI) vwCl [(h0, .inr (1, [.int ii0, .int ii1, .ref a2, .ref a3, .ref a4, .ref a5, .ref a6, .ref ho])), (a2, .inl (cI, 8, .inl gg0)), (a3, .inl (cI, 8, .inl gg1)), (a4, .inl (cI, 8, .inl gg2)), (a5, .inl (cI, 4, .inl gg3)), (a6, .inl (cI, 4, .inl gg4)), (hq, .inr (1, [.int mib, .int cub, .ref b2, .ref b3, .ref b4, .ref b5, .ref b6, .ref hp])), (b2, .inl (cI, 8, .inl fb2)), (b3, .inl (cI, 8, .inl fb3)), (b4, .inl (cI, 8, .inl fb4)), (b5, .inl (cI, 4, .inl fb5)), (b6, .inl (cI, 4, .inl fb6))] t.heap ∧ va_D (va_A [(h0, .inr (1, [.int mia, .int cua, .ref a2, .ref a3, .ref a4, .ref a5, .ref a6, .ref ho])), (a2, .inl (cI, 8, .inl fa2)), (a3, .inl (cI, 8, .inl fa3)), (a4, .inl (cI, 8, .inl fa4)), (a5, .inl (cI, 4, .inl fa5)), (a6, .inl (cI, 4, .inl fa6)), (hq, .inr (1, [.int mib, .int cub, .ref b2, .ref b3, .ref b4, .ref b5, .ref b6, .ref hp])), (b2, .inl (cI, 8, .inl fb2)), (b3, .inl (cI, 8, .inl fb3)), (b4, .inl (cI, 8, .inl fb4)), (b5, .inl (cI, 4, .inl fb5)), (b6, .inl (cI, 4, .inl fb6))] sz) [(h0, .inr (1, [.int ii0, .int ii1, .ref a2, .ref a3, .ref a4, .ref a5, .ref a6, .ref ho])), (a2, .inl (cI, 8, .inl gg0)), (a3, .inl (cI, 8, .inl gg1)), (a4, .inl (cI, 8, .inl gg2)), (a5, .inl (cI, 4, .inl gg3)), (a6, .inl (cI, 4, .inl gg4)), (hq, .inr (1, [.int mib, .int cub, .ref b2, .ref b3, .ref b4, .ref b5, .ref b6, .ref hp])), (b2, .inl (cI, 8, .inl fb2)), (b3, .inl (cI, 8, .inl fb3)), (b4, .inl (cI, 8, .inl fb4)), (b5, .inl (cI, 4, .inl fb5)), (b6, .inl (cI, 4, .inl fb6))]) (va_A [(h0, .inr (1, [.int mia, .int cua, .ref a2, .ref a3, .ref a4, .ref a5, .ref a6, .ref ho])), (a2, .inl (cI, 8, .inl fa2)), (a3, .inl (cI, 8, .inl fa3)), (a4, .inl (cI, 8, .inl fa4)), (a5, .inl (cI, 4, .inl fa5)), (a6, .inl (cI, 4, .inl fa6)), (hq, .inr (1, [.int mib, .int cub, .ref b2, .ref b3, .ref b4, .ref b5, .ref b6, .ref hp])), (b2, .inl (cI, 8, .inl fb2)), (b3, .inl (cI, 8, .inl fb3)), (b4, .inl (cI, 8, .inl fb4)), (b5, .inl (cI, 4, .inl fb5)), (b6, .inl (cI, 4, .inl fb6))] sz)) 0 0 (va_A [(h0, .inr (1, [.int mia, .int cua, .ref a2, .ref a3, .ref a4, .ref a5, .ref a6, .ref ho])), (a2, .inl (cI, 8, .inl fa2)), (a3, .inl (cI, 8, .inl fa3)), (a4, .inl (cI, 8, .inl fa4)), (a5, .inl (cI, 4, .inl fa5)), (a6, .inl (cI, 4, .inl fa6)), (hq, .inr (1, [.int mib, .int cub, .ref b2, .ref b3, .ref b4, .ref b5, .ref b6, .ref hp])), (b2, .inl (cI, 8, .inl fb2)), (b3, .inl (cI, 8, .inl fb3)), (b4, .inl (cI, 8, .inl fb4)), (b5, .inl (cI, 4, .inl fb5)), (b6, .inl (cI, 4, .inl fb6))] sz) := by
  refine Met.ofW (cc := cX1_copyFrom) (maxL := 2) (ret := none) (by decide) rfl ?_
  intro p e s m args below meth c s₁ B hml hv
  obtain ⟨rfl, hsz, hP, hK, hD0⟩ := hv
  have hx := B.exec
  have hb := B.bytes
  have hr := B.returns
  have hts := atoms_spec (ws := wsX1_copyFrom) B.pre
  have hown : s.vm.findClass RX1 = some m.cls := findClass_of_methodNamed B.named
  have hlocks := B.notSynchronized
  have hi_X1 : ∀ w ∈ u_ws RX1 TX1 8, w ∈ wsX1_copyFrom := fun _ h => List.mem_cons_of_mem _ (List.mem_append_right _ (h))
  subst hsz
  have hD := hD0.self (sz := s.heap.size)
  generalize hAe : va_A [(h0, .inr (1, [.int mia, .int cua, .ref a2, .ref a3, .ref a4, .ref a5, .ref a6, .ref ho])), (a2, .inl (cI, 8, .inl fa2)), (a3, .inl (cI, 8, .inl fa3)), (a4, .inl (cI, 8, .inl fa4)), (a5, .inl (cI, 4, .inl fa5)), (a6, .inl (cI, 4, .inl fa6)), (hq, .inr (1, [.int mib, .int cub, .ref b2, .ref b3, .ref b4, .ref b5, .ref b6, .ref hp])), (b2, .inl (cI, 8, .inl fb2)), (b3, .inl (cI, 8, .inl fb3)), (b4, .inl (cI, 8, .inl fb4)), (b5, .inl (cI, 4, .inl fb5)), (b6, .inl (cI, 4, .inl fb6))] s.heap.size = A at hD ⊢
  have hA : ∀ q : Nat, s.heap.size ≤ q → A q := fun q h => by rw [← hAe]; exact Or.inr h
  have hS : va_S A s.heap s.heap [] := va_S.rf
  have hl := lv_entry ([.ref h0, .ref hq]) (n := 2) (Nat.le_of_ble_eq_true rfl)
  rw [lg_entry_eq]
  generalize (lg_sl ([.ref h0, .ref hq]) ++ List.replicate (2 - (lg_sl ([.ref h0, .ref hq])).length) Slot.unset).toArray = ls at hl ⊢
  have hl : lv_has ls 2 [(0, .ref h0), (1, .ref hq)] := hl
  refine lv_aload_n hx hb dX1_copyFrom_0 rfl (lv_at hl 0 rfl) ?_
  refine lv_aload_n hx hb dX1_copyFrom_1 rfl (lv_at hl 1 rfl) ?_
  refine va_get (D := (dC, dI)) (ci := 1) (v := .int mib) (C := RX1) (T := TX1) (N := 8) hx hb hts hi_X1 hown hK hP 6 rfl rfl 0 (by decide) (hts (.fieldLink RX1 9 "LeftQuills$Desk" "minutes" "I") (wmx 1 rfl)) (fun _ h9 => h9) rfl dX1_copyFrom_2 ?_
  refine va_put (D := (dC, dI)) (ci := 1) (v := .int mib) (ty := .int) (C := RX1) (T := TX1) (N := 8) hx hb hts hi_X1 tyX1 tyX1_ok nmX1 hown hK hP hD hS 0 rfl rfl 0 (by decide) (hts (.fieldLink RX1 9 "LeftQuills$Desk" "minutes" "I") (wmx 1 rfl)) (fun _ h9 => h9) rfl (by decide +kernel) rfl rfl (Nat.le_of_ble_eq_true rfl) dX1_copyFrom_5 (fun H locs hP hD hS => ?_)
  have hPD : pdW (dC, dI) vwCl A [(h0, .inr (1, [.int mib, .int cua, .ref a2, .ref a3, .ref a4, .ref a5, .ref a6, .ref ho])), (a2, .inl (cI, 8, .inl fa2)), (a3, .inl (cI, 8, .inl fa3)), (a4, .inl (cI, 8, .inl fa4)), (a5, .inl (cI, 4, .inl fa5)), (a6, .inl (cI, 4, .inl fa6)), (hq, .inr (1, [.int mib, .int cub, .ref b2, .ref b3, .ref b4, .ref b5, .ref b6, .ref hp])), (b2, .inl (cI, 8, .inl fb2)), (b3, .inl (cI, 8, .inl fb3)), (b4, .inl (cI, 8, .inl fb4)), (b5, .inl (cI, 4, .inl fb5)), (b6, .inl (cI, 4, .inl fb6))] H := ⟨hP, hD⟩
  have hP := hPD.1
  have hD := hPD.2
  clear hPD
  refine lv_aload_n hx hb dX1_copyFrom_8 rfl (lv_at hl 0 rfl) ?_
  refine lv_aload_n hx hb dX1_copyFrom_9 rfl (lv_at hl 1 rfl) ?_
  refine va_get (D := (dC, dI)) (ci := 1) (v := .int cub) (C := RX1) (T := TX1) (N := 8) hx hb hts hi_X1 hown hK hP 6 rfl rfl 1 (by decide) (hts (.fieldLink RX1 15 "LeftQuills$Desk" "cuts" "I") (wmx 2 rfl)) (fun _ h9 => h9) rfl dX1_copyFrom_10 ?_
  refine va_put (D := (dC, dI)) (ci := 1) (v := .int cub) (ty := .int) (C := RX1) (T := TX1) (N := 8) hx hb hts hi_X1 tyX1 tyX1_ok nmX1 hown hK hP hD hS 0 rfl rfl 1 (by decide) (hts (.fieldLink RX1 15 "LeftQuills$Desk" "cuts" "I") (wmx 2 rfl)) (fun _ h9 => h9) rfl (by decide +kernel) rfl rfl (Nat.le_of_ble_eq_true rfl) dX1_copyFrom_13 (fun H locs hP hD hS => ?_)
  have hPD : pdW (dC, dI) vwCl A [(h0, .inr (1, [.int mib, .int cub, .ref a2, .ref a3, .ref a4, .ref a5, .ref a6, .ref ho])), (a2, .inl (cI, 8, .inl fa2)), (a3, .inl (cI, 8, .inl fa3)), (a4, .inl (cI, 8, .inl fa4)), (a5, .inl (cI, 4, .inl fa5)), (a6, .inl (cI, 4, .inl fa6)), (hq, .inr (1, [.int mib, .int cub, .ref b2, .ref b3, .ref b4, .ref b5, .ref b6, .ref hp])), (b2, .inl (cI, 8, .inl fb2)), (b3, .inl (cI, 8, .inl fb3)), (b4, .inl (cI, 8, .inl fb4)), (b5, .inl (cI, 4, .inl fb5)), (b6, .inl (cI, 4, .inl fb6))] H := ⟨hP, hD⟩
  have hP := hPD.1
  have hD := hPD.2
  clear hPD
  refine lv_aload_n hx hb dX1_copyFrom_16 rfl (lv_at hl 1 rfl) ?_
  refine va_get (D := (dC, dI)) (ci := 1) (v := .ref b2) (C := RX1) (T := TX1) (N := 8) hx hb hts hi_X1 hown hK hP 6 rfl rfl 2 (by decide) (hts (.fieldLink RX1 18 "LeftQuills$Desk" "length" "[I") (wmx 3 rfl)) (fun _ h9 => h9) rfl dX1_copyFrom_17 ?_
  refine lv_iconst (v := 0) hx hb dX1_copyFrom_20 (by decide) ?_
  refine lv_aload_n hx hb dX1_copyFrom_21 rfl (lv_at hl 0 rfl) ?_
  refine va_get (D := (dC, dI)) (ci := 1) (v := .ref a2) (C := RX1) (T := TX1) (N := 8) hx hb hts hi_X1 hown hK hP 0 rfl rfl 2 (by decide) (hts (.fieldLink RX1 18 "LeftQuills$Desk" "length" "[I") (wmx 3 rfl)) (fun _ h9 => h9) rfl dX1_copyFrom_22 ?_
  refine lv_iconst (v := 0) hx hb dX1_copyFrom_25 (by decide) ?_
  refine lv_bipush (v := 8) hx hb dX1_copyFrom_26 (by decide) ?_
  refine va_copyi hx hb (hml.trans hl.1.symm) hown (hts (.methodLink RX1 46 arraycopyName) (wmx 4 rfl)) (hts (.native arraycopyName) (wmx 5 rfl)) (hts (.static arraycopyName) (wmx 6 rfl)) (hts (.initialized "java/lang/System") (wmx 7 rfl)) hK hP hD hS 7 1 0 0 rfl rfl rfl rfl rfl (by decide) (by decide) (by decide) (by decide) (by decide) (fun _ _ => rfl) (Nat.le_of_ble_eq_true rfl) (Nat.le_of_ble_eq_true rfl) dX1_copyFrom_28 (fun H locs hP hD hS => ?_)
  generalize hgf1 : va_cpy _ _ _ _ _ = f1 at hP hD
  have hPD : pdW (dC, dI) vwCl A [(h0, .inr (1, [.int mib, .int cub, .ref a2, .ref a3, .ref a4, .ref a5, .ref a6, .ref ho])), (a2, .inl (cI, 8, .inl f1)), (a3, .inl (cI, 8, .inl fa3)), (a4, .inl (cI, 8, .inl fa4)), (a5, .inl (cI, 4, .inl fa5)), (a6, .inl (cI, 4, .inl fa6)), (hq, .inr (1, [.int mib, .int cub, .ref b2, .ref b3, .ref b4, .ref b5, .ref b6, .ref hp])), (b2, .inl (cI, 8, .inl fb2)), (b3, .inl (cI, 8, .inl fb3)), (b4, .inl (cI, 8, .inl fb4)), (b5, .inl (cI, 4, .inl fb5)), (b6, .inl (cI, 4, .inl fb6))] H := ⟨hP, hD⟩
  have hP := hPD.1
  have hD := hPD.2
  clear hPD
  refine lv_aload_n hx hb dX1_copyFrom_31 rfl (lv_at hl 1 rfl) ?_
  refine va_get (D := (dC, dI)) (ci := 1) (v := .ref b3) (C := RX1) (T := TX1) (N := 8) hx hb hts hi_X1 hown hK hP 6 rfl rfl 3 (by decide) (hts (.fieldLink RX1 22 "LeftQuills$Desk" "nib" "[I") (wmx 8 rfl)) (fun _ h9 => h9) rfl dX1_copyFrom_32 ?_
  refine lv_iconst (v := 0) hx hb dX1_copyFrom_35 (by decide) ?_
  refine lv_aload_n hx hb dX1_copyFrom_36 rfl (lv_at hl 0 rfl) ?_
  refine va_get (D := (dC, dI)) (ci := 1) (v := .ref a3) (C := RX1) (T := TX1) (N := 8) hx hb hts hi_X1 hown hK hP 0 rfl rfl 3 (by decide) (hts (.fieldLink RX1 22 "LeftQuills$Desk" "nib" "[I") (wmx 8 rfl)) (fun _ h9 => h9) rfl dX1_copyFrom_37 ?_
  refine lv_iconst (v := 0) hx hb dX1_copyFrom_40 (by decide) ?_
  refine lv_bipush (v := 8) hx hb dX1_copyFrom_41 (by decide) ?_
  refine va_copyi hx hb (hml.trans hl.1.symm) hown (hts (.methodLink RX1 46 arraycopyName) (wmx 4 rfl)) (hts (.native arraycopyName) (wmx 5 rfl)) (hts (.static arraycopyName) (wmx 6 rfl)) (hts (.initialized "java/lang/System") (wmx 7 rfl)) hK hP hD hS 8 2 0 0 rfl rfl rfl rfl rfl (by decide) (by decide) (by decide) (by decide) (by decide) (fun _ _ => rfl) (Nat.le_of_ble_eq_true rfl) (Nat.le_of_ble_eq_true rfl) dX1_copyFrom_43 (fun H locs hP hD hS => ?_)
  generalize hgf2 : va_cpy _ _ _ _ _ = f2 at hP hD
  have hPD : pdW (dC, dI) vwCl A [(h0, .inr (1, [.int mib, .int cub, .ref a2, .ref a3, .ref a4, .ref a5, .ref a6, .ref ho])), (a2, .inl (cI, 8, .inl f1)), (a3, .inl (cI, 8, .inl f2)), (a4, .inl (cI, 8, .inl fa4)), (a5, .inl (cI, 4, .inl fa5)), (a6, .inl (cI, 4, .inl fa6)), (hq, .inr (1, [.int mib, .int cub, .ref b2, .ref b3, .ref b4, .ref b5, .ref b6, .ref hp])), (b2, .inl (cI, 8, .inl fb2)), (b3, .inl (cI, 8, .inl fb3)), (b4, .inl (cI, 8, .inl fb4)), (b5, .inl (cI, 4, .inl fb5)), (b6, .inl (cI, 4, .inl fb6))] H := ⟨hP, hD⟩
  have hP := hPD.1
  have hD := hPD.2
  clear hPD
  refine lv_aload_n hx hb dX1_copyFrom_46 rfl (lv_at hl 1 rfl) ?_
  refine va_get (D := (dC, dI)) (ci := 1) (v := .ref b4) (C := RX1) (T := TX1) (N := 8) hx hb hts hi_X1 hown hK hP 6 rfl rfl 4 (by decide) (hts (.fieldLink RX1 25 "LeftQuills$Desk" "softness" "[I") (wmx 9 rfl)) (fun _ h9 => h9) rfl dX1_copyFrom_47 ?_
  refine lv_iconst (v := 0) hx hb dX1_copyFrom_50 (by decide) ?_
  refine lv_aload_n hx hb dX1_copyFrom_51 rfl (lv_at hl 0 rfl) ?_
  refine va_get (D := (dC, dI)) (ci := 1) (v := .ref a4) (C := RX1) (T := TX1) (N := 8) hx hb hts hi_X1 hown hK hP 0 rfl rfl 4 (by decide) (hts (.fieldLink RX1 25 "LeftQuills$Desk" "softness" "[I") (wmx 9 rfl)) (fun _ h9 => h9) rfl dX1_copyFrom_52 ?_
  refine lv_iconst (v := 0) hx hb dX1_copyFrom_55 (by decide) ?_
  refine lv_bipush (v := 8) hx hb dX1_copyFrom_56 (by decide) ?_
  refine va_copyi hx hb (hml.trans hl.1.symm) hown (hts (.methodLink RX1 46 arraycopyName) (wmx 4 rfl)) (hts (.native arraycopyName) (wmx 5 rfl)) (hts (.static arraycopyName) (wmx 6 rfl)) (hts (.initialized "java/lang/System") (wmx 7 rfl)) hK hP hD hS 9 3 0 0 rfl rfl rfl rfl rfl (by decide) (by decide) (by decide) (by decide) (by decide) (fun _ _ => rfl) (Nat.le_of_ble_eq_true rfl) (Nat.le_of_ble_eq_true rfl) dX1_copyFrom_58 (fun H locs hP hD hS => ?_)
  generalize hgf3 : va_cpy _ _ _ _ _ = f3 at hP hD
  have hPD : pdW (dC, dI) vwCl A [(h0, .inr (1, [.int mib, .int cub, .ref a2, .ref a3, .ref a4, .ref a5, .ref a6, .ref ho])), (a2, .inl (cI, 8, .inl f1)), (a3, .inl (cI, 8, .inl f2)), (a4, .inl (cI, 8, .inl f3)), (a5, .inl (cI, 4, .inl fa5)), (a6, .inl (cI, 4, .inl fa6)), (hq, .inr (1, [.int mib, .int cub, .ref b2, .ref b3, .ref b4, .ref b5, .ref b6, .ref hp])), (b2, .inl (cI, 8, .inl fb2)), (b3, .inl (cI, 8, .inl fb3)), (b4, .inl (cI, 8, .inl fb4)), (b5, .inl (cI, 4, .inl fb5)), (b6, .inl (cI, 4, .inl fb6))] H := ⟨hP, hD⟩
  have hP := hPD.1
  have hD := hPD.2
  clear hPD
  refine lv_aload_n hx hb dX1_copyFrom_61 rfl (lv_at hl 1 rfl) ?_
  refine va_get (D := (dC, dI)) (ci := 1) (v := .ref b5) (C := RX1) (T := TX1) (N := 8) hx hb hts hi_X1 hown hK hP 6 rfl rfl 5 (by decide) (hts (.fieldLink RX1 28 "LeftQuills$Desk" "pages" "[I") (wmx 10 rfl)) (fun _ h9 => h9) rfl dX1_copyFrom_62 ?_
  refine lv_iconst (v := 0) hx hb dX1_copyFrom_65 (by decide) ?_
  refine lv_aload_n hx hb dX1_copyFrom_66 rfl (lv_at hl 0 rfl) ?_
  refine va_get (D := (dC, dI)) (ci := 1) (v := .ref a5) (C := RX1) (T := TX1) (N := 8) hx hb hts hi_X1 hown hK hP 0 rfl rfl 5 (by decide) (hts (.fieldLink RX1 28 "LeftQuills$Desk" "pages" "[I") (wmx 10 rfl)) (fun _ h9 => h9) rfl dX1_copyFrom_67 ?_
  refine lv_iconst (v := 0) hx hb dX1_copyFrom_70 (by decide) ?_
  refine lv_iconst (v := 4) hx hb dX1_copyFrom_71 (by decide) ?_
  refine va_copyi hx hb (hml.trans hl.1.symm) hown (hts (.methodLink RX1 46 arraycopyName) (wmx 4 rfl)) (hts (.native arraycopyName) (wmx 5 rfl)) (hts (.static arraycopyName) (wmx 6 rfl)) (hts (.initialized "java/lang/System") (wmx 7 rfl)) hK hP hD hS 10 4 0 0 rfl rfl rfl rfl rfl (by decide) (by decide) (by decide) (by decide) (by decide) (fun _ _ => rfl) (Nat.le_of_ble_eq_true rfl) (Nat.le_of_ble_eq_true rfl) dX1_copyFrom_72 (fun H locs hP hD hS => ?_)
  generalize hgf4 : va_cpy _ _ _ _ _ = f4 at hP hD
  have hPD : pdW (dC, dI) vwCl A [(h0, .inr (1, [.int mib, .int cub, .ref a2, .ref a3, .ref a4, .ref a5, .ref a6, .ref ho])), (a2, .inl (cI, 8, .inl f1)), (a3, .inl (cI, 8, .inl f2)), (a4, .inl (cI, 8, .inl f3)), (a5, .inl (cI, 4, .inl f4)), (a6, .inl (cI, 4, .inl fa6)), (hq, .inr (1, [.int mib, .int cub, .ref b2, .ref b3, .ref b4, .ref b5, .ref b6, .ref hp])), (b2, .inl (cI, 8, .inl fb2)), (b3, .inl (cI, 8, .inl fb3)), (b4, .inl (cI, 8, .inl fb4)), (b5, .inl (cI, 4, .inl fb5)), (b6, .inl (cI, 4, .inl fb6))] H := ⟨hP, hD⟩
  have hP := hPD.1
  have hD := hPD.2
  clear hPD
  refine lv_aload_n hx hb dX1_copyFrom_75 rfl (lv_at hl 1 rfl) ?_
  refine va_get (D := (dC, dI)) (ci := 1) (v := .ref b6) (C := RX1) (T := TX1) (N := 8) hx hb hts hi_X1 hown hK hP 6 rfl rfl 6 (by decide) (hts (.fieldLink RX1 31 "LeftQuills$Desk" "good" "[I") (wmx 11 rfl)) (fun _ h9 => h9) rfl dX1_copyFrom_76 ?_
  refine lv_iconst (v := 0) hx hb dX1_copyFrom_79 (by decide) ?_
  refine lv_aload_n hx hb dX1_copyFrom_80 rfl (lv_at hl 0 rfl) ?_
  refine va_get (D := (dC, dI)) (ci := 1) (v := .ref a6) (C := RX1) (T := TX1) (N := 8) hx hb hts hi_X1 hown hK hP 0 rfl rfl 6 (by decide) (hts (.fieldLink RX1 31 "LeftQuills$Desk" "good" "[I") (wmx 11 rfl)) (fun _ h9 => h9) rfl dX1_copyFrom_81 ?_
  refine lv_iconst (v := 0) hx hb dX1_copyFrom_84 (by decide) ?_
  refine lv_iconst (v := 4) hx hb dX1_copyFrom_85 (by decide) ?_
  refine va_copyi hx hb (hml.trans hl.1.symm) hown (hts (.methodLink RX1 46 arraycopyName) (wmx 4 rfl)) (hts (.native arraycopyName) (wmx 5 rfl)) (hts (.static arraycopyName) (wmx 6 rfl)) (hts (.initialized "java/lang/System") (wmx 7 rfl)) hK hP hD hS 11 5 0 0 rfl rfl rfl rfl rfl (by decide) (by decide) (by decide) (by decide) (by decide) (fun _ _ => rfl) (Nat.le_of_ble_eq_true rfl) (Nat.le_of_ble_eq_true rfl) dX1_copyFrom_86 (fun H locs hP hD hS => ?_)
  generalize hgf5 : va_cpy _ _ _ _ _ = f5 at hP hD
  have hPD : pdW (dC, dI) vwCl A [(h0, .inr (1, [.int mib, .int cub, .ref a2, .ref a3, .ref a4, .ref a5, .ref a6, .ref ho])), (a2, .inl (cI, 8, .inl f1)), (a3, .inl (cI, 8, .inl f2)), (a4, .inl (cI, 8, .inl f3)), (a5, .inl (cI, 4, .inl f4)), (a6, .inl (cI, 4, .inl f5)), (hq, .inr (1, [.int mib, .int cub, .ref b2, .ref b3, .ref b4, .ref b5, .ref b6, .ref hp])), (b2, .inl (cI, 8, .inl fb2)), (b3, .inl (cI, 8, .inl fb3)), (b4, .inl (cI, 8, .inl fb4)), (b5, .inl (cI, 4, .inl fb5)), (b6, .inl (cI, 4, .inl fb6))] H := ⟨hP, hD⟩
  have hP := hPD.1
  have hD := hPD.2
  clear hPD
  have hP9 := hP.sub (ws' := [(h0, .inr (1, [.int mib, .int cub, .ref a2, .ref a3, .ref a4, .ref a5, .ref a6, .ref ho])), (a2, .inl (cI, 8, .inl f1)), (a3, .inl (cI, 8, .inl f2)), (a4, .inl (cI, 8, .inl f3)), (a5, .inl (cI, 4, .inl f4)), (a6, .inl (cI, 4, .inl f5)), (hq, .inr (1, [.int mib, .int cub, .ref b2, .ref b3, .ref b4, .ref b5, .ref b6, .ref hp])), (b2, .inl (cI, 8, .inl fb2)), (b3, .inl (cI, 8, .inl fb3)), (b4, .inl (cI, 8, .inl fb4)), (b5, .inl (cI, 4, .inl fb5)), (b6, .inl (cI, 4, .inl fb6))]) [0, 1, 2, 3, 4, 5, 6, 7, 8, 9, 10, 11] rfl
  have hD9 := hD.sub (ws' := [(h0, .inr (1, [.int mib, .int cub, .ref a2, .ref a3, .ref a4, .ref a5, .ref a6, .ref ho])), (a2, .inl (cI, 8, .inl f1)), (a3, .inl (cI, 8, .inl f2)), (a4, .inl (cI, 8, .inl f3)), (a5, .inl (cI, 4, .inl f4)), (a6, .inl (cI, 4, .inl f5)), (hq, .inr (1, [.int mib, .int cub, .ref b2, .ref b3, .ref b4, .ref b5, .ref b6, .ref hp])), (b2, .inl (cI, 8, .inl fb2)), (b3, .inl (cI, 8, .inl fb3)), (b4, .inl (cI, 8, .inl fb4)), (b5, .inl (cI, 4, .inl fb5)), (b6, .inl (cI, 4, .inl fb6))]) [0, 1, 2, 3, 4, 5, 6, 7, 8, 9, 10, 11] (by decide +kernel) rfl
  exact W.vret hx hb hr (fun t ht hW => ⟨⟨(fun _ => 0), rfl, trivial, ⟨f1, f2, f3, f4, f5, mib, cub, (dk_ext (fun j hj => by rw [← hgf1]; exact cpy_lt (by decide) (by decide) (by decide) hj) (fun j hj => by rw [← hgf2]; exact cpy_lt (by decide) (by decide) (by decide) hj) (fun j hj => by rw [← hgf3]; exact cpy_lt (by decide) (by decide) (by decide) hj) (fun j hj => by rw [← hgf4]; exact cpy_lt (by decide) (by decide) (by decide) hj) (fun j hj => by rw [← hgf5]; exact cpy_lt (by decide) (by decide) (by decide) hj)), va_hq ht hP9, hD9⟩⟩, hS.F ht⟩) hS.2.2 dX1_copyFrom_89
set_option maxHeartbeats 4000000 in
set_option maxRecDepth 100000 in
theorem c_X1_layOutD (l : Launch) (dC : Nat → ClassId) (dI : Nat → Nat → Nat) (cI cZ cQ : ClassId) (h0 : Nat) (mi : Int32) (cu : Int32) (a2 : Nat) (a3 : Nat) (a4 : Nat) (a5 : Nat) (a6 : Nat) (ho : Nat) (o8 : Nat) (o9 : Nat) (f_ho : List Value) (fa2 : Nat → Int32) (fa3 : Nat → Int32) (fa4 : Nat → Int32) (fa5 : Nat → Int32) (fa6 : Nat → Int32) (fo8 : Nat → Int32) (fo9 : Nat → Int32) (sz : Nat) (e_ho_8 : fAt f_ho 8 = some (.ref o8)) (e_ho_9 : fAt f_ho 9 = some (.ref o9)) : Met l yX1_layOut wsX1_layOut ({ frames := 0, cells := 0, slots := 0, locals := 40 }) (va_Pc [.ref h0] (fun U => U.heap.size = sz ∧ va_P (dC, dI) vwCl [(h0, .inr (1, [.int mi, .int cu, .ref a2, .ref a3, .ref a4, .ref a5, .ref a6, .ref ho])), (ho, .inr (5, f_ho)), (a2, .inl (cI, 8, .inl fa2)), (a3, .inl (cI, 8, .inl fa3)), (a4, .inl (cI, 8, .inl fa4)), (a5, .inl (cI, 4, .inl fa5)), (a6, .inl (cI, 4, .inl fa6)), (o8, .inl (cI, 8, .inl fo8)), (o9, .inl (cI, 8, .inl fo9))] U.heap ∧ va_K (dC, dI) vwCl (tys0 cI cZ cQ) U ∧ va_D (fun _ => True) [(h0, .inr (1, [.int mi, .int cu, .ref a2, .ref a3, .ref a4, .ref a5, .ref a6, .ref ho])), (ho, .inr (5, f_ho)), (a2, .inl (cI, 8, .inl fa2)), (a3, .inl (cI, 8, .inl fa3)), (a4, .inl (cI, 8, .inl fa4)), (a5, .inl (cI, 4, .inl fa5)), (a6, .inl (cI, 4, .inl fa6)), (o8, .inl (cI, 8, .inl fo8)), (o9, .inl (cI, 8, .inl fo9))])) (va_Qv (fun (u : Nat → Nat) => True) (fun (_ : Nat → Nat) (t : State) => ∃ (gg0 gg1 gg2 gg3 gg4 : Nat → Int32) (ii0 ii1 : Int32) , (∀ i, i < 34 → dk ii0 ii1 gg0 gg1 gg2 gg3 gg4 i = dk 0 0 fo8 fo9 (fun _ => 0) (fun _ => 0) (fun _ => 0) i) ∧ va_P (dC, dI) vwCl [(h0, .inr (1, [.int ii0, .int ii1, .ref a2, .ref a3, .ref a4, .ref a5, .ref a6, .ref ho])), (ho, .inr (5, f_ho)), (a2, .inl (cI, 8, .inl gg0)), (a3, .inl (cI, 8, .inl gg1)), (a4, .inl (cI, 8, .inl gg2)), (a5, .inl (cI, 4, .inl gg3)), (a6, .inl (cI, 4, .inl gg4)), (o8, .inl (cI, 8, .inl fo8)), (o9, .inl (cI, 8, .inl fo9))] t.heap ∧ va_D (va_A [(h0, .inr (1, [.int mi, .int cu, .ref a2, .ref a3, .ref a4, .ref a5, .ref a6, .ref ho])), (ho, .inr (5, f_ho)), (a2, .inl (cI, 8, .inl fa2)), (a3, .inl (cI, 8, .inl fa3)), (a4, .inl (cI, 8, .inl fa4)), (a5, .inl (cI, 4, .inl fa5)), (a6, .inl (cI, 4, .inl fa6)), (o8, .inl (cI, 8, .inl fo8)), (o9, .inl (cI, 8, .inl fo9))] sz) [(h0, .inr (1, [.int ii0, .int ii1, .ref a2, .ref a3, .ref a4, .ref a5, .ref a6, .ref ho])), (ho, .inr (5, f_ho)), (a2, .inl (cI, 8, .inl gg0)), (a3, .inl (cI, 8, .inl gg1)), (a4, .inl (cI, 8, .inl gg2)), (a5, .inl (cI, 4, .inl gg3)), (a6, .inl (cI, 4, .inl gg4)), (o8, .inl (cI, 8, .inl fo8)), (o9, .inl (cI, 8, .inl fo9))]) (va_A [(h0, .inr (1, [.int mi, .int cu, .ref a2, .ref a3, .ref a4, .ref a5, .ref a6, .ref ho])), (ho, .inr (5, f_ho)), (a2, .inl (cI, 8, .inl fa2)), (a3, .inl (cI, 8, .inl fa3)), (a4, .inl (cI, 8, .inl fa4)), (a5, .inl (cI, 4, .inl fa5)), (a6, .inl (cI, 4, .inl fa6)), (o8, .inl (cI, 8, .inl fo8)), (o9, .inl (cI, 8, .inl fo9))] sz)) 0 0 (va_A [(h0, .inr (1, [.int mi, .int cu, .ref a2, .ref a3, .ref a4, .ref a5, .ref a6, .ref ho])), (ho, .inr (5, f_ho)), (a2, .inl (cI, 8, .inl fa2)), (a3, .inl (cI, 8, .inl fa3)), (a4, .inl (cI, 8, .inl fa4)), (a5, .inl (cI, 4, .inl fa5)), (a6, .inl (cI, 4, .inl fa6)), (o8, .inl (cI, 8, .inl fo8)), (o9, .inl (cI, 8, .inl fo9))] sz) := by
  refine Met.ofW (cc := cX1_layOut) (maxL := 2) (ret := none) (by decide) rfl ?_
  intro p e s m args below meth c s₁ B hml hv
  obtain ⟨rfl, hsz, hP, hK, hD0⟩ := hv
  have hx := B.exec
  have hb := B.bytes
  have hr := B.returns
  have hts := atoms_spec (ws := wsX1_layOut) B.pre
  have hown : s.vm.findClass RX1 = some m.cls := findClass_of_methodNamed B.named
  have hlocks := B.notSynchronized
  have hi_X1 : ∀ w ∈ u_ws RX1 TX1 8, w ∈ wsX1_layOut := fun _ h => List.mem_cons_of_mem _ (List.mem_append_left _ (List.mem_append_right _ (h)))
  have hi_X5 : ∀ w ∈ u_ws RX5 TX5 13, w ∈ wsX1_layOut := fun _ h => List.mem_cons_of_mem _ (List.mem_append_right _ (h))
  subst hsz
  have hD := hD0.self (sz := s.heap.size)
  generalize hAe : va_A [(h0, .inr (1, [.int mi, .int cu, .ref a2, .ref a3, .ref a4, .ref a5, .ref a6, .ref ho])), (ho, .inr (5, f_ho)), (a2, .inl (cI, 8, .inl fa2)), (a3, .inl (cI, 8, .inl fa3)), (a4, .inl (cI, 8, .inl fa4)), (a5, .inl (cI, 4, .inl fa5)), (a6, .inl (cI, 4, .inl fa6)), (o8, .inl (cI, 8, .inl fo8)), (o9, .inl (cI, 8, .inl fo9))] s.heap.size = A at hD ⊢
  have hA : ∀ q : Nat, s.heap.size ≤ q → A q := fun q h => by rw [← hAe]; exact Or.inr h
  have hS : va_S A s.heap s.heap [] := va_S.rf
  have hl := lv_entry ([.ref h0]) (n := 2) (Nat.le_of_ble_eq_true rfl)
  rw [lg_entry_eq]
  generalize (lg_sl ([.ref h0]) ++ List.replicate (2 - (lg_sl ([.ref h0])).length) Slot.unset).toArray = ls at hl ⊢
  have hl : lv_has ls 2 [(0, .ref h0)] := hl
  refine lv_aload_n hx hb dX1_layOut_0 rfl (lv_at hl 0 rfl) ?_
  refine lv_iconst (v := 0) hx hb dX1_layOut_1 (by decide) ?_
  refine va_put (D := (dC, dI)) (ci := 1) (v := .int 0) (ty := .int) (C := RX1) (T := TX1) (N := 8) hx hb hts hi_X1 tyX1 tyX1_ok nmX1 hown hK hP hD hS 0 rfl rfl 0 (by decide) (hts (.fieldLink RX1 9 "LeftQuills$Desk" "minutes" "I") (wmx 1 rfl)) (fun _ h9 => h9) rfl (by decide +kernel) rfl rfl (Nat.le_of_ble_eq_true rfl) dX1_layOut_2 (fun H locs hP hD hS => ?_)
  have hPD : pdW (dC, dI) vwCl A [(h0, .inr (1, [.int 0, .int cu, .ref a2, .ref a3, .ref a4, .ref a5, .ref a6, .ref ho])), (ho, .inr (5, f_ho)), (a2, .inl (cI, 8, .inl fa2)), (a3, .inl (cI, 8, .inl fa3)), (a4, .inl (cI, 8, .inl fa4)), (a5, .inl (cI, 4, .inl fa5)), (a6, .inl (cI, 4, .inl fa6)), (o8, .inl (cI, 8, .inl fo8)), (o9, .inl (cI, 8, .inl fo9))] H := ⟨hP, hD⟩
  have hP := hPD.1
  have hD := hPD.2
  clear hPD
  refine lv_aload_n hx hb dX1_layOut_5 rfl (lv_at hl 0 rfl) ?_
  refine lv_iconst (v := 0) hx hb dX1_layOut_6 (by decide) ?_
  refine va_put (D := (dC, dI)) (ci := 1) (v := .int 0) (ty := .int) (C := RX1) (T := TX1) (N := 8) hx hb hts hi_X1 tyX1 tyX1_ok nmX1 hown hK hP hD hS 0 rfl rfl 1 (by decide) (hts (.fieldLink RX1 15 "LeftQuills$Desk" "cuts" "I") (wmx 2 rfl)) (fun _ h9 => h9) rfl (by decide +kernel) rfl rfl (Nat.le_of_ble_eq_true rfl) dX1_layOut_7 (fun H locs hP hD hS => ?_)
  have hPD : pdW (dC, dI) vwCl A [(h0, .inr (1, [.int 0, .int 0, .ref a2, .ref a3, .ref a4, .ref a5, .ref a6, .ref ho])), (ho, .inr (5, f_ho)), (a2, .inl (cI, 8, .inl fa2)), (a3, .inl (cI, 8, .inl fa3)), (a4, .inl (cI, 8, .inl fa4)), (a5, .inl (cI, 4, .inl fa5)), (a6, .inl (cI, 4, .inl fa6)), (o8, .inl (cI, 8, .inl fo8)), (o9, .inl (cI, 8, .inl fo9))] H := ⟨hP, hD⟩
  have hP := hPD.1
  have hD := hPD.2
  clear hPD
  refine lv_iconst (v := 0) hx hb dX1_layOut_10 (by decide) ?_
  refine lv_istore_n (lv' := [(1, .int 0), (0, .ref h0)]) hx hb dX1_layOut_11 rfl hl (by decide) rfl (fun ls hl => ?_)
  refine lv_iload_n hx hb dX1_layOut_12 rfl (lv_at hl 0 rfl) ?_
  refine lv_bipush (v := 8) hx hb dX1_layOut_13 (by decide) ?_
  refine lv_icmp_ge (tgt := 61) hx hb dX1_layOut_15 (by decide) (fun c1 => ?_) (fun c1 => ?_)
  · exact absurd c1 (by decide)
  clear c1
  refine lv_aload_n hx hb dX1_layOut_18 rfl (lv_at hl 1 rfl) ?_
  refine va_get (D := (dC, dI)) (ci := 1) (v := .ref a2) (C := RX1) (T := TX1) (N := 8) hx hb hts hi_X1 hown hK hP 0 rfl rfl 2 (by decide) (hts (.fieldLink RX1 18 "LeftQuills$Desk" "length" "[I") (wmx 3 rfl)) (fun _ h9 => h9) rfl dX1_layOut_19 ?_
  refine lv_iload_n hx hb dX1_layOut_22 rfl (lv_at hl 0 rfl) ?_
  refine lv_aload_n hx hb dX1_layOut_23 rfl (lv_at hl 1 rfl) ?_
  refine va_get (D := (dC, dI)) (ci := 1) (v := .ref ho) (C := RX1) (T := TX1) (N := 8) hx hb hts hi_X1 hown hK hP 0 rfl rfl 7 (by decide) (hts (.fieldLink RX1 34 "LeftQuills$Desk" "office" "LLeftQuills$Office;") (wmx 4 rfl)) (fun _ h9 => h9) rfl dX1_layOut_24 ?_
  refine va_get (D := (dC, dI)) (ci := 5) (v := .ref o8) (C := RX5) (T := TX5) (N := 13) hx hb hts hi_X5 hown hK hP 1 rfl rfl 8 (by decide) (hts (.fieldLink RX1 38 "LeftQuills$Office" "toldLength" "[I") (wmx 5 rfl)) (fun _ h9 => h9) e_ho_8 dX1_layOut_27 ?_
  refine lv_iload_n hx hb dX1_layOut_30 rfl (lv_at hl 0 rfl) ?_
  refine va_iald hx hb hK hP 7 0 rfl rfl (vp_in_iff.mpr ⟨by decide, by decide⟩) dX1_layOut_31 ?_
  refine W.eq (g2 := F0 m 32 ls [.int (fo8 0), .int 0, .ref a2]) (congrArg (fun y9 => F0 m 32 ls (.int (fo8 y9) :: [.int 0, .ref a2])) ((show ((0 : Int32)).toNatClampNeg = 0 from by decide))) ?_
  refine va_iast hx hb hK hP hD hS 2 0 rfl rfl (vp_in_iff.mpr ⟨by decide, by decide⟩) dX1_layOut_32 (fun H locs hP hD hS => ?_)
  have hcl := (show ((0 : Int32)).toNatClampNeg = 0 from by decide)
  rw [hcl] at hP hD
  clear hcl
  have hPD : pdW (dC, dI) vwCl A [(h0, .inr (1, [.int 0, .int 0, .ref a2, .ref a3, .ref a4, .ref a5, .ref a6, .ref ho])), (ho, .inr (5, f_ho)), (a2, .inl (cI, 8, .inl (upd fa2 0 (fo8 0)))), (a3, .inl (cI, 8, .inl fa3)), (a4, .inl (cI, 8, .inl fa4)), (a5, .inl (cI, 4, .inl fa5)), (a6, .inl (cI, 4, .inl fa6)), (o8, .inl (cI, 8, .inl fo8)), (o9, .inl (cI, 8, .inl fo9))] H := ⟨hP, hD⟩
  have hP := hPD.1
  have hD := hPD.2
  clear hPD
  refine lv_aload_n hx hb dX1_layOut_33 rfl (lv_at hl 1 rfl) ?_
  refine va_get (D := (dC, dI)) (ci := 1) (v := .ref a3) (C := RX1) (T := TX1) (N := 8) hx hb hts hi_X1 hown hK hP 0 rfl rfl 3 (by decide) (hts (.fieldLink RX1 22 "LeftQuills$Desk" "nib" "[I") (wmx 6 rfl)) (fun _ h9 => h9) rfl dX1_layOut_34 ?_
  refine lv_iload_n hx hb dX1_layOut_37 rfl (lv_at hl 0 rfl) ?_
  refine lv_aload_n hx hb dX1_layOut_38 rfl (lv_at hl 1 rfl) ?_
  refine va_get (D := (dC, dI)) (ci := 1) (v := .ref ho) (C := RX1) (T := TX1) (N := 8) hx hb hts hi_X1 hown hK hP 0 rfl rfl 7 (by decide) (hts (.fieldLink RX1 34 "LeftQuills$Desk" "office" "LLeftQuills$Office;") (wmx 4 rfl)) (fun _ h9 => h9) rfl dX1_layOut_39 ?_
  refine va_get (D := (dC, dI)) (ci := 5) (v := .ref o9) (C := RX5) (T := TX5) (N := 13) hx hb hts hi_X5 hown hK hP 1 rfl rfl 9 (by decide) (hts (.fieldLink RX1 43 "LeftQuills$Office" "toldNib" "[I") (wmx 7 rfl)) (fun _ h9 => h9) e_ho_9 dX1_layOut_42 ?_
  refine lv_iload_n hx hb dX1_layOut_45 rfl (lv_at hl 0 rfl) ?_
  refine va_iald hx hb hK hP 8 0 rfl rfl (vp_in_iff.mpr ⟨by decide, by decide⟩) dX1_layOut_46 ?_
  refine W.eq (g2 := F0 m 47 ls [.int (fo9 0), .int 0, .ref a3]) (congrArg (fun y9 => F0 m 47 ls (.int (fo9 y9) :: [.int 0, .ref a3])) ((show ((0 : Int32)).toNatClampNeg = 0 from by decide))) ?_
  refine va_iast hx hb hK hP hD hS 3 0 rfl rfl (vp_in_iff.mpr ⟨by decide, by decide⟩) dX1_layOut_47 (fun H locs hP hD hS => ?_)
  have hcl := (show ((0 : Int32)).toNatClampNeg = 0 from by decide)
  rw [hcl] at hP hD
  clear hcl
  have hPD : pdW (dC, dI) vwCl A [(h0, .inr (1, [.int 0, .int 0, .ref a2, .ref a3, .ref a4, .ref a5, .ref a6, .ref ho])), (ho, .inr (5, f_ho)), (a2, .inl (cI, 8, .inl (upd fa2 0 (fo8 0)))), (a3, .inl (cI, 8, .inl (upd fa3 0 (fo9 0)))), (a4, .inl (cI, 8, .inl fa4)), (a5, .inl (cI, 4, .inl fa5)), (a6, .inl (cI, 4, .inl fa6)), (o8, .inl (cI, 8, .inl fo8)), (o9, .inl (cI, 8, .inl fo9))] H := ⟨hP, hD⟩
  have hP := hPD.1
  have hD := hPD.2
  clear hPD
  refine lv_aload_n hx hb dX1_layOut_48 rfl (lv_at hl 1 rfl) ?_
  refine va_get (D := (dC, dI)) (ci := 1) (v := .ref a4) (C := RX1) (T := TX1) (N := 8) hx hb hts hi_X1 hown hK hP 0 rfl rfl 4 (by decide) (hts (.fieldLink RX1 25 "LeftQuills$Desk" "softness" "[I") (wmx 8 rfl)) (fun _ h9 => h9) rfl dX1_layOut_49 ?_
  refine lv_iload_n hx hb dX1_layOut_52 rfl (lv_at hl 0 rfl) ?_
  refine lv_iconst (v := 0) hx hb dX1_layOut_53 (by decide) ?_
  refine va_iast hx hb hK hP hD hS 4 0 rfl rfl (vp_in_iff.mpr ⟨by decide, by decide⟩) dX1_layOut_54 (fun H locs hP hD hS => ?_)
  have hcl := (show ((0 : Int32)).toNatClampNeg = 0 from by decide)
  rw [hcl] at hP hD
  clear hcl
  have hPD : pdW (dC, dI) vwCl A [(h0, .inr (1, [.int 0, .int 0, .ref a2, .ref a3, .ref a4, .ref a5, .ref a6, .ref ho])), (ho, .inr (5, f_ho)), (a2, .inl (cI, 8, .inl (upd fa2 0 (fo8 0)))), (a3, .inl (cI, 8, .inl (upd fa3 0 (fo9 0)))), (a4, .inl (cI, 8, .inl (upd fa4 0 0))), (a5, .inl (cI, 4, .inl fa5)), (a6, .inl (cI, 4, .inl fa6)), (o8, .inl (cI, 8, .inl fo8)), (o9, .inl (cI, 8, .inl fo9))] H := ⟨hP, hD⟩
  have hP := hPD.1
  have hD := hPD.2
  clear hPD
  refine lv_iinc (v := 1) (lv' := [(1, .int 1), (0, .ref h0)]) hx hb dX1_layOut_55 hl (k := 0) rfl (by decide) (by decide) rfl (fun ls hl => ?_)
  refine lv_goto (tgt := 12) hx hb dX1_layOut_58 (by decide) ?_
  refine lv_iload_n hx hb dX1_layOut_12 rfl (lv_at hl 0 rfl) ?_
  refine lv_bipush (v := 8) hx hb dX1_layOut_13 (by decide) ?_
  refine lv_icmp_ge (tgt := 61) hx hb dX1_layOut_15 (by decide) (fun c5 => ?_) (fun c5 => ?_)
  · exact absurd c5 (by decide)
  clear c5
  refine lv_aload_n hx hb dX1_layOut_18 rfl (lv_at hl 1 rfl) ?_
  refine va_get (D := (dC, dI)) (ci := 1) (v := .ref a2) (C := RX1) (T := TX1) (N := 8) hx hb hts hi_X1 hown hK hP 0 rfl rfl 2 (by decide) (hts (.fieldLink RX1 18 "LeftQuills$Desk" "length" "[I") (wmx 3 rfl)) (fun _ h9 => h9) rfl dX1_layOut_19 ?_
  refine lv_iload_n hx hb dX1_layOut_22 rfl (lv_at hl 0 rfl) ?_
  refine lv_aload_n hx hb dX1_layOut_23 rfl (lv_at hl 1 rfl) ?_
  refine va_get (D := (dC, dI)) (ci := 1) (v := .ref ho) (C := RX1) (T := TX1) (N := 8) hx hb hts hi_X1 hown hK hP 0 rfl rfl 7 (by decide) (hts (.fieldLink RX1 34 "LeftQuills$Desk" "office" "LLeftQuills$Office;") (wmx 4 rfl)) (fun _ h9 => h9) rfl dX1_layOut_24 ?_
  refine va_get (D := (dC, dI)) (ci := 5) (v := .ref o8) (C := RX5) (T := TX5) (N := 13) hx hb hts hi_X5 hown hK hP 1 rfl rfl 8 (by decide) (hts (.fieldLink RX1 38 "LeftQuills$Office" "toldLength" "[I") (wmx 5 rfl)) (fun _ h9 => h9) e_ho_8 dX1_layOut_27 ?_
  refine lv_iload_n hx hb dX1_layOut_30 rfl (lv_at hl 0 rfl) ?_
  refine va_iald hx hb hK hP 7 0 rfl rfl (vp_in_iff.mpr ⟨by decide, by decide⟩) dX1_layOut_31 ?_
  refine W.eq (g2 := F0 m 32 ls [.int (fo8 1), .int 1, .ref a2]) (congrArg (fun y9 => F0 m 32 ls (.int (fo8 y9) :: [.int 1, .ref a2])) ((show ((1 : Int32)).toNatClampNeg = 1 from by decide))) ?_
  refine va_iast hx hb hK hP hD hS 2 0 rfl rfl (vp_in_iff.mpr ⟨by decide, by decide⟩) dX1_layOut_32 (fun H locs hP hD hS => ?_)
  have hcl := (show ((1 : Int32)).toNatClampNeg = 1 from by decide)
  rw [hcl] at hP hD
  clear hcl
  have hPD : pdW (dC, dI) vwCl A [(h0, .inr (1, [.int 0, .int 0, .ref a2, .ref a3, .ref a4, .ref a5, .ref a6, .ref ho])), (ho, .inr (5, f_ho)), (a2, .inl (cI, 8, .inl (upd (upd fa2 0 (fo8 0)) 1 (fo8 1)))), (a3, .inl (cI, 8, .inl (upd fa3 0 (fo9 0)))), (a4, .inl (cI, 8, .inl (upd fa4 0 0))), (a5, .inl (cI, 4, .inl fa5)), (a6, .inl (cI, 4, .inl fa6)), (o8, .inl (cI, 8, .inl fo8)), (o9, .inl (cI, 8, .inl fo9))] H := ⟨hP, hD⟩
  have hP := hPD.1
  have hD := hPD.2
  clear hPD
  refine lv_aload_n hx hb dX1_layOut_33 rfl (lv_at hl 1 rfl) ?_
  refine va_get (D := (dC, dI)) (ci := 1) (v := .ref a3) (C := RX1) (T := TX1) (N := 8) hx hb hts hi_X1 hown hK hP 0 rfl rfl 3 (by decide) (hts (.fieldLink RX1 22 "LeftQuills$Desk" "nib" "[I") (wmx 6 rfl)) (fun _ h9 => h9) rfl dX1_layOut_34 ?_
  refine lv_iload_n hx hb dX1_layOut_37 rfl (lv_at hl 0 rfl) ?_
  refine lv_aload_n hx hb dX1_layOut_38 rfl (lv_at hl 1 rfl) ?_
  refine va_get (D := (dC, dI)) (ci := 1) (v := .ref ho) (C := RX1) (T := TX1) (N := 8) hx hb hts hi_X1 hown hK hP 0 rfl rfl 7 (by decide) (hts (.fieldLink RX1 34 "LeftQuills$Desk" "office" "LLeftQuills$Office;") (wmx 4 rfl)) (fun _ h9 => h9) rfl dX1_layOut_39 ?_
  refine va_get (D := (dC, dI)) (ci := 5) (v := .ref o9) (C := RX5) (T := TX5) (N := 13) hx hb hts hi_X5 hown hK hP 1 rfl rfl 9 (by decide) (hts (.fieldLink RX1 43 "LeftQuills$Office" "toldNib" "[I") (wmx 7 rfl)) (fun _ h9 => h9) e_ho_9 dX1_layOut_42 ?_
  refine lv_iload_n hx hb dX1_layOut_45 rfl (lv_at hl 0 rfl) ?_
  refine va_iald hx hb hK hP 8 0 rfl rfl (vp_in_iff.mpr ⟨by decide, by decide⟩) dX1_layOut_46 ?_
  refine W.eq (g2 := F0 m 47 ls [.int (fo9 1), .int 1, .ref a3]) (congrArg (fun y9 => F0 m 47 ls (.int (fo9 y9) :: [.int 1, .ref a3])) ((show ((1 : Int32)).toNatClampNeg = 1 from by decide))) ?_
  refine va_iast hx hb hK hP hD hS 3 0 rfl rfl (vp_in_iff.mpr ⟨by decide, by decide⟩) dX1_layOut_47 (fun H locs hP hD hS => ?_)
  have hcl := (show ((1 : Int32)).toNatClampNeg = 1 from by decide)
  rw [hcl] at hP hD
  clear hcl
  have hPD : pdW (dC, dI) vwCl A [(h0, .inr (1, [.int 0, .int 0, .ref a2, .ref a3, .ref a4, .ref a5, .ref a6, .ref ho])), (ho, .inr (5, f_ho)), (a2, .inl (cI, 8, .inl (upd (upd fa2 0 (fo8 0)) 1 (fo8 1)))), (a3, .inl (cI, 8, .inl (upd (upd fa3 0 (fo9 0)) 1 (fo9 1)))), (a4, .inl (cI, 8, .inl (upd fa4 0 0))), (a5, .inl (cI, 4, .inl fa5)), (a6, .inl (cI, 4, .inl fa6)), (o8, .inl (cI, 8, .inl fo8)), (o9, .inl (cI, 8, .inl fo9))] H := ⟨hP, hD⟩
  have hP := hPD.1
  have hD := hPD.2
  clear hPD
  refine lv_aload_n hx hb dX1_layOut_48 rfl (lv_at hl 1 rfl) ?_
  refine va_get (D := (dC, dI)) (ci := 1) (v := .ref a4) (C := RX1) (T := TX1) (N := 8) hx hb hts hi_X1 hown hK hP 0 rfl rfl 4 (by decide) (hts (.fieldLink RX1 25 "LeftQuills$Desk" "softness" "[I") (wmx 8 rfl)) (fun _ h9 => h9) rfl dX1_layOut_49 ?_
  refine lv_iload_n hx hb dX1_layOut_52 rfl (lv_at hl 0 rfl) ?_
  refine lv_iconst (v := 0) hx hb dX1_layOut_53 (by decide) ?_
  refine va_iast hx hb hK hP hD hS 4 0 rfl rfl (vp_in_iff.mpr ⟨by decide, by decide⟩) dX1_layOut_54 (fun H locs hP hD hS => ?_)
  have hcl := (show ((1 : Int32)).toNatClampNeg = 1 from by decide)
  rw [hcl] at hP hD
  clear hcl
  have hPD : pdW (dC, dI) vwCl A [(h0, .inr (1, [.int 0, .int 0, .ref a2, .ref a3, .ref a4, .ref a5, .ref a6, .ref ho])), (ho, .inr (5, f_ho)), (a2, .inl (cI, 8, .inl (upd (upd fa2 0 (fo8 0)) 1 (fo8 1)))), (a3, .inl (cI, 8, .inl (upd (upd fa3 0 (fo9 0)) 1 (fo9 1)))), (a4, .inl (cI, 8, .inl (upd (upd fa4 0 0) 1 0))), (a5, .inl (cI, 4, .inl fa5)), (a6, .inl (cI, 4, .inl fa6)), (o8, .inl (cI, 8, .inl fo8)), (o9, .inl (cI, 8, .inl fo9))] H := ⟨hP, hD⟩
  have hP := hPD.1
  have hD := hPD.2
  clear hPD
  refine lv_iinc (v := 2) (lv' := [(1, .int 2), (0, .ref h0)]) hx hb dX1_layOut_55 hl (k := 0) rfl (by decide) (by decide) rfl (fun ls hl => ?_)
  refine lv_goto (tgt := 12) hx hb dX1_layOut_58 (by decide) ?_
  refine lv_iload_n hx hb dX1_layOut_12 rfl (lv_at hl 0 rfl) ?_
  refine lv_bipush (v := 8) hx hb dX1_layOut_13 (by decide) ?_
  refine lv_icmp_ge (tgt := 61) hx hb dX1_layOut_15 (by decide) (fun c9 => ?_) (fun c9 => ?_)
  · exact absurd c9 (by decide)
  clear c9
  refine lv_aload_n hx hb dX1_layOut_18 rfl (lv_at hl 1 rfl) ?_
  refine va_get (D := (dC, dI)) (ci := 1) (v := .ref a2) (C := RX1) (T := TX1) (N := 8) hx hb hts hi_X1 hown hK hP 0 rfl rfl 2 (by decide) (hts (.fieldLink RX1 18 "LeftQuills$Desk" "length" "[I") (wmx 3 rfl)) (fun _ h9 => h9) rfl dX1_layOut_19 ?_
  refine lv_iload_n hx hb dX1_layOut_22 rfl (lv_at hl 0 rfl) ?_
  refine lv_aload_n hx hb dX1_layOut_23 rfl (lv_at hl 1 rfl) ?_
  refine va_get (D := (dC, dI)) (ci := 1) (v := .ref ho) (C := RX1) (T := TX1) (N := 8) hx hb hts hi_X1 hown hK hP 0 rfl rfl 7 (by decide) (hts (.fieldLink RX1 34 "LeftQuills$Desk" "office" "LLeftQuills$Office;") (wmx 4 rfl)) (fun _ h9 => h9) rfl dX1_layOut_24 ?_
  refine va_get (D := (dC, dI)) (ci := 5) (v := .ref o8) (C := RX5) (T := TX5) (N := 13) hx hb hts hi_X5 hown hK hP 1 rfl rfl 8 (by decide) (hts (.fieldLink RX1 38 "LeftQuills$Office" "toldLength" "[I") (wmx 5 rfl)) (fun _ h9 => h9) e_ho_8 dX1_layOut_27 ?_
  refine lv_iload_n hx hb dX1_layOut_30 rfl (lv_at hl 0 rfl) ?_
  refine va_iald hx hb hK hP 7 0 rfl rfl (vp_in_iff.mpr ⟨by decide, by decide⟩) dX1_layOut_31 ?_
  refine W.eq (g2 := F0 m 32 ls [.int (fo8 2), .int 2, .ref a2]) (congrArg (fun y9 => F0 m 32 ls (.int (fo8 y9) :: [.int 2, .ref a2])) ((show ((2 : Int32)).toNatClampNeg = 2 from by decide))) ?_
  refine va_iast hx hb hK hP hD hS 2 0 rfl rfl (vp_in_iff.mpr ⟨by decide, by decide⟩) dX1_layOut_32 (fun H locs hP hD hS => ?_)
  have hcl := (show ((2 : Int32)).toNatClampNeg = 2 from by decide)
  rw [hcl] at hP hD
  clear hcl
  have hPD : pdW (dC, dI) vwCl A [(h0, .inr (1, [.int 0, .int 0, .ref a2, .ref a3, .ref a4, .ref a5, .ref a6, .ref ho])), (ho, .inr (5, f_ho)), (a2, .inl (cI, 8, .inl (upd (upd (upd fa2 0 (fo8 0)) 1 (fo8 1)) 2 (fo8 2)))), (a3, .inl (cI, 8, .inl (upd (upd fa3 0 (fo9 0)) 1 (fo9 1)))), (a4, .inl (cI, 8, .inl (upd (upd fa4 0 0) 1 0))), (a5, .inl (cI, 4, .inl fa5)), (a6, .inl (cI, 4, .inl fa6)), (o8, .inl (cI, 8, .inl fo8)), (o9, .inl (cI, 8, .inl fo9))] H := ⟨hP, hD⟩
  have hP := hPD.1
  have hD := hPD.2
  clear hPD
  refine lv_aload_n hx hb dX1_layOut_33 rfl (lv_at hl 1 rfl) ?_
  refine va_get (D := (dC, dI)) (ci := 1) (v := .ref a3) (C := RX1) (T := TX1) (N := 8) hx hb hts hi_X1 hown hK hP 0 rfl rfl 3 (by decide) (hts (.fieldLink RX1 22 "LeftQuills$Desk" "nib" "[I") (wmx 6 rfl)) (fun _ h9 => h9) rfl dX1_layOut_34 ?_
  refine lv_iload_n hx hb dX1_layOut_37 rfl (lv_at hl 0 rfl) ?_
  refine lv_aload_n hx hb dX1_layOut_38 rfl (lv_at hl 1 rfl) ?_
  refine va_get (D := (dC, dI)) (ci := 1) (v := .ref ho) (C := RX1) (T := TX1) (N := 8) hx hb hts hi_X1 hown hK hP 0 rfl rfl 7 (by decide) (hts (.fieldLink RX1 34 "LeftQuills$Desk" "office" "LLeftQuills$Office;") (wmx 4 rfl)) (fun _ h9 => h9) rfl dX1_layOut_39 ?_
  refine va_get (D := (dC, dI)) (ci := 5) (v := .ref o9) (C := RX5) (T := TX5) (N := 13) hx hb hts hi_X5 hown hK hP 1 rfl rfl 9 (by decide) (hts (.fieldLink RX1 43 "LeftQuills$Office" "toldNib" "[I") (wmx 7 rfl)) (fun _ h9 => h9) e_ho_9 dX1_layOut_42 ?_
  refine lv_iload_n hx hb dX1_layOut_45 rfl (lv_at hl 0 rfl) ?_
  refine va_iald hx hb hK hP 8 0 rfl rfl (vp_in_iff.mpr ⟨by decide, by decide⟩) dX1_layOut_46 ?_
  refine W.eq (g2 := F0 m 47 ls [.int (fo9 2), .int 2, .ref a3]) (congrArg (fun y9 => F0 m 47 ls (.int (fo9 y9) :: [.int 2, .ref a3])) ((show ((2 : Int32)).toNatClampNeg = 2 from by decide))) ?_
  refine va_iast hx hb hK hP hD hS 3 0 rfl rfl (vp_in_iff.mpr ⟨by decide, by decide⟩) dX1_layOut_47 (fun H locs hP hD hS => ?_)
  have hcl := (show ((2 : Int32)).toNatClampNeg = 2 from by decide)
  rw [hcl] at hP hD
  clear hcl
  have hPD : pdW (dC, dI) vwCl A [(h0, .inr (1, [.int 0, .int 0, .ref a2, .ref a3, .ref a4, .ref a5, .ref a6, .ref ho])), (ho, .inr (5, f_ho)), (a2, .inl (cI, 8, .inl (upd (upd (upd fa2 0 (fo8 0)) 1 (fo8 1)) 2 (fo8 2)))), (a3, .inl (cI, 8, .inl (upd (upd (upd fa3 0 (fo9 0)) 1 (fo9 1)) 2 (fo9 2)))), (a4, .inl (cI, 8, .inl (upd (upd fa4 0 0) 1 0))), (a5, .inl (cI, 4, .inl fa5)), (a6, .inl (cI, 4, .inl fa6)), (o8, .inl (cI, 8, .inl fo8)), (o9, .inl (cI, 8, .inl fo9))] H := ⟨hP, hD⟩
  have hP := hPD.1
  have hD := hPD.2
  clear hPD
  refine lv_aload_n hx hb dX1_layOut_48 rfl (lv_at hl 1 rfl) ?_
  refine va_get (D := (dC, dI)) (ci := 1) (v := .ref a4) (C := RX1) (T := TX1) (N := 8) hx hb hts hi_X1 hown hK hP 0 rfl rfl 4 (by decide) (hts (.fieldLink RX1 25 "LeftQuills$Desk" "softness" "[I") (wmx 8 rfl)) (fun _ h9 => h9) rfl dX1_layOut_49 ?_
  refine lv_iload_n hx hb dX1_layOut_52 rfl (lv_at hl 0 rfl) ?_
  refine lv_iconst (v := 0) hx hb dX1_layOut_53 (by decide) ?_
  refine va_iast hx hb hK hP hD hS 4 0 rfl rfl (vp_in_iff.mpr ⟨by decide, by decide⟩) dX1_layOut_54 (fun H locs hP hD hS => ?_)
  have hcl := (show ((2 : Int32)).toNatClampNeg = 2 from by decide)
  rw [hcl] at hP hD
  clear hcl
  have hPD : pdW (dC, dI) vwCl A [(h0, .inr (1, [.int 0, .int 0, .ref a2, .ref a3, .ref a4, .ref a5, .ref a6, .ref ho])), (ho, .inr (5, f_ho)), (a2, .inl (cI, 8, .inl (upd (upd (upd fa2 0 (fo8 0)) 1 (fo8 1)) 2 (fo8 2)))), (a3, .inl (cI, 8, .inl (upd (upd (upd fa3 0 (fo9 0)) 1 (fo9 1)) 2 (fo9 2)))), (a4, .inl (cI, 8, .inl (upd (upd (upd fa4 0 0) 1 0) 2 0))), (a5, .inl (cI, 4, .inl fa5)), (a6, .inl (cI, 4, .inl fa6)), (o8, .inl (cI, 8, .inl fo8)), (o9, .inl (cI, 8, .inl fo9))] H := ⟨hP, hD⟩
  have hP := hPD.1
  have hD := hPD.2
  clear hPD
  refine lv_iinc (v := 3) (lv' := [(1, .int 3), (0, .ref h0)]) hx hb dX1_layOut_55 hl (k := 0) rfl (by decide) (by decide) rfl (fun ls hl => ?_)
  refine lv_goto (tgt := 12) hx hb dX1_layOut_58 (by decide) ?_
  refine lv_iload_n hx hb dX1_layOut_12 rfl (lv_at hl 0 rfl) ?_
  refine lv_bipush (v := 8) hx hb dX1_layOut_13 (by decide) ?_
  refine lv_icmp_ge (tgt := 61) hx hb dX1_layOut_15 (by decide) (fun c13 => ?_) (fun c13 => ?_)
  · exact absurd c13 (by decide)
  clear c13
  refine lv_aload_n hx hb dX1_layOut_18 rfl (lv_at hl 1 rfl) ?_
  refine va_get (D := (dC, dI)) (ci := 1) (v := .ref a2) (C := RX1) (T := TX1) (N := 8) hx hb hts hi_X1 hown hK hP 0 rfl rfl 2 (by decide) (hts (.fieldLink RX1 18 "LeftQuills$Desk" "length" "[I") (wmx 3 rfl)) (fun _ h9 => h9) rfl dX1_layOut_19 ?_
  refine lv_iload_n hx hb dX1_layOut_22 rfl (lv_at hl 0 rfl) ?_
  refine lv_aload_n hx hb dX1_layOut_23 rfl (lv_at hl 1 rfl) ?_
  refine va_get (D := (dC, dI)) (ci := 1) (v := .ref ho) (C := RX1) (T := TX1) (N := 8) hx hb hts hi_X1 hown hK hP 0 rfl rfl 7 (by decide) (hts (.fieldLink RX1 34 "LeftQuills$Desk" "office" "LLeftQuills$Office;") (wmx 4 rfl)) (fun _ h9 => h9) rfl dX1_layOut_24 ?_
  refine va_get (D := (dC, dI)) (ci := 5) (v := .ref o8) (C := RX5) (T := TX5) (N := 13) hx hb hts hi_X5 hown hK hP 1 rfl rfl 8 (by decide) (hts (.fieldLink RX1 38 "LeftQuills$Office" "toldLength" "[I") (wmx 5 rfl)) (fun _ h9 => h9) e_ho_8 dX1_layOut_27 ?_
  refine lv_iload_n hx hb dX1_layOut_30 rfl (lv_at hl 0 rfl) ?_
  refine va_iald hx hb hK hP 7 0 rfl rfl (vp_in_iff.mpr ⟨by decide, by decide⟩) dX1_layOut_31 ?_
  refine W.eq (g2 := F0 m 32 ls [.int (fo8 3), .int 3, .ref a2]) (congrArg (fun y9 => F0 m 32 ls (.int (fo8 y9) :: [.int 3, .ref a2])) ((show ((3 : Int32)).toNatClampNeg = 3 from by decide))) ?_
  refine va_iast hx hb hK hP hD hS 2 0 rfl rfl (vp_in_iff.mpr ⟨by decide, by decide⟩) dX1_layOut_32 (fun H locs hP hD hS => ?_)
  have hcl := (show ((3 : Int32)).toNatClampNeg = 3 from by decide)
  rw [hcl] at hP hD
  clear hcl
  have hPD : pdW (dC, dI) vwCl A [(h0, .inr (1, [.int 0, .int 0, .ref a2, .ref a3, .ref a4, .ref a5, .ref a6, .ref ho])), (ho, .inr (5, f_ho)), (a2, .inl (cI, 8, .inl (upd (upd (upd (upd fa2 0 (fo8 0)) 1 (fo8 1)) 2 (fo8 2)) 3 (fo8 3)))), (a3, .inl (cI, 8, .inl (upd (upd (upd fa3 0 (fo9 0)) 1 (fo9 1)) 2 (fo9 2)))), (a4, .inl (cI, 8, .inl (upd (upd (upd fa4 0 0) 1 0) 2 0))), (a5, .inl (cI, 4, .inl fa5)), (a6, .inl (cI, 4, .inl fa6)), (o8, .inl (cI, 8, .inl fo8)), (o9, .inl (cI, 8, .inl fo9))] H := ⟨hP, hD⟩
  have hP := hPD.1
  have hD := hPD.2
  clear hPD
  refine lv_aload_n hx hb dX1_layOut_33 rfl (lv_at hl 1 rfl) ?_
  refine va_get (D := (dC, dI)) (ci := 1) (v := .ref a3) (C := RX1) (T := TX1) (N := 8) hx hb hts hi_X1 hown hK hP 0 rfl rfl 3 (by decide) (hts (.fieldLink RX1 22 "LeftQuills$Desk" "nib" "[I") (wmx 6 rfl)) (fun _ h9 => h9) rfl dX1_layOut_34 ?_
  refine lv_iload_n hx hb dX1_layOut_37 rfl (lv_at hl 0 rfl) ?_
  refine lv_aload_n hx hb dX1_layOut_38 rfl (lv_at hl 1 rfl) ?_
  refine va_get (D := (dC, dI)) (ci := 1) (v := .ref ho) (C := RX1) (T := TX1) (N := 8) hx hb hts hi_X1 hown hK hP 0 rfl rfl 7 (by decide) (hts (.fieldLink RX1 34 "LeftQuills$Desk" "office" "LLeftQuills$Office;") (wmx 4 rfl)) (fun _ h9 => h9) rfl dX1_layOut_39 ?_
  refine va_get (D := (dC, dI)) (ci := 5) (v := .ref o9) (C := RX5) (T := TX5) (N := 13) hx hb hts hi_X5 hown hK hP 1 rfl rfl 9 (by decide) (hts (.fieldLink RX1 43 "LeftQuills$Office" "toldNib" "[I") (wmx 7 rfl)) (fun _ h9 => h9) e_ho_9 dX1_layOut_42 ?_
  refine lv_iload_n hx hb dX1_layOut_45 rfl (lv_at hl 0 rfl) ?_
  refine va_iald hx hb hK hP 8 0 rfl rfl (vp_in_iff.mpr ⟨by decide, by decide⟩) dX1_layOut_46 ?_
  refine W.eq (g2 := F0 m 47 ls [.int (fo9 3), .int 3, .ref a3]) (congrArg (fun y9 => F0 m 47 ls (.int (fo9 y9) :: [.int 3, .ref a3])) ((show ((3 : Int32)).toNatClampNeg = 3 from by decide))) ?_
  refine va_iast hx hb hK hP hD hS 3 0 rfl rfl (vp_in_iff.mpr ⟨by decide, by decide⟩) dX1_layOut_47 (fun H locs hP hD hS => ?_)
  have hcl := (show ((3 : Int32)).toNatClampNeg = 3 from by decide)
  rw [hcl] at hP hD
  clear hcl
  have hPD : pdW (dC, dI) vwCl A [(h0, .inr (1, [.int 0, .int 0, .ref a2, .ref a3, .ref a4, .ref a5, .ref a6, .ref ho])), (ho, .inr (5, f_ho)), (a2, .inl (cI, 8, .inl (upd (upd (upd (upd fa2 0 (fo8 0)) 1 (fo8 1)) 2 (fo8 2)) 3 (fo8 3)))), (a3, .inl (cI, 8, .inl (upd (upd (upd (upd fa3 0 (fo9 0)) 1 (fo9 1)) 2 (fo9 2)) 3 (fo9 3)))), (a4, .inl (cI, 8, .inl (upd (upd (upd fa4 0 0) 1 0) 2 0))), (a5, .inl (cI, 4, .inl fa5)), (a6, .inl (cI, 4, .inl fa6)), (o8, .inl (cI, 8, .inl fo8)), (o9, .inl (cI, 8, .inl fo9))] H := ⟨hP, hD⟩
  have hP := hPD.1
  have hD := hPD.2
  clear hPD
  refine lv_aload_n hx hb dX1_layOut_48 rfl (lv_at hl 1 rfl) ?_
  refine va_get (D := (dC, dI)) (ci := 1) (v := .ref a4) (C := RX1) (T := TX1) (N := 8) hx hb hts hi_X1 hown hK hP 0 rfl rfl 4 (by decide) (hts (.fieldLink RX1 25 "LeftQuills$Desk" "softness" "[I") (wmx 8 rfl)) (fun _ h9 => h9) rfl dX1_layOut_49 ?_
  refine lv_iload_n hx hb dX1_layOut_52 rfl (lv_at hl 0 rfl) ?_
  refine lv_iconst (v := 0) hx hb dX1_layOut_53 (by decide) ?_
  refine va_iast hx hb hK hP hD hS 4 0 rfl rfl (vp_in_iff.mpr ⟨by decide, by decide⟩) dX1_layOut_54 (fun H locs hP hD hS => ?_)
  have hcl := (show ((3 : Int32)).toNatClampNeg = 3 from by decide)
  rw [hcl] at hP hD
  clear hcl
  have hPD : pdW (dC, dI) vwCl A [(h0, .inr (1, [.int 0, .int 0, .ref a2, .ref a3, .ref a4, .ref a5, .ref a6, .ref ho])), (ho, .inr (5, f_ho)), (a2, .inl (cI, 8, .inl (upd (upd (upd (upd fa2 0 (fo8 0)) 1 (fo8 1)) 2 (fo8 2)) 3 (fo8 3)))), (a3, .inl (cI, 8, .inl (upd (upd (upd (upd fa3 0 (fo9 0)) 1 (fo9 1)) 2 (fo9 2)) 3 (fo9 3)))), (a4, .inl (cI, 8, .inl (upd (upd (upd (upd fa4 0 0) 1 0) 2 0) 3 0))), (a5, .inl (cI, 4, .inl fa5)), (a6, .inl (cI, 4, .inl fa6)), (o8, .inl (cI, 8, .inl fo8)), (o9, .inl (cI, 8, .inl fo9))] H := ⟨hP, hD⟩
  have hP := hPD.1
  have hD := hPD.2
  clear hPD
  refine lv_iinc (v := 4) (lv' := [(1, .int 4), (0, .ref h0)]) hx hb dX1_layOut_55 hl (k := 0) rfl (by decide) (by decide) rfl (fun ls hl => ?_)
  refine lv_goto (tgt := 12) hx hb dX1_layOut_58 (by decide) ?_
  refine lv_iload_n hx hb dX1_layOut_12 rfl (lv_at hl 0 rfl) ?_
  refine lv_bipush (v := 8) hx hb dX1_layOut_13 (by decide) ?_
  refine lv_icmp_ge (tgt := 61) hx hb dX1_layOut_15 (by decide) (fun c17 => ?_) (fun c17 => ?_)
  · exact absurd c17 (by decide)
  clear c17
  refine lv_aload_n hx hb dX1_layOut_18 rfl (lv_at hl 1 rfl) ?_
  refine va_get (D := (dC, dI)) (ci := 1) (v := .ref a2) (C := RX1) (T := TX1) (N := 8) hx hb hts hi_X1 hown hK hP 0 rfl rfl 2 (by decide) (hts (.fieldLink RX1 18 "LeftQuills$Desk" "length" "[I") (wmx 3 rfl)) (fun _ h9 => h9) rfl dX1_layOut_19 ?_
  refine lv_iload_n hx hb dX1_layOut_22 rfl (lv_at hl 0 rfl) ?_
  refine lv_aload_n hx hb dX1_layOut_23 rfl (lv_at hl 1 rfl) ?_
  refine va_get (D := (dC, dI)) (ci := 1) (v := .ref ho) (C := RX1) (T := TX1) (N := 8) hx hb hts hi_X1 hown hK hP 0 rfl rfl 7 (by decide) (hts (.fieldLink RX1 34 "LeftQuills$Desk" "office" "LLeftQuills$Office;") (wmx 4 rfl)) (fun _ h9 => h9) rfl dX1_layOut_24 ?_
  refine va_get (D := (dC, dI)) (ci := 5) (v := .ref o8) (C := RX5) (T := TX5) (N := 13) hx hb hts hi_X5 hown hK hP 1 rfl rfl 8 (by decide) (hts (.fieldLink RX1 38 "LeftQuills$Office" "toldLength" "[I") (wmx 5 rfl)) (fun _ h9 => h9) e_ho_8 dX1_layOut_27 ?_
  refine lv_iload_n hx hb dX1_layOut_30 rfl (lv_at hl 0 rfl) ?_
  refine va_iald hx hb hK hP 7 0 rfl rfl (vp_in_iff.mpr ⟨by decide, by decide⟩) dX1_layOut_31 ?_
  refine W.eq (g2 := F0 m 32 ls [.int (fo8 4), .int 4, .ref a2]) (congrArg (fun y9 => F0 m 32 ls (.int (fo8 y9) :: [.int 4, .ref a2])) ((show ((4 : Int32)).toNatClampNeg = 4 from by decide))) ?_
  refine va_iast hx hb hK hP hD hS 2 0 rfl rfl (vp_in_iff.mpr ⟨by decide, by decide⟩) dX1_layOut_32 (fun H locs hP hD hS => ?_)
  have hcl := (show ((4 : Int32)).toNatClampNeg = 4 from by decide)
  rw [hcl] at hP hD
  clear hcl
  have hPD : pdW (dC, dI) vwCl A [(h0, .inr (1, [.int 0, .int 0, .ref a2, .ref a3, .ref a4, .ref a5, .ref a6, .ref ho])), (ho, .inr (5, f_ho)), (a2, .inl (cI, 8, .inl (upd (upd (upd (upd (upd fa2 0 (fo8 0)) 1 (fo8 1)) 2 (fo8 2)) 3 (fo8 3)) 4 (fo8 4)))), (a3, .inl (cI, 8, .inl (upd (upd (upd (upd fa3 0 (fo9 0)) 1 (fo9 1)) 2 (fo9 2)) 3 (fo9 3)))), (a4, .inl (cI, 8, .inl (upd (upd (upd (upd fa4 0 0) 1 0) 2 0) 3 0))), (a5, .inl (cI, 4, .inl fa5)), (a6, .inl (cI, 4, .inl fa6)), (o8, .inl (cI, 8, .inl fo8)), (o9, .inl (cI, 8, .inl fo9))] H := ⟨hP, hD⟩
  have hP := hPD.1
  have hD := hPD.2
  clear hPD
  refine lv_aload_n hx hb dX1_layOut_33 rfl (lv_at hl 1 rfl) ?_
  refine va_get (D := (dC, dI)) (ci := 1) (v := .ref a3) (C := RX1) (T := TX1) (N := 8) hx hb hts hi_X1 hown hK hP 0 rfl rfl 3 (by decide) (hts (.fieldLink RX1 22 "LeftQuills$Desk" "nib" "[I") (wmx 6 rfl)) (fun _ h9 => h9) rfl dX1_layOut_34 ?_
  refine lv_iload_n hx hb dX1_layOut_37 rfl (lv_at hl 0 rfl) ?_
  refine lv_aload_n hx hb dX1_layOut_38 rfl (lv_at hl 1 rfl) ?_
  refine va_get (D := (dC, dI)) (ci := 1) (v := .ref ho) (C := RX1) (T := TX1) (N := 8) hx hb hts hi_X1 hown hK hP 0 rfl rfl 7 (by decide) (hts (.fieldLink RX1 34 "LeftQuills$Desk" "office" "LLeftQuills$Office;") (wmx 4 rfl)) (fun _ h9 => h9) rfl dX1_layOut_39 ?_
  refine va_get (D := (dC, dI)) (ci := 5) (v := .ref o9) (C := RX5) (T := TX5) (N := 13) hx hb hts hi_X5 hown hK hP 1 rfl rfl 9 (by decide) (hts (.fieldLink RX1 43 "LeftQuills$Office" "toldNib" "[I") (wmx 7 rfl)) (fun _ h9 => h9) e_ho_9 dX1_layOut_42 ?_
  refine lv_iload_n hx hb dX1_layOut_45 rfl (lv_at hl 0 rfl) ?_
  refine va_iald hx hb hK hP 8 0 rfl rfl (vp_in_iff.mpr ⟨by decide, by decide⟩) dX1_layOut_46 ?_
  refine W.eq (g2 := F0 m 47 ls [.int (fo9 4), .int 4, .ref a3]) (congrArg (fun y9 => F0 m 47 ls (.int (fo9 y9) :: [.int 4, .ref a3])) ((show ((4 : Int32)).toNatClampNeg = 4 from by decide))) ?_
  refine va_iast hx hb hK hP hD hS 3 0 rfl rfl (vp_in_iff.mpr ⟨by decide, by decide⟩) dX1_layOut_47 (fun H locs hP hD hS => ?_)
  have hcl := (show ((4 : Int32)).toNatClampNeg = 4 from by decide)
  rw [hcl] at hP hD
  clear hcl
  have hPD : pdW (dC, dI) vwCl A [(h0, .inr (1, [.int 0, .int 0, .ref a2, .ref a3, .ref a4, .ref a5, .ref a6, .ref ho])), (ho, .inr (5, f_ho)), (a2, .inl (cI, 8, .inl (upd (upd (upd (upd (upd fa2 0 (fo8 0)) 1 (fo8 1)) 2 (fo8 2)) 3 (fo8 3)) 4 (fo8 4)))), (a3, .inl (cI, 8, .inl (upd (upd (upd (upd (upd fa3 0 (fo9 0)) 1 (fo9 1)) 2 (fo9 2)) 3 (fo9 3)) 4 (fo9 4)))), (a4, .inl (cI, 8, .inl (upd (upd (upd (upd fa4 0 0) 1 0) 2 0) 3 0))), (a5, .inl (cI, 4, .inl fa5)), (a6, .inl (cI, 4, .inl fa6)), (o8, .inl (cI, 8, .inl fo8)), (o9, .inl (cI, 8, .inl fo9))] H := ⟨hP, hD⟩
  have hP := hPD.1
  have hD := hPD.2
  clear hPD
  refine lv_aload_n hx hb dX1_layOut_48 rfl (lv_at hl 1 rfl) ?_
  refine va_get (D := (dC, dI)) (ci := 1) (v := .ref a4) (C := RX1) (T := TX1) (N := 8) hx hb hts hi_X1 hown hK hP 0 rfl rfl 4 (by decide) (hts (.fieldLink RX1 25 "LeftQuills$Desk" "softness" "[I") (wmx 8 rfl)) (fun _ h9 => h9) rfl dX1_layOut_49 ?_
  refine lv_iload_n hx hb dX1_layOut_52 rfl (lv_at hl 0 rfl) ?_
  refine lv_iconst (v := 0) hx hb dX1_layOut_53 (by decide) ?_
  refine va_iast hx hb hK hP hD hS 4 0 rfl rfl (vp_in_iff.mpr ⟨by decide, by decide⟩) dX1_layOut_54 (fun H locs hP hD hS => ?_)
  have hcl := (show ((4 : Int32)).toNatClampNeg = 4 from by decide)
  rw [hcl] at hP hD
  clear hcl
  have hPD : pdW (dC, dI) vwCl A [(h0, .inr (1, [.int 0, .int 0, .ref a2, .ref a3, .ref a4, .ref a5, .ref a6, .ref ho])), (ho, .inr (5, f_ho)), (a2, .inl (cI, 8, .inl (upd (upd (upd (upd (upd fa2 0 (fo8 0)) 1 (fo8 1)) 2 (fo8 2)) 3 (fo8 3)) 4 (fo8 4)))), (a3, .inl (cI, 8, .inl (upd (upd (upd (upd (upd fa3 0 (fo9 0)) 1 (fo9 1)) 2 (fo9 2)) 3 (fo9 3)) 4 (fo9 4)))), (a4, .inl (cI, 8, .inl (upd (upd (upd (upd (upd fa4 0 0) 1 0) 2 0) 3 0) 4 0))), (a5, .inl (cI, 4, .inl fa5)), (a6, .inl (cI, 4, .inl fa6)), (o8, .inl (cI, 8, .inl fo8)), (o9, .inl (cI, 8, .inl fo9))] H := ⟨hP, hD⟩
  have hP := hPD.1
  have hD := hPD.2
  clear hPD
  refine lv_iinc (v := 5) (lv' := [(1, .int 5), (0, .ref h0)]) hx hb dX1_layOut_55 hl (k := 0) rfl (by decide) (by decide) rfl (fun ls hl => ?_)
  refine lv_goto (tgt := 12) hx hb dX1_layOut_58 (by decide) ?_
  refine lv_iload_n hx hb dX1_layOut_12 rfl (lv_at hl 0 rfl) ?_
  refine lv_bipush (v := 8) hx hb dX1_layOut_13 (by decide) ?_
  refine lv_icmp_ge (tgt := 61) hx hb dX1_layOut_15 (by decide) (fun c21 => ?_) (fun c21 => ?_)
  · exact absurd c21 (by decide)
  clear c21
  refine lv_aload_n hx hb dX1_layOut_18 rfl (lv_at hl 1 rfl) ?_
  refine va_get (D := (dC, dI)) (ci := 1) (v := .ref a2) (C := RX1) (T := TX1) (N := 8) hx hb hts hi_X1 hown hK hP 0 rfl rfl 2 (by decide) (hts (.fieldLink RX1 18 "LeftQuills$Desk" "length" "[I") (wmx 3 rfl)) (fun _ h9 => h9) rfl dX1_layOut_19 ?_
  refine lv_iload_n hx hb dX1_layOut_22 rfl (lv_at hl 0 rfl) ?_
  refine lv_aload_n hx hb dX1_layOut_23 rfl (lv_at hl 1 rfl) ?_
  refine va_get (D := (dC, dI)) (ci := 1) (v := .ref ho) (C := RX1) (T := TX1) (N := 8) hx hb hts hi_X1 hown hK hP 0 rfl rfl 7 (by decide) (hts (.fieldLink RX1 34 "LeftQuills$Desk" "office" "LLeftQuills$Office;") (wmx 4 rfl)) (fun _ h9 => h9) rfl dX1_layOut_24 ?_
  refine va_get (D := (dC, dI)) (ci := 5) (v := .ref o8) (C := RX5) (T := TX5) (N := 13) hx hb hts hi_X5 hown hK hP 1 rfl rfl 8 (by decide) (hts (.fieldLink RX1 38 "LeftQuills$Office" "toldLength" "[I") (wmx 5 rfl)) (fun _ h9 => h9) e_ho_8 dX1_layOut_27 ?_
  refine lv_iload_n hx hb dX1_layOut_30 rfl (lv_at hl 0 rfl) ?_
  refine va_iald hx hb hK hP 7 0 rfl rfl (vp_in_iff.mpr ⟨by decide, by decide⟩) dX1_layOut_31 ?_
  refine W.eq (g2 := F0 m 32 ls [.int (fo8 5), .int 5, .ref a2]) (congrArg (fun y9 => F0 m 32 ls (.int (fo8 y9) :: [.int 5, .ref a2])) ((show ((5 : Int32)).toNatClampNeg = 5 from by decide))) ?_
  refine va_iast hx hb hK hP hD hS 2 0 rfl rfl (vp_in_iff.mpr ⟨by decide, by decide⟩) dX1_layOut_32 (fun H locs hP hD hS => ?_)
  have hcl := (show ((5 : Int32)).toNatClampNeg = 5 from by decide)
  rw [hcl] at hP hD
  clear hcl
  have hPD : pdW (dC, dI) vwCl A [(h0, .inr (1, [.int 0, .int 0, .ref a2, .ref a3, .ref a4, .ref a5, .ref a6, .ref ho])), (ho, .inr (5, f_ho)), (a2, .inl (cI, 8, .inl (upd (upd (upd (upd (upd (upd fa2 0 (fo8 0)) 1 (fo8 1)) 2 (fo8 2)) 3 (fo8 3)) 4 (fo8 4)) 5 (fo8 5)))), (a3, .inl (cI, 8, .inl (upd (upd (upd (upd (upd fa3 0 (fo9 0)) 1 (fo9 1)) 2 (fo9 2)) 3 (fo9 3)) 4 (fo9 4)))), (a4, .inl (cI, 8, .inl (upd (upd (upd (upd (upd fa4 0 0) 1 0) 2 0) 3 0) 4 0))), (a5, .inl (cI, 4, .inl fa5)), (a6, .inl (cI, 4, .inl fa6)), (o8, .inl (cI, 8, .inl fo8)), (o9, .inl (cI, 8, .inl fo9))] H := ⟨hP, hD⟩
  have hP := hPD.1
  have hD := hPD.2
  clear hPD
  refine lv_aload_n hx hb dX1_layOut_33 rfl (lv_at hl 1 rfl) ?_
  refine va_get (D := (dC, dI)) (ci := 1) (v := .ref a3) (C := RX1) (T := TX1) (N := 8) hx hb hts hi_X1 hown hK hP 0 rfl rfl 3 (by decide) (hts (.fieldLink RX1 22 "LeftQuills$Desk" "nib" "[I") (wmx 6 rfl)) (fun _ h9 => h9) rfl dX1_layOut_34 ?_
  refine lv_iload_n hx hb dX1_layOut_37 rfl (lv_at hl 0 rfl) ?_
  refine lv_aload_n hx hb dX1_layOut_38 rfl (lv_at hl 1 rfl) ?_
  refine va_get (D := (dC, dI)) (ci := 1) (v := .ref ho) (C := RX1) (T := TX1) (N := 8) hx hb hts hi_X1 hown hK hP 0 rfl rfl 7 (by decide) (hts (.fieldLink RX1 34 "LeftQuills$Desk" "office" "LLeftQuills$Office;") (wmx 4 rfl)) (fun _ h9 => h9) rfl dX1_layOut_39 ?_
  refine va_get (D := (dC, dI)) (ci := 5) (v := .ref o9) (C := RX5) (T := TX5) (N := 13) hx hb hts hi_X5 hown hK hP 1 rfl rfl 9 (by decide) (hts (.fieldLink RX1 43 "LeftQuills$Office" "toldNib" "[I") (wmx 7 rfl)) (fun _ h9 => h9) e_ho_9 dX1_layOut_42 ?_
  refine lv_iload_n hx hb dX1_layOut_45 rfl (lv_at hl 0 rfl) ?_
  refine va_iald hx hb hK hP 8 0 rfl rfl (vp_in_iff.mpr ⟨by decide, by decide⟩) dX1_layOut_46 ?_
  refine W.eq (g2 := F0 m 47 ls [.int (fo9 5), .int 5, .ref a3]) (congrArg (fun y9 => F0 m 47 ls (.int (fo9 y9) :: [.int 5, .ref a3])) ((show ((5 : Int32)).toNatClampNeg = 5 from by decide))) ?_
  refine va_iast hx hb hK hP hD hS 3 0 rfl rfl (vp_in_iff.mpr ⟨by decide, by decide⟩) dX1_layOut_47 (fun H locs hP hD hS => ?_)
  have hcl := (show ((5 : Int32)).toNatClampNeg = 5 from by decide)
  rw [hcl] at hP hD
  clear hcl
  have hPD : pdW (dC, dI) vwCl A [(h0, .inr (1, [.int 0, .int 0, .ref a2, .ref a3, .ref a4, .ref a5, .ref a6, .ref ho])), (ho, .inr (5, f_ho)), (a2, .inl (cI, 8, .inl (upd (upd (upd (upd (upd (upd fa2 0 (fo8 0)) 1 (fo8 1)) 2 (fo8 2)) 3 (fo8 3)) 4 (fo8 4)) 5 (fo8 5)))), (a3, .inl (cI, 8, .inl (upd (upd (upd (upd (upd (upd fa3 0 (fo9 0)) 1 (fo9 1)) 2 (fo9 2)) 3 (fo9 3)) 4 (fo9 4)) 5 (fo9 5)))), (a4, .inl (cI, 8, .inl (upd (upd (upd (upd (upd fa4 0 0) 1 0) 2 0) 3 0) 4 0))), (a5, .inl (cI, 4, .inl fa5)), (a6, .inl (cI, 4, .inl fa6)), (o8, .inl (cI, 8, .inl fo8)), (o9, .inl (cI, 8, .inl fo9))] H := ⟨hP, hD⟩
  have hP := hPD.1
  have hD := hPD.2
  clear hPD
  refine lv_aload_n hx hb dX1_layOut_48 rfl (lv_at hl 1 rfl) ?_
  refine va_get (D := (dC, dI)) (ci := 1) (v := .ref a4) (C := RX1) (T := TX1) (N := 8) hx hb hts hi_X1 hown hK hP 0 rfl rfl 4 (by decide) (hts (.fieldLink RX1 25 "LeftQuills$Desk" "softness" "[I") (wmx 8 rfl)) (fun _ h9 => h9) rfl dX1_layOut_49 ?_
  refine lv_iload_n hx hb dX1_layOut_52 rfl (lv_at hl 0 rfl) ?_
  refine lv_iconst (v := 0) hx hb dX1_layOut_53 (by decide) ?_
  refine va_iast hx hb hK hP hD hS 4 0 rfl rfl (vp_in_iff.mpr ⟨by decide, by decide⟩) dX1_layOut_54 (fun H locs hP hD hS => ?_)
  have hcl := (show ((5 : Int32)).toNatClampNeg = 5 from by decide)
  rw [hcl] at hP hD
  clear hcl
  have hPD : pdW (dC, dI) vwCl A [(h0, .inr (1, [.int 0, .int 0, .ref a2, .ref a3, .ref a4, .ref a5, .ref a6, .ref ho])), (ho, .inr (5, f_ho)), (a2, .inl (cI, 8, .inl (upd (upd (upd (upd (upd (upd fa2 0 (fo8 0)) 1 (fo8 1)) 2 (fo8 2)) 3 (fo8 3)) 4 (fo8 4)) 5 (fo8 5)))), (a3, .inl (cI, 8, .inl (upd (upd (upd (upd (upd (upd fa3 0 (fo9 0)) 1 (fo9 1)) 2 (fo9 2)) 3 (fo9 3)) 4 (fo9 4)) 5 (fo9 5)))), (a4, .inl (cI, 8, .inl (upd (upd (upd (upd (upd (upd fa4 0 0) 1 0) 2 0) 3 0) 4 0) 5 0))), (a5, .inl (cI, 4, .inl fa5)), (a6, .inl (cI, 4, .inl fa6)), (o8, .inl (cI, 8, .inl fo8)), (o9, .inl (cI, 8, .inl fo9))] H := ⟨hP, hD⟩
  have hP := hPD.1
  have hD := hPD.2
  clear hPD
  refine lv_iinc (v := 6) (lv' := [(1, .int 6), (0, .ref h0)]) hx hb dX1_layOut_55 hl (k := 0) rfl (by decide) (by decide) rfl (fun ls hl => ?_)
  refine lv_goto (tgt := 12) hx hb dX1_layOut_58 (by decide) ?_
  refine lv_iload_n hx hb dX1_layOut_12 rfl (lv_at hl 0 rfl) ?_
  refine lv_bipush (v := 8) hx hb dX1_layOut_13 (by decide) ?_
  refine lv_icmp_ge (tgt := 61) hx hb dX1_layOut_15 (by decide) (fun c25 => ?_) (fun c25 => ?_)
  · exact absurd c25 (by decide)
  clear c25
  refine lv_aload_n hx hb dX1_layOut_18 rfl (lv_at hl 1 rfl) ?_
  refine va_get (D := (dC, dI)) (ci := 1) (v := .ref a2) (C := RX1) (T := TX1) (N := 8) hx hb hts hi_X1 hown hK hP 0 rfl rfl 2 (by decide) (hts (.fieldLink RX1 18 "LeftQuills$Desk" "length" "[I") (wmx 3 rfl)) (fun _ h9 => h9) rfl dX1_layOut_19 ?_
  refine lv_iload_n hx hb dX1_layOut_22 rfl (lv_at hl 0 rfl) ?_
  refine lv_aload_n hx hb dX1_layOut_23 rfl (lv_at hl 1 rfl) ?_
  refine va_get (D := (dC, dI)) (ci := 1) (v := .ref ho) (C := RX1) (T := TX1) (N := 8) hx hb hts hi_X1 hown hK hP 0 rfl rfl 7 (by decide) (hts (.fieldLink RX1 34 "LeftQuills$Desk" "office" "LLeftQuills$Office;") (wmx 4 rfl)) (fun _ h9 => h9) rfl dX1_layOut_24 ?_
  refine va_get (D := (dC, dI)) (ci := 5) (v := .ref o8) (C := RX5) (T := TX5) (N := 13) hx hb hts hi_X5 hown hK hP 1 rfl rfl 8 (by decide) (hts (.fieldLink RX1 38 "LeftQuills$Office" "toldLength" "[I") (wmx 5 rfl)) (fun _ h9 => h9) e_ho_8 dX1_layOut_27 ?_
  refine lv_iload_n hx hb dX1_layOut_30 rfl (lv_at hl 0 rfl) ?_
  refine va_iald hx hb hK hP 7 0 rfl rfl (vp_in_iff.mpr ⟨by decide, by decide⟩) dX1_layOut_31 ?_
  refine W.eq (g2 := F0 m 32 ls [.int (fo8 6), .int 6, .ref a2]) (congrArg (fun y9 => F0 m 32 ls (.int (fo8 y9) :: [.int 6, .ref a2])) ((show ((6 : Int32)).toNatClampNeg = 6 from by decide))) ?_
  refine va_iast hx hb hK hP hD hS 2 0 rfl rfl (vp_in_iff.mpr ⟨by decide, by decide⟩) dX1_layOut_32 (fun H locs hP hD hS => ?_)
  have hcl := (show ((6 : Int32)).toNatClampNeg = 6 from by decide)
  rw [hcl] at hP hD
  clear hcl
  have hPD : pdW (dC, dI) vwCl A [(h0, .inr (1, [.int 0, .int 0, .ref a2, .ref a3, .ref a4, .ref a5, .ref a6, .ref ho])), (ho, .inr (5, f_ho)), (a2, .inl (cI, 8, .inl (upd (upd (upd (upd (upd (upd (upd fa2 0 (fo8 0)) 1 (fo8 1)) 2 (fo8 2)) 3 (fo8 3)) 4 (fo8 4)) 5 (fo8 5)) 6 (fo8 6)))), (a3, .inl (cI, 8, .inl (upd (upd (upd (upd (upd (upd fa3 0 (fo9 0)) 1 (fo9 1)) 2 (fo9 2)) 3 (fo9 3)) 4 (fo9 4)) 5 (fo9 5)))), (a4, .inl (cI, 8, .inl (upd (upd (upd (upd (upd (upd fa4 0 0) 1 0) 2 0) 3 0) 4 0) 5 0))), (a5, .inl (cI, 4, .inl fa5)), (a6, .inl (cI, 4, .inl fa6)), (o8, .inl (cI, 8, .inl fo8)), (o9, .inl (cI, 8, .inl fo9))] H := ⟨hP, hD⟩
  have hP := hPD.1
  have hD := hPD.2
  clear hPD
  refine lv_aload_n hx hb dX1_layOut_33 rfl (lv_at hl 1 rfl) ?_
  refine va_get (D := (dC, dI)) (ci := 1) (v := .ref a3) (C := RX1) (T := TX1) (N := 8) hx hb hts hi_X1 hown hK hP 0 rfl rfl 3 (by decide) (hts (.fieldLink RX1 22 "LeftQuills$Desk" "nib" "[I") (wmx 6 rfl)) (fun _ h9 => h9) rfl dX1_layOut_34 ?_
  refine lv_iload_n hx hb dX1_layOut_37 rfl (lv_at hl 0 rfl) ?_
  refine lv_aload_n hx hb dX1_layOut_38 rfl (lv_at hl 1 rfl) ?_
  refine va_get (D := (dC, dI)) (ci := 1) (v := .ref ho) (C := RX1) (T := TX1) (N := 8) hx hb hts hi_X1 hown hK hP 0 rfl rfl 7 (by decide) (hts (.fieldLink RX1 34 "LeftQuills$Desk" "office" "LLeftQuills$Office;") (wmx 4 rfl)) (fun _ h9 => h9) rfl dX1_layOut_39 ?_
  refine va_get (D := (dC, dI)) (ci := 5) (v := .ref o9) (C := RX5) (T := TX5) (N := 13) hx hb hts hi_X5 hown hK hP 1 rfl rfl 9 (by decide) (hts (.fieldLink RX1 43 "LeftQuills$Office" "toldNib" "[I") (wmx 7 rfl)) (fun _ h9 => h9) e_ho_9 dX1_layOut_42 ?_
  refine lv_iload_n hx hb dX1_layOut_45 rfl (lv_at hl 0 rfl) ?_
  refine va_iald hx hb hK hP 8 0 rfl rfl (vp_in_iff.mpr ⟨by decide, by decide⟩) dX1_layOut_46 ?_
  refine W.eq (g2 := F0 m 47 ls [.int (fo9 6), .int 6, .ref a3]) (congrArg (fun y9 => F0 m 47 ls (.int (fo9 y9) :: [.int 6, .ref a3])) ((show ((6 : Int32)).toNatClampNeg = 6 from by decide))) ?_
  refine va_iast hx hb hK hP hD hS 3 0 rfl rfl (vp_in_iff.mpr ⟨by decide, by decide⟩) dX1_layOut_47 (fun H locs hP hD hS => ?_)
  have hcl := (show ((6 : Int32)).toNatClampNeg = 6 from by decide)
  rw [hcl] at hP hD
  clear hcl
  have hPD : pdW (dC, dI) vwCl A [(h0, .inr (1, [.int 0, .int 0, .ref a2, .ref a3, .ref a4, .ref a5, .ref a6, .ref ho])), (ho, .inr (5, f_ho)), (a2, .inl (cI, 8, .inl (upd (upd (upd (upd (upd (upd (upd fa2 0 (fo8 0)) 1 (fo8 1)) 2 (fo8 2)) 3 (fo8 3)) 4 (fo8 4)) 5 (fo8 5)) 6 (fo8 6)))), (a3, .inl (cI, 8, .inl (upd (upd (upd (upd (upd (upd (upd fa3 0 (fo9 0)) 1 (fo9 1)) 2 (fo9 2)) 3 (fo9 3)) 4 (fo9 4)) 5 (fo9 5)) 6 (fo9 6)))), (a4, .inl (cI, 8, .inl (upd (upd (upd (upd (upd (upd fa4 0 0) 1 0) 2 0) 3 0) 4 0) 5 0))), (a5, .inl (cI, 4, .inl fa5)), (a6, .inl (cI, 4, .inl fa6)), (o8, .inl (cI, 8, .inl fo8)), (o9, .inl (cI, 8, .inl fo9))] H := ⟨hP, hD⟩
  have hP := hPD.1
  have hD := hPD.2
  clear hPD
  refine lv_aload_n hx hb dX1_layOut_48 rfl (lv_at hl 1 rfl) ?_
  refine va_get (D := (dC, dI)) (ci := 1) (v := .ref a4) (C := RX1) (T := TX1) (N := 8) hx hb hts hi_X1 hown hK hP 0 rfl rfl 4 (by decide) (hts (.fieldLink RX1 25 "LeftQuills$Desk" "softness" "[I") (wmx 8 rfl)) (fun _ h9 => h9) rfl dX1_layOut_49 ?_
  refine lv_iload_n hx hb dX1_layOut_52 rfl (lv_at hl 0 rfl) ?_
  refine lv_iconst (v := 0) hx hb dX1_layOut_53 (by decide) ?_
  refine va_iast hx hb hK hP hD hS 4 0 rfl rfl (vp_in_iff.mpr ⟨by decide, by decide⟩) dX1_layOut_54 (fun H locs hP hD hS => ?_)
  have hcl := (show ((6 : Int32)).toNatClampNeg = 6 from by decide)
  rw [hcl] at hP hD
  clear hcl
  have hPD : pdW (dC, dI) vwCl A [(h0, .inr (1, [.int 0, .int 0, .ref a2, .ref a3, .ref a4, .ref a5, .ref a6, .ref ho])), (ho, .inr (5, f_ho)), (a2, .inl (cI, 8, .inl (upd (upd (upd (upd (upd (upd (upd fa2 0 (fo8 0)) 1 (fo8 1)) 2 (fo8 2)) 3 (fo8 3)) 4 (fo8 4)) 5 (fo8 5)) 6 (fo8 6)))), (a3, .inl (cI, 8, .inl (upd (upd (upd (upd (upd (upd (upd fa3 0 (fo9 0)) 1 (fo9 1)) 2 (fo9 2)) 3 (fo9 3)) 4 (fo9 4)) 5 (fo9 5)) 6 (fo9 6)))), (a4, .inl (cI, 8, .inl (upd (upd (upd (upd (upd (upd (upd fa4 0 0) 1 0) 2 0) 3 0) 4 0) 5 0) 6 0))), (a5, .inl (cI, 4, .inl fa5)), (a6, .inl (cI, 4, .inl fa6)), (o8, .inl (cI, 8, .inl fo8)), (o9, .inl (cI, 8, .inl fo9))] H := ⟨hP, hD⟩
  have hP := hPD.1
  have hD := hPD.2
  clear hPD
  refine lv_iinc (v := 7) (lv' := [(1, .int 7), (0, .ref h0)]) hx hb dX1_layOut_55 hl (k := 0) rfl (by decide) (by decide) rfl (fun ls hl => ?_)
  refine lv_goto (tgt := 12) hx hb dX1_layOut_58 (by decide) ?_
  refine lv_iload_n hx hb dX1_layOut_12 rfl (lv_at hl 0 rfl) ?_
  refine lv_bipush (v := 8) hx hb dX1_layOut_13 (by decide) ?_
  refine lv_icmp_ge (tgt := 61) hx hb dX1_layOut_15 (by decide) (fun c29 => ?_) (fun c29 => ?_)
  · exact absurd c29 (by decide)
  clear c29
  refine lv_aload_n hx hb dX1_layOut_18 rfl (lv_at hl 1 rfl) ?_
  refine va_get (D := (dC, dI)) (ci := 1) (v := .ref a2) (C := RX1) (T := TX1) (N := 8) hx hb hts hi_X1 hown hK hP 0 rfl rfl 2 (by decide) (hts (.fieldLink RX1 18 "LeftQuills$Desk" "length" "[I") (wmx 3 rfl)) (fun _ h9 => h9) rfl dX1_layOut_19 ?_
  refine lv_iload_n hx hb dX1_layOut_22 rfl (lv_at hl 0 rfl) ?_
  refine lv_aload_n hx hb dX1_layOut_23 rfl (lv_at hl 1 rfl) ?_
  refine va_get (D := (dC, dI)) (ci := 1) (v := .ref ho) (C := RX1) (T := TX1) (N := 8) hx hb hts hi_X1 hown hK hP 0 rfl rfl 7 (by decide) (hts (.fieldLink RX1 34 "LeftQuills$Desk" "office" "LLeftQuills$Office;") (wmx 4 rfl)) (fun _ h9 => h9) rfl dX1_layOut_24 ?_
  refine va_get (D := (dC, dI)) (ci := 5) (v := .ref o8) (C := RX5) (T := TX5) (N := 13) hx hb hts hi_X5 hown hK hP 1 rfl rfl 8 (by decide) (hts (.fieldLink RX1 38 "LeftQuills$Office" "toldLength" "[I") (wmx 5 rfl)) (fun _ h9 => h9) e_ho_8 dX1_layOut_27 ?_
  refine lv_iload_n hx hb dX1_layOut_30 rfl (lv_at hl 0 rfl) ?_
  refine va_iald hx hb hK hP 7 0 rfl rfl (vp_in_iff.mpr ⟨by decide, by decide⟩) dX1_layOut_31 ?_
  refine W.eq (g2 := F0 m 32 ls [.int (fo8 7), .int 7, .ref a2]) (congrArg (fun y9 => F0 m 32 ls (.int (fo8 y9) :: [.int 7, .ref a2])) ((show ((7 : Int32)).toNatClampNeg = 7 from by decide))) ?_
  refine va_iast hx hb hK hP hD hS 2 0 rfl rfl (vp_in_iff.mpr ⟨by decide, by decide⟩) dX1_layOut_32 (fun H locs hP hD hS => ?_)
  have hcl := (show ((7 : Int32)).toNatClampNeg = 7 from by decide)
  rw [hcl] at hP hD
  clear hcl
  have hPD : pdW (dC, dI) vwCl A [(h0, .inr (1, [.int 0, .int 0, .ref a2, .ref a3, .ref a4, .ref a5, .ref a6, .ref ho])), (ho, .inr (5, f_ho)), (a2, .inl (cI, 8, .inl (upd (upd (upd (upd (upd (upd (upd (upd fa2 0 (fo8 0)) 1 (fo8 1)) 2 (fo8 2)) 3 (fo8 3)) 4 (fo8 4)) 5 (fo8 5)) 6 (fo8 6)) 7 (fo8 7)))), (a3, .inl (cI, 8, .inl (upd (upd (upd (upd (upd (upd (upd fa3 0 (fo9 0)) 1 (fo9 1)) 2 (fo9 2)) 3 (fo9 3)) 4 (fo9 4)) 5 (fo9 5)) 6 (fo9 6)))), (a4, .inl (cI, 8, .inl (upd (upd (upd (upd (upd (upd (upd fa4 0 0) 1 0) 2 0) 3 0) 4 0) 5 0) 6 0))), (a5, .inl (cI, 4, .inl fa5)), (a6, .inl (cI, 4, .inl fa6)), (o8, .inl (cI, 8, .inl fo8)), (o9, .inl (cI, 8, .inl fo9))] H := ⟨hP, hD⟩
  have hP := hPD.1
  have hD := hPD.2
  clear hPD
  refine lv_aload_n hx hb dX1_layOut_33 rfl (lv_at hl 1 rfl) ?_
  refine va_get (D := (dC, dI)) (ci := 1) (v := .ref a3) (C := RX1) (T := TX1) (N := 8) hx hb hts hi_X1 hown hK hP 0 rfl rfl 3 (by decide) (hts (.fieldLink RX1 22 "LeftQuills$Desk" "nib" "[I") (wmx 6 rfl)) (fun _ h9 => h9) rfl dX1_layOut_34 ?_
  refine lv_iload_n hx hb dX1_layOut_37 rfl (lv_at hl 0 rfl) ?_
  refine lv_aload_n hx hb dX1_layOut_38 rfl (lv_at hl 1 rfl) ?_
  refine va_get (D := (dC, dI)) (ci := 1) (v := .ref ho) (C := RX1) (T := TX1) (N := 8) hx hb hts hi_X1 hown hK hP 0 rfl rfl 7 (by decide) (hts (.fieldLink RX1 34 "LeftQuills$Desk" "office" "LLeftQuills$Office;") (wmx 4 rfl)) (fun _ h9 => h9) rfl dX1_layOut_39 ?_
  refine va_get (D := (dC, dI)) (ci := 5) (v := .ref o9) (C := RX5) (T := TX5) (N := 13) hx hb hts hi_X5 hown hK hP 1 rfl rfl 9 (by decide) (hts (.fieldLink RX1 43 "LeftQuills$Office" "toldNib" "[I") (wmx 7 rfl)) (fun _ h9 => h9) e_ho_9 dX1_layOut_42 ?_
  refine lv_iload_n hx hb dX1_layOut_45 rfl (lv_at hl 0 rfl) ?_
  refine va_iald hx hb hK hP 8 0 rfl rfl (vp_in_iff.mpr ⟨by decide, by decide⟩) dX1_layOut_46 ?_
  refine W.eq (g2 := F0 m 47 ls [.int (fo9 7), .int 7, .ref a3]) (congrArg (fun y9 => F0 m 47 ls (.int (fo9 y9) :: [.int 7, .ref a3])) ((show ((7 : Int32)).toNatClampNeg = 7 from by decide))) ?_
  refine va_iast hx hb hK hP hD hS 3 0 rfl rfl (vp_in_iff.mpr ⟨by decide, by decide⟩) dX1_layOut_47 (fun H locs hP hD hS => ?_)
  have hcl := (show ((7 : Int32)).toNatClampNeg = 7 from by decide)
  rw [hcl] at hP hD
  clear hcl
  have hPD : pdW (dC, dI) vwCl A [(h0, .inr (1, [.int 0, .int 0, .ref a2, .ref a3, .ref a4, .ref a5, .ref a6, .ref ho])), (ho, .inr (5, f_ho)), (a2, .inl (cI, 8, .inl (upd (upd (upd (upd (upd (upd (upd (upd fa2 0 (fo8 0)) 1 (fo8 1)) 2 (fo8 2)) 3 (fo8 3)) 4 (fo8 4)) 5 (fo8 5)) 6 (fo8 6)) 7 (fo8 7)))), (a3, .inl (cI, 8, .inl (upd (upd (upd (upd (upd (upd (upd (upd fa3 0 (fo9 0)) 1 (fo9 1)) 2 (fo9 2)) 3 (fo9 3)) 4 (fo9 4)) 5 (fo9 5)) 6 (fo9 6)) 7 (fo9 7)))), (a4, .inl (cI, 8, .inl (upd (upd (upd (upd (upd (upd (upd fa4 0 0) 1 0) 2 0) 3 0) 4 0) 5 0) 6 0))), (a5, .inl (cI, 4, .inl fa5)), (a6, .inl (cI, 4, .inl fa6)), (o8, .inl (cI, 8, .inl fo8)), (o9, .inl (cI, 8, .inl fo9))] H := ⟨hP, hD⟩
  have hP := hPD.1
  have hD := hPD.2
  clear hPD
  refine lv_aload_n hx hb dX1_layOut_48 rfl (lv_at hl 1 rfl) ?_
  refine va_get (D := (dC, dI)) (ci := 1) (v := .ref a4) (C := RX1) (T := TX1) (N := 8) hx hb hts hi_X1 hown hK hP 0 rfl rfl 4 (by decide) (hts (.fieldLink RX1 25 "LeftQuills$Desk" "softness" "[I") (wmx 8 rfl)) (fun _ h9 => h9) rfl dX1_layOut_49 ?_
  refine lv_iload_n hx hb dX1_layOut_52 rfl (lv_at hl 0 rfl) ?_
  refine lv_iconst (v := 0) hx hb dX1_layOut_53 (by decide) ?_
  refine va_iast hx hb hK hP hD hS 4 0 rfl rfl (vp_in_iff.mpr ⟨by decide, by decide⟩) dX1_layOut_54 (fun H locs hP hD hS => ?_)
  have hcl := (show ((7 : Int32)).toNatClampNeg = 7 from by decide)
  rw [hcl] at hP hD
  clear hcl
  have hPD : pdW (dC, dI) vwCl A [(h0, .inr (1, [.int 0, .int 0, .ref a2, .ref a3, .ref a4, .ref a5, .ref a6, .ref ho])), (ho, .inr (5, f_ho)), (a2, .inl (cI, 8, .inl (upd (upd (upd (upd (upd (upd (upd (upd fa2 0 (fo8 0)) 1 (fo8 1)) 2 (fo8 2)) 3 (fo8 3)) 4 (fo8 4)) 5 (fo8 5)) 6 (fo8 6)) 7 (fo8 7)))), (a3, .inl (cI, 8, .inl (upd (upd (upd (upd (upd (upd (upd (upd fa3 0 (fo9 0)) 1 (fo9 1)) 2 (fo9 2)) 3 (fo9 3)) 4 (fo9 4)) 5 (fo9 5)) 6 (fo9 6)) 7 (fo9 7)))), (a4, .inl (cI, 8, .inl (upd (upd (upd (upd (upd (upd (upd (upd fa4 0 0) 1 0) 2 0) 3 0) 4 0) 5 0) 6 0) 7 0))), (a5, .inl (cI, 4, .inl fa5)), (a6, .inl (cI, 4, .inl fa6)), (o8, .inl (cI, 8, .inl fo8)), (o9, .inl (cI, 8, .inl fo9))] H := ⟨hP, hD⟩
  have hP := hPD.1
  have hD := hPD.2
  clear hPD
  refine lv_iinc (v := 8) (lv' := [(1, .int 8), (0, .ref h0)]) hx hb dX1_layOut_55 hl (k := 0) rfl (by decide) (by decide) rfl (fun ls hl => ?_)
  refine lv_goto (tgt := 12) hx hb dX1_layOut_58 (by decide) ?_
  refine lv_iload_n hx hb dX1_layOut_12 rfl (lv_at hl 0 rfl) ?_
  refine lv_bipush (v := 8) hx hb dX1_layOut_13 (by decide) ?_
  refine lv_icmp_ge (tgt := 61) hx hb dX1_layOut_15 (by decide) (fun c33 => ?_) (fun c33 => ?_)
  rotate_left
  · exact absurd c33 (by decide)
  clear c33
  refine lv_iconst (v := 0) hx hb dX1_layOut_61 (by decide) ?_
  refine lv_istore_n (lv' := [(1, .int 0), (0, .ref h0)]) hx hb dX1_layOut_62 rfl hl (by decide) rfl (fun ls hl => ?_)
  refine lv_iload_n hx hb dX1_layOut_63 rfl (lv_at hl 0 rfl) ?_
  refine lv_iconst (v := 4) hx hb dX1_layOut_64 (by decide) ?_
  refine lv_icmp_ge (tgt := 88) hx hb dX1_layOut_65 (by decide) (fun c34 => ?_) (fun c34 => ?_)
  · exact absurd c34 (by decide)
  clear c34
  refine lv_aload_n hx hb dX1_layOut_68 rfl (lv_at hl 1 rfl) ?_
  refine va_get (D := (dC, dI)) (ci := 1) (v := .ref a5) (C := RX1) (T := TX1) (N := 8) hx hb hts hi_X1 hown hK hP 0 rfl rfl 5 (by decide) (hts (.fieldLink RX1 28 "LeftQuills$Desk" "pages" "[I") (wmx 9 rfl)) (fun _ h9 => h9) rfl dX1_layOut_69 ?_
  refine lv_iload_n hx hb dX1_layOut_72 rfl (lv_at hl 0 rfl) ?_
  refine lv_iconst (v := 0) hx hb dX1_layOut_73 (by decide) ?_
  refine va_iast hx hb hK hP hD hS 5 0 rfl rfl (vp_in_iff.mpr ⟨by decide, by decide⟩) dX1_layOut_74 (fun H locs hP hD hS => ?_)
  have hcl := (show ((0 : Int32)).toNatClampNeg = 0 from by decide)
  rw [hcl] at hP hD
  clear hcl
  have hPD : pdW (dC, dI) vwCl A [(h0, .inr (1, [.int 0, .int 0, .ref a2, .ref a3, .ref a4, .ref a5, .ref a6, .ref ho])), (ho, .inr (5, f_ho)), (a2, .inl (cI, 8, .inl (upd (upd (upd (upd (upd (upd (upd (upd fa2 0 (fo8 0)) 1 (fo8 1)) 2 (fo8 2)) 3 (fo8 3)) 4 (fo8 4)) 5 (fo8 5)) 6 (fo8 6)) 7 (fo8 7)))), (a3, .inl (cI, 8, .inl (upd (upd (upd (upd (upd (upd (upd (upd fa3 0 (fo9 0)) 1 (fo9 1)) 2 (fo9 2)) 3 (fo9 3)) 4 (fo9 4)) 5 (fo9 5)) 6 (fo9 6)) 7 (fo9 7)))), (a4, .inl (cI, 8, .inl (upd (upd (upd (upd (upd (upd (upd (upd fa4 0 0) 1 0) 2 0) 3 0) 4 0) 5 0) 6 0) 7 0))), (a5, .inl (cI, 4, .inl (upd fa5 0 0))), (a6, .inl (cI, 4, .inl fa6)), (o8, .inl (cI, 8, .inl fo8)), (o9, .inl (cI, 8, .inl fo9))] H := ⟨hP, hD⟩
  have hP := hPD.1
  have hD := hPD.2
  clear hPD
  refine lv_aload_n hx hb dX1_layOut_75 rfl (lv_at hl 1 rfl) ?_
  refine va_get (D := (dC, dI)) (ci := 1) (v := .ref a6) (C := RX1) (T := TX1) (N := 8) hx hb hts hi_X1 hown hK hP 0 rfl rfl 6 (by decide) (hts (.fieldLink RX1 31 "LeftQuills$Desk" "good" "[I") (wmx 10 rfl)) (fun _ h9 => h9) rfl dX1_layOut_76 ?_
  refine lv_iload_n hx hb dX1_layOut_79 rfl (lv_at hl 0 rfl) ?_
  refine lv_iconst (v := 0) hx hb dX1_layOut_80 (by decide) ?_
  refine va_iast hx hb hK hP hD hS 6 0 rfl rfl (vp_in_iff.mpr ⟨by decide, by decide⟩) dX1_layOut_81 (fun H locs hP hD hS => ?_)
  have hcl := (show ((0 : Int32)).toNatClampNeg = 0 from by decide)
  rw [hcl] at hP hD
  clear hcl
  have hPD : pdW (dC, dI) vwCl A [(h0, .inr (1, [.int 0, .int 0, .ref a2, .ref a3, .ref a4, .ref a5, .ref a6, .ref ho])), (ho, .inr (5, f_ho)), (a2, .inl (cI, 8, .inl (upd (upd (upd (upd (upd (upd (upd (upd fa2 0 (fo8 0)) 1 (fo8 1)) 2 (fo8 2)) 3 (fo8 3)) 4 (fo8 4)) 5 (fo8 5)) 6 (fo8 6)) 7 (fo8 7)))), (a3, .inl (cI, 8, .inl (upd (upd (upd (upd (upd (upd (upd (upd fa3 0 (fo9 0)) 1 (fo9 1)) 2 (fo9 2)) 3 (fo9 3)) 4 (fo9 4)) 5 (fo9 5)) 6 (fo9 6)) 7 (fo9 7)))), (a4, .inl (cI, 8, .inl (upd (upd (upd (upd (upd (upd (upd (upd fa4 0 0) 1 0) 2 0) 3 0) 4 0) 5 0) 6 0) 7 0))), (a5, .inl (cI, 4, .inl (upd fa5 0 0))), (a6, .inl (cI, 4, .inl (upd fa6 0 0))), (o8, .inl (cI, 8, .inl fo8)), (o9, .inl (cI, 8, .inl fo9))] H := ⟨hP, hD⟩
  have hP := hPD.1
  have hD := hPD.2
  clear hPD
  refine lv_iinc (v := 1) (lv' := [(1, .int 1), (0, .ref h0)]) hx hb dX1_layOut_82 hl (k := 0) rfl (by decide) (by decide) rfl (fun ls hl => ?_)
  refine lv_goto (tgt := 63) hx hb dX1_layOut_85 (by decide) ?_
  refine lv_iload_n hx hb dX1_layOut_63 rfl (lv_at hl 0 rfl) ?_
  refine lv_iconst (v := 4) hx hb dX1_layOut_64 (by decide) ?_
  refine lv_icmp_ge (tgt := 88) hx hb dX1_layOut_65 (by decide) (fun c37 => ?_) (fun c37 => ?_)
  · exact absurd c37 (by decide)
  clear c37
  refine lv_aload_n hx hb dX1_layOut_68 rfl (lv_at hl 1 rfl) ?_
  refine va_get (D := (dC, dI)) (ci := 1) (v := .ref a5) (C := RX1) (T := TX1) (N := 8) hx hb hts hi_X1 hown hK hP 0 rfl rfl 5 (by decide) (hts (.fieldLink RX1 28 "LeftQuills$Desk" "pages" "[I") (wmx 9 rfl)) (fun _ h9 => h9) rfl dX1_layOut_69 ?_
  refine lv_iload_n hx hb dX1_layOut_72 rfl (lv_at hl 0 rfl) ?_
  refine lv_iconst (v := 0) hx hb dX1_layOut_73 (by decide) ?_
  refine va_iast hx hb hK hP hD hS 5 0 rfl rfl (vp_in_iff.mpr ⟨by decide, by decide⟩) dX1_layOut_74 (fun H locs hP hD hS => ?_)
  have hcl := (show ((1 : Int32)).toNatClampNeg = 1 from by decide)
  rw [hcl] at hP hD
  clear hcl
  have hPD : pdW (dC, dI) vwCl A [(h0, .inr (1, [.int 0, .int 0, .ref a2, .ref a3, .ref a4, .ref a5, .ref a6, .ref ho])), (ho, .inr (5, f_ho)), (a2, .inl (cI, 8, .inl (upd (upd (upd (upd (upd (upd (upd (upd fa2 0 (fo8 0)) 1 (fo8 1)) 2 (fo8 2)) 3 (fo8 3)) 4 (fo8 4)) 5 (fo8 5)) 6 (fo8 6)) 7 (fo8 7)))), (a3, .inl (cI, 8, .inl (upd (upd (upd (upd (upd (upd (upd (upd fa3 0 (fo9 0)) 1 (fo9 1)) 2 (fo9 2)) 3 (fo9 3)) 4 (fo9 4)) 5 (fo9 5)) 6 (fo9 6)) 7 (fo9 7)))), (a4, .inl (cI, 8, .inl (upd (upd (upd (upd (upd (upd (upd (upd fa4 0 0) 1 0) 2 0) 3 0) 4 0) 5 0) 6 0) 7 0))), (a5, .inl (cI, 4, .inl (upd (upd fa5 0 0) 1 0))), (a6, .inl (cI, 4, .inl (upd fa6 0 0))), (o8, .inl (cI, 8, .inl fo8)), (o9, .inl (cI, 8, .inl fo9))] H := ⟨hP, hD⟩
  have hP := hPD.1
  have hD := hPD.2
  clear hPD
  refine lv_aload_n hx hb dX1_layOut_75 rfl (lv_at hl 1 rfl) ?_
  refine va_get (D := (dC, dI)) (ci := 1) (v := .ref a6) (C := RX1) (T := TX1) (N := 8) hx hb hts hi_X1 hown hK hP 0 rfl rfl 6 (by decide) (hts (.fieldLink RX1 31 "LeftQuills$Desk" "good" "[I") (wmx 10 rfl)) (fun _ h9 => h9) rfl dX1_layOut_76 ?_
  refine lv_iload_n hx hb dX1_layOut_79 rfl (lv_at hl 0 rfl) ?_
  refine lv_iconst (v := 0) hx hb dX1_layOut_80 (by decide) ?_
  refine va_iast hx hb hK hP hD hS 6 0 rfl rfl (vp_in_iff.mpr ⟨by decide, by decide⟩) dX1_layOut_81 (fun H locs hP hD hS => ?_)
  have hcl := (show ((1 : Int32)).toNatClampNeg = 1 from by decide)
  rw [hcl] at hP hD
  clear hcl
  have hPD : pdW (dC, dI) vwCl A [(h0, .inr (1, [.int 0, .int 0, .ref a2, .ref a3, .ref a4, .ref a5, .ref a6, .ref ho])), (ho, .inr (5, f_ho)), (a2, .inl (cI, 8, .inl (upd (upd (upd (upd (upd (upd (upd (upd fa2 0 (fo8 0)) 1 (fo8 1)) 2 (fo8 2)) 3 (fo8 3)) 4 (fo8 4)) 5 (fo8 5)) 6 (fo8 6)) 7 (fo8 7)))), (a3, .inl (cI, 8, .inl (upd (upd (upd (upd (upd (upd (upd (upd fa3 0 (fo9 0)) 1 (fo9 1)) 2 (fo9 2)) 3 (fo9 3)) 4 (fo9 4)) 5 (fo9 5)) 6 (fo9 6)) 7 (fo9 7)))), (a4, .inl (cI, 8, .inl (upd (upd (upd (upd (upd (upd (upd (upd fa4 0 0) 1 0) 2 0) 3 0) 4 0) 5 0) 6 0) 7 0))), (a5, .inl (cI, 4, .inl (upd (upd fa5 0 0) 1 0))), (a6, .inl (cI, 4, .inl (upd (upd fa6 0 0) 1 0))), (o8, .inl (cI, 8, .inl fo8)), (o9, .inl (cI, 8, .inl fo9))] H := ⟨hP, hD⟩
  have hP := hPD.1
  have hD := hPD.2
  clear hPD
  refine lv_iinc (v := 2) (lv' := [(1, .int 2), (0, .ref h0)]) hx hb dX1_layOut_82 hl (k := 0) rfl (by decide) (by decide) rfl (fun ls hl => ?_)
  refine lv_goto (tgt := 63) hx hb dX1_layOut_85 (by decide) ?_
  refine lv_iload_n hx hb dX1_layOut_63 rfl (lv_at hl 0 rfl) ?_
  refine lv_iconst (v := 4) hx hb dX1_layOut_64 (by decide) ?_
  refine lv_icmp_ge (tgt := 88) hx hb dX1_layOut_65 (by decide) (fun c40 => ?_) (fun c40 => ?_)
  · exact absurd c40 (by decide)
  clear c40
  refine lv_aload_n hx hb dX1_layOut_68 rfl (lv_at hl 1 rfl) ?_
  refine va_get (D := (dC, dI)) (ci := 1) (v := .ref a5) (C := RX1) (T := TX1) (N := 8) hx hb hts hi_X1 hown hK hP 0 rfl rfl 5 (by decide) (hts (.fieldLink RX1 28 "LeftQuills$Desk" "pages" "[I") (wmx 9 rfl)) (fun _ h9 => h9) rfl dX1_layOut_69 ?_
  refine lv_iload_n hx hb dX1_layOut_72 rfl (lv_at hl 0 rfl) ?_
  refine lv_iconst (v := 0) hx hb dX1_layOut_73 (by decide) ?_
  refine va_iast hx hb hK hP hD hS 5 0 rfl rfl (vp_in_iff.mpr ⟨by decide, by decide⟩) dX1_layOut_74 (fun H locs hP hD hS => ?_)
  have hcl := (show ((2 : Int32)).toNatClampNeg = 2 from by decide)
  rw [hcl] at hP hD
  clear hcl
  have hPD : pdW (dC, dI) vwCl A [(h0, .inr (1, [.int 0, .int 0, .ref a2, .ref a3, .ref a4, .ref a5, .ref a6, .ref ho])), (ho, .inr (5, f_ho)), (a2, .inl (cI, 8, .inl (upd (upd (upd (upd (upd (upd (upd (upd fa2 0 (fo8 0)) 1 (fo8 1)) 2 (fo8 2)) 3 (fo8 3)) 4 (fo8 4)) 5 (fo8 5)) 6 (fo8 6)) 7 (fo8 7)))), (a3, .inl (cI, 8, .inl (upd (upd (upd (upd (upd (upd (upd (upd fa3 0 (fo9 0)) 1 (fo9 1)) 2 (fo9 2)) 3 (fo9 3)) 4 (fo9 4)) 5 (fo9 5)) 6 (fo9 6)) 7 (fo9 7)))), (a4, .inl (cI, 8, .inl (upd (upd (upd (upd (upd (upd (upd (upd fa4 0 0) 1 0) 2 0) 3 0) 4 0) 5 0) 6 0) 7 0))), (a5, .inl (cI, 4, .inl (upd (upd (upd fa5 0 0) 1 0) 2 0))), (a6, .inl (cI, 4, .inl (upd (upd fa6 0 0) 1 0))), (o8, .inl (cI, 8, .inl fo8)), (o9, .inl (cI, 8, .inl fo9))] H := ⟨hP, hD⟩
  have hP := hPD.1
  have hD := hPD.2
  clear hPD
  refine lv_aload_n hx hb dX1_layOut_75 rfl (lv_at hl 1 rfl) ?_
  refine va_get (D := (dC, dI)) (ci := 1) (v := .ref a6) (C := RX1) (T := TX1) (N := 8) hx hb hts hi_X1 hown hK hP 0 rfl rfl 6 (by decide) (hts (.fieldLink RX1 31 "LeftQuills$Desk" "good" "[I") (wmx 10 rfl)) (fun _ h9 => h9) rfl dX1_layOut_76 ?_
  refine lv_iload_n hx hb dX1_layOut_79 rfl (lv_at hl 0 rfl) ?_
  refine lv_iconst (v := 0) hx hb dX1_layOut_80 (by decide) ?_
  refine va_iast hx hb hK hP hD hS 6 0 rfl rfl (vp_in_iff.mpr ⟨by decide, by decide⟩) dX1_layOut_81 (fun H locs hP hD hS => ?_)
  have hcl := (show ((2 : Int32)).toNatClampNeg = 2 from by decide)
  rw [hcl] at hP hD
  clear hcl
  have hPD : pdW (dC, dI) vwCl A [(h0, .inr (1, [.int 0, .int 0, .ref a2, .ref a3, .ref a4, .ref a5, .ref a6, .ref ho])), (ho, .inr (5, f_ho)), (a2, .inl (cI, 8, .inl (upd (upd (upd (upd (upd (upd (upd (upd fa2 0 (fo8 0)) 1 (fo8 1)) 2 (fo8 2)) 3 (fo8 3)) 4 (fo8 4)) 5 (fo8 5)) 6 (fo8 6)) 7 (fo8 7)))), (a3, .inl (cI, 8, .inl (upd (upd (upd (upd (upd (upd (upd (upd fa3 0 (fo9 0)) 1 (fo9 1)) 2 (fo9 2)) 3 (fo9 3)) 4 (fo9 4)) 5 (fo9 5)) 6 (fo9 6)) 7 (fo9 7)))), (a4, .inl (cI, 8, .inl (upd (upd (upd (upd (upd (upd (upd (upd fa4 0 0) 1 0) 2 0) 3 0) 4 0) 5 0) 6 0) 7 0))), (a5, .inl (cI, 4, .inl (upd (upd (upd fa5 0 0) 1 0) 2 0))), (a6, .inl (cI, 4, .inl (upd (upd (upd fa6 0 0) 1 0) 2 0))), (o8, .inl (cI, 8, .inl fo8)), (o9, .inl (cI, 8, .inl fo9))] H := ⟨hP, hD⟩
  have hP := hPD.1
  have hD := hPD.2
  clear hPD
  refine lv_iinc (v := 3) (lv' := [(1, .int 3), (0, .ref h0)]) hx hb dX1_layOut_82 hl (k := 0) rfl (by decide) (by decide) rfl (fun ls hl => ?_)
  refine lv_goto (tgt := 63) hx hb dX1_layOut_85 (by decide) ?_
  refine lv_iload_n hx hb dX1_layOut_63 rfl (lv_at hl 0 rfl) ?_
  refine lv_iconst (v := 4) hx hb dX1_layOut_64 (by decide) ?_
  refine lv_icmp_ge (tgt := 88) hx hb dX1_layOut_65 (by decide) (fun c43 => ?_) (fun c43 => ?_)
  · exact absurd c43 (by decide)
  clear c43
  refine lv_aload_n hx hb dX1_layOut_68 rfl (lv_at hl 1 rfl) ?_
  refine va_get (D := (dC, dI)) (ci := 1) (v := .ref a5) (C := RX1) (T := TX1) (N := 8) hx hb hts hi_X1 hown hK hP 0 rfl rfl 5 (by decide) (hts (.fieldLink RX1 28 "LeftQuills$Desk" "pages" "[I") (wmx 9 rfl)) (fun _ h9 => h9) rfl dX1_layOut_69 ?_
  refine lv_iload_n hx hb dX1_layOut_72 rfl (lv_at hl 0 rfl) ?_
  refine lv_iconst (v := 0) hx hb dX1_layOut_73 (by decide) ?_
  refine va_iast hx hb hK hP hD hS 5 0 rfl rfl (vp_in_iff.mpr ⟨by decide, by decide⟩) dX1_layOut_74 (fun H locs hP hD hS => ?_)
  have hcl := (show ((3 : Int32)).toNatClampNeg = 3 from by decide)
  rw [hcl] at hP hD
  clear hcl
  have hPD : pdW (dC, dI) vwCl A [(h0, .inr (1, [.int 0, .int 0, .ref a2, .ref a3, .ref a4, .ref a5, .ref a6, .ref ho])), (ho, .inr (5, f_ho)), (a2, .inl (cI, 8, .inl (upd (upd (upd (upd (upd (upd (upd (upd fa2 0 (fo8 0)) 1 (fo8 1)) 2 (fo8 2)) 3 (fo8 3)) 4 (fo8 4)) 5 (fo8 5)) 6 (fo8 6)) 7 (fo8 7)))), (a3, .inl (cI, 8, .inl (upd (upd (upd (upd (upd (upd (upd (upd fa3 0 (fo9 0)) 1 (fo9 1)) 2 (fo9 2)) 3 (fo9 3)) 4 (fo9 4)) 5 (fo9 5)) 6 (fo9 6)) 7 (fo9 7)))), (a4, .inl (cI, 8, .inl (upd (upd (upd (upd (upd (upd (upd (upd fa4 0 0) 1 0) 2 0) 3 0) 4 0) 5 0) 6 0) 7 0))), (a5, .inl (cI, 4, .inl (upd (upd (upd (upd fa5 0 0) 1 0) 2 0) 3 0))), (a6, .inl (cI, 4, .inl (upd (upd (upd fa6 0 0) 1 0) 2 0))), (o8, .inl (cI, 8, .inl fo8)), (o9, .inl (cI, 8, .inl fo9))] H := ⟨hP, hD⟩
  have hP := hPD.1
  have hD := hPD.2
  clear hPD
  refine lv_aload_n hx hb dX1_layOut_75 rfl (lv_at hl 1 rfl) ?_
  refine va_get (D := (dC, dI)) (ci := 1) (v := .ref a6) (C := RX1) (T := TX1) (N := 8) hx hb hts hi_X1 hown hK hP 0 rfl rfl 6 (by decide) (hts (.fieldLink RX1 31 "LeftQuills$Desk" "good" "[I") (wmx 10 rfl)) (fun _ h9 => h9) rfl dX1_layOut_76 ?_
  refine lv_iload_n hx hb dX1_layOut_79 rfl (lv_at hl 0 rfl) ?_
  refine lv_iconst (v := 0) hx hb dX1_layOut_80 (by decide) ?_
  refine va_iast hx hb hK hP hD hS 6 0 rfl rfl (vp_in_iff.mpr ⟨by decide, by decide⟩) dX1_layOut_81 (fun H locs hP hD hS => ?_)
  have hcl := (show ((3 : Int32)).toNatClampNeg = 3 from by decide)
  rw [hcl] at hP hD
  clear hcl
  have hPD : pdW (dC, dI) vwCl A [(h0, .inr (1, [.int 0, .int 0, .ref a2, .ref a3, .ref a4, .ref a5, .ref a6, .ref ho])), (ho, .inr (5, f_ho)), (a2, .inl (cI, 8, .inl (upd (upd (upd (upd (upd (upd (upd (upd fa2 0 (fo8 0)) 1 (fo8 1)) 2 (fo8 2)) 3 (fo8 3)) 4 (fo8 4)) 5 (fo8 5)) 6 (fo8 6)) 7 (fo8 7)))), (a3, .inl (cI, 8, .inl (upd (upd (upd (upd (upd (upd (upd (upd fa3 0 (fo9 0)) 1 (fo9 1)) 2 (fo9 2)) 3 (fo9 3)) 4 (fo9 4)) 5 (fo9 5)) 6 (fo9 6)) 7 (fo9 7)))), (a4, .inl (cI, 8, .inl (upd (upd (upd (upd (upd (upd (upd (upd fa4 0 0) 1 0) 2 0) 3 0) 4 0) 5 0) 6 0) 7 0))), (a5, .inl (cI, 4, .inl (upd (upd (upd (upd fa5 0 0) 1 0) 2 0) 3 0))), (a6, .inl (cI, 4, .inl (upd (upd (upd (upd fa6 0 0) 1 0) 2 0) 3 0))), (o8, .inl (cI, 8, .inl fo8)), (o9, .inl (cI, 8, .inl fo9))] H := ⟨hP, hD⟩
  have hP := hPD.1
  have hD := hPD.2
  clear hPD
  refine lv_iinc (v := 4) (lv' := [(1, .int 4), (0, .ref h0)]) hx hb dX1_layOut_82 hl (k := 0) rfl (by decide) (by decide) rfl (fun ls hl => ?_)
  refine lv_goto (tgt := 63) hx hb dX1_layOut_85 (by decide) ?_
  refine lv_iload_n hx hb dX1_layOut_63 rfl (lv_at hl 0 rfl) ?_
  refine lv_iconst (v := 4) hx hb dX1_layOut_64 (by decide) ?_
  refine lv_icmp_ge (tgt := 88) hx hb dX1_layOut_65 (by decide) (fun c46 => ?_) (fun c46 => ?_)
  rotate_left
  · exact absurd c46 (by decide)
  clear c46
  have hP9 := hP.sub (ws' := [(h0, .inr (1, [.int 0, .int 0, .ref a2, .ref a3, .ref a4, .ref a5, .ref a6, .ref ho])), (ho, .inr (5, f_ho)), (a2, .inl (cI, 8, .inl (upd (upd (upd (upd (upd (upd (upd (upd fa2 0 (fo8 0)) 1 (fo8 1)) 2 (fo8 2)) 3 (fo8 3)) 4 (fo8 4)) 5 (fo8 5)) 6 (fo8 6)) 7 (fo8 7)))), (a3, .inl (cI, 8, .inl (upd (upd (upd (upd (upd (upd (upd (upd fa3 0 (fo9 0)) 1 (fo9 1)) 2 (fo9 2)) 3 (fo9 3)) 4 (fo9 4)) 5 (fo9 5)) 6 (fo9 6)) 7 (fo9 7)))), (a4, .inl (cI, 8, .inl (upd (upd (upd (upd (upd (upd (upd (upd fa4 0 0) 1 0) 2 0) 3 0) 4 0) 5 0) 6 0) 7 0))), (a5, .inl (cI, 4, .inl (upd (upd (upd (upd fa5 0 0) 1 0) 2 0) 3 0))), (a6, .inl (cI, 4, .inl (upd (upd (upd (upd fa6 0 0) 1 0) 2 0) 3 0))), (o8, .inl (cI, 8, .inl fo8)), (o9, .inl (cI, 8, .inl fo9))]) [0, 1, 2, 3, 4, 5, 6, 7, 8] rfl
  have hD9 := hD.sub (ws' := [(h0, .inr (1, [.int 0, .int 0, .ref a2, .ref a3, .ref a4, .ref a5, .ref a6, .ref ho])), (ho, .inr (5, f_ho)), (a2, .inl (cI, 8, .inl (upd (upd (upd (upd (upd (upd (upd (upd fa2 0 (fo8 0)) 1 (fo8 1)) 2 (fo8 2)) 3 (fo8 3)) 4 (fo8 4)) 5 (fo8 5)) 6 (fo8 6)) 7 (fo8 7)))), (a3, .inl (cI, 8, .inl (upd (upd (upd (upd (upd (upd (upd (upd fa3 0 (fo9 0)) 1 (fo9 1)) 2 (fo9 2)) 3 (fo9 3)) 4 (fo9 4)) 5 (fo9 5)) 6 (fo9 6)) 7 (fo9 7)))), (a4, .inl (cI, 8, .inl (upd (upd (upd (upd (upd (upd (upd (upd fa4 0 0) 1 0) 2 0) 3 0) 4 0) 5 0) 6 0) 7 0))), (a5, .inl (cI, 4, .inl (upd (upd (upd (upd fa5 0 0) 1 0) 2 0) 3 0))), (a6, .inl (cI, 4, .inl (upd (upd (upd (upd fa6 0 0) 1 0) 2 0) 3 0))), (o8, .inl (cI, 8, .inl fo8)), (o9, .inl (cI, 8, .inl fo9))]) [0, 1, 2, 3, 4, 5, 6, 7, 8] (by decide +kernel) rfl
  exact W.vret hx hb hr (fun t ht hW => ⟨⟨(fun _ => 0), rfl, trivial, ⟨(upd (upd (upd (upd (upd (upd (upd (upd fa2 0 (fo8 0)) 1 (fo8 1)) 2 (fo8 2)) 3 (fo8 3)) 4 (fo8 4)) 5 (fo8 5)) 6 (fo8 6)) 7 (fo8 7)), (upd (upd (upd (upd (upd (upd (upd (upd fa3 0 (fo9 0)) 1 (fo9 1)) 2 (fo9 2)) 3 (fo9 3)) 4 (fo9 4)) 5 (fo9 5)) 6 (fo9 6)) 7 (fo9 7)), (upd (upd (upd (upd (upd (upd (upd (upd fa4 0 0) 1 0) 2 0) 3 0) 4 0) 5 0) 6 0) 7 0), (upd (upd (upd (upd fa5 0 0) 1 0) 2 0) 3 0), (upd (upd (upd (upd fa6 0 0) 1 0) 2 0) 3 0), 0, 0, (dk_ext up8 up8 (up8 (g := fun _ => 0)) (up4 (g := fun _ => 0)) (up4 (g := fun _ => 0))), va_hq ht hP9, hD9⟩⟩, hS.F ht⟩) hS.2.2 dX1_layOut_88
