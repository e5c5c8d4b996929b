set_option maxHeartbeats 4000000 in
set_option maxRecDepth 100000 in
theorem c_X10_drawD (l : Launch) (dC : Nat → ClassId) (dI : Nat → Nat → Nat) (cI cZ cQ : ClassId) (h0 : Nat) (x0 : Nat) (tl : Nat) (fa : Int32) (sd : Nat) (x4 : Nat) (x5 : Nat) (x6 : Nat) (x7 : Nat) (x8 : Nat) (x9 : Nat) (x10 : Nat) (x11 : Nat) (x12 : Nat) (x13 : Nat) (k : Nat) (sz : Nat) (hk0 : 0 < k) (hk : k < 100) (hsd : sd ≤ 2147483647) : Met l yX10_draw wsX10_draw ({ frames := 0, cells := 0, slots := 0, locals := 40 }) (va_Pc [.ref h0, .int (nI k)] (fun U => U.heap.size = sz ∧ va_P (dC, dI) vwCl [(h0, .inr (10, [.ref x0, .int (nI tl), .int fa, .int (nI sd), .ref x4, .ref x5, .ref x6, .ref x7, .ref x8, .ref x9, .ref x10, .ref x11, .ref x12, .ref x13]))] U.heap ∧ va_K (dC, dI) vwCl (tys0 cI cZ cQ) U ∧ va_D (fun _ => True) [(h0, .inr (10, [.ref x0, .int (nI tl), .int fa, .int (nI sd), .ref x4, .ref x5, .ref x6, .ref x7, .ref x8, .ref x9, .ref x10, .ref x11, .ref x12, .ref x13]))])) (va_Qi (fun (r : Int32) (u : Nat → Nat) => r = nI (dwN sd / 65536 % k)) (fun (_ : Nat → Nat) (t : State) => ∃ (kk0 : Nat), kk0 ≤ 2147483647 ∧ (kk0 = dwN sd) ∧ va_P (dC, dI) vwCl [(h0, .inr (10, [.ref x0, .int (nI tl), .int fa, .int (nI kk0), .ref x4, .ref x5, .ref x6, .ref x7, .ref x8, .ref x9, .ref x10, .ref x11, .ref x12, .ref x13]))] t.heap ∧ va_D (va_A [(h0, .inr (10, [.ref x0, .int (nI tl), .int fa, .int (nI sd), .ref x4, .ref x5, .ref x6, .ref x7, .ref x8, .ref x9, .ref x10, .ref x11, .ref x12, .ref x13]))] sz) [(h0, .inr (10, [.ref x0, .int (nI tl), .int fa, .int (nI kk0), .ref x4, .ref x5, .ref x6, .ref x7, .ref x8, .ref x9, .ref x10, .ref x11, .ref x12, .ref x13]))]) (va_A [(h0, .inr (10, [.ref x0, .int (nI tl), .int fa, .int (nI sd), .ref x4, .ref x5, .ref x6, .ref x7, .ref x8, .ref x9, .ref x10, .ref x11, .ref x12, .ref x13]))] sz)) 0 0 (va_A [(h0, .inr (10, [.ref x0, .int (nI tl), .int fa, .int (nI sd), .ref x4, .ref x5, .ref x6, .ref x7, .ref x8, .ref x9, .ref x10, .ref x11, .ref x12, .ref x13]))] sz) := by
  refine Met.ofW (cc := cX10_draw) (maxL := 2) (ret := (some .int)) (by decide) rfl ?_
  intro p e s m args below meth c s₁ B hml hv
  obtain ⟨rfl, hsz, hP, hK, hD0⟩ := hv
  have hx := B.exec
  have hb := B.bytes
  have hr := B.returns
  have hts := atoms_spec (ws := wsX10_draw) B.pre
  have hown : s.vm.findClass RX10 = some m.cls := findClass_of_methodNamed B.named
  have hlocks := B.notSynchronized
  have hi_X10 : ∀ w ∈ u_ws RX10 TX10 14, w ∈ wsX10_draw := fun _ h => List.mem_cons_of_mem _ (List.mem_append_right _ (h))
  subst hsz
  have hD := hD0.self (sz := s.heap.size)
  generalize hAe : va_A [(h0, .inr (10, [.ref x0, .int (nI tl), .int fa, .int (nI sd), .ref x4, .ref x5, .ref x6, .ref x7, .ref x8, .ref x9, .ref x10, .ref x11, .ref x12, .ref x13]))] s.heap.size = A at hD ⊢
  have hA : ∀ q : Nat, s.heap.size ≤ q → A q := fun q h => by rw [← hAe]; exact Or.inr h
  have hS : va_S A s.heap s.heap [] := va_S.rf
  have hl := lv_entry ([.ref h0, .int (nI k)]) (n := 2) (Nat.le_of_ble_eq_true rfl)
  rw [lg_entry_eq]
  generalize (lg_sl ([.ref h0, .int (nI k)]) ++ List.replicate (2 - (lg_sl ([.ref h0, .int (nI k)])).length) Slot.unset).toArray = ls at hl ⊢
  have hl : lv_has ls 2 [(0, .ref h0), (1, .int (nI k))] := hl
  refine lv_iload_n hx hb dX10_draw_0 rfl (lv_at hl 1 rfl) ?_
  refine lv_if_gt (tgt := 6) hx hb dX10_draw_1 (by decide) (fun c1 => ?_) (fun c1 => ?_)
  ·
    have c1 : 0 < k := (nI_ltI (a := 0) (b := k) (by omega) (by omega)).mp c1
    refine lv_aload_n hx hb dX10_draw_6 rfl (lv_at hl 0 rfl) ?_
    refine lv_aload_n hx hb dX10_draw_7 rfl (lv_at hl 0 rfl) ?_
    refine va_get (D := (dC, dI)) (ci := 10) (v := .int (nI sd)) (C := RX10) (T := TX10) (N := 14) hx hb hts hi_X10 hown hK hP 0 rfl rfl 3 (by decide) (hts (.fieldLink RX10 20 "LeftQuills" "seed" "I") (wmx 1 rfl)) (fun _ h9 => h9) rfl dX10_draw_8 ?_
    refine lv_i2l hx hb dX10_draw_11 rfl ?_
    refine lv_ldc2 (v := 1103515245) hx hb hown (hts (.constantLong RX10 308 1103515245) (wmx 2 rfl)) dX10_draw_12 ?_
    refine lv_lmul hx hb dX10_draw_15 ?_
    refine lv_topl (fun z2 ez2 => ?_)
    refine lv_ldc2 (v := 12345) hx hb hown (hts (.constantLong RX10 310 12345) (wmx 3 rfl)) dX10_draw_16 ?_
    refine lv_ladd hx hb dX10_draw_19 ?_
    refine lv_topl (fun z3 ez3 => ?_)
    refine lv_ldc2 (v := 2147483647) hx hb hown (hts (.constantLong RX10 312 2147483647) (wmx 4 rfl)) dX10_draw_20 ?_
    refine lv_land hx hb dX10_draw_23 ?_
    refine lv_topl (fun z4 ez4 => ?_)
    refine lv_l2i hx hb dX10_draw_24 rfl ?_
    refine lv_topi (fun z5 ez5 => ?_)
    have hdw := dwN_lt sd
    obtain rfl : z5 = nI (dwN sd) := ez5.trans (x_mask_draw hsd ez2 ez3 ez4)
    refine va_put (D := (dC, dI)) (ci := 10) (v := .int (nI (dwN sd))) (ty := .int) (C := RX10) (T := TX10) (N := 14) hx hb hts hi_X10 tyX10 tyX10_ok nmX10 hown hK hP hD hS 0 rfl rfl 3 (by decide) (hts (.fieldLink RX10 20 "LeftQuills" "seed" "I") (wmx 1 rfl)) (fun _ h9 => h9) rfl (by decide +kernel) rfl rfl (Nat.le_of_ble_eq_true rfl) dX10_draw_25 (fun H locs hP hD hS => ?_)
    have hP : va_P (dC, dI) vwCl [(h0, .inr (10, [.ref x0, .int (nI tl), .int fa, .int (nI (dwN sd)), .ref x4, .ref x5, .ref x6, .ref x7, .ref x8, .ref x9, .ref x10, .ref x11, .ref x12, .ref x13]))] H := hP
    have hD : va_D A [(h0, .inr (10, [.ref x0, .int (nI tl), .int fa, .int (nI (dwN sd)), .ref x4, .ref x5, .ref x6, .ref x7, .ref x8, .ref x9, .ref x10, .ref x11, .ref x12, .ref x13]))] := hD
    refine lv_aload_n hx hb dX10_draw_28 rfl (lv_at hl 0 rfl) ?_
    refine va_get (D := (dC, dI)) (ci := 10) (v := .int (nI (dwN sd))) (C := RX10) (T := TX10) (N := 14) hx hb hts hi_X10 hown hK hP 0 rfl rfl 3 (by decide) (hts (.fieldLink RX10 20 "LeftQuills" "seed" "I") (wmx 1 rfl)) (fun _ h9 => h9) rfl dX10_draw_29 ?_
    refine lv_ldcw (v := 65536) hx hb hown (hts (.constant RX10 314 65536) (wmx 5 rfl)) dX10_draw_32 ?_
    refine lv_idiv hx hb dX10_draw_35 (by decide) ?_
    refine lv_topi (fun z6 ez6 => ?_)
    obtain rfl : z6 = nI ((dwN sd) / 65536) := ez6.trans (pk_div (a := dwN sd) (d := 65536) (by omega) (by omega) (by omega))
    refine lv_iload_n hx hb dX10_draw_36 rfl (lv_at hl 1 rfl) ?_
    refine lv_irem hx hb dX10_draw_37 (nI_ne0 (n := k) (by omega) (by omega)) ?_
    refine lv_topi (fun z7 ez7 => ?_)
    obtain ⟨w8, hw8, ew8⟩ : ∃ y : Nat, y < k ∧ y = ((dwN sd) / 65536) % k := ⟨_, Nat.mod_lt _ (by omega), rfl⟩
    obtain rfl : z7 = nI w8 := by rw [ew8]; exact ez7.trans (pk_rem (a := (dwN sd) / 65536) (d := k) (by omega) (by omega) (by omega))
    have hP9 := hP.sub (ws' := [(h0, .inr (10, [.ref x0, .int (nI tl), .int fa, .int (nI (dwN sd)), .ref x4, .ref x5, .ref x6, .ref x7, .ref x8, .ref x9, .ref x10, .ref x11, .ref x12, .ref x13]))]) [0] rfl
    have hD9 := hD.sub (ws' := [(h0, .inr (10, [.ref x0, .int (nI tl), .int fa, .int (nI (dwN sd)), .ref x4, .ref x5, .ref x6, .ref x7, .ref x8, .ref x9, .ref x10, .ref x11, .ref x12, .ref x13]))]) [0] (by decide +kernel) rfl
    exact W.iret (v := nI w8) hx hb hr (fun t ht hW => ⟨⟨nI w8, (fun _ => 0), rfl, (congrArg nI ew8), ⟨(dwN sd), by omega, rfl, by rw [ht]; exact hP9, hD9⟩⟩, hS.F ht⟩) hS.2.2 dX10_draw_38
  ·
    have c1 : ¬ 0 < k := fun h => c1 ((nI_ltI (a := 0) (b := k) (by omega) (by omega)).mpr h)
    omega
