set_option maxHeartbeats 4000000 in
set_option maxRecDepth 100000 in
theorem c_X0_init (l : Launch) (dC : Nat → ClassId) (dI : Nat → Nat → Nat) (cI cZ cQ : ClassId) (h0 : Nat) (sz : Nat)  : Met l yX0_init wsX0_init ({ frames := 1, cells := 2, slots := 30, locals := 40 }) (va_Pc [.ref h0] (fun U => U.heap.size = sz ∧ va_P (dC, dI) vwCl [(h0, .inr (0, [.int 0, .null, .null]))] U.heap ∧ va_K (dC, dI) vwCl (tys0 cI cZ cQ) U ∧ va_D (fun _ => True) [(h0, .inr (0, [.int 0, .null, .null]))])) (va_Qv (fun (u : Nat → Nat) => True) (fun (u : Nat → Nat) (t : State) => va_P (dC, dI) vwCl [(h0, .inr (0, [.int 0, .ref (u 0), .ref (u 1)])), ((u 0), .inl (cI, 15, .inl (fun _ => 0))), ((u 1), .inl (cI, 15, .inl (fun _ => 0)))] t.heap ∧ va_D (va_A [(h0, .inr (0, [.int 0, .null, .null]))] sz) [(h0, .inr (0, [.int 0, .ref (u 0), .ref (u 1)])), ((u 0), .inl (cI, 15, .inl (fun _ => 0))), ((u 1), .inl (cI, 15, .inl (fun _ => 0)))]) (va_A [(h0, .inr (0, [.int 0, .null, .null]))] sz)) 2 30 (va_A [(h0, .inr (0, [.int 0, .null, .null]))] sz) := by
  refine Met.ofW (cc := cX0_init) (maxL := 1) (ret := none) (by decide) rfl ?_
  intro p e s m args below meth c s₁ B hml hv
  obtain ⟨rfl, hsz, hP, hK, hD0⟩ := hv
  have hx := B.exec
  have hb := B.bytes
  have hr := B.returns
  have hts := atoms_spec (ws := wsX0_init) B.pre
  have hown : s.vm.findClass RX0 = some m.cls := findClass_of_methodNamed B.named
  have hlocks := B.notSynchronized
  have hin : meth.name = "<init>" := (name_of_methodNamed B.named B.method).1
  have hi_X0 : ∀ w ∈ u_ws RX0 TX0 3, w ∈ wsX0_init := fun _ h => List.mem_cons_of_mem _ (List.mem_append_right _ (h))
  subst hsz
  have hD := hD0.self (sz := s.heap.size)
  generalize hAe : va_A [(h0, .inr (0, [.int 0, .null, .null]))] s.heap.size = A at hD ⊢
  have hA : ∀ q : Nat, s.heap.size ≤ q → A q := fun q h => by rw [← hAe]; exact Or.inr h
  have hS : va_S A s.heap s.heap [] := va_S.rf
  have hl := lv_entry ([.ref h0]) (n := 1) (Nat.le_of_ble_eq_true rfl)
  rw [lg_entry_eq]
  generalize (lg_sl ([.ref h0]) ++ List.replicate (1 - (lg_sl ([.ref h0])).length) Slot.unset).toArray = ls at hl ⊢
  have hl : lv_has ls 1 [(0, .ref h0)] := hl
  refine lv_aload_n hx hb dX0_init_0 rfl (lv_at hl 0 rfl) ?_
  refine W.objInit hx hb hown (hts (.methodLink RX0 3 objectInit) (wmx 1 rfl)) (hts (.instanceMethod objectInit) (wmx 2 rfl)) (hts (.code objectInit ⟨#[0xb1]⟩ 1 none) (wmx 3 rfl)) rfl (by rw [hml]; exact hl.1) rfl dX0_init_1 (Nat.le_of_ble_eq_true rfl) (Nat.le_of_ble_eq_true rfl) ?_
  refine W.eq (g2 := F0 m 4 ls []) rfl ?_
  refine lv_aload_n hx hb dX0_init_4 rfl (lv_at hl 0 rfl) ?_
  refine lv_iconst (v := 0) hx hb dX0_init_5 (by decide) ?_
  refine va_put (D := (dC, dI)) (ci := 0) (v := .int 0) (ty := .int) (C := RX0) (T := TX0) (N := 3) hx hb hts hi_X0 tyX0 tyX0_ok nmX0 hown hK hP hD hS 0 rfl rfl 0 (by decide) (hts (.fieldLink RX0 9 "LeftQuills$Book" "count" "I") (wmx 4 rfl)) (fun _ h9 => h9) rfl (by decide +kernel) rfl rfl (Nat.le_of_ble_eq_true rfl) dX0_init_6 (fun H locs hP hD hS => ?_)
  have hPD : pdW (dC, dI) vwCl A [(h0, .inr (0, [.int 0, .null, .null]))] H := ⟨hP, hD⟩
  have hP := hPD.1
  have hD := hPD.2
  clear hPD
  refine lv_aload_n hx hb dX0_init_9 rfl (lv_at hl 0 rfl) ?_
  refine lv_bipush (v := 15) hx hb dX0_init_10 (by decide) ?_
  refine va_newa (atype := .int) (ty := .int) (n := 15) (a0 := (15, .inl (fun _ => 0))) (N' := 15) hx hb (hts (.arrayClass .int) (wmx 5 rfl)) rfl hK hP hD hS hA (fun _ => rfl) (by decide) (by decide) (by decide) (Nat.le_of_ble_eq_true rfl) (Nat.le_of_ble_eq_true rfl) dX0_init_12 (fun q1 cA H hKn hP hD hS => ?_)
  have ecA := xcI hKn
  subst ecA
  clear hKn
  refine W.widen (k := 1) (n := 15) (Nat.le_of_ble_eq_true rfl) (Nat.le_of_ble_eq_true rfl) ?_
  have hPD : pdW (dC, dI) vwCl A [(h0, .inr (0, [.int 0, .null, .null])), (q1, .inl (cI, 15, .inl (fun _ => 0)))] H := ⟨hP, hD⟩
  have hP := hPD.1
  have hD := hPD.2
  clear hPD
  refine va_putF (D := (dC, dI)) (ci := 0) (v := .ref q1) (ty := .array .int) (C := RX0) (T := TX0) (N := 3) hx hb hts hi_X0 tyX0 tyX0_ok nmX0 hown hK hP hD hS 0 rfl rfl 1 (by decide) (hts (.fieldLink RX0 15 "LeftQuills$Book" "quill" "[I") (wmx 6 rfl)) (fun _ h9 => h9) rfl hin rfl (by decide +kernel) rfl rfl (Nat.le_of_ble_eq_true rfl) dX0_init_14 (fun H locs hP hD hS => ?_)
  have hPD : pdW (dC, dI) vwCl A [(h0, .inr (0, [.int 0, .ref q1, .null])), (q1, .inl (cI, 15, .inl (fun _ => 0)))] H := ⟨hP, hD⟩
  have hP := hPD.1
  have hD := hPD.2
  clear hPD
  refine lv_aload_n hx hb dX0_init_17 rfl (lv_at hl 0 rfl) ?_
  refine lv_bipush (v := 15) hx hb dX0_init_18 (by decide) ?_
  refine va_newa (atype := .int) (ty := .int) (n := 15) (a0 := (15, .inl (fun _ => 0))) (N' := 15) hx hb (hts (.arrayClass .int) (wmx 5 rfl)) rfl hK hP hD hS hA (fun _ => rfl) (by decide) (by decide) (by decide) (Nat.le_of_ble_eq_true rfl) (Nat.le_of_ble_eq_true rfl) dX0_init_20 (fun q2 cA H hKn hP hD hS => ?_)
  have ecA := xcI hKn
  subst ecA
  clear hKn
  refine W.widen (k := 2) (n := 30) (Nat.le_of_ble_eq_true rfl) (Nat.le_of_ble_eq_true rfl) ?_
  have hPD : pdW (dC, dI) vwCl A [(h0, .inr (0, [.int 0, .ref q1, .null])), (q1, .inl (cI, 15, .inl (fun _ => 0))), (q2, .inl (cI, 15, .inl (fun _ => 0)))] H := ⟨hP, hD⟩
  have hP := hPD.1
  have hD := hPD.2
  clear hPD
  refine va_putF (D := (dC, dI)) (ci := 0) (v := .ref q2) (ty := .array .int) (C := RX0) (T := TX0) (N := 3) hx hb hts hi_X0 tyX0 tyX0_ok nmX0 hown hK hP hD hS 0 rfl rfl 2 (by decide) (hts (.fieldLink RX0 19 "LeftQuills$Book" "softness" "[I") (wmx 7 rfl)) (fun _ h9 => h9) rfl hin rfl (by decide +kernel) rfl rfl (Nat.le_of_ble_eq_true rfl) dX0_init_22 (fun H locs hP hD hS => ?_)
  have hPD : pdW (dC, dI) vwCl A [(h0, .inr (0, [.int 0, .ref q1, .ref q2])), (q1, .inl (cI, 15, .inl (fun _ => 0))), (q2, .inl (cI, 15, .inl (fun _ => 0)))] H := ⟨hP, hD⟩
  have hP := hPD.1
  have hD := hPD.2
  clear hPD
  have hP9 := hP.sub (ws' := [(h0, .inr (0, [.int 0, .ref q1, .ref q2])), (q1, .inl (cI, 15, .inl (fun _ => 0))), (q2, .inl (cI, 15, .inl (fun _ => 0)))]) [0, 1, 2] rfl
  have hD9 := hD.sub (ws' := [(h0, .inr (0, [.int 0, .ref q1, .ref q2])), (q1, .inl (cI, 15, .inl (fun _ => 0))), (q2, .inl (cI, 15, .inl (fun _ => 0)))]) [0, 1, 2] (by decide +kernel) rfl
  refine W.widen (k := 2) (n := 30) (Nat.le_of_ble_eq_true rfl) (Nat.le_of_ble_eq_true rfl) ?_
  exact W.vret hx hb hr (fun t ht hW => ⟨⟨(vn [q1, q2]), rfl, by first | trivial | rfl | (simp_all; done), ⟨va_hq ht hP9, hD9⟩⟩, hS.F ht⟩) hS.2.2 dX0_init_25
set_option maxHeartbeats 4000000 in
set_option maxRecDepth 100000 in
theorem c_X5_init (l : Launch) (dC : Nat → ClassId) (dI : Nat → Nat → Nat) (cI cZ cQ : ClassId) (h0 : Nat) (sz : Nat)  : Met l yX5_init wsX5_init ({ frames := 1, cells := 8, slots := 52, locals := 40 }) (va_Pc [.ref h0] (fun U => U.heap.size = sz ∧ va_P (dC, dI) vwCl [(h0, .inr (5, [.int 0, .int 0, .int 0, .int 0, .int 0, .null, .null, .null, .null, .null, .null, .null, .null]))] U.heap ∧ va_K (dC, dI) vwCl (tys0 cI cZ cQ) U ∧ va_D (fun _ => True) [(h0, .inr (5, [.int 0, .int 0, .int 0, .int 0, .int 0, .null, .null, .null, .null, .null, .null, .null, .null]))])) (va_Qv (fun (u : Nat → Nat) => True) (fun (u : Nat → Nat) (t : State) => va_P (dC, dI) vwCl [(h0, .inr (5, [.int 0, .int 0, .int 0, .int 0, .int 0, .ref (u 0), .ref (u 1), .ref (u 2), .ref (u 3), .ref (u 4), .ref (u 5), .ref (u 6), .ref (u 7)])), ((u 0), .inl (cI, 8, .inl (fun _ => 0))), ((u 1), .inl (cI, 8, .inl (fun _ => 0))), ((u 2), .inl (cI, 8, .inl (fun _ => 0))), ((u 3), .inl (cI, 8, .inl (fun _ => 0))), ((u 4), .inl (cI, 8, .inl (fun _ => 0))), ((u 5), .inl (cI, 4, .inl (fun _ => 0))), ((u 6), .inl (cI, 4, .inl (fun _ => 0))), ((u 7), .inl (cI, 4, .inl (fun _ => 0)))] t.heap ∧ va_D (va_A [(h0, .inr (5, [.int 0, .int 0, .int 0, .int 0, .int 0, .null, .null, .null, .null, .null, .null, .null, .null]))] sz) [(h0, .inr (5, [.int 0, .int 0, .int 0, .int 0, .int 0, .ref (u 0), .ref (u 1), .ref (u 2), .ref (u 3), .ref (u 4), .ref (u 5), .ref (u 6), .ref (u 7)])), ((u 0), .inl (cI, 8, .inl (fun _ => 0))), ((u 1), .inl (cI, 8, .inl (fun _ => 0))), ((u 2), .inl (cI, 8, .inl (fun _ => 0))), ((u 3), .inl (cI, 8, .inl (fun _ => 0))), ((u 4), .inl (cI, 8, .inl (fun _ => 0))), ((u 5), .inl (cI, 4, .inl (fun _ => 0))), ((u 6), .inl (cI, 4, .inl (fun _ => 0))), ((u 7), .inl (cI, 4, .inl (fun _ => 0)))]) (va_A [(h0, .inr (5, [.int 0, .int 0, .int 0, .int 0, .int 0, .null, .null, .null, .null, .null, .null, .null, .null]))] sz)) 8 52 (va_A [(h0, .inr (5, [.int 0, .int 0, .int 0, .int 0, .int 0, .null, .null, .null, .null, .null, .null, .null, .null]))] sz) := by
  refine Met.ofW (cc := cX5_init) (maxL := 1) (ret := none) (by decide) rfl ?_
  intro p e s m args below meth c s₁ B hml hv
  obtain ⟨rfl, hsz, hP, hK, hD0⟩ := hv
  have hx := B.exec
  have hb := B.bytes
  have hr := B.returns
  have hts := atoms_spec (ws := wsX5_init) B.pre
  have hown : s.vm.findClass RX5 = some m.cls := findClass_of_methodNamed B.named
  have hlocks := B.notSynchronized
  have hin : meth.name = "<init>" := (name_of_methodNamed B.named B.method).1
  have hi_X5 : ∀ w ∈ u_ws RX5 TX5 13, w ∈ wsX5_init := fun _ h => List.mem_cons_of_mem _ (List.mem_append_right _ (h))
  subst hsz
  have hD := hD0.self (sz := s.heap.size)
  generalize hAe : va_A [(h0, .inr (5, [.int 0, .int 0, .int 0, .int 0, .int 0, .null, .null, .null, .null, .null, .null, .null, .null]))] s.heap.size = A at hD ⊢
  have hA : ∀ q : Nat, s.heap.size ≤ q → A q := fun q h => by rw [← hAe]; exact Or.inr h
  have hS : va_S A s.heap s.heap [] := va_S.rf
  have hl := lv_entry ([.ref h0]) (n := 1) (Nat.le_of_ble_eq_true rfl)
  rw [lg_entry_eq]
  generalize (lg_sl ([.ref h0]) ++ List.replicate (1 - (lg_sl ([.ref h0])).length) Slot.unset).toArray = ls at hl ⊢
  have hl : lv_has ls 1 [(0, .ref h0)] := hl
  refine lv_aload_n hx hb dX5_init_0 rfl (lv_at hl 0 rfl) ?_
  refine W.objInit hx hb hown (hts (.methodLink RX5 3 objectInit) (wmx 1 rfl)) (hts (.instanceMethod objectInit) (wmx 2 rfl)) (hts (.code objectInit ⟨#[0xb1]⟩ 1 none) (wmx 3 rfl)) rfl (by rw [hml]; exact hl.1) rfl dX5_init_1 (Nat.le_of_ble_eq_true rfl) (Nat.le_of_ble_eq_true rfl) ?_
  refine W.eq (g2 := F0 m 4 ls []) rfl ?_
  refine lv_aload_n hx hb dX5_init_4 rfl (lv_at hl 0 rfl) ?_
  refine lv_iconst (v := 0) hx hb dX5_init_5 (by decide) ?_
  refine va_put (D := (dC, dI)) (ci := 5) (v := .int 0) (ty := .boolean) (C := RX5) (T := TX5) (N := 13) hx hb hts hi_X5 tyX5 tyX5_ok nmX5 hown hK hP hD hS 0 rfl rfl 0 (by decide) (hts (.fieldLink RX5 9 "LeftQuills$Office" "stands" "Z") (wmx 4 rfl)) (fun _ h9 => h9) rfl (by decide +kernel) rfl rfl (Nat.le_of_ble_eq_true rfl) dX5_init_6 (fun H locs hP hD hS => ?_)
  have hPD : pdW (dC, dI) vwCl A [(h0, .inr (5, [.int 0, .int 0, .int 0, .int 0, .int 0, .null, .null, .null, .null, .null, .null, .null, .null]))] H := ⟨hP, hD⟩
  have hP := hPD.1
  have hD := hPD.2
  clear hPD
  refine lv_aload_n hx hb dX5_init_9 rfl (lv_at hl 0 rfl) ?_
  refine lv_iconst (v := 0) hx hb dX5_init_10 (by decide) ?_
  refine va_put (D := (dC, dI)) (ci := 5) (v := .int 0) (ty := .int) (C := RX5) (T := TX5) (N := 13) hx hb hts hi_X5 tyX5 tyX5_ok nmX5 hown hK hP hD hS 0 rfl rfl 1 (by decide) (hts (.fieldLink RX5 15 "LeftQuills$Office" "bluntBehind" "I") (wmx 5 rfl)) (fun _ h9 => h9) rfl (by decide +kernel) rfl rfl (Nat.le_of_ble_eq_true rfl) dX5_init_11 (fun H locs hP hD hS => ?_)
  have hPD : pdW (dC, dI) vwCl A [(h0, .inr (5, [.int 0, .int 0, .int 0, .int 0, .int 0, .null, .null, .null, .null, .null, .null, .null, .null]))] H := ⟨hP, hD⟩
  have hP := hPD.1
  have hD := hPD.2
  clear hPD
  refine lv_aload_n hx hb dX5_init_14 rfl (lv_at hl 0 rfl) ?_
  refine lv_iconst (v := 0) hx hb dX5_init_15 (by decide) ?_
  refine va_put (D := (dC, dI)) (ci := 5) (v := .int 0) (ty := .int) (C := RX5) (T := TX5) (N := 13) hx hb hts hi_X5 tyX5 tyX5_ok nmX5 hown hK hP hD hS 0 rfl rfl 2 (by decide) (hts (.fieldLink RX5 19 "LeftQuills$Office" "mendMinutes" "I") (wmx 6 rfl)) (fun _ h9 => h9) rfl (by decide +kernel) rfl rfl (Nat.le_of_ble_eq_true rfl) dX5_init_16 (fun H locs hP hD hS => ?_)
  have hPD : pdW (dC, dI) vwCl A [(h0, .inr (5, [.int 0, .int 0, .int 0, .int 0, .int 0, .null, .null, .null, .null, .null, .null, .null, .null]))] H := ⟨hP, hD⟩
  have hP := hPD.1
  have hD := hPD.2
  clear hPD
  refine lv_aload_n hx hb dX5_init_19 rfl (lv_at hl 0 rfl) ?_
  refine lv_iconst (v := 0) hx hb dX5_init_20 (by decide) ?_
  refine va_put (D := (dC, dI)) (ci := 5) (v := .int 0) (ty := .int) (C := RX5) (T := TX5) (N := 13) hx hb hts hi_X5 tyX5 tyX5_ok nmX5 hown hK hP hD hS 0 rfl rfl 3 (by decide) (hts (.fieldLink RX5 22 "LeftQuills$Office" "quills" "I") (wmx 7 rfl)) (fun _ h9 => h9) rfl (by decide +kernel) rfl rfl (Nat.le_of_ble_eq_true rfl) dX5_init_21 (fun H locs hP hD hS => ?_)
  have hPD : pdW (dC, dI) vwCl A [(h0, .inr (5, [.int 0, .int 0, .int 0, .int 0, .int 0, .null, .null, .null, .null, .null, .null, .null, .null]))] H := ⟨hP, hD⟩
  have hP := hPD.1
  have hD := hPD.2
  clear hPD
  refine lv_aload_n hx hb dX5_init_24 rfl (lv_at hl 0 rfl) ?_
  refine lv_iconst (v := 0) hx hb dX5_init_25 (by decide) ?_
  refine va_put (D := (dC, dI)) (ci := 5) (v := .int 0) (ty := .int) (C := RX5) (T := TX5) (N := 13) hx hb hts hi_X5 tyX5 tyX5_ok nmX5 hown hK hP hD hS 0 rfl rfl 4 (by decide) (hts (.fieldLink RX5 25 "LeftQuills$Office" "hands" "I") (wmx 8 rfl)) (fun _ h9 => h9) rfl (by decide +kernel) rfl rfl (Nat.le_of_ble_eq_true rfl) dX5_init_26 (fun H locs hP hD hS => ?_)
  have hPD : pdW (dC, dI) vwCl A [(h0, .inr (5, [.int 0, .int 0, .int 0, .int 0, .int 0, .null, .null, .null, .null, .null, .null, .null, .null]))] H := ⟨hP, hD⟩
  have hP := hPD.1
  have hD := hPD.2
  clear hPD
  refine lv_aload_n hx hb dX5_init_29 rfl (lv_at hl 0 rfl) ?_
  refine lv_bipush (v := 8) hx hb dX5_init_30 (by decide) ?_
  refine va_newa (atype := .int) (ty := .int) (n := 8) (a0 := (8, .inl (fun _ => 0))) (N' := 8) hx hb (hts (.arrayClass .int) (wmx 9 rfl)) rfl hK hP hD hS hA (fun _ => rfl) (by decide) (by decide) (by decide) (Nat.le_of_ble_eq_true rfl) (Nat.le_of_ble_eq_true rfl) dX5_init_32 (fun q1 cA H hKn hP hD hS => ?_)
  have ecA := xcI hKn
  subst ecA
  clear hKn
  refine W.widen (k := 1) (n := 8) (Nat.le_of_ble_eq_true rfl) (Nat.le_of_ble_eq_true rfl) ?_
  have hPD : pdW (dC, dI) vwCl A [(h0, .inr (5, [.int 0, .int 0, .int 0, .int 0, .int 0, .null, .null, .null, .null, .null, .null, .null, .null])), (q1, .inl (cI, 8, .inl (fun _ => 0)))] H := ⟨hP, hD⟩
  have hP := hPD.1
  have hD := hPD.2
  clear hPD
  refine va_putF (D := (dC, dI)) (ci := 5) (v := .ref q1) (ty := .array .int) (C := RX5) (T := TX5) (N := 13) hx hb hts hi_X5 tyX5 tyX5_ok nmX5 hown hK hP hD hS 0 rfl rfl 5 (by decide) (hts (.fieldLink RX5 28 "LeftQuills$Office" "wing" "[I") (wmx 10 rfl)) (fun _ h9 => h9) rfl hin rfl (by decide +kernel) rfl rfl (Nat.le_of_ble_eq_true rfl) dX5_init_34 (fun H locs hP hD hS => ?_)
  have hPD : pdW (dC, dI) vwCl A [(h0, .inr (5, [.int 0, .int 0, .int 0, .int 0, .int 0, .ref q1, .null, .null, .null, .null, .null, .null, .null])), (q1, .inl (cI, 8, .inl (fun _ => 0)))] H := ⟨hP, hD⟩
  have hP := hPD.1
  have hD := hPD.2
  clear hPD
  refine lv_aload_n hx hb dX5_init_37 rfl (lv_at hl 0 rfl) ?_
  refine lv_bipush (v := 8) hx hb dX5_init_38 (by decide) ?_
  refine va_newa (atype := .int) (ty := .int) (n := 8) (a0 := (8, .inl (fun _ => 0))) (N' := 8) hx hb (hts (.arrayClass .int) (wmx 9 rfl)) rfl hK hP hD hS hA (fun _ => rfl) (by decide) (by decide) (by decide) (Nat.le_of_ble_eq_true rfl) (Nat.le_of_ble_eq_true rfl) dX5_init_40 (fun q2 cA H hKn hP hD hS => ?_)
  have ecA := xcI hKn
  subst ecA
  clear hKn
  refine W.widen (k := 2) (n := 16) (Nat.le_of_ble_eq_true rfl) (Nat.le_of_ble_eq_true rfl) ?_
  have hPD : pdW (dC, dI) vwCl A [(h0, .inr (5, [.int 0, .int 0, .int 0, .int 0, .int 0, .ref q1, .null, .null, .null, .null, .null, .null, .null])), (q1, .inl (cI, 8, .inl (fun _ => 0))), (q2, .inl (cI, 8, .inl (fun _ => 0)))] H := ⟨hP, hD⟩
  have hP := hPD.1
  have hD := hPD.2
  clear hPD
  refine va_putF (D := (dC, dI)) (ci := 5) (v := .ref q2) (ty := .array .int) (C := RX5) (T := TX5) (N := 13) hx hb hts hi_X5 tyX5 tyX5_ok nmX5 hown hK hP hD hS 0 rfl rfl 6 (by decide) (hts (.fieldLink RX5 32 "LeftQuills$Office" "place" "[I") (wmx 11 rfl)) (fun _ h9 => h9) rfl hin rfl (by decide +kernel) rfl rfl (Nat.le_of_ble_eq_true rfl) dX5_init_42 (fun H locs hP hD hS => ?_)
  have hPD : pdW (dC, dI) vwCl A [(h0, .inr (5, [.int 0, .int 0, .int 0, .int 0, .int 0, .ref q1, .ref q2, .null, .null, .null, .null, .null, .null])), (q1, .inl (cI, 8, .inl (fun _ => 0))), (q2, .inl (cI, 8, .inl (fun _ => 0)))] H := ⟨hP, hD⟩
  have hP := hPD.1
  have hD := hPD.2
  clear hPD
  refine lv_aload_n hx hb dX5_init_45 rfl (lv_at hl 0 rfl) ?_
  refine lv_bipush (v := 8) hx hb dX5_init_46 (by decide) ?_
  refine va_newa (atype := .int) (ty := .int) (n := 8) (a0 := (8, .inl (fun _ => 0))) (N' := 8) hx hb (hts (.arrayClass .int) (wmx 9 rfl)) rfl hK hP hD hS hA (fun _ => rfl) (by decide) (by decide) (by decide) (Nat.le_of_ble_eq_true rfl) (Nat.le_of_ble_eq_true rfl) dX5_init_48 (fun q3 cA H hKn hP hD hS => ?_)
  have ecA := xcI hKn
  subst ecA
  clear hKn
  refine W.widen (k := 3) (n := 24) (Nat.le_of_ble_eq_true rfl) (Nat.le_of_ble_eq_true rfl) ?_
  have hPD : pdW (dC, dI) vwCl A [(h0, .inr (5, [.int 0, .int 0, .int 0, .int 0, .int 0, .ref q1, .ref q2, .null, .null, .null, .null, .null, .null])), (q1, .inl (cI, 8, .inl (fun _ => 0))), (q2, .inl (cI, 8, .inl (fun _ => 0))), (q3, .inl (cI, 8, .inl (fun _ => 0)))] H := ⟨hP, hD⟩
  have hP := hPD.1
  have hD := hPD.2
  clear hPD
  refine va_putF (D := (dC, dI)) (ci := 5) (v := .ref q3) (ty := .array .int) (C := RX5) (T := TX5) (N := 13) hx hb hts hi_X5 tyX5 tyX5_ok nmX5 hown hK hP hD hS 0 rfl rfl 7 (by decide) (hts (.fieldLink RX5 35 "LeftQuills$Office" "cooked" "[I") (wmx 12 rfl)) (fun _ h9 => h9) rfl hin rfl (by decide +kernel) rfl rfl (Nat.le_of_ble_eq_true rfl) dX5_init_50 (fun H locs hP hD hS => ?_)
  have hPD : pdW (dC, dI) vwCl A [(h0, .inr (5, [.int 0, .int 0, .int 0, .int 0, .int 0, .ref q1, .ref q2, .ref q3, .null, .null, .null, .null, .null])), (q1, .inl (cI, 8, .inl (fun _ => 0))), (q2, .inl (cI, 8, .inl (fun _ => 0))), (q3, .inl (cI, 8, .inl (fun _ => 0)))] H := ⟨hP, hD⟩
  have hP := hPD.1
  have hD := hPD.2
  clear hPD
  refine lv_aload_n hx hb dX5_init_53 rfl (lv_at hl 0 rfl) ?_
  refine lv_bipush (v := 8) hx hb dX5_init_54 (by decide) ?_
  refine va_newa (atype := .int) (ty := .int) (n := 8) (a0 := (8, .inl (fun _ => 0))) (N' := 8) hx hb (hts (.arrayClass .int) (wmx 9 rfl)) rfl hK hP hD hS hA (fun _ => rfl) (by decide) (by decide) (by decide) (Nat.le_of_ble_eq_true rfl) (Nat.le_of_ble_eq_true rfl) dX5_init_56 (fun q4 cA H hKn hP hD hS => ?_)
  have ecA := xcI hKn
  subst ecA
  clear hKn
  refine W.widen (k := 4) (n := 32) (Nat.le_of_ble_eq_true rfl) (Nat.le_of_ble_eq_true rfl) ?_
  have hPD : pdW (dC, dI) vwCl A [(h0, .inr (5, [.int 0, .int 0, .int 0, .int 0, .int 0, .ref q1, .ref q2, .ref q3, .null, .null, .null, .null, .null])), (q1, .inl (cI, 8, .inl (fun _ => 0))), (q2, .inl (cI, 8, .inl (fun _ => 0))), (q3, .inl (cI, 8, .inl (fun _ => 0))), (q4, .inl (cI, 8, .inl (fun _ => 0)))] H := ⟨hP, hD⟩
  have hP := hPD.1
  have hD := hPD.2
  clear hPD
  refine va_putF (D := (dC, dI)) (ci := 5) (v := .ref q4) (ty := .array .int) (C := RX5) (T := TX5) (N := 13) hx hb hts hi_X5 tyX5 tyX5_ok nmX5 hown hK hP hD hS 0 rfl rfl 8 (by decide) (hts (.fieldLink RX5 38 "LeftQuills$Office" "toldLength" "[I") (wmx 13 rfl)) (fun _ h9 => h9) rfl hin rfl (by decide +kernel) rfl rfl (Nat.le_of_ble_eq_true rfl) dX5_init_58 (fun H locs hP hD hS => ?_)
  have hPD : pdW (dC, dI) vwCl A [(h0, .inr (5, [.int 0, .int 0, .int 0, .int 0, .int 0, .ref q1, .ref q2, .ref q3, .ref q4, .null, .null, .null, .null])), (q1, .inl (cI, 8, .inl (fun _ => 0))), (q2, .inl (cI, 8, .inl (fun _ => 0))), (q3, .inl (cI, 8, .inl (fun _ => 0))), (q4, .inl (cI, 8, .inl (fun _ => 0)))] H := ⟨hP, hD⟩
  have hP := hPD.1
  have hD := hPD.2
  clear hPD
  refine lv_aload_n hx hb dX5_init_61 rfl (lv_at hl 0 rfl) ?_
  refine lv_bipush (v := 8) hx hb dX5_init_62 (by decide) ?_
  refine va_newa (atype := .int) (ty := .int) (n := 8) (a0 := (8, .inl (fun _ => 0))) (N' := 8) hx hb (hts (.arrayClass .int) (wmx 9 rfl)) rfl hK hP hD hS hA (fun _ => rfl) (by decide) (by decide) (by decide) (Nat.le_of_ble_eq_true rfl) (Nat.le_of_ble_eq_true rfl) dX5_init_64 (fun q5 cA H hKn hP hD hS => ?_)
  have ecA := xcI hKn
  subst ecA
  clear hKn
  refine W.widen (k := 5) (n := 40) (Nat.le_of_ble_eq_true rfl) (Nat.le_of_ble_eq_true rfl) ?_
  have hPD : pdW (dC, dI) vwCl A [(h0, .inr (5, [.int 0, .int 0, .int 0, .int 0, .int 0, .ref q1, .ref q2, .ref q3, .ref q4, .null, .null, .null, .null])), (q1, .inl (cI, 8, .inl (fun _ => 0))), (q2, .inl (cI, 8, .inl (fun _ => 0))), (q3, .inl (cI, 8, .inl (fun _ => 0))), (q4, .inl (cI, 8, .inl (fun _ => 0))), (q5, .inl (cI, 8, .inl (fun _ => 0)))] H := ⟨hP, hD⟩
  have hP := hPD.1
  have hD := hPD.2
  clear hPD
  refine va_putF (D := (dC, dI)) (ci := 5) (v := .ref q5) (ty := .array .int) (C := RX5) (T := TX5) (N := 13) hx hb hts hi_X5 tyX5 tyX5_ok nmX5 hown hK hP hD hS 0 rfl rfl 9 (by decide) (hts (.fieldLink RX5 41 "LeftQuills$Office" "toldNib" "[I") (wmx 14 rfl)) (fun _ h9 => h9) rfl hin rfl (by decide +kernel) rfl rfl (Nat.le_of_ble_eq_true rfl) dX5_init_66 (fun H locs hP hD hS => ?_)
  have hPD : pdW (dC, dI) vwCl A [(h0, .inr (5, [.int 0, .int 0, .int 0, .int 0, .int 0, .ref q1, .ref q2, .ref q3, .ref q4, .ref q5, .null, .null, .null])), (q1, .inl (cI, 8, .inl (fun _ => 0))), (q2, .inl (cI, 8, .inl (fun _ => 0))), (q3, .inl (cI, 8, .inl (fun _ => 0))), (q4, .inl (cI, 8, .inl (fun _ => 0))), (q5, .inl (cI, 8, .inl (fun _ => 0)))] H := ⟨hP, hD⟩
  have hP := hPD.1
  have hD := hPD.2
  clear hPD
  refine lv_aload_n hx hb dX5_init_69 rfl (lv_at hl 0 rfl) ?_
  refine lv_iconst (v := 4) hx hb dX5_init_70 (by decide) ?_
  refine va_newa (atype := .int) (ty := .int) (n := 4) (a0 := (4, .inl (fun _ => 0))) (N' := 4) hx hb (hts (.arrayClass .int) (wmx 9 rfl)) rfl hK hP hD hS hA (fun _ => rfl) (by decide) (by decide) (by decide) (Nat.le_of_ble_eq_true rfl) (Nat.le_of_ble_eq_true rfl) dX5_init_71 (fun q6 cA H hKn hP hD hS => ?_)
  have ecA := xcI hKn
  subst ecA
  clear hKn
  refine W.widen (k := 6) (n := 44) (Nat.le_of_ble_eq_true rfl) (Nat.le_of_ble_eq_true rfl) ?_
  have hPD : pdW (dC, dI) vwCl A [(h0, .inr (5, [.int 0, .int 0, .int 0, .int 0, .int 0, .ref q1, .ref q2, .ref q3, .ref q4, .ref q5, .null, .null, .null])), (q1, .inl (cI, 8, .inl (fun _ => 0))), (q2, .inl (cI, 8, .inl (fun _ => 0))), (q3, .inl (cI, 8, .inl (fun _ => 0))), (q4, .inl (cI, 8, .inl (fun _ => 0))), (q5, .inl (cI, 8, .inl (fun _ => 0))), (q6, .inl (cI, 4, .inl (fun _ => 0)))] H := ⟨hP, hD⟩
  have hP := hPD.1
  have hD := hPD.2
  clear hPD
  refine va_putF (D := (dC, dI)) (ci := 5) (v := .ref q6) (ty := .array .int) (C := RX5) (T := TX5) (N := 13) hx hb hts hi_X5 tyX5 tyX5_ok nmX5 hown hK hP hD hS 0 rfl rfl 10 (by decide) (hts (.fieldLink RX5 44 "LeftQuills$Office" "side" "[I") (wmx 15 rfl)) (fun _ h9 => h9) rfl hin rfl (by decide +kernel) rfl rfl (Nat.le_of_ble_eq_true rfl) dX5_init_73 (fun H locs hP hD hS => ?_)
  have hPD : pdW (dC, dI) vwCl A [(h0, .inr (5, [.int 0, .int 0, .int 0, .int 0, .int 0, .ref q1, .ref q2, .ref q3, .ref q4, .ref q5, .ref q6, .null, .null])), (q1, .inl (cI, 8, .inl (fun _ => 0))), (q2, .inl (cI, 8, .inl (fun _ => 0))), (q3, .inl (cI, 8, .inl (fun _ => 0))), (q4, .inl (cI, 8, .inl (fun _ => 0))), (q5, .inl (cI, 8, .inl (fun _ => 0))), (q6, .inl (cI, 4, .inl (fun _ => 0)))] H := ⟨hP, hD⟩
  have hP := hPD.1
  have hD := hPD.2
  clear hPD
  refine lv_aload_n hx hb dX5_init_76 rfl (lv_at hl 0 rfl) ?_
  refine lv_iconst (v := 4) hx hb dX5_init_77 (by decide) ?_
  refine va_newa (atype := .int) (ty := .int) (n := 4) (a0 := (4, .inl (fun _ => 0))) (N' := 4) hx hb (hts (.arrayClass .int) (wmx 9 rfl)) rfl hK hP hD hS hA (fun _ => rfl) (by decide) (by decide) (by decide) (Nat.le_of_ble_eq_true rfl) (Nat.le_of_ble_eq_true rfl) dX5_init_78 (fun q7 cA H hKn hP hD hS => ?_)
  have ecA := xcI hKn
  subst ecA
  clear hKn
  refine W.widen (k := 7) (n := 48) (Nat.le_of_ble_eq_true rfl) (Nat.le_of_ble_eq_true rfl) ?_
  have hPD : pdW (dC, dI) vwCl A [(h0, .inr (5, [.int 0, .int 0, .int 0, .int 0, .int 0, .ref q1, .ref q2, .ref q3, .ref q4, .ref q5, .ref q6, .null, .null])), (q1, .inl (cI, 8, .inl (fun _ => 0))), (q2, .inl (cI, 8, .inl (fun _ => 0))), (q3, .inl (cI, 8, .inl (fun _ => 0))), (q4, .inl (cI, 8, .inl (fun _ => 0))), (q5, .inl (cI, 8, .inl (fun _ => 0))), (q6, .inl (cI, 4, .inl (fun _ => 0))), (q7, .inl (cI, 4, .inl (fun _ => 0)))] H := ⟨hP, hD⟩
  have hP := hPD.1
  have hD := hPD.2
  clear hPD
  refine va_putF (D := (dC, dI)) (ci := 5) (v := .ref q7) (ty := .array .int) (C := RX5) (T := TX5) (N := 13) hx hb hts hi_X5 tyX5 tyX5_ok nmX5 hown hK hP hD hS 0 rfl rfl 11 (by decide) (hts (.fieldLink RX5 47 "LeftQuills$Office" "presses" "[I") (wmx 16 rfl)) (fun _ h9 => h9) rfl hin rfl (by decide +kernel) rfl rfl (Nat.le_of_ble_eq_true rfl) dX5_init_80 (fun H locs hP hD hS => ?_)
  have hPD : pdW (dC, dI) vwCl A [(h0, .inr (5, [.int 0, .int 0, .int 0, .int 0, .int 0, .ref q1, .ref q2, .ref q3, .ref q4, .ref q5, .ref q6, .ref q7, .null])), (q1, .inl (cI, 8, .inl (fun _ => 0))), (q2, .inl (cI, 8, .inl (fun _ => 0))), (q3, .inl (cI, 8, .inl (fun _ => 0))), (q4, .inl (cI, 8, .inl (fun _ => 0))), (q5, .inl (cI, 8, .inl (fun _ => 0))), (q6, .inl (cI, 4, .inl (fun _ => 0))), (q7, .inl (cI, 4, .inl (fun _ => 0)))] H := ⟨hP, hD⟩
  have hP := hPD.1
  have hD := hPD.2
  clear hPD
  refine lv_aload_n hx hb dX5_init_83 rfl (lv_at hl 0 rfl) ?_
  refine lv_iconst (v := 4) hx hb dX5_init_84 (by decide) ?_
  refine va_newa (atype := .int) (ty := .int) (n := 4) (a0 := (4, .inl (fun _ => 0))) (N' := 4) hx hb (hts (.arrayClass .int) (wmx 9 rfl)) rfl hK hP hD hS hA (fun _ => rfl) (by decide) (by decide) (by decide) (Nat.le_of_ble_eq_true rfl) (Nat.le_of_ble_eq_true rfl) dX5_init_85 (fun q8 cA H hKn hP hD hS => ?_)
  have ecA := xcI hKn
  subst ecA
  clear hKn
  refine W.widen (k := 8) (n := 52) (Nat.le_of_ble_eq_true rfl) (Nat.le_of_ble_eq_true rfl) ?_
  have hPD : pdW (dC, dI) vwCl A [(h0, .inr (5, [.int 0, .int 0, .int 0, .int 0, .int 0, .ref q1, .ref q2, .ref q3, .ref q4, .ref q5, .ref q6, .ref q7, .null])), (q1, .inl (cI, 8, .inl (fun _ => 0))), (q2, .inl (cI, 8, .inl (fun _ => 0))), (q3, .inl (cI, 8, .inl (fun _ => 0))), (q4, .inl (cI, 8, .inl (fun _ => 0))), (q5, .inl (cI, 8, .inl (fun _ => 0))), (q6, .inl (cI, 4, .inl (fun _ => 0))), (q7, .inl (cI, 4, .inl (fun _ => 0))), (q8, .inl (cI, 4, .inl (fun _ => 0)))] H := ⟨hP, hD⟩
  have hP := hPD.1
  have hD := hPD.2
  clear hPD
  refine va_putF (D := (dC, dI)) (ci := 5) (v := .ref q8) (ty := .array .int) (C := RX5) (T := TX5) (N := 13) hx hb hts hi_X5 tyX5 tyX5_ok nmX5 hown hK hP hD hS 0 rfl rfl 12 (by decide) (hts (.fieldLink RX5 50 "LeftQuills$Office" "wants" "[I") (wmx 17 rfl)) (fun _ h9 => h9) rfl hin rfl (by decide +kernel) rfl rfl (Nat.le_of_ble_eq_true rfl) dX5_init_87 (fun H locs hP hD hS => ?_)
  have hPD : pdW (dC, dI) vwCl A [(h0, .inr (5, [.int 0, .int 0, .int 0, .int 0, .int 0, .ref q1, .ref q2, .ref q3, .ref q4, .ref q5, .ref q6, .ref q7, .ref q8])), (q1, .inl (cI, 8, .inl (fun _ => 0))), (q2, .inl (cI, 8, .inl (fun _ => 0))), (q3, .inl (cI, 8, .inl (fun _ => 0))), (q4, .inl (cI, 8, .inl (fun _ => 0))), (q5, .inl (cI, 8, .inl (fun _ => 0))), (q6, .inl (cI, 4, .inl (fun _ => 0))), (q7, .inl (cI, 4, .inl (fun _ => 0))), (q8, .inl (cI, 4, .inl (fun _ => 0)))] H := ⟨hP, hD⟩
  have hP := hPD.1
  have hD := hPD.2
  clear hPD
  have hP9 := hP.sub (ws' := [(h0, .inr (5, [.int 0, .int 0, .int 0, .int 0, .int 0, .ref q1, .ref q2, .ref q3, .ref q4, .ref q5, .ref q6, .ref q7, .ref q8])), (q1, .inl (cI, 8, .inl (fun _ => 0))), (q2, .inl (cI, 8, .inl (fun _ => 0))), (q3, .inl (cI, 8, .inl (fun _ => 0))), (q4, .inl (cI, 8, .inl (fun _ => 0))), (q5, .inl (cI, 8, .inl (fun _ => 0))), (q6, .inl (cI, 4, .inl (fun _ => 0))), (q7, .inl (cI, 4, .inl (fun _ => 0))), (q8, .inl (cI, 4, .inl (fun _ => 0)))]) [0, 1, 2, 3, 4, 5, 6, 7, 8] rfl
  have hD9 := hD.sub (ws' := [(h0, .inr (5, [.int 0, .int 0, .int 0, .int 0, .int 0, .ref q1, .ref q2, .ref q3, .ref q4, .ref q5, .ref q6, .ref q7, .ref q8])), (q1, .inl (cI, 8, .inl (fun _ => 0))), (q2, .inl (cI, 8, .inl (fun _ => 0))), (q3, .inl (cI, 8, .inl (fun _ => 0))), (q4, .inl (cI, 8, .inl (fun _ => 0))), (q5, .inl (cI, 8, .inl (fun _ => 0))), (q6, .inl (cI, 4, .inl (fun _ => 0))), (q7, .inl (cI, 4, .inl (fun _ => 0))), (q8, .inl (cI, 4, .inl (fun _ => 0)))]) [0, 1, 2, 3, 4, 5, 6, 7, 8] (by decide +kernel) rfl
  refine W.widen (k := 8) (n := 52) (Nat.le_of_ble_eq_true rfl) (Nat.le_of_ble_eq_true rfl) ?_
  exact W.vret hx hb hr (fun t ht hW => ⟨⟨(vn [q1, q2, q3, q4, q5, q6, q7, q8]), rfl, by first | trivial | rfl | (simp_all; done), ⟨va_hq ht hP9, hD9⟩⟩, hS.F ht⟩) hS.2.2 dX5_init_90
set_option maxHeartbeats 4000000 in
set_option maxRecDepth 100000 in
theorem c_X1_init (l : Launch) (dC : Nat → ClassId) (dI : Nat → Nat → Nat) (cI cZ cQ : ClassId) (h0 : Nat) (ho : Nat) (sz : Nat)  : Met l yX1_init wsX1_init ({ frames := 1, cells := 5, slots := 32, locals := 40 }) (va_Pc [.ref h0, .ref ho] (fun U => U.heap.size = sz ∧ va_P (dC, dI) vwCl [(h0, .inr (1, [.int 0, .int 0, .null, .null, .null, .null, .null, .null]))] U.heap ∧ va_K (dC, dI) vwCl (tys0 cI cZ cQ) U ∧ va_D (fun _ => True) [(h0, .inr (1, [.int 0, .int 0, .null, .null, .null, .null, .null, .null]))])) (va_Qv (fun (u : Nat → Nat) => True) (fun (u : Nat → Nat) (t : State) => va_P (dC, dI) vwCl [(h0, .inr (1, [.int 0, .int 0, .ref (u 0), .ref (u 1), .ref (u 2), .ref (u 3), .ref (u 4), .ref ho])), ((u 0), .inl (cI, 8, .inl (fun _ => 0))), ((u 1), .inl (cI, 8, .inl (fun _ => 0))), ((u 2), .inl (cI, 8, .inl (fun _ => 0))), ((u 3), .inl (cI, 4, .inl (fun _ => 0))), ((u 4), .inl (cI, 4, .inl (fun _ => 0)))] t.heap ∧ va_D (va_A [(h0, .inr (1, [.int 0, .int 0, .null, .null, .null, .null, .null, .null]))] sz) [(h0, .inr (1, [.int 0, .int 0, .ref (u 0), .ref (u 1), .ref (u 2), .ref (u 3), .ref (u 4), .ref ho])), ((u 0), .inl (cI, 8, .inl (fun _ => 0))), ((u 1), .inl (cI, 8, .inl (fun _ => 0))), ((u 2), .inl (cI, 8, .inl (fun _ => 0))), ((u 3), .inl (cI, 4, .inl (fun _ => 0))), ((u 4), .inl (cI, 4, .inl (fun _ => 0)))]) (va_A [(h0, .inr (1, [.int 0, .int 0, .null, .null, .null, .null, .null, .null]))] sz)) 5 32 (va_A [(h0, .inr (1, [.int 0, .int 0, .null, .null, .null, .null, .null, .null]))] sz) := by
  refine Met.ofW (cc := cX1_init) (maxL := 2) (ret := none) (by decide) rfl ?_
  intro p e s m args below meth c s₁ B hml hv
  obtain ⟨rfl, hsz, hP, hK, hD0⟩ := hv
  have hx := B.exec
  have hb := B.bytes
  have hr := B.returns
  have hts := atoms_spec (ws := wsX1_init) B.pre
  have hown : s.vm.findClass RX1 = some m.cls := findClass_of_methodNamed B.named
  have hlocks := B.notSynchronized
  have hin : meth.name = "<init>" := (name_of_methodNamed B.named B.method).1
  have hi_X1 : ∀ w ∈ u_ws RX1 TX1 8, w ∈ wsX1_init := fun _ h => List.mem_cons_of_mem _ (List.mem_append_right _ (h))
  subst hsz
  have hD := hD0.self (sz := s.heap.size)
  generalize hAe : va_A [(h0, .inr (1, [.int 0, .int 0, .null, .null, .null, .null, .null, .null]))] s.heap.size = A at hD ⊢
  have hA : ∀ q : Nat, s.heap.size ≤ q → A q := fun q h => by rw [← hAe]; exact Or.inr h
  have hS : va_S A s.heap s.heap [] := va_S.rf
  have hl := lv_entry ([.ref h0, .ref ho]) (n := 2) (Nat.le_of_ble_eq_true rfl)
  rw [lg_entry_eq]
  generalize (lg_sl ([.ref h0, .ref ho]) ++ List.replicate (2 - (lg_sl ([.ref h0, .ref ho])).length) Slot.unset).toArray = ls at hl ⊢
  have hl : lv_has ls 2 [(0, .ref h0), (1, .ref ho)] := hl
  refine lv_aload_n hx hb dX1_init_0 rfl (lv_at hl 0 rfl) ?_
  refine W.objInit hx hb hown (hts (.methodLink RX1 3 objectInit) (wmx 1 rfl)) (hts (.instanceMethod objectInit) (wmx 2 rfl)) (hts (.code objectInit ⟨#[0xb1]⟩ 1 none) (wmx 3 rfl)) rfl (by rw [hml]; exact hl.1) rfl dX1_init_1 (Nat.le_of_ble_eq_true rfl) (Nat.le_of_ble_eq_true rfl) ?_
  refine W.eq (g2 := F0 m 4 ls []) rfl ?_
  refine lv_aload_n hx hb dX1_init_4 rfl (lv_at hl 0 rfl) ?_
  refine lv_iconst (v := 0) hx hb dX1_init_5 (by decide) ?_
  refine va_put (D := (dC, dI)) (ci := 1) (v := .int 0) (ty := .int) (C := RX1) (T := TX1) (N := 8) hx hb hts hi_X1 tyX1 tyX1_ok nmX1 hown hK hP hD hS 0 rfl rfl 0 (by decide) (hts (.fieldLink RX1 9 "LeftQuills$Desk" "minutes" "I") (wmx 4 rfl)) (fun _ h9 => h9) rfl (by decide +kernel) rfl rfl (Nat.le_of_ble_eq_true rfl) dX1_init_6 (fun H locs hP hD hS => ?_)
  have hPD : pdW (dC, dI) vwCl A [(h0, .inr (1, [.int 0, .int 0, .null, .null, .null, .null, .null, .null]))] H := ⟨hP, hD⟩
  have hP := hPD.1
  have hD := hPD.2
  clear hPD
  refine lv_aload_n hx hb dX1_init_9 rfl (lv_at hl 0 rfl) ?_
  refine lv_iconst (v := 0) hx hb dX1_init_10 (by decide) ?_
  refine va_put (D := (dC, dI)) (ci := 1) (v := .int 0) (ty := .int) (C := RX1) (T := TX1) (N := 8) hx hb hts hi_X1 tyX1 tyX1_ok nmX1 hown hK hP hD hS 0 rfl rfl 1 (by decide) (hts (.fieldLink RX1 15 "LeftQuills$Desk" "cuts" "I") (wmx 5 rfl)) (fun _ h9 => h9) rfl (by decide +kernel) rfl rfl (Nat.le_of_ble_eq_true rfl) dX1_init_11 (fun H locs hP hD hS => ?_)
  have hPD : pdW (dC, dI) vwCl A [(h0, .inr (1, [.int 0, .int 0, .null, .null, .null, .null, .null, .null]))] H := ⟨hP, hD⟩
  have hP := hPD.1
  have hD := hPD.2
  clear hPD
  refine lv_aload_n hx hb dX1_init_14 rfl (lv_at hl 0 rfl) ?_
  refine lv_bipush (v := 8) hx hb dX1_init_15 (by decide) ?_
  refine va_newa (atype := .int) (ty := .int) (n := 8) (a0 := (8, .inl (fun _ => 0))) (N' := 8) hx hb (hts (.arrayClass .int) (wmx 6 rfl)) rfl hK hP hD hS hA (fun _ => rfl) (by decide) (by decide) (by decide) (Nat.le_of_ble_eq_true rfl) (Nat.le_of_ble_eq_true rfl) dX1_init_17 (fun q1 cA H hKn hP hD hS => ?_)
  have ecA := xcI hKn
  subst ecA
  clear hKn
  refine W.widen (k := 1) (n := 8) (Nat.le_of_ble_eq_true rfl) (Nat.le_of_ble_eq_true rfl) ?_
  have hPD : pdW (dC, dI) vwCl A [(h0, .inr (1, [.int 0, .int 0, .null, .null, .null, .null, .null, .null])), (q1, .inl (cI, 8, .inl (fun _ => 0)))] H := ⟨hP, hD⟩
  have hP := hPD.1
  have hD := hPD.2
  clear hPD
  refine va_putF (D := (dC, dI)) (ci := 1) (v := .ref q1) (ty := .array .int) (C := RX1) (T := TX1) (N := 8) hx hb hts hi_X1 tyX1 tyX1_ok nmX1 hown hK hP hD hS 0 rfl rfl 2 (by decide) (hts (.fieldLink RX1 18 "LeftQuills$Desk" "length" "[I") (wmx 7 rfl)) (fun _ h9 => h9) rfl hin rfl (by decide +kernel) rfl rfl (Nat.le_of_ble_eq_true rfl) dX1_init_19 (fun H locs hP hD hS => ?_)
  have hPD : pdW (dC, dI) vwCl A [(h0, .inr (1, [.int 0, .int 0, .ref q1, .null, .null, .null, .null, .null])), (q1, .inl (cI, 8, .inl (fun _ => 0)))] H := ⟨hP, hD⟩
  have hP := hPD.1
  have hD := hPD.2
  clear hPD
  refine lv_aload_n hx hb dX1_init_22 rfl (lv_at hl 0 rfl) ?_
  refine lv_bipush (v := 8) hx hb dX1_init_23 (by decide) ?_
  refine va_newa (atype := .int) (ty := .int) (n := 8) (a0 := (8, .inl (fun _ => 0))) (N' := 8) hx hb (hts (.arrayClass .int) (wmx 6 rfl)) rfl hK hP hD hS hA (fun _ => rfl) (by decide) (by decide) (by decide) (Nat.le_of_ble_eq_true rfl) (Nat.le_of_ble_eq_true rfl) dX1_init_25 (fun q2 cA H hKn hP hD hS => ?_)
  have ecA := xcI hKn
  subst ecA
  clear hKn
  refine W.widen (k := 2) (n := 16) (Nat.le_of_ble_eq_true rfl) (Nat.le_of_ble_eq_true rfl) ?_
  have hPD : pdW (dC, dI) vwCl A [(h0, .inr (1, [.int 0, .int 0, .ref q1, .null, .null, .null, .null, .null])), (q1, .inl (cI, 8, .inl (fun _ => 0))), (q2, .inl (cI, 8, .inl (fun _ => 0)))] H := ⟨hP, hD⟩
  have hP := hPD.1
  have hD := hPD.2
  clear hPD
  refine va_putF (D := (dC, dI)) (ci := 1) (v := .ref q2) (ty := .array .int) (C := RX1) (T := TX1) (N := 8) hx hb hts hi_X1 tyX1 tyX1_ok nmX1 hown hK hP hD hS 0 rfl rfl 3 (by decide) (hts (.fieldLink RX1 22 "LeftQuills$Desk" "nib" "[I") (wmx 8 rfl)) (fun _ h9 => h9) rfl hin rfl (by decide +kernel) rfl rfl (Nat.le_of_ble_eq_true rfl) dX1_init_27 (fun H locs hP hD hS => ?_)
  have hPD : pdW (dC, dI) vwCl A [(h0, .inr (1, [.int 0, .int 0, .ref q1, .ref q2, .null, .null, .null, .null])), (q1, .inl (cI, 8, .inl (fun _ => 0))), (q2, .inl (cI, 8, .inl (fun _ => 0)))] H := ⟨hP, hD⟩
  have hP := hPD.1
  have hD := hPD.2
  clear hPD
  refine lv_aload_n hx hb dX1_init_30 rfl (lv_at hl 0 rfl) ?_
  refine lv_bipush (v := 8) hx hb dX1_init_31 (by decide) ?_
  refine va_newa (atype := .int) (ty := .int) (n := 8) (a0 := (8, .inl (fun _ => 0))) (N' := 8) hx hb (hts (.arrayClass .int) (wmx 6 rfl)) rfl hK hP hD hS hA (fun _ => rfl) (by decide) (by decide) (by decide) (Nat.le_of_ble_eq_true rfl) (Nat.le_of_ble_eq_true rfl) dX1_init_33 (fun q3 cA H hKn hP hD hS => ?_)
  have ecA := xcI hKn
  subst ecA
  clear hKn
  refine W.widen (k := 3) (n := 24) (Nat.le_of_ble_eq_true rfl) (Nat.le_of_ble_eq_true rfl) ?_
  have hPD : pdW (dC, dI) vwCl A [(h0, .inr (1, [.int 0, .int 0, .ref q1, .ref q2, .null, .null, .null, .null])), (q1, .inl (cI, 8, .inl (fun _ => 0))), (q2, .inl (cI, 8, .inl (fun _ => 0))), (q3, .inl (cI, 8, .inl (fun _ => 0)))] H := ⟨hP, hD⟩
  have hP := hPD.1
  have hD := hPD.2
  clear hPD
  refine va_putF (D := (dC, dI)) (ci := 1) (v := .ref q3) (ty := .array .int) (C := RX1) (T := TX1) (N := 8) hx hb hts hi_X1 tyX1 tyX1_ok nmX1 hown hK hP hD hS 0 rfl rfl 4 (by decide) (hts (.fieldLink RX1 25 "LeftQuills$Desk" "softness" "[I") (wmx 9 rfl)) (fun _ h9 => h9) rfl hin rfl (by decide +kernel) rfl rfl (Nat.le_of_ble_eq_true rfl) dX1_init_35 (fun H locs hP hD hS => ?_)
  have hPD : pdW (dC, dI) vwCl A [(h0, .inr (1, [.int 0, .int 0, .ref q1, .ref q2, .ref q3, .null, .null, .null])), (q1, .inl (cI, 8, .inl (fun _ => 0))), (q2, .inl (cI, 8, .inl (fun _ => 0))), (q3, .inl (cI, 8, .inl (fun _ => 0)))] H := ⟨hP, hD⟩
  have hP := hPD.1
  have hD := hPD.2
  clear hPD
  refine lv_aload_n hx hb dX1_init_38 rfl (lv_at hl 0 rfl) ?_
  refine lv_iconst (v := 4) hx hb dX1_init_39 (by decide) ?_
  refine va_newa (atype := .int) (ty := .int) (n := 4) (a0 := (4, .inl (fun _ => 0))) (N' := 4) hx hb (hts (.arrayClass .int) (wmx 6 rfl)) rfl hK hP hD hS hA (fun _ => rfl) (by decide) (by decide) (by decide) (Nat.le_of_ble_eq_true rfl) (Nat.le_of_ble_eq_true rfl) dX1_init_40 (fun q4 cA H hKn hP hD hS => ?_)
  have ecA := xcI hKn
  subst ecA
  clear hKn
  refine W.widen (k := 4) (n := 28) (Nat.le_of_ble_eq_true rfl) (Nat.le_of_ble_eq_true rfl) ?_
  have hPD : pdW (dC, dI) vwCl A [(h0, .inr (1, [.int 0, .int 0, .ref q1, .ref q2, .ref q3, .null, .null, .null])), (q1, .inl (cI, 8, .inl (fun _ => 0))), (q2, .inl (cI, 8, .inl (fun _ => 0))), (q3, .inl (cI, 8, .inl (fun _ => 0))), (q4, .inl (cI, 4, .inl (fun _ => 0)))] H := ⟨hP, hD⟩
  have hP := hPD.1
  have hD := hPD.2
  clear hPD
  refine va_putF (D := (dC, dI)) (ci := 1) (v := .ref q4) (ty := .array .int) (C := RX1) (T := TX1) (N := 8) hx hb hts hi_X1 tyX1 tyX1_ok nmX1 hown hK hP hD hS 0 rfl rfl 5 (by decide) (hts (.fieldLink RX1 28 "LeftQuills$Desk" "pages" "[I") (wmx 10 rfl)) (fun _ h9 => h9) rfl hin rfl (by decide +kernel) rfl rfl (Nat.le_of_ble_eq_true rfl) dX1_init_42 (fun H locs hP hD hS => ?_)
  have hPD : pdW (dC, dI) vwCl A [(h0, .inr (1, [.int 0, .int 0, .ref q1, .ref q2, .ref q3, .ref q4, .null, .null])), (q1, .inl (cI, 8, .inl (fun _ => 0))), (q2, .inl (cI, 8, .inl (fun _ => 0))), (q3, .inl (cI, 8, .inl (fun _ => 0))), (q4, .inl (cI, 4, .inl (fun _ => 0)))] H := ⟨hP, hD⟩
  have hP := hPD.1
  have hD := hPD.2
  clear hPD
  refine lv_aload_n hx hb dX1_init_45 rfl (lv_at hl 0 rfl) ?_
  refine lv_iconst (v := 4) hx hb dX1_init_46 (by decide) ?_
  refine va_newa (atype := .int) (ty := .int) (n := 4) (a0 := (4, .inl (fun _ => 0))) (N' := 4) hx hb (hts (.arrayClass .int) (wmx 6 rfl)) rfl hK hP hD hS hA (fun _ => rfl) (by decide) (by decide) (by decide) (Nat.le_of_ble_eq_true rfl) (Nat.le_of_ble_eq_true rfl) dX1_init_47 (fun q5 cA H hKn hP hD hS => ?_)
  have ecA := xcI hKn
  subst ecA
  clear hKn
  refine W.widen (k := 5) (n := 32) (Nat.le_of_ble_eq_true rfl) (Nat.le_of_ble_eq_true rfl) ?_
  have hPD : pdW (dC, dI) vwCl A [(h0, .inr (1, [.int 0, .int 0, .ref q1, .ref q2, .ref q3, .ref q4, .null, .null])), (q1, .inl (cI, 8, .inl (fun _ => 0))), (q2, .inl (cI, 8, .inl (fun _ => 0))), (q3, .inl (cI, 8, .inl (fun _ => 0))), (q4, .inl (cI, 4, .inl (fun _ => 0))), (q5, .inl (cI, 4, .inl (fun _ => 0)))] H := ⟨hP, hD⟩
  have hP := hPD.1
  have hD := hPD.2
  clear hPD
  refine va_putF (D := (dC, dI)) (ci := 1) (v := .ref q5) (ty := .array .int) (C := RX1) (T := TX1) (N := 8) hx hb hts hi_X1 tyX1 tyX1_ok nmX1 hown hK hP hD hS 0 rfl rfl 6 (by decide) (hts (.fieldLink RX1 31 "LeftQuills$Desk" "good" "[I") (wmx 11 rfl)) (fun _ h9 => h9) rfl hin rfl (by decide +kernel) rfl rfl (Nat.le_of_ble_eq_true rfl) dX1_init_49 (fun H locs hP hD hS => ?_)
  have hPD : pdW (dC, dI) vwCl A [(h0, .inr (1, [.int 0, .int 0, .ref q1, .ref q2, .ref q3, .ref q4, .ref q5, .null])), (q1, .inl (cI, 8, .inl (fun _ => 0))), (q2, .inl (cI, 8, .inl (fun _ => 0))), (q3, .inl (cI, 8, .inl (fun _ => 0))), (q4, .inl (cI, 4, .inl (fun _ => 0))), (q5, .inl (cI, 4, .inl (fun _ => 0)))] H := ⟨hP, hD⟩
  have hP := hPD.1
  have hD := hPD.2
  clear hPD
  refine lv_aload_n hx hb dX1_init_52 rfl (lv_at hl 0 rfl) ?_
  refine lv_aload_n hx hb dX1_init_53 rfl (lv_at hl 1 rfl) ?_
  refine va_putF (D := (dC, dI)) (ci := 1) (v := .ref ho) (ty := .object "LeftQuills$Office") (C := RX1) (T := TX1) (N := 8) hx hb hts hi_X1 tyX1 tyX1_ok nmX1 hown hK hP hD hS 0 rfl rfl 7 (by decide) (hts (.fieldLink RX1 34 "LeftQuills$Desk" "office" "LLeftQuills$Office;") (wmx 12 rfl)) (fun _ h9 => h9) rfl hin rfl (by decide +kernel) rfl rfl (Nat.le_of_ble_eq_true rfl) dX1_init_54 (fun H locs hP hD hS => ?_)
  have hPD : pdW (dC, dI) vwCl A [(h0, .inr (1, [.int 0, .int 0, .ref q1, .ref q2, .ref q3, .ref q4, .ref q5, .ref ho])), (q1, .inl (cI, 8, .inl (fun _ => 0))), (q2, .inl (cI, 8, .inl (fun _ => 0))), (q3, .inl (cI, 8, .inl (fun _ => 0))), (q4, .inl (cI, 4, .inl (fun _ => 0))), (q5, .inl (cI, 4, .inl (fun _ => 0)))] H := ⟨hP, hD⟩
  have hP := hPD.1
  have hD := hPD.2
  clear hPD
  have hP9 := hP.sub (ws' := [(h0, .inr (1, [.int 0, .int 0, .ref q1, .ref q2, .ref q3, .ref q4, .ref q5, .ref ho])), (q1, .inl (cI, 8, .inl (fun _ => 0))), (q2, .inl (cI, 8, .inl (fun _ => 0))), (q3, .inl (cI, 8, .inl (fun _ => 0))), (q4, .inl (cI, 4, .inl (fun _ => 0))), (q5, .inl (cI, 4, .inl (fun _ => 0)))]) [0, 1, 2, 3, 4, 5] rfl
  have hD9 := hD.sub (ws' := [(h0, .inr (1, [.int 0, .int 0, .ref q1, .ref q2, .ref q3, .ref q4, .ref q5, .ref ho])), (q1, .inl (cI, 8, .inl (fun _ => 0))), (q2, .inl (cI, 8, .inl (fun _ => 0))), (q3, .inl (cI, 8, .inl (fun _ => 0))), (q4, .inl (cI, 4, .inl (fun _ => 0))), (q5, .inl (cI, 4, .inl (fun _ => 0)))]) [0, 1, 2, 3, 4, 5] (by decide +kernel) rfl
  refine W.widen (k := 5) (n := 32) (Nat.le_of_ble_eq_true rfl) (Nat.le_of_ble_eq_true rfl) ?_
  exact W.vret hx hb hr (fun t ht hW => ⟨⟨(vn [q1, q2, q3, q4, q5]), rfl, by first | trivial | rfl | (simp_all; done), ⟨va_hq ht hP9, hD9⟩⟩, hS.F ht⟩) hS.2.2 dX1_init_57
set_option maxHeartbeats 4000000 in
set_option maxRecDepth 100000 in
theorem c_X2_init (l : Launch) (dC : Nat → ClassId) (dI : Nat → Nat → Nat) (cI cZ cQ : ClassId) (h0 : Nat) (ho : Nat) (sz : Nat)  : Met l yX2_init wsX2_init ({ frames := 1, cells := 3, slots := 18, locals := 40 }) (va_Pc [.ref h0, .ref ho] (fun U => U.heap.size = sz ∧ va_P (dC, dI) vwCl [(h0, .inr (2, [.int 0, .null, .null, .null, .null]))] U.heap ∧ va_K (dC, dI) vwCl (tys0 cI cZ cQ) U ∧ va_D (fun _ => True) [(h0, .inr (2, [.int 0, .null, .null, .null, .null]))])) (va_Qv (fun (u : Nat → Nat) => True) (fun (u : Nat → Nat) (t : State) => va_P (dC, dI) vwCl [(h0, .inr (2, [.int 0, .ref ho, .ref (u 0), .ref (u 1), .ref (u 2)])), ((u 0), .inl (cI, 6, .inl (fun _ => 0))), ((u 1), .inl (cI, 6, .inl (fun _ => 0))), ((u 2), .inl (cI, 6, .inl (fun _ => 0)))] t.heap ∧ va_D (va_A [(h0, .inr (2, [.int 0, .null, .null, .null, .null]))] sz) [(h0, .inr (2, [.int 0, .ref ho, .ref (u 0), .ref (u 1), .ref (u 2)])), ((u 0), .inl (cI, 6, .inl (fun _ => 0))), ((u 1), .inl (cI, 6, .inl (fun _ => 0))), ((u 2), .inl (cI, 6, .inl (fun _ => 0)))]) (va_A [(h0, .inr (2, [.int 0, .null, .null, .null, .null]))] sz)) 3 18 (va_A [(h0, .inr (2, [.int 0, .null, .null, .null, .null]))] sz) := by
  refine Met.ofW (cc := cX2_init) (maxL := 2) (ret := none) (by decide) rfl ?_
  intro p e s m args below meth c s₁ B hml hv
  obtain ⟨rfl, hsz, hP, hK, hD0⟩ := hv
  have hx := B.exec
  have hb := B.bytes
  have hr := B.returns
  have hts := atoms_spec (ws := wsX2_init) B.pre
  have hown : s.vm.findClass RX2 = some m.cls := findClass_of_methodNamed B.named
  have hlocks := B.notSynchronized
  have hin : meth.name = "<init>" := (name_of_methodNamed B.named B.method).1
  have hi_X2 : ∀ w ∈ u_ws RX2 TX2 5, w ∈ wsX2_init := fun _ h => List.mem_cons_of_mem _ (List.mem_append_right _ (h))
  subst hsz
  have hD := hD0.self (sz := s.heap.size)
  generalize hAe : va_A [(h0, .inr (2, [.int 0, .null, .null, .null, .null]))] s.heap.size = A at hD ⊢
  have hA : ∀ q : Nat, s.heap.size ≤ q → A q := fun q h => by rw [← hAe]; exact Or.inr h
  have hS : va_S A s.heap s.heap [] := va_S.rf
  have hl := lv_entry ([.ref h0, .ref ho]) (n := 2) (Nat.le_of_ble_eq_true rfl)
  rw [lg_entry_eq]
  generalize (lg_sl ([.ref h0, .ref ho]) ++ List.replicate (2 - (lg_sl ([.ref h0, .ref ho])).length) Slot.unset).toArray = ls at hl ⊢
  have hl : lv_has ls 2 [(0, .ref h0), (1, .ref ho)] := hl
  refine lv_aload_n hx hb dX2_init_0 rfl (lv_at hl 0 rfl) ?_
  refine W.objInit hx hb hown (hts (.methodLink RX2 3 objectInit) (wmx 1 rfl)) (hts (.instanceMethod objectInit) (wmx 2 rfl)) (hts (.code objectInit ⟨#[0xb1]⟩ 1 none) (wmx 3 rfl)) rfl (by rw [hml]; exact hl.1) rfl dX2_init_1 (Nat.le_of_ble_eq_true rfl) (Nat.le_of_ble_eq_true rfl) ?_
  refine W.eq (g2 := F0 m 4 ls []) rfl ?_
  refine lv_aload_n hx hb dX2_init_4 rfl (lv_at hl 0 rfl) ?_
  refine lv_iconst (v := 0) hx hb dX2_init_5 (by decide) ?_
  refine va_put (D := (dC, dI)) (ci := 2) (v := .int 0) (ty := .int) (C := RX2) (T := TX2) (N := 5) hx hb hts hi_X2 tyX2 tyX2_ok nmX2 hown hK hP hD hS 0 rfl rfl 0 (by decide) (hts (.fieldLink RX2 9 "LeftQuills$Evidence" "count" "I") (wmx 4 rfl)) (fun _ h9 => h9) rfl (by decide +kernel) rfl rfl (Nat.le_of_ble_eq_true rfl) dX2_init_6 (fun H locs hP hD hS => ?_)
  have hPD : pdW (dC, dI) vwCl A [(h0, .inr (2, [.int 0, .null, .null, .null, .null]))] H := ⟨hP, hD⟩
  have hP := hPD.1
  have hD := hPD.2
  clear hPD
  refine lv_aload_n hx hb dX2_init_9 rfl (lv_at hl 0 rfl) ?_
  refine lv_bipush (v := 6) hx hb dX2_init_10 (by decide) ?_
  refine va_newa (atype := .int) (ty := .int) (n := 6) (a0 := (6, .inl (fun _ => 0))) (N' := 6) hx hb (hts (.arrayClass .int) (wmx 5 rfl)) rfl hK hP hD hS hA (fun _ => rfl) (by decide) (by decide) (by decide) (Nat.le_of_ble_eq_true rfl) (Nat.le_of_ble_eq_true rfl) dX2_init_12 (fun q1 cA H hKn hP hD hS => ?_)
  have ecA := xcI hKn
  subst ecA
  clear hKn
  refine W.widen (k := 1) (n := 6) (Nat.le_of_ble_eq_true rfl) (Nat.le_of_ble_eq_true rfl) ?_
  have hPD : pdW (dC, dI) vwCl A [(h0, .inr (2, [.int 0, .null, .null, .null, .null])), (q1, .inl (cI, 6, .inl (fun _ => 0)))] H := ⟨hP, hD⟩
  have hP := hPD.1
  have hD := hPD.2
  clear hPD
  refine va_putF (D := (dC, dI)) (ci := 2) (v := .ref q1) (ty := .array .int) (C := RX2) (T := TX2) (N := 5) hx hb hts hi_X2 tyX2 tyX2_ok nmX2 hown hK hP hD hS 0 rfl rfl 2 (by decide) (hts (.fieldLink RX2 15 "LeftQuills$Evidence" "quill" "[I") (wmx 6 rfl)) (fun _ h9 => h9) rfl hin rfl (by decide +kernel) rfl rfl (Nat.le_of_ble_eq_true rfl) dX2_init_14 (fun H locs hP hD hS => ?_)
  have hPD : pdW (dC, dI) vwCl A [(h0, .inr (2, [.int 0, .null, .ref q1, .null, .null])), (q1, .inl (cI, 6, .inl (fun _ => 0)))] H := ⟨hP, hD⟩
  have hP := hPD.1
  have hD := hPD.2
  clear hPD
  refine lv_aload_n hx hb dX2_init_17 rfl (lv_at hl 0 rfl) ?_
  refine lv_bipush (v := 6) hx hb dX2_init_18 (by decide) ?_
  refine va_newa (atype := .int) (ty := .int) (n := 6) (a0 := (6, .inl (fun _ => 0))) (N' := 6) hx hb (hts (.arrayClass .int) (wmx 5 rfl)) rfl hK hP hD hS hA (fun _ => rfl) (by decide) (by decide) (by decide) (Nat.le_of_ble_eq_true rfl) (Nat.le_of_ble_eq_true rfl) dX2_init_20 (fun q2 cA H hKn hP hD hS => ?_)
  have ecA := xcI hKn
  subst ecA
  clear hKn
  refine W.widen (k := 2) (n := 12) (Nat.le_of_ble_eq_true rfl) (Nat.le_of_ble_eq_true rfl) ?_
  have hPD : pdW (dC, dI) vwCl A [(h0, .inr (2, [.int 0, .null, .ref q1, .null, .null])), (q1, .inl (cI, 6, .inl (fun _ => 0))), (q2, .inl (cI, 6, .inl (fun _ => 0)))] H := ⟨hP, hD⟩
  have hP := hPD.1
  have hD := hPD.2
  clear hPD
  refine va_putF (D := (dC, dI)) (ci := 2) (v := .ref q2) (ty := .array .int) (C := RX2) (T := TX2) (N := 5) hx hb hts hi_X2 tyX2 tyX2_ok nmX2 hown hK hP hD hS 0 rfl rfl 3 (by decide) (hts (.fieldLink RX2 19 "LeftQuills$Evidence" "pages" "[I") (wmx 7 rfl)) (fun _ h9 => h9) rfl hin rfl (by decide +kernel) rfl rfl (Nat.le_of_ble_eq_true rfl) dX2_init_22 (fun H locs hP hD hS => ?_)
  have hPD : pdW (dC, dI) vwCl A [(h0, .inr (2, [.int 0, .null, .ref q1, .ref q2, .null])), (q1, .inl (cI, 6, .inl (fun _ => 0))), (q2, .inl (cI, 6, .inl (fun _ => 0)))] H := ⟨hP, hD⟩
  have hP := hPD.1
  have hD := hPD.2
  clear hPD
  refine lv_aload_n hx hb dX2_init_25 rfl (lv_at hl 0 rfl) ?_
  refine lv_bipush (v := 6) hx hb dX2_init_26 (by decide) ?_
  refine va_newa (atype := .int) (ty := .int) (n := 6) (a0 := (6, .inl (fun _ => 0))) (N' := 6) hx hb (hts (.arrayClass .int) (wmx 5 rfl)) rfl hK hP hD hS hA (fun _ => rfl) (by decide) (by decide) (by decide) (Nat.le_of_ble_eq_true rfl) (Nat.le_of_ble_eq_true rfl) dX2_init_28 (fun q3 cA H hKn hP hD hS => ?_)
  have ecA := xcI hKn
  subst ecA
  clear hKn
  refine W.widen (k := 3) (n := 18) (Nat.le_of_ble_eq_true rfl) (Nat.le_of_ble_eq_true rfl) ?_
  have hPD : pdW (dC, dI) vwCl A [(h0, .inr (2, [.int 0, .null, .ref q1, .ref q2, .null])), (q1, .inl (cI, 6, .inl (fun _ => 0))), (q2, .inl (cI, 6, .inl (fun _ => 0))), (q3, .inl (cI, 6, .inl (fun _ => 0)))] H := ⟨hP, hD⟩
  have hP := hPD.1
  have hD := hPD.2
  clear hPD
  refine va_putF (D := (dC, dI)) (ci := 2) (v := .ref q3) (ty := .array .int) (C := RX2) (T := TX2) (N := 5) hx hb hts hi_X2 tyX2 tyX2_ok nmX2 hown hK hP hD hS 0 rfl rfl 4 (by decide) (hts (.fieldLink RX2 22 "LeftQuills$Evidence" "softness" "[I") (wmx 8 rfl)) (fun _ h9 => h9) rfl hin rfl (by decide +kernel) rfl rfl (Nat.le_of_ble_eq_true rfl) dX2_init_30 (fun H locs hP hD hS => ?_)
  have hPD : pdW (dC, dI) vwCl A [(h0, .inr (2, [.int 0, .null, .ref q1, .ref q2, .ref q3])), (q1, .inl (cI, 6, .inl (fun _ => 0))), (q2, .inl (cI, 6, .inl (fun _ => 0))), (q3, .inl (cI, 6, .inl (fun _ => 0)))] H := ⟨hP, hD⟩
  have hP := hPD.1
  have hD := hPD.2
  clear hPD
  refine lv_aload_n hx hb dX2_init_33 rfl (lv_at hl 0 rfl) ?_
  refine lv_aload_n hx hb dX2_init_34 rfl (lv_at hl 1 rfl) ?_
  refine va_putF (D := (dC, dI)) (ci := 2) (v := .ref ho) (ty := .object "LeftQuills$Office") (C := RX2) (T := TX2) (N := 5) hx hb hts hi_X2 tyX2 tyX2_ok nmX2 hown hK hP hD hS 0 rfl rfl 1 (by decide) (hts (.fieldLink RX2 25 "LeftQuills$Evidence" "office" "LLeftQuills$Office;") (wmx 9 rfl)) (fun _ h9 => h9) rfl hin rfl (by decide +kernel) rfl rfl (Nat.le_of_ble_eq_true rfl) dX2_init_35 (fun H locs hP hD hS => ?_)
  have hPD : pdW (dC, dI) vwCl A [(h0, .inr (2, [.int 0, .ref ho, .ref q1, .ref q2, .ref q3])), (q1, .inl (cI, 6, .inl (fun _ => 0))), (q2, .inl (cI, 6, .inl (fun _ => 0))), (q3, .inl (cI, 6, .inl (fun _ => 0)))] H := ⟨hP, hD⟩
  have hP := hPD.1
  have hD := hPD.2
  clear hPD
  have hP9 := hP.sub (ws' := [(h0, .inr (2, [.int 0, .ref ho, .ref q1, .ref q2, .ref q3])), (q1, .inl (cI, 6, .inl (fun _ => 0))), (q2, .inl (cI, 6, .inl (fun _ => 0))), (q3, .inl (cI, 6, .inl (fun _ => 0)))]) [0, 1, 2, 3] rfl
  have hD9 := hD.sub (ws' := [(h0, .inr (2, [.int 0, .ref ho, .ref q1, .ref q2, .ref q3])), (q1, .inl (cI, 6, .inl (fun _ => 0))), (q2, .inl (cI, 6, .inl (fun _ => 0))), (q3, .inl (cI, 6, .inl (fun _ => 0)))]) [0, 1, 2, 3] (by decide +kernel) rfl
  refine W.widen (k := 3) (n := 18) (Nat.le_of_ble_eq_true rfl) (Nat.le_of_ble_eq_true rfl) ?_
  exact W.vret hx hb hr (fun t ht hW => ⟨⟨(vn [q1, q2, q3]), rfl, by first | trivial | rfl | (simp_all; done), ⟨va_hq ht hP9, hD9⟩⟩, hS.F ht⟩) hS.2.2 dX2_init_38
set_option maxHeartbeats 4000000 in
set_option maxRecDepth 100000 in
theorem c_X9_init (l : Launch) (dC : Nat → ClassId) (dI : Nat → Nat → Nat) (cI cZ cQ : ClassId) (h0 : Nat) (ho : Nat) (hd : Nat) (sz : Nat)  : Met l yX9_init wsX9_init ({ frames := 1, cells := 1, slots := 9, locals := 40 }) (va_Pc [.ref h0, .ref ho, .ref hd] (fun U => U.heap.size = sz ∧ va_P (dC, dI) vwCl [(h0, .inr (9, [.null, .null, .null]))] U.heap ∧ va_K (dC, dI) vwCl (tys0 cI cZ cQ) U ∧ va_D (fun _ => True) [(h0, .inr (9, [.null, .null, .null]))])) (va_Qv (fun (u : Nat → Nat) => True) (fun (u : Nat → Nat) (t : State) => va_P (dC, dI) vwCl [(h0, .inr (9, [.ref ho, .ref hd, .ref (u 0)])), ((u 0), .inl (cI, 9, .inl (fun _ => 0)))] t.heap ∧ va_D (va_A [(h0, .inr (9, [.null, .null, .null]))] sz) [(h0, .inr (9, [.ref ho, .ref hd, .ref (u 0)])), ((u 0), .inl (cI, 9, .inl (fun _ => 0)))]) (va_A [(h0, .inr (9, [.null, .null, .null]))] sz)) 1 9 (va_A [(h0, .inr (9, [.null, .null, .null]))] sz) := by
  refine Met.ofW (cc := cX9_init) (maxL := 3) (ret := none) (by decide) rfl ?_
  intro p e s m args below meth c s₁ B hml hv
  obtain ⟨rfl, hsz, hP, hK, hD0⟩ := hv
  have hx := B.exec
  have hb := B.bytes
  have hr := B.returns
  have hts := atoms_spec (ws := wsX9_init) B.pre
  have hown : s.vm.findClass RX9 = some m.cls := findClass_of_methodNamed B.named
  have hlocks := B.notSynchronized
  have hin : meth.name = "<init>" := (name_of_methodNamed B.named B.method).1
  have hi_X9 : ∀ w ∈ u_ws RX9 TX9 3, w ∈ wsX9_init := fun _ h => List.mem_cons_of_mem _ (List.mem_append_right _ (h))
  subst hsz
  have hD := hD0.self (sz := s.heap.size)
  generalize hAe : va_A [(h0, .inr (9, [.null, .null, .null]))] s.heap.size = A at hD ⊢
  have hA : ∀ q : Nat, s.heap.size ≤ q → A q := fun q h => by rw [← hAe]; exact Or.inr h
  have hS : va_S A s.heap s.heap [] := va_S.rf
  have hl := lv_entry ([.ref h0, .ref ho, .ref hd]) (n := 3) (Nat.le_of_ble_eq_true rfl)
  rw [lg_entry_eq]
  generalize (lg_sl ([.ref h0, .ref ho, .ref hd]) ++ List.replicate (3 - (lg_sl ([.ref h0, .ref ho, .ref hd])).length) Slot.unset).toArray = ls at hl ⊢
  have hl : lv_has ls 3 [(0, .ref h0), (1, .ref ho), (2, .ref hd)] := hl
  refine lv_aload_n hx hb dX9_init_0 rfl (lv_at hl 0 rfl) ?_
  refine W.objInit hx hb hown (hts (.methodLink RX9 3 objectInit) (wmx 1 rfl)) (hts (.instanceMethod objectInit) (wmx 2 rfl)) (hts (.code objectInit ⟨#[0xb1]⟩ 1 none) (wmx 3 rfl)) rfl (by rw [hml]; exact hl.1) rfl dX9_init_1 (Nat.le_of_ble_eq_true rfl) (Nat.le_of_ble_eq_true rfl) ?_
  refine W.eq (g2 := F0 m 4 ls []) rfl ?_
  refine lv_aload_n hx hb dX9_init_4 rfl (lv_at hl 0 rfl) ?_
  refine lv_bipush (v := 9) hx hb dX9_init_5 (by decide) ?_
  refine va_newa (atype := .int) (ty := .int) (n := 9) (a0 := (9, .inl (fun _ => 0))) (N' := 9) hx hb (hts (.arrayClass .int) (wmx 4 rfl)) rfl hK hP hD hS hA (fun _ => rfl) (by decide) (by decide) (by decide) (Nat.le_of_ble_eq_true rfl) (Nat.le_of_ble_eq_true rfl) dX9_init_7 (fun q1 cA H hKn hP hD hS => ?_)
  have ecA := xcI hKn
  subst ecA
  clear hKn
  refine W.widen (k := 1) (n := 9) (Nat.le_of_ble_eq_true rfl) (Nat.le_of_ble_eq_true rfl) ?_
  have hPD : pdW (dC, dI) vwCl A [(h0, .inr (9, [.null, .null, .null])), (q1, .inl (cI, 9, .inl (fun _ => 0)))] H := ⟨hP, hD⟩
  have hP := hPD.1
  have hD := hPD.2
  clear hPD
  refine va_putF (D := (dC, dI)) (ci := 9) (v := .ref q1) (ty := .array .int) (C := RX9) (T := TX9) (N := 3) hx hb hts hi_X9 tyX9 tyX9_ok nmX9 hown hK hP hD hS 0 rfl rfl 2 (by decide) (hts (.fieldLink RX9 11 "LeftQuills$Trials" "turnSoftness" "[I") (wmx 5 rfl)) (fun _ h9 => h9) rfl hin rfl (by decide +kernel) rfl rfl (Nat.le_of_ble_eq_true rfl) dX9_init_9 (fun H locs hP hD hS => ?_)
  have hPD : pdW (dC, dI) vwCl A [(h0, .inr (9, [.null, .null, .ref q1])), (q1, .inl (cI, 9, .inl (fun _ => 0)))] H := ⟨hP, hD⟩
  have hP := hPD.1
  have hD := hPD.2
  clear hPD
  refine lv_aload_n hx hb dX9_init_12 rfl (lv_at hl 0 rfl) ?_
  refine lv_aload_n hx hb dX9_init_13 rfl (lv_at hl 1 rfl) ?_
  refine va_putF (D := (dC, dI)) (ci := 9) (v := .ref ho) (ty := .object "LeftQuills$Office") (C := RX9) (T := TX9) (N := 3) hx hb hts hi_X9 tyX9 tyX9_ok nmX9 hown hK hP hD hS 0 rfl rfl 0 (by decide) (hts (.fieldLink RX9 15 "LeftQuills$Trials" "office" "LLeftQuills$Office;") (wmx 6 rfl)) (fun _ h9 => h9) rfl hin rfl (by decide +kernel) rfl rfl (Nat.le_of_ble_eq_true rfl) dX9_init_14 (fun H locs hP hD hS => ?_)
  have hPD : pdW (dC, dI) vwCl A [(h0, .inr (9, [.ref ho, .null, .ref q1])), (q1, .inl (cI, 9, .inl (fun _ => 0)))] H := ⟨hP, hD⟩
  have hP := hPD.1
  have hD := hPD.2
  clear hPD
  refine lv_aload_n hx hb dX9_init_17 rfl (lv_at hl 0 rfl) ?_
  refine lv_aload_n hx hb dX9_init_18 rfl (lv_at hl 2 rfl) ?_
  refine va_putF (D := (dC, dI)) (ci := 9) (v := .ref hd) (ty := .object "LeftQuills$Desk") (C := RX9) (T := TX9) (N := 3) hx hb hts hi_X9 tyX9 tyX9_ok nmX9 hown hK hP hD hS 0 rfl rfl 1 (by decide) (hts (.fieldLink RX9 19 "LeftQuills$Trials" "desk" "LLeftQuills$Desk;") (wmx 7 rfl)) (fun _ h9 => h9) rfl hin rfl (by decide +kernel) rfl rfl (Nat.le_of_ble_eq_true rfl) dX9_init_19 (fun H locs hP hD hS => ?_)
  have hPD : pdW (dC, dI) vwCl A [(h0, .inr (9, [.ref ho, .ref hd, .ref q1])), (q1, .inl (cI, 9, .inl (fun _ => 0)))] H := ⟨hP, hD⟩
  have hP := hPD.1
  have hD := hPD.2
  clear hPD
  have hP9 := hP.sub (ws' := [(h0, .inr (9, [.ref ho, .ref hd, .ref q1])), (q1, .inl (cI, 9, .inl (fun _ => 0)))]) [0, 1] rfl
  have hD9 := hD.sub (ws' := [(h0, .inr (9, [.ref ho, .ref hd, .ref q1])), (q1, .inl (cI, 9, .inl (fun _ => 0)))]) [0, 1] (by decide +kernel) rfl
  refine W.widen (k := 1) (n := 9) (Nat.le_of_ble_eq_true rfl) (Nat.le_of_ble_eq_true rfl) ?_
  exact W.vret hx hb hr (fun t ht hW => ⟨⟨(vn [q1]), rfl, by first | trivial | rfl | (simp_all; done), ⟨va_hq ht hP9, hD9⟩⟩, hS.F ht⟩) hS.2.2 dX9_init_22
set_option maxHeartbeats 4000000 in
set_option maxRecDepth 100000 in
theorem c_X8_init (l : Launch) (dC : Nat → ClassId) (dI : Nat → Nat → Nat) (cI cZ cQ : ClassId) (h0 : Nat) (ho : Nat) (ht9 : Nat) (sz : Nat)  : Met l yX8_init wsX8_init ({ frames := 1, cells := 3, slots := 40, locals := 40 }) (va_Pc [.ref h0, .ref ho, .ref ht9] (fun U => U.heap.size = sz ∧ va_P (dC, dI) vwCl [(h0, .inr (8, [.int 0, .null, .null, .null, .null, .null]))] U.heap ∧ va_K (dC, dI) vwCl (tys0 cI cZ cQ) U ∧ va_D (fun _ => True) [(h0, .inr (8, [.int 0, .null, .null, .null, .null, .null]))])) (va_Qv (fun (u : Nat → Nat) => True) (fun (u : Nat → Nat) (t : State) => va_P (dC, dI) vwCl [(h0, .inr (8, [.int (-1), .ref (u 0), .ref ho, .ref ht9, .ref (u 1), .ref (u 2)])), ((u 0), .inl (cI, 4, .inl (fun _ => 0))), ((u 1), .inl (cI, 4, .inl (fun _ => 0))), ((u 2), .inl (cI, 32, .inl (fun _ => 0)))] t.heap ∧ va_D (va_A [(h0, .inr (8, [.int 0, .null, .null, .null, .null, .null]))] sz) [(h0, .inr (8, [.int (-1), .ref (u 0), .ref ho, .ref ht9, .ref (u 1), .ref (u 2)])), ((u 0), .inl (cI, 4, .inl (fun _ => 0))), ((u 1), .inl (cI, 4, .inl (fun _ => 0))), ((u 2), .inl (cI, 32, .inl (fun _ => 0)))]) (va_A [(h0, .inr (8, [.int 0, .null, .null, .null, .null, .null]))] sz)) 3 40 (va_A [(h0, .inr (8, [.int 0, .null, .null, .null, .null, .null]))] sz) := by
  refine Met.ofW (cc := cX8_init) (maxL := 3) (ret := none) (by decide) rfl ?_
  intro p e s m args below meth c s₁ B hml hv
  obtain ⟨rfl, hsz, hP, hK, hD0⟩ := hv
  have hx := B.exec
  have hb := B.bytes
  have hr := B.returns
  have hts := atoms_spec (ws := wsX8_init) B.pre
  have hown : s.vm.findClass RX8 = some m.cls := findClass_of_methodNamed B.named
  have hlocks := B.notSynchronized
  have hin : meth.name = "<init>" := (name_of_methodNamed B.named B.method).1
  have hi_X8 : ∀ w ∈ u_ws RX8 TX8 6, w ∈ wsX8_init := fun _ h => List.mem_cons_of_mem _ (List.mem_append_right _ (h))
  subst hsz
  have hD := hD0.self (sz := s.heap.size)
  generalize hAe : va_A [(h0, .inr (8, [.int 0, .null, .null, .null, .null, .null]))] s.heap.size = A at hD ⊢
  have hA : ∀ q : Nat, s.heap.size ≤ q → A q := fun q h => by rw [← hAe]; exact Or.inr h
  have hS : va_S A s.heap s.heap [] := va_S.rf
  have hl := lv_entry ([.ref h0, .ref ho, .ref ht9]) (n := 3) (Nat.le_of_ble_eq_true rfl)
  rw [lg_entry_eq]
  generalize (lg_sl ([.ref h0, .ref ho, .ref ht9]) ++ List.replicate (3 - (lg_sl ([.ref h0, .ref ho, .ref ht9])).length) Slot.unset).toArray = ls at hl ⊢
  have hl : lv_has ls 3 [(0, .ref h0), (1, .ref ho), (2, .ref ht9)] := hl
  refine lv_aload_n hx hb dX8_init_0 rfl (lv_at hl 0 rfl) ?_
  refine W.objInit hx hb hown (hts (.methodLink RX8 3 objectInit) (wmx 1 rfl)) (hts (.instanceMethod objectInit) (wmx 2 rfl)) (hts (.code objectInit ⟨#[0xb1]⟩ 1 none) (wmx 3 rfl)) rfl (by rw [hml]; exact hl.1) rfl dX8_init_1 (Nat.le_of_ble_eq_true rfl) (Nat.le_of_ble_eq_true rfl) ?_
  refine W.eq (g2 := F0 m 4 ls []) rfl ?_
  refine lv_aload_n hx hb dX8_init_4 rfl (lv_at hl 0 rfl) ?_
  refine lv_iconst (v := (-1)) hx hb dX8_init_5 (by decide) ?_
  refine va_put (D := (dC, dI)) (ci := 8) (v := .int (-1)) (ty := .int) (C := RX8) (T := TX8) (N := 6) hx hb hts hi_X8 tyX8 tyX8_ok nmX8 hown hK hP hD hS 0 rfl rfl 0 (by decide) (hts (.fieldLink RX8 9 "LeftQuills$Sharing" "best" "I") (wmx 4 rfl)) (fun _ h9 => h9) rfl (by decide +kernel) rfl rfl (Nat.le_of_ble_eq_true rfl) dX8_init_6 (fun H locs hP hD hS => ?_)
  have hPD : pdW (dC, dI) vwCl A [(h0, .inr (8, [.int (-1), .null, .null, .null, .null, .null]))] H := ⟨hP, hD⟩
  have hP := hPD.1
  have hD := hPD.2
  clear hPD
  refine lv_aload_n hx hb dX8_init_9 rfl (lv_at hl 0 rfl) ?_
  refine lv_iconst (v := 4) hx hb dX8_init_10 (by decide) ?_
  refine va_newa (atype := .int) (ty := .int) (n := 4) (a0 := (4, .inl (fun _ => 0))) (N' := 4) hx hb (hts (.arrayClass .int) (wmx 5 rfl)) rfl hK hP hD hS hA (fun _ => rfl) (by decide) (by decide) (by decide) (Nat.le_of_ble_eq_true rfl) (Nat.le_of_ble_eq_true rfl) dX8_init_11 (fun q1 cA H hKn hP hD hS => ?_)
  have ecA := xcI hKn
  subst ecA
  clear hKn
  refine W.widen (k := 1) (n := 4) (Nat.le_of_ble_eq_true rfl) (Nat.le_of_ble_eq_true rfl) ?_
  have hPD : pdW (dC, dI) vwCl A [(h0, .inr (8, [.int (-1), .null, .null, .null, .null, .null])), (q1, .inl (cI, 4, .inl (fun _ => 0)))] H := ⟨hP, hD⟩
  have hP := hPD.1
  have hD := hPD.2
  clear hPD
  refine va_putF (D := (dC, dI)) (ci := 8) (v := .ref q1) (ty := .array .int) (C := RX8) (T := TX8) (N := 6) hx hb hts hi_X8 tyX8 tyX8_ok nmX8 hown hK hP hD hS 0 rfl rfl 1 (by decide) (hts (.fieldLink RX8 15 "LeftQuills$Sharing" "bestQuill" "[I") (wmx 6 rfl)) (fun _ h9 => h9) rfl hin rfl (by decide +kernel) rfl rfl (Nat.le_of_ble_eq_true rfl) dX8_init_13 (fun H locs hP hD hS => ?_)
  have hPD : pdW (dC, dI) vwCl A [(h0, .inr (8, [.int (-1), .ref q1, .null, .null, .null, .null])), (q1, .inl (cI, 4, .inl (fun _ => 0)))] H := ⟨hP, hD⟩
  have hP := hPD.1
  have hD := hPD.2
  clear hPD
  refine lv_aload_n hx hb dX8_init_16 rfl (lv_at hl 0 rfl) ?_
  refine lv_iconst (v := 4) hx hb dX8_init_17 (by decide) ?_
  refine va_newa (atype := .int) (ty := .int) (n := 4) (a0 := (4, .inl (fun _ => 0))) (N' := 4) hx hb (hts (.arrayClass .int) (wmx 5 rfl)) rfl hK hP hD hS hA (fun _ => rfl) (by decide) (by decide) (by decide) (Nat.le_of_ble_eq_true rfl) (Nat.le_of_ble_eq_true rfl) dX8_init_18 (fun q2 cA H hKn hP hD hS => ?_)
  have ecA := xcI hKn
  subst ecA
  clear hKn
  refine W.widen (k := 2) (n := 8) (Nat.le_of_ble_eq_true rfl) (Nat.le_of_ble_eq_true rfl) ?_
  have hPD : pdW (dC, dI) vwCl A [(h0, .inr (8, [.int (-1), .ref q1, .null, .null, .null, .null])), (q1, .inl (cI, 4, .inl (fun _ => 0))), (q2, .inl (cI, 4, .inl (fun _ => 0)))] H := ⟨hP, hD⟩
  have hP := hPD.1
  have hD := hPD.2
  clear hPD
  refine va_putF (D := (dC, dI)) (ci := 8) (v := .ref q2) (ty := .array .int) (C := RX8) (T := TX8) (N := 6) hx hb hts hi_X8 tyX8 tyX8_ok nmX8 hown hK hP hD hS 0 rfl rfl 4 (by decide) (hts (.fieldLink RX8 19 "LeftQuills$Sharing" "quillOf" "[I") (wmx 7 rfl)) (fun _ h9 => h9) rfl hin rfl (by decide +kernel) rfl rfl (Nat.le_of_ble_eq_true rfl) dX8_init_20 (fun H locs hP hD hS => ?_)
  have hPD : pdW (dC, dI) vwCl A [(h0, .inr (8, [.int (-1), .ref q1, .null, .null, .ref q2, .null])), (q1, .inl (cI, 4, .inl (fun _ => 0))), (q2, .inl (cI, 4, .inl (fun _ => 0)))] H := ⟨hP, hD⟩
  have hP := hPD.1
  have hD := hPD.2
  clear hPD
  refine lv_aload_n hx hb dX8_init_23 rfl (lv_at hl 0 rfl) ?_
  refine lv_bipush (v := 32) hx hb dX8_init_24 (by decide) ?_
  refine va_newa (atype := .int) (ty := .int) (n := 32) (a0 := (32, .inl (fun _ => 0))) (N' := 32) hx hb (hts (.arrayClass .int) (wmx 5 rfl)) rfl hK hP hD hS hA (fun _ => rfl) (by decide) (by decide) (by decide) (Nat.le_of_ble_eq_true rfl) (Nat.le_of_ble_eq_true rfl) dX8_init_26 (fun q3 cA H hKn hP hD hS => ?_)
  have ecA := xcI hKn
  subst ecA
  clear hKn
  refine W.widen (k := 3) (n := 40) (Nat.le_of_ble_eq_true rfl) (Nat.le_of_ble_eq_true rfl) ?_
  have hPD : pdW (dC, dI) vwCl A [(h0, .inr (8, [.int (-1), .ref q1, .null, .null, .ref q2, .null])), (q1, .inl (cI, 4, .inl (fun _ => 0))), (q2, .inl (cI, 4, .inl (fun _ => 0))), (q3, .inl (cI, 32, .inl (fun _ => 0)))] H := ⟨hP, hD⟩
  have hP := hPD.1
  have hD := hPD.2
  clear hPD
  refine va_putF (D := (dC, dI)) (ci := 8) (v := .ref q3) (ty := .array .int) (C := RX8) (T := TX8) (N := 6) hx hb hts hi_X8 tyX8 tyX8_ok nmX8 hown hK hP hD hS 0 rfl rfl 5 (by decide) (hts (.fieldLink RX8 22 "LeftQuills$Sharing" "good" "[I") (wmx 8 rfl)) (fun _ h9 => h9) rfl hin rfl (by decide +kernel) rfl rfl (Nat.le_of_ble_eq_true rfl) dX8_init_28 (fun H locs hP hD hS => ?_)
  have hPD : pdW (dC, dI) vwCl A [(h0, .inr (8, [.int (-1), .ref q1, .null, .null, .ref q2, .ref q3])), (q1, .inl (cI, 4, .inl (fun _ => 0))), (q2, .inl (cI, 4, .inl (fun _ => 0))), (q3, .inl (cI, 32, .inl (fun _ => 0)))] H := ⟨hP, hD⟩
  have hP := hPD.1
  have hD := hPD.2
  clear hPD
  refine lv_aload_n hx hb dX8_init_31 rfl (lv_at hl 0 rfl) ?_
  refine lv_aload_n hx hb dX8_init_32 rfl (lv_at hl 1 rfl) ?_
  refine va_putF (D := (dC, dI)) (ci := 8) (v := .ref ho) (ty := .object "LeftQuills$Office") (C := RX8) (T := TX8) (N := 6) hx hb hts hi_X8 tyX8 tyX8_ok nmX8 hown hK hP hD hS 0 rfl rfl 2 (by decide) (hts (.fieldLink RX8 25 "LeftQuills$Sharing" "office" "LLeftQuills$Office;") (wmx 9 rfl)) (fun _ h9 => h9) rfl hin rfl (by decide +kernel) rfl rfl (Nat.le_of_ble_eq_true rfl) dX8_init_33 (fun H locs hP hD hS => ?_)
  have hPD : pdW (dC, dI) vwCl A [(h0, .inr (8, [.int (-1), .ref q1, .ref ho, .null, .ref q2, .ref q3])), (q1, .inl (cI, 4, .inl (fun _ => 0))), (q2, .inl (cI, 4, .inl (fun _ => 0))), (q3, .inl (cI, 32, .inl (fun _ => 0)))] H := ⟨hP, hD⟩
  have hP := hPD.1
  have hD := hPD.2
  clear hPD
  refine lv_aload_n hx hb dX8_init_36 rfl (lv_at hl 0 rfl) ?_
  refine lv_aload_n hx hb dX8_init_37 rfl (lv_at hl 2 rfl) ?_
  refine va_putF (D := (dC, dI)) (ci := 8) (v := .ref ht9) (ty := .object "LeftQuills$Trials") (C := RX8) (T := TX8) (N := 6) hx hb hts hi_X8 tyX8 tyX8_ok nmX8 hown hK hP hD hS 0 rfl rfl 3 (by decide) (hts (.fieldLink RX8 29 "LeftQuills$Sharing" "trials" "LLeftQuills$Trials;") (wmx 10 rfl)) (fun _ h9 => h9) rfl hin rfl (by decide +kernel) rfl rfl (Nat.le_of_ble_eq_true rfl) dX8_init_38 (fun H locs hP hD hS => ?_)
  have hPD : pdW (dC, dI) vwCl A [(h0, .inr (8, [.int (-1), .ref q1, .ref ho, .ref ht9, .ref q2, .ref q3])), (q1, .inl (cI, 4, .inl (fun _ => 0))), (q2, .inl (cI, 4, .inl (fun _ => 0))), (q3, .inl (cI, 32, .inl (fun _ => 0)))] H := ⟨hP, hD⟩
  have hP := hPD.1
  have hD := hPD.2
  clear hPD
  have hP9 := hP.sub (ws' := [(h0, .inr (8, [.int (-1), .ref q1, .ref ho, .ref ht9, .ref q2, .ref q3])), (q1, .inl (cI, 4, .inl (fun _ => 0))), (q2, .inl (cI, 4, .inl (fun _ => 0))), (q3, .inl (cI, 32, .inl (fun _ => 0)))]) [0, 1, 2, 3] rfl
  have hD9 := hD.sub (ws' := [(h0, .inr (8, [.int (-1), .ref q1, .ref ho, .ref ht9, .ref q2, .ref q3])), (q1, .inl (cI, 4, .inl (fun _ => 0))), (q2, .inl (cI, 4, .inl (fun _ => 0))), (q3, .inl (cI, 32, .inl (fun _ => 0)))]) [0, 1, 2, 3] (by decide +kernel) rfl
  refine W.widen (k := 3) (n := 40) (Nat.le_of_ble_eq_true rfl) (Nat.le_of_ble_eq_true rfl) ?_
  exact W.vret hx hb hr (fun t ht hW => ⟨⟨(vn [q1, q2, q3]), rfl, by first | trivial | rfl | (simp_all; done), ⟨va_hq ht hP9, hD9⟩⟩, hS.F ht⟩) hS.2.2 dX8_init_41
set_option maxHeartbeats 4000000 in
set_option maxRecDepth 100000 in
theorem c_X6_init (l : Launch) (dC : Nat → ClassId) (dI : Nat → Nat → Nat) (cI cZ cQ : ClassId) (h0 : Nat) (ho : Nat) (sz : Nat)  : Met l yX6_init wsX6_init ({ frames := 2, cells := 8, slots := 48, locals := 61 }) (va_Pc [.ref h0, .ref ho] (fun U => U.heap.size = sz ∧ va_P (dC, dI) vwCl [(h0, .inr (6, [.int 0, .null, .null, .null, .null, .int 0, .int 0]))] U.heap ∧ va_K (dC, dI) vwCl (tys0 cI cZ cQ) U ∧ va_D (fun _ => True) [(h0, .inr (6, [.int 0, .null, .null, .null, .null, .int 0, .int 0]))])) (va_Qv (fun (u : Nat → Nat) => True) (fun (u : Nat → Nat) (t : State) => va_P (dC, dI) vwCl [(h0, .inr (6, [.int 1000000, .ref (u 0), .ref (u 1), .ref ho, .ref (u 2), .int 0, .int 0])), ((u 0), .inl (cI, 4, .inl (fun _ => 0))), ((u 1), .inl (cI, 4, .inl (fun _ => 0))), ((u 2), .inr (1, [.int 0, .int 0, .ref (u 3), .ref (u 4), .ref (u 5), .ref (u 6), .ref (u 7), .ref ho])), ((u 3), .inl (cI, 8, .inl (fun _ => 0))), ((u 4), .inl (cI, 8, .inl (fun _ => 0))), ((u 5), .inl (cI, 8, .inl (fun _ => 0))), ((u 6), .inl (cI, 4, .inl (fun _ => 0))), ((u 7), .inl (cI, 4, .inl (fun _ => 0)))] t.heap ∧ va_D (va_A [(h0, .inr (6, [.int 0, .null, .null, .null, .null, .int 0, .int 0]))] sz) [(h0, .inr (6, [.int 1000000, .ref (u 0), .ref (u 1), .ref ho, .ref (u 2), .int 0, .int 0])), ((u 0), .inl (cI, 4, .inl (fun _ => 0))), ((u 1), .inl (cI, 4, .inl (fun _ => 0))), ((u 2), .inr (1, [.int 0, .int 0, .ref (u 3), .ref (u 4), .ref (u 5), .ref (u 6), .ref (u 7), .ref ho])), ((u 3), .inl (cI, 8, .inl (fun _ => 0))), ((u 4), .inl (cI, 8, .inl (fun _ => 0))), ((u 5), .inl (cI, 8, .inl (fun _ => 0))), ((u 6), .inl (cI, 4, .inl (fun _ => 0))), ((u 7), .inl (cI, 4, .inl (fun _ => 0)))]) (va_A [(h0, .inr (6, [.int 0, .null, .null, .null, .null, .int 0, .int 0]))] sz)) 8 48 (va_A [(h0, .inr (6, [.int 0, .null, .null, .null, .null, .int 0, .int 0]))] sz) := by
  refine Met.ofW (cc := cX6_init) (maxL := 2) (ret := none) (by decide) rfl ?_
  intro p e s m args below meth c s₁ B hml hv
  obtain ⟨rfl, hsz, hP, hK, hD0⟩ := hv
  have hx := B.exec
  have hb := B.bytes
  have hr := B.returns
  have hts := atoms_spec (ws := wsX6_init) B.pre
  have hown : s.vm.findClass RX6 = some m.cls := findClass_of_methodNamed B.named
  have hlocks := B.notSynchronized
  have hin : meth.name = "<init>" := (name_of_methodNamed B.named B.method).1
  have hi_X1 : ∀ w ∈ u_ws RX1 TX1 8, w ∈ wsX6_init := fun _ h => List.mem_cons_of_mem _ (List.mem_append_right _ (h))
  have hi_X6 : ∀ w ∈ u_ws RX6 TX6 7, w ∈ wsX6_init := fun _ h => List.mem_cons_of_mem _ (List.mem_append_left _ (List.mem_append_right _ (h)))
  subst hsz
  have hD := hD0.self (sz := s.heap.size)
  generalize hAe : va_A [(h0, .inr (6, [.int 0, .null, .null, .null, .null, .int 0, .int 0]))] s.heap.size = A at hD ⊢
  have hA : ∀ q : Nat, s.heap.size ≤ q → A q := fun q h => by rw [← hAe]; exact Or.inr h
  have hS : va_S A s.heap s.heap [] := va_S.rf
  have hl := lv_entry ([.ref h0, .ref ho]) (n := 2) (Nat.le_of_ble_eq_true rfl)
  rw [lg_entry_eq]
  generalize (lg_sl ([.ref h0, .ref ho]) ++ List.replicate (2 - (lg_sl ([.ref h0, .ref ho])).length) Slot.unset).toArray = ls at hl ⊢
  have hl : lv_has ls 2 [(0, .ref h0), (1, .ref ho)] := hl
  refine lv_aload_n hx hb dX6_init_0 rfl (lv_at hl 0 rfl) ?_
  refine W.objInit hx hb hown (hts (.methodLink RX6 3 objectInit) (wmx 1 rfl)) (hts (.instanceMethod objectInit) (wmx 2 rfl)) (hts (.code objectInit ⟨#[0xb1]⟩ 1 none) (wmx 3 rfl)) rfl (by rw [hml]; exact hl.1) rfl dX6_init_1 (Nat.le_of_ble_eq_true rfl) (Nat.le_of_ble_eq_true rfl) ?_
  refine W.eq (g2 := F0 m 4 ls []) rfl ?_
  refine lv_aload_n hx hb dX6_init_4 rfl (lv_at hl 0 rfl) ?_
  refine lv_ldc (v := 1000000) hx hb hown (hts (.constant RX6 11 1000000) (wmx 4 rfl)) dX6_init_5 ?_
  refine va_put (D := (dC, dI)) (ci := 6) (v := .int 1000000) (ty := .int) (C := RX6) (T := TX6) (N := 7) hx hb hts hi_X6 tyX6 tyX6_ok nmX6 hown hK hP hD hS 0 rfl rfl 0 (by decide) (hts (.fieldLink RX6 12 "LeftQuills$Race" "best" "I") (wmx 5 rfl)) (fun _ h9 => h9) rfl (by decide +kernel) rfl rfl (Nat.le_of_ble_eq_true rfl) dX6_init_7 (fun H locs hP hD hS => ?_)
  have hPD : pdW (dC, dI) vwCl A [(h0, .inr (6, [.int 1000000, .null, .null, .null, .null, .int 0, .int 0]))] H := ⟨hP, hD⟩
  have hP := hPD.1
  have hD := hPD.2
  clear hPD
  refine lv_aload_n hx hb dX6_init_10 rfl (lv_at hl 0 rfl) ?_
  refine lv_iconst (v := 4) hx hb dX6_init_11 (by decide) ?_
  refine va_newa (atype := .int) (ty := .int) (n := 4) (a0 := (4, .inl (fun _ => 0))) (N' := 4) hx hb (hts (.arrayClass .int) (wmx 6 rfl)) rfl hK hP hD hS hA (fun _ => rfl) (by decide) (by decide) (by decide) (Nat.le_of_ble_eq_true rfl) (Nat.le_of_ble_eq_true rfl) dX6_init_12 (fun q1 cA H hKn hP hD hS => ?_)
  have ecA := xcI hKn
  subst ecA
  clear hKn
  refine W.widen (k := 1) (n := 4) (Nat.le_of_ble_eq_true rfl) (Nat.le_of_ble_eq_true rfl) ?_
  have hPD : pdW (dC, dI) vwCl A [(h0, .inr (6, [.int 1000000, .null, .null, .null, .null, .int 0, .int 0])), (q1, .inl (cI, 4, .inl (fun _ => 0)))] H := ⟨hP, hD⟩
  have hP := hPD.1
  have hD := hPD.2
  clear hPD
  refine va_putF (D := (dC, dI)) (ci := 6) (v := .ref q1) (ty := .array .int) (C := RX6) (T := TX6) (N := 7) hx hb hts hi_X6 tyX6 tyX6_ok nmX6 hown hK hP hD hS 0 rfl rfl 1 (by decide) (hts (.fieldLink RX6 16 "LeftQuills$Race" "bestChoice" "[I") (wmx 7 rfl)) (fun _ h9 => h9) rfl hin rfl (by decide +kernel) rfl rfl (Nat.le_of_ble_eq_true rfl) dX6_init_14 (fun H locs hP hD hS => ?_)
  have hPD : pdW (dC, dI) vwCl A [(h0, .inr (6, [.int 1000000, .ref q1, .null, .null, .null, .int 0, .int 0])), (q1, .inl (cI, 4, .inl (fun _ => 0)))] H := ⟨hP, hD⟩
  have hP := hPD.1
  have hD := hPD.2
  clear hPD
  refine lv_aload_n hx hb dX6_init_17 rfl (lv_at hl 0 rfl) ?_
  refine lv_iconst (v := 4) hx hb dX6_init_18 (by decide) ?_
  refine va_newa (atype := .int) (ty := .int) (n := 4) (a0 := (4, .inl (fun _ => 0))) (N' := 4) hx hb (hts (.arrayClass .int) (wmx 6 rfl)) rfl hK hP hD hS hA (fun _ => rfl) (by decide) (by decide) (by decide) (Nat.le_of_ble_eq_true rfl) (Nat.le_of_ble_eq_true rfl) dX6_init_19 (fun q2 cA H hKn hP hD hS => ?_)
  have ecA := xcI hKn
  subst ecA
  clear hKn
  refine W.widen (k := 2) (n := 8) (Nat.le_of_ble_eq_true rfl) (Nat.le_of_ble_eq_true rfl) ?_
  have hPD : pdW (dC, dI) vwCl A [(h0, .inr (6, [.int 1000000, .ref q1, .null, .null, .null, .int 0, .int 0])), (q1, .inl (cI, 4, .inl (fun _ => 0))), (q2, .inl (cI, 4, .inl (fun _ => 0)))] H := ⟨hP, hD⟩
  have hP := hPD.1
  have hD := hPD.2
  clear hPD
  refine va_putF (D := (dC, dI)) (ci := 6) (v := .ref q2) (ty := .array .int) (C := RX6) (T := TX6) (N := 7) hx hb hts hi_X6 tyX6 tyX6_ok nmX6 hown hK hP hD hS 0 rfl rfl 2 (by decide) (hts (.fieldLink RX6 20 "LeftQuills$Race" "choice" "[I") (wmx 8 rfl)) (fun _ h9 => h9) rfl hin rfl (by decide +kernel) rfl rfl (Nat.le_of_ble_eq_true rfl) dX6_init_21 (fun H locs hP hD hS => ?_)
  have hPD : pdW (dC, dI) vwCl A [(h0, .inr (6, [.int 1000000, .ref q1, .ref q2, .null, .null, .int 0, .int 0])), (q1, .inl (cI, 4, .inl (fun _ => 0))), (q2, .inl (cI, 4, .inl (fun _ => 0)))] H := ⟨hP, hD⟩
  have hP := hPD.1
  have hD := hPD.2
  clear hPD
  refine lv_aload_n hx hb dX6_init_24 rfl (lv_at hl 0 rfl) ?_
  refine lv_iconst (v := 0) hx hb dX6_init_25 (by decide) ?_
  refine va_put (D := (dC, dI)) (ci := 6) (v := .int 0) (ty := .int) (C := RX6) (T := TX6) (N := 7) hx hb hts hi_X6 tyX6 tyX6_ok nmX6 hown hK hP hD hS 0 rfl rfl 5 (by decide) (hts (.fieldLink RX6 23 "LeftQuills$Race" "hand" "I") (wmx 9 rfl)) (fun _ h9 => h9) rfl (by decide +kernel) rfl rfl (Nat.le_of_ble_eq_true rfl) dX6_init_26 (fun H locs hP hD hS => ?_)
  have hPD : pdW (dC, dI) vwCl A [(h0, .inr (6, [.int 1000000, .ref q1, .ref q2, .null, .null, .int 0, .int 0])), (q1, .inl (cI, 4, .inl (fun _ => 0))), (q2, .inl (cI, 4, .inl (fun _ => 0)))] H := ⟨hP, hD⟩
  have hP := hPD.1
  have hD := hPD.2
  clear hPD
  refine lv_aload_n hx hb dX6_init_29 rfl (lv_at hl 0 rfl) ?_
  refine lv_iconst (v := 0) hx hb dX6_init_30 (by decide) ?_
  refine va_put (D := (dC, dI)) (ci := 6) (v := .int 0) (ty := .int) (C := RX6) (T := TX6) (N := 7) hx hb hts hi_X6 tyX6 tyX6_ok nmX6 hown hK hP hD hS 0 rfl rfl 6 (by decide) (hts (.fieldLink RX6 26 "LeftQuills$Race" "pages" "I") (wmx 10 rfl)) (fun _ h9 => h9) rfl (by decide +kernel) rfl rfl (Nat.le_of_ble_eq_true rfl) dX6_init_31 (fun H locs hP hD hS => ?_)
  have hPD : pdW (dC, dI) vwCl A [(h0, .inr (6, [.int 1000000, .ref q1, .ref q2, .null, .null, .int 0, .int 0])), (q1, .inl (cI, 4, .inl (fun _ => 0))), (q2, .inl (cI, 4, .inl (fun _ => 0)))] H := ⟨hP, hD⟩
  have hP := hPD.1
  have hD := hPD.2
  clear hPD
  refine lv_aload_n hx hb dX6_init_34 rfl (lv_at hl 0 rfl) ?_
  refine lv_aload_n hx hb dX6_init_35 rfl (lv_at hl 1 rfl) ?_
  refine va_putF (D := (dC, dI)) (ci := 6) (v := .ref ho) (ty := .object "LeftQuills$Office") (C := RX6) (T := TX6) (N := 7) hx hb hts hi_X6 tyX6 tyX6_ok nmX6 hown hK hP hD hS 0 rfl rfl 3 (by decide) (hts (.fieldLink RX6 29 "LeftQuills$Race" "office" "LLeftQuills$Office;") (wmx 11 rfl)) (fun _ h9 => h9) rfl hin rfl (by decide +kernel) rfl rfl (Nat.le_of_ble_eq_true rfl) dX6_init_36 (fun H locs hP hD hS => ?_)
  have hPD : pdW (dC, dI) vwCl A [(h0, .inr (6, [.int 1000000, .ref q1, .ref q2, .ref ho, .null, .int 0, .int 0])), (q1, .inl (cI, 4, .inl (fun _ => 0))), (q2, .inl (cI, 4, .inl (fun _ => 0)))] H := ⟨hP, hD⟩
  have hP := hPD.1
  have hD := hPD.2
  clear hPD
  refine lv_aload_n hx hb dX6_init_39 rfl (lv_at hl 0 rfl) ?_
  refine va_new (ci := 1) (fs := [.int 0, .int 0, .null, .null, .null, .null, .null, .null]) (C := RX1) (T := TX1) (N := 8) hx hb hts hi_X1 tyX1 tyX1_ok hown (hts (.classLink RX6 33 RX1) (wmx 12 rfl)) (hts (.instantiable RX1 8) (wmx 13 rfl)) (hts (.initialized RX1) (wmx 14 rfl)) hK hP hD hS hA rfl (fun j hj => by rcases (show j = 0 ∨ j = 1 ∨ j = 2 ∨ j = 3 ∨ j = 4 ∨ j = 5 ∨ j = 6 ∨ j = 7 by omega) with rfl | rfl | rfl | rfl | rfl | rfl | rfl | rfl <;> rfl) (Nat.le_of_ble_eq_true rfl) (Nat.le_of_ble_eq_true rfl) dX6_init_40 (fun q3 H hP hD hS => ?_)
  refine W.widen (k := 3) (n := 16) (Nat.le_of_ble_eq_true rfl) (Nat.le_of_ble_eq_true rfl) ?_
  have hPD : pdW (dC, dI) vwCl A [(h0, .inr (6, [.int 1000000, .ref q1, .ref q2, .ref ho, .null, .int 0, .int 0])), (q1, .inl (cI, 4, .inl (fun _ => 0))), (q2, .inl (cI, 4, .inl (fun _ => 0))), (q3, .inr (1, [.int 0, .int 0, .null, .null, .null, .null, .null, .null]))] H := ⟨hP, hD⟩
  have hP := hPD.1
  have hD := hPD.2
  clear hPD
  refine lv_dup hx hb dX6_init_43 rfl ?_
  refine lv_aload_n hx hb dX6_init_44 rfl (lv_at hl 1 rfl) ?_
  have hc9 := va_cut (W' := [(q3, .inr (1, [.int 0, .int 0, .null, .null, .null, .null, .null, .null]))]) hP hD hS hA [3] (by decide) rfl
  have hPc := hc9.1
  have hDc := hc9.2.1
  have hFc := hc9.2.2
  clear hc9
  refine va_callv (va_runI (As := [.ref ho]) (rest := [.ref q3, .ref h0]) ⟨hx, hb, hml, hown, hts⟩ (c_X1_init l dC dI cI cZ cQ q3 ho H.size ) (cwI 1 hts gX6_init_X1_init rfl rfl rfl (hts (.initialized RX1) (wmx 14 rfl)) (hts (.methodLink RX6 35 yX1_init) (wmx 16 rfl)) (hts (.instanceMethod yX1_init) (wmx 17 rfl)) rfl (by decide +kernel) ⟨Nat.le_of_ble_eq_true rfl, Nat.le_of_ble_eq_true rfl⟩) (ps_D hK hPc hDc) rfl rfl hl.1 rfl (lv_room (Nat.le_of_ble_eq_true rfl)) dX6_init_45 ⟨Nat.le_of_ble_eq_true rfl, Nat.le_of_ble_eq_true rfl⟩) hS (fun q _ h => hFc q h) hFc (fun u5 t H1 locs ht hvm hw6 hB hz1 hk1 hS => ?_)
  obtain ⟨hP1, hD1⟩ := hB
  replace hP1 := va_hp ht hP1
  obtain ⟨hP, hD⟩ := va_join (wr := [(h0, .inr (6, [.int 1000000, .ref q1, .ref q2, .ref ho, .null, .int 0, .int 0])), (q1, .inl (cI, 4, .inl (fun _ => 0))), (q2, .inl (cI, 4, .inl (fun _ => 0)))]) (w1 := [(q3, .inr (1, [.int 0, .int 0, .ref (u5 0), .ref (u5 1), .ref (u5 2), .ref (u5 3), .ref (u5 4), .ref ho])), ((u5 0), .inl (cI, 8, .inl (fun _ => 0))), ((u5 1), .inl (cI, 8, .inl (fun _ => 0))), ((u5 2), .inl (cI, 8, .inl (fun _ => 0))), ((u5 3), .inl (cI, 4, .inl (fun _ => 0))), ((u5 4), .inl (cI, 4, .inl (fun _ => 0)))]) hP hD [3] [0, 1, 2] rfl rfl (by decide +kernel) (by decide +kernel) hk1 hFc hP1 hD1
  clear hP1 hD1
  clear hz1 hk1 hPc hDc hFc
  generalize H1 = H at hP hS ht ⊢
  have hPD : pdW (dC, dI) vwCl A [(h0, .inr (6, [.int 1000000, .ref q1, .ref q2, .ref ho, .null, .int 0, .int 0])), (q1, .inl (cI, 4, .inl (fun _ => 0))), (q2, .inl (cI, 4, .inl (fun _ => 0))), (q3, .inr (1, [.int 0, .int 0, .ref (u5 0), .ref (u5 1), .ref (u5 2), .ref (u5 3), .ref (u5 4), .ref ho])), ((u5 0), .inl (cI, 8, .inl (fun _ => 0))), ((u5 1), .inl (cI, 8, .inl (fun _ => 0))), ((u5 2), .inl (cI, 8, .inl (fun _ => 0))), ((u5 3), .inl (cI, 4, .inl (fun _ => 0))), ((u5 4), .inl (cI, 4, .inl (fun _ => 0)))] H := ⟨hP, hD⟩
  have hP := hPD.1
  have hD := hPD.2
  clear hPD
  refine W.widen (k := 8) (n := 48) (Nat.le_of_ble_eq_true rfl) (Nat.le_of_ble_eq_true rfl) ?_
  try dsimp only at hw6
  refine va_putF (D := (dC, dI)) (ci := 6) (v := .ref q3) (ty := .object "LeftQuills$Desk") (C := RX6) (T := TX6) (N := 7) hx hb hts hi_X6 tyX6 tyX6_ok nmX6 hown hK hP hD hS 0 rfl rfl 4 (by decide) (hts (.fieldLink RX6 38 "LeftQuills$Race" "trial" "LLeftQuills$Desk;") (wmx 15 rfl)) (fun _ h9 => h9) rfl hin rfl (by decide +kernel) rfl rfl (Nat.le_of_ble_eq_true rfl) dX6_init_48 (fun H locs hP hD hS => ?_)
  have hPD : pdW (dC, dI) vwCl A [(h0, .inr (6, [.int 1000000, .ref q1, .ref q2, .ref ho, .ref q3, .int 0, .int 0])), (q1, .inl (cI, 4, .inl (fun _ => 0))), (q2, .inl (cI, 4, .inl (fun _ => 0))), (q3, .inr (1, [.int 0, .int 0, .ref (u5 0), .ref (u5 1), .ref (u5 2), .ref (u5 3), .ref (u5 4), .ref ho])), ((u5 0), .inl (cI, 8, .inl (fun _ => 0))), ((u5 1), .inl (cI, 8, .inl (fun _ => 0))), ((u5 2), .inl (cI, 8, .inl (fun _ => 0))), ((u5 3), .inl (cI, 4, .inl (fun _ => 0))), ((u5 4), .inl (cI, 4, .inl (fun _ => 0)))] H := ⟨hP, hD⟩
  have hP := hPD.1
  have hD := hPD.2
  clear hPD
  have hP9 := hP.sub (ws' := [(h0, .inr (6, [.int 1000000, .ref q1, .ref q2, .ref ho, .ref q3, .int 0, .int 0])), (q1, .inl (cI, 4, .inl (fun _ => 0))), (q2, .inl (cI, 4, .inl (fun _ => 0))), (q3, .inr (1, [.int 0, .int 0, .ref (u5 0), .ref (u5 1), .ref (u5 2), .ref (u5 3), .ref (u5 4), .ref ho])), ((u5 0), .inl (cI, 8, .inl (fun _ => 0))), ((u5 1), .inl (cI, 8, .inl (fun _ => 0))), ((u5 2), .inl (cI, 8, .inl (fun _ => 0))), ((u5 3), .inl (cI, 4, .inl (fun _ => 0))), ((u5 4), .inl (cI, 4, .inl (fun _ => 0)))]) [0, 1, 2, 3, 4, 5, 6, 7, 8] rfl
  have hD9 := hD.sub (ws' := [(h0, .inr (6, [.int 1000000, .ref q1, .ref q2, .ref ho, .ref q3, .int 0, .int 0])), (q1, .inl (cI, 4, .inl (fun _ => 0))), (q2, .inl (cI, 4, .inl (fun _ => 0))), (q3, .inr (1, [.int 0, .int 0, .ref (u5 0), .ref (u5 1), .ref (u5 2), .ref (u5 3), .ref (u5 4), .ref ho])), ((u5 0), .inl (cI, 8, .inl (fun _ => 0))), ((u5 1), .inl (cI, 8, .inl (fun _ => 0))), ((u5 2), .inl (cI, 8, .inl (fun _ => 0))), ((u5 3), .inl (cI, 4, .inl (fun _ => 0))), ((u5 4), .inl (cI, 4, .inl (fun _ => 0)))]) [0, 1, 2, 3, 4, 5, 6, 7, 8] (by decide +kernel) rfl
  refine W.widen (k := 8) (n := 48) (Nat.le_of_ble_eq_true rfl) (Nat.le_of_ble_eq_true rfl) ?_
  exact W.vret hx hb hr (fun t ht hW => ⟨⟨(vn [q1, q2, q3, (u5 0), (u5 1), (u5 2), (u5 3), (u5 4)]), rfl, by first | trivial | rfl | (simp_all; done), ⟨va_hq ht hP9, hD9⟩⟩, hS.F ht⟩) hS.2.2 dX6_init_51
set_option maxHeartbeats 4000000 in
set_option maxRecDepth 100000 in
theorem c_X7_init (l : Launch) (dC : Nat → ClassId) (dI : Nat → Nat → Nat) (cI cZ cQ : ClassId) (h0 : Nat) (sz : Nat)  : Met l yX7_init wsX7_init ({ frames := 2, cells := 11, slots := 290, locals := 60 }) (va_Pc [.ref h0] (fun U => U.heap.size = sz ∧ va_P (dC, dI) vwCl [(h0, .inr (7, [.null, .int 0, .null, .null, .int 0, .int 0, .int 0]))] U.heap ∧ va_K (dC, dI) vwCl (tys0 cI cZ cQ) U ∧ va_D (fun _ => True) [(h0, .inr (7, [.null, .int 0, .null, .null, .int 0, .int 0, .int 0]))] ∧ xN U)) (va_Qv (fun (u : Nat → Nat) => True) (fun (u : Nat → Nat) (t : State) => va_P (dC, dI) vwCl [(h0, .inr (7, [.ref (u 0), .int (-1), .ref (u 1), .ref (u 2), .int 0, .int 0, .int 0])), ((u 1), .inl (cI, 5, .inl (fun _ => 0))), ((u 2), .inl (cI, 220, .inl (fun _ => 0))), ((u 0), .inr (5, [.int 0, .int 0, .int 0, .int 0, .int 0, .ref (u 3), .ref (u 4), .ref (u 5), .ref (u 6), .ref (u 7), .ref (u 8), .ref (u 9), .ref (u 10)])), ((u 3), .inl (cI, 8, .inl (fun _ => 0))), ((u 4), .inl (cI, 8, .inl (fun _ => 0))), ((u 5), .inl (cI, 8, .inl (fun _ => 0))), ((u 6), .inl (cI, 8, .inl (fun _ => 0))), ((u 7), .inl (cI, 8, .inl (fun _ => 0))), ((u 8), .inl (cI, 4, .inl (fun _ => 0))), ((u 9), .inl (cI, 4, .inl (fun _ => 0))), ((u 10), .inl (cI, 4, .inl (fun _ => 0)))] t.heap ∧ va_D (va_A [(h0, .inr (7, [.null, .int 0, .null, .null, .int 0, .int 0, .int 0]))] sz) [(h0, .inr (7, [.ref (u 0), .int (-1), .ref (u 1), .ref (u 2), .int 0, .int 0, .int 0])), ((u 1), .inl (cI, 5, .inl (fun _ => 0))), ((u 2), .inl (cI, 220, .inl (fun _ => 0))), ((u 0), .inr (5, [.int 0, .int 0, .int 0, .int 0, .int 0, .ref (u 3), .ref (u 4), .ref (u 5), .ref (u 6), .ref (u 7), .ref (u 8), .ref (u 9), .ref (u 10)])), ((u 3), .inl (cI, 8, .inl (fun _ => 0))), ((u 4), .inl (cI, 8, .inl (fun _ => 0))), ((u 5), .inl (cI, 8, .inl (fun _ => 0))), ((u 6), .inl (cI, 8, .inl (fun _ => 0))), ((u 7), .inl (cI, 8, .inl (fun _ => 0))), ((u 8), .inl (cI, 4, .inl (fun _ => 0))), ((u 9), .inl (cI, 4, .inl (fun _ => 0))), ((u 10), .inl (cI, 4, .inl (fun _ => 0)))]) (va_A [(h0, .inr (7, [.null, .int 0, .null, .null, .int 0, .int 0, .int 0]))] sz)) 11 290 (va_A [(h0, .inr (7, [.null, .int 0, .null, .null, .int 0, .int 0, .int 0]))] sz) := by
  refine Met.ofW (cc := cX7_init) (maxL := 1) (ret := none) (by decide) rfl ?_
  intro p e s m args below meth c s₁ B hml hv
  obtain ⟨rfl, hsz, hP, hK, hD0, hN⟩ := hv
  have hx := B.exec
  have hb := B.bytes
  have hr := B.returns
  have hts := atoms_spec (ws := wsX7_init) B.pre
  have hown : s.vm.findClass RX7 = some m.cls := findClass_of_methodNamed B.named
  have hlocks := B.notSynchronized
  have hin : meth.name = "<init>" := (name_of_methodNamed B.named B.method).1
  have hi_X5 : ∀ w ∈ u_ws RX5 TX5 13, w ∈ wsX7_init := fun _ h => List.mem_cons_of_mem _ (List.mem_append_left _ (List.mem_append_right _ (h)))
  have hi_X7 : ∀ w ∈ u_ws RX7 TX7 7, w ∈ wsX7_init := fun _ h => List.mem_cons_of_mem _ (List.mem_append_right _ (h))
  subst hsz
  have hD := hD0.self (sz := s.heap.size)
  generalize hAe : va_A [(h0, .inr (7, [.null, .int 0, .null, .null, .int 0, .int 0, .int 0]))] s.heap.size = A at hD ⊢
  have hA : ∀ q : Nat, s.heap.size ≤ q → A q := fun q h => by rw [← hAe]; exact Or.inr h
  have hS : va_S A s.heap s.heap [] := va_S.rf
  have hl := lv_entry ([.ref h0]) (n := 1) (Nat.le_of_ble_eq_true rfl)
  rw [lg_entry_eq]
  generalize (lg_sl ([.ref h0]) ++ List.replicate (1 - (lg_sl ([.ref h0])).length) Slot.unset).toArray = ls at hl ⊢
  have hl : lv_has ls 1 [(0, .ref h0)] := hl
  refine lv_aload_n hx hb dX7_init_0 rfl (lv_at hl 0 rfl) ?_
  refine W.objInit hx hb hown (hts (.methodLink RX7 3 objectInit) (wmx 1 rfl)) (hts (.instanceMethod objectInit) (wmx 2 rfl)) (hts (.code objectInit ⟨#[0xb1]⟩ 1 none) (wmx 3 rfl)) rfl (by rw [hml]; exact hl.1) rfl dX7_init_1 (Nat.le_of_ble_eq_true rfl) (Nat.le_of_ble_eq_true rfl) ?_
  refine W.eq (g2 := F0 m 4 ls []) rfl ?_
  refine lv_aload_n hx hb dX7_init_4 rfl (lv_at hl 0 rfl) ?_
  refine va_new (ci := 5) (fs := [.int 0, .int 0, .int 0, .int 0, .int 0, .null, .null, .null, .null, .null, .null, .null, .null]) (C := RX5) (T := TX5) (N := 13) hx hb hts hi_X5 tyX5 tyX5_ok hown (hts (.classLink RX7 9 RX5) (wmx 4 rfl)) (hts (.instantiable RX5 13) (wmx 5 rfl)) (hts (.initialized RX5) (wmx 6 rfl)) hK hP hD hS hA rfl (fun j hj => by rcases (show j = 0 ∨ j = 1 ∨ j = 2 ∨ j = 3 ∨ j = 4 ∨ j = 5 ∨ j = 6 ∨ j = 7 ∨ j = 8 ∨ j = 9 ∨ j = 10 ∨ j = 11 ∨ j = 12 by omega) with rfl | rfl | rfl | rfl | rfl | rfl | rfl | rfl | rfl | rfl | rfl | rfl | rfl <;> rfl) (Nat.le_of_ble_eq_true rfl) (Nat.le_of_ble_eq_true rfl) dX7_init_5 (fun q1 H hP hD hS => ?_)
  refine W.widen (k := 1) (n := 13) (Nat.le_of_ble_eq_true rfl) (Nat.le_of_ble_eq_true rfl) ?_
  have hPD : pdW (dC, dI) vwCl A [(h0, .inr (7, [.null, .int 0, .null, .null, .int 0, .int 0, .int 0])), (q1, .inr (5, [.int 0, .int 0, .int 0, .int 0, .int 0, .null, .null, .null, .null, .null, .null, .null, .null]))] H := ⟨hP, hD⟩
  have hP := hPD.1
  have hD := hPD.2
  clear hPD
  refine lv_dup hx hb dX7_init_8 rfl ?_
  have hc9 := va_cut (W' := [(q1, .inr (5, [.int 0, .int 0, .int 0, .int 0, .int 0, .null, .null, .null, .null, .null, .null, .null, .null]))]) hP hD hS hA [1] (by decide) rfl
  have hPc := hc9.1
  have hDc := hc9.2.1
  have hFc := hc9.2.2
  clear hc9
  refine va_callv (va_runIN (As := []) (rest := [.ref q1, .ref h0]) ⟨hx, hb, hml, hown, hts⟩ (c_X5_init l dC dI cI cZ cQ q1 H.size ) ⟨va_cnB 0 hts gX7_init_X5_init_n11 rfl rfl rfl (hN.n_X7_11) (hts (.initialized RX5) (wmx 6 rfl)) (by decide +kernel) ⟨Nat.le_of_ble_eq_true rfl, Nat.le_of_ble_eq_true rfl⟩, rfl, hts (.instanceMethod yX5_init) (by decide +kernel)⟩ (ps_D hK hPc hDc) rfl rfl hl.1 rfl (lv_room (Nat.le_of_ble_eq_true rfl)) dX7_init_9 ⟨Nat.le_of_ble_eq_true rfl, Nat.le_of_ble_eq_true rfl⟩) hS (fun q _ h => hFc q h) hFc (fun u3 t H1 locs ht hvm hw4 hB hz1 hk1 hS => ?_)
  obtain ⟨hP1, hD1⟩ := hB
  replace hP1 := va_hp ht hP1
  obtain ⟨hP, hD⟩ := va_join (wr := [(h0, .inr (7, [.null, .int 0, .null, .null, .int 0, .int 0, .int 0]))]) (w1 := [(q1, .inr (5, [.int 0, .int 0, .int 0, .int 0, .int 0, .ref (u3 0), .ref (u3 1), .ref (u3 2), .ref (u3 3), .ref (u3 4), .ref (u3 5), .ref (u3 6), .ref (u3 7)])), ((u3 0), .inl (cI, 8, .inl (fun _ => 0))), ((u3 1), .inl (cI, 8, .inl (fun _ => 0))), ((u3 2), .inl (cI, 8, .inl (fun _ => 0))), ((u3 3), .inl (cI, 8, .inl (fun _ => 0))), ((u3 4), .inl (cI, 8, .inl (fun _ => 0))), ((u3 5), .inl (cI, 4, .inl (fun _ => 0))), ((u3 6), .inl (cI, 4, .inl (fun _ => 0))), ((u3 7), .inl (cI, 4, .inl (fun _ => 0)))]) hP hD [1] [0] rfl rfl (by decide +kernel) (by decide +kernel) hk1 hFc hP1 hD1
  clear hP1 hD1
  clear hz1 hk1 hPc hDc hFc
  generalize H1 = H at hP hS ht ⊢
  have hPD : pdW (dC, dI) vwCl A [(h0, .inr (7, [.null, .int 0, .null, .null, .int 0, .int 0, .int 0])), (q1, .inr (5, [.int 0, .int 0, .int 0, .int 0, .int 0, .ref (u3 0), .ref (u3 1), .ref (u3 2), .ref (u3 3), .ref (u3 4), .ref (u3 5), .ref (u3 6), .ref (u3 7)])), ((u3 0), .inl (cI, 8, .inl (fun _ => 0))), ((u3 1), .inl (cI, 8, .inl (fun _ => 0))), ((u3 2), .inl (cI, 8, .inl (fun _ => 0))), ((u3 3), .inl (cI, 8, .inl (fun _ => 0))), ((u3 4), .inl (cI, 8, .inl (fun _ => 0))), ((u3 5), .inl (cI, 4, .inl (fun _ => 0))), ((u3 6), .inl (cI, 4, .inl (fun _ => 0))), ((u3 7), .inl (cI, 4, .inl (fun _ => 0)))] H := ⟨hP, hD⟩
  have hP := hPD.1
  have hD := hPD.2
  clear hPD
  refine W.widen (k := 9) (n := 65) (Nat.le_of_ble_eq_true rfl) (Nat.le_of_ble_eq_true rfl) ?_
  try dsimp only at hw4
  refine va_putF (D := (dC, dI)) (ci := 7) (v := .ref q1) (ty := .object "LeftQuills$Office") (C := RX7) (T := TX7) (N := 7) hx hb hts hi_X7 tyX7 tyX7_ok nmX7 hown hK hP hD hS 0 rfl rfl 0 (by decide) (hts (.fieldLink RX7 12 "LeftQuills$Reader" "draft" "LLeftQuills$Office;") (wmx 7 rfl)) (fun _ h9 => h9) rfl hin rfl (by decide +kernel) rfl rfl (Nat.le_of_ble_eq_true rfl) dX7_init_12 (fun H locs hP hD hS => ?_)
  have hPD : pdW (dC, dI) vwCl A [(h0, .inr (7, [.ref q1, .int 0, .null, .null, .int 0, .int 0, .int 0])), (q1, .inr (5, [.int 0, .int 0, .int 0, .int 0, .int 0, .ref (u3 0), .ref (u3 1), .ref (u3 2), .ref (u3 3), .ref (u3 4), .ref (u3 5), .ref (u3 6), .ref (u3 7)])), ((u3 0), .inl (cI, 8, .inl (fun _ => 0))), ((u3 1), .inl (cI, 8, .inl (fun _ => 0))), ((u3 2), .inl (cI, 8, .inl (fun _ => 0))), ((u3 3), .inl (cI, 8, .inl (fun _ => 0))), ((u3 4), .inl (cI, 8, .inl (fun _ => 0))), ((u3 5), .inl (cI, 4, .inl (fun _ => 0))), ((u3 6), .inl (cI, 4, .inl (fun _ => 0))), ((u3 7), .inl (cI, 4, .inl (fun _ => 0)))] H := ⟨hP, hD⟩
  have hP := hPD.1
  have hD := hPD.2
  clear hPD
  refine lv_aload_n hx hb dX7_init_15 rfl (lv_at hl 0 rfl) ?_
  refine lv_iconst (v := (-1)) hx hb dX7_init_16 (by decide) ?_
  refine va_put (D := (dC, dI)) (ci := 7) (v := .int (-1)) (ty := .int) (C := RX7) (T := TX7) (N := 7) hx hb hts hi_X7 tyX7 tyX7_ok nmX7 hown hK hP hD hS 0 rfl rfl 1 (by decide) (hts (.fieldLink RX7 18 "LeftQuills$Reader" "faultAt" "I") (wmx 8 rfl)) (fun _ h9 => h9) rfl (by decide +kernel) rfl rfl (Nat.le_of_ble_eq_true rfl) dX7_init_17 (fun H locs hP hD hS => ?_)
  have hPD : pdW (dC, dI) vwCl A [(h0, .inr (7, [.ref q1, .int (-1), .null, .null, .int 0, .int 0, .int 0])), (q1, .inr (5, [.int 0, .int 0, .int 0, .int 0, .int 0, .ref (u3 0), .ref (u3 1), .ref (u3 2), .ref (u3 3), .ref (u3 4), .ref (u3 5), .ref (u3 6), .ref (u3 7)])), ((u3 0), .inl (cI, 8, .inl (fun _ => 0))), ((u3 1), .inl (cI, 8, .inl (fun _ => 0))), ((u3 2), .inl (cI, 8, .inl (fun _ => 0))), ((u3 3), .inl (cI, 8, .inl (fun _ => 0))), ((u3 4), .inl (cI, 8, .inl (fun _ => 0))), ((u3 5), .inl (cI, 4, .inl (fun _ => 0))), ((u3 6), .inl (cI, 4, .inl (fun _ => 0))), ((u3 7), .inl (cI, 4, .inl (fun _ => 0)))] H := ⟨hP, hD⟩
  have hP := hPD.1
  have hD := hPD.2
  clear hPD
  refine lv_aload_n hx hb dX7_init_20 rfl (lv_at hl 0 rfl) ?_
  refine lv_iconst (v := 5) hx hb dX7_init_21 (by decide) ?_
  refine va_newa (atype := .int) (ty := .int) (n := 5) (a0 := (5, .inl (fun _ => 0))) (N' := 5) hx hb (hts (.arrayClass .int) (wmx 9 rfl)) rfl hK hP hD hS hA (fun _ => rfl) (by decide) (by decide) (by decide) (Nat.le_of_ble_eq_true rfl) (Nat.le_of_ble_eq_true rfl) dX7_init_22 (fun q5 cA H hKn hP hD hS => ?_)
  have ecA := xcI hKn
  subst ecA
  clear hKn
  refine W.widen (k := 10) (n := 70) (Nat.le_of_ble_eq_true rfl) (Nat.le_of_ble_eq_true rfl) ?_
  have hPD : pdW (dC, dI) vwCl A [(h0, .inr (7, [.ref q1, .int (-1), .null, .null, .int 0, .int 0, .int 0])), (q1, .inr (5, [.int 0, .int 0, .int 0, .int 0, .int 0, .ref (u3 0), .ref (u3 1), .ref (u3 2), .ref (u3 3), .ref (u3 4), .ref (u3 5), .ref (u3 6), .ref (u3 7)])), ((u3 0), .inl (cI, 8, .inl (fun _ => 0))), ((u3 1), .inl (cI, 8, .inl (fun _ => 0))), ((u3 2), .inl (cI, 8, .inl (fun _ => 0))), ((u3 3), .inl (cI, 8, .inl (fun _ => 0))), ((u3 4), .inl (cI, 8, .inl (fun _ => 0))), ((u3 5), .inl (cI, 4, .inl (fun _ => 0))), ((u3 6), .inl (cI, 4, .inl (fun _ => 0))), ((u3 7), .inl (cI, 4, .inl (fun _ => 0))), (q5, .inl (cI, 5, .inl (fun _ => 0)))] H := ⟨hP, hD⟩
  have hP := hPD.1
  have hD := hPD.2
  clear hPD
  refine va_putF (D := (dC, dI)) (ci := 7) (v := .ref q5) (ty := .array .int) (C := RX7) (T := TX7) (N := 7) hx hb hts hi_X7 tyX7 tyX7_ok nmX7 hown hK hP hD hS 0 rfl rfl 2 (by decide) (hts (.fieldLink RX7 22 "LeftQuills$Reader" "numbers" "[I") (wmx 10 rfl)) (fun _ h9 => h9) rfl hin rfl (by decide +kernel) rfl rfl (Nat.le_of_ble_eq_true rfl) dX7_init_24 (fun H locs hP hD hS => ?_)
  have hPD : pdW (dC, dI) vwCl A [(h0, .inr (7, [.ref q1, .int (-1), .ref q5, .null, .int 0, .int 0, .int 0])), (q1, .inr (5, [.int 0, .int 0, .int 0, .int 0, .int 0, .ref (u3 0), .ref (u3 1), .ref (u3 2), .ref (u3 3), .ref (u3 4), .ref (u3 5), .ref (u3 6), .ref (u3 7)])), ((u3 0), .inl (cI, 8, .inl (fun _ => 0))), ((u3 1), .inl (cI, 8, .inl (fun _ => 0))), ((u3 2), .inl (cI, 8, .inl (fun _ => 0))), ((u3 3), .inl (cI, 8, .inl (fun _ => 0))), ((u3 4), .inl (cI, 8, .inl (fun _ => 0))), ((u3 5), .inl (cI, 4, .inl (fun _ => 0))), ((u3 6), .inl (cI, 4, .inl (fun _ => 0))), ((u3 7), .inl (cI, 4, .inl (fun _ => 0))), (q5, .inl (cI, 5, .inl (fun _ => 0)))] H := ⟨hP, hD⟩
  have hP := hPD.1
  have hD := hPD.2
  clear hPD
  refine lv_aload_n hx hb dX7_init_27 rfl (lv_at hl 0 rfl) ?_
  refine lv_sipush (v := 220) hx hb dX7_init_28 (by decide) ?_
  refine va_newa (atype := .int) (ty := .int) (n := 220) (a0 := (220, .inl (fun _ => 0))) (N' := 220) hx hb (hts (.arrayClass .int) (wmx 9 rfl)) rfl hK hP hD hS hA (fun _ => rfl) (by decide) (by decide) (by decide) (Nat.le_of_ble_eq_true rfl) (Nat.le_of_ble_eq_true rfl) dX7_init_31 (fun q6 cA H hKn hP hD hS => ?_)
  have ecA := xcI hKn
  subst ecA
  clear hKn
  refine W.widen (k := 11) (n := 290) (Nat.le_of_ble_eq_true rfl) (Nat.le_of_ble_eq_true rfl) ?_
  have hPD : pdW (dC, dI) vwCl A [(h0, .inr (7, [.ref q1, .int (-1), .ref q5, .null, .int 0, .int 0, .int 0])), (q1, .inr (5, [.int 0, .int 0, .int 0, .int 0, .int 0, .ref (u3 0), .ref (u3 1), .ref (u3 2), .ref (u3 3), .ref (u3 4), .ref (u3 5), .ref (u3 6), .ref (u3 7)])), ((u3 0), .inl (cI, 8, .inl (fun _ => 0))), ((u3 1), .inl (cI, 8, .inl (fun _ => 0))), ((u3 2), .inl (cI, 8, .inl (fun _ => 0))), ((u3 3), .inl (cI, 8, .inl (fun _ => 0))), ((u3 4), .inl (cI, 8, .inl (fun _ => 0))), ((u3 5), .inl (cI, 4, .inl (fun _ => 0))), ((u3 6), .inl (cI, 4, .inl (fun _ => 0))), ((u3 7), .inl (cI, 4, .inl (fun _ => 0))), (q5, .inl (cI, 5, .inl (fun _ => 0))), (q6, .inl (cI, 220, .inl (fun _ => 0)))] H := ⟨hP, hD⟩
  have hP := hPD.1
  have hD := hPD.2
  clear hPD
  refine va_putF (D := (dC, dI)) (ci := 7) (v := .ref q6) (ty := .array .int) (C := RX7) (T := TX7) (N := 7) hx hb hts hi_X7 tyX7 tyX7_ok nmX7 hown hK hP hD hS 0 rfl rfl 3 (by decide) (hts (.fieldLink RX7 26 "LeftQuills$Reader" "letters" "[I") (wmx 11 rfl)) (fun _ h9 => h9) rfl hin rfl (by decide +kernel) rfl rfl (Nat.le_of_ble_eq_true rfl) dX7_init_33 (fun H locs hP hD hS => ?_)
  have hPD : pdW (dC, dI) vwCl A [(h0, .inr (7, [.ref q1, .int (-1), .ref q5, .ref q6, .int 0, .int 0, .int 0])), (q1, .inr (5, [.int 0, .int 0, .int 0, .int 0, .int 0, .ref (u3 0), .ref (u3 1), .ref (u3 2), .ref (u3 3), .ref (u3 4), .ref (u3 5), .ref (u3 6), .ref (u3 7)])), ((u3 0), .inl (cI, 8, .inl (fun _ => 0))), ((u3 1), .inl (cI, 8, .inl (fun _ => 0))), ((u3 2), .inl (cI, 8, .inl (fun _ => 0))), ((u3 3), .inl (cI, 8, .inl (fun _ => 0))), ((u3 4), .inl (cI, 8, .inl (fun _ => 0))), ((u3 5), .inl (cI, 4, .inl (fun _ => 0))), ((u3 6), .inl (cI, 4, .inl (fun _ => 0))), ((u3 7), .inl (cI, 4, .inl (fun _ => 0))), (q5, .inl (cI, 5, .inl (fun _ => 0))), (q6, .inl (cI, 220, .inl (fun _ => 0)))] H := ⟨hP, hD⟩
  have hP := hPD.1
  have hD := hPD.2
  clear hPD
  refine lv_aload_n hx hb dX7_init_36 rfl (lv_at hl 0 rfl) ?_
  refine lv_iconst (v := 0) hx hb dX7_init_37 (by decide) ?_
  refine va_put (D := (dC, dI)) (ci := 7) (v := .int 0) (ty := .int) (C := RX7) (T := TX7) (N := 7) hx hb hts hi_X7 tyX7 tyX7_ok nmX7 hown hK hP hD hS 0 rfl rfl 4 (by decide) (hts (.fieldLink RX7 29 "LeftQuills$Reader" "length" "I") (wmx 12 rfl)) (fun _ h9 => h9) rfl (by decide +kernel) rfl rfl (Nat.le_of_ble_eq_true rfl) dX7_init_38 (fun H locs hP hD hS => ?_)
  have hPD : pdW (dC, dI) vwCl A [(h0, .inr (7, [.ref q1, .int (-1), .ref q5, .ref q6, .int 0, .int 0, .int 0])), (q1, .inr (5, [.int 0, .int 0, .int 0, .int 0, .int 0, .ref (u3 0), .ref (u3 1), .ref (u3 2), .ref (u3 3), .ref (u3 4), .ref (u3 5), .ref (u3 6), .ref (u3 7)])), ((u3 0), .inl (cI, 8, .inl (fun _ => 0))), ((u3 1), .inl (cI, 8, .inl (fun _ => 0))), ((u3 2), .inl (cI, 8, .inl (fun _ => 0))), ((u3 3), .inl (cI, 8, .inl (fun _ => 0))), ((u3 4), .inl (cI, 8, .inl (fun _ => 0))), ((u3 5), .inl (cI, 4, .inl (fun _ => 0))), ((u3 6), .inl (cI, 4, .inl (fun _ => 0))), ((u3 7), .inl (cI, 4, .inl (fun _ => 0))), (q5, .inl (cI, 5, .inl (fun _ => 0))), (q6, .inl (cI, 220, .inl (fun _ => 0)))] H := ⟨hP, hD⟩
  have hP := hPD.1
  have hD := hPD.2
  clear hPD
  refine lv_aload_n hx hb dX7_init_41 rfl (lv_at hl 0 rfl) ?_
  refine lv_iconst (v := 0) hx hb dX7_init_42 (by decide) ?_
  refine va_put (D := (dC, dI)) (ci := 7) (v := .int 0) (ty := .int) (C := RX7) (T := TX7) (N := 7) hx hb hts hi_X7 tyX7 tyX7_ok nmX7 hown hK hP hD hS 0 rfl rfl 5 (by decide) (hts (.fieldLink RX7 32 "LeftQuills$Reader" "at" "I") (wmx 13 rfl)) (fun _ h9 => h9) rfl (by decide +kernel) rfl rfl (Nat.le_of_ble_eq_true rfl) dX7_init_43 (fun H locs hP hD hS => ?_)
  have hPD : pdW (dC, dI) vwCl A [(h0, .inr (7, [.ref q1, .int (-1), .ref q5, .ref q6, .int 0, .int 0, .int 0])), (q1, .inr (5, [.int 0, .int 0, .int 0, .int 0, .int 0, .ref (u3 0), .ref (u3 1), .ref (u3 2), .ref (u3 3), .ref (u3 4), .ref (u3 5), .ref (u3 6), .ref (u3 7)])), ((u3 0), .inl (cI, 8, .inl (fun _ => 0))), ((u3 1), .inl (cI, 8, .inl (fun _ => 0))), ((u3 2), .inl (cI, 8, .inl (fun _ => 0))), ((u3 3), .inl (cI, 8, .inl (fun _ => 0))), ((u3 4), .inl (cI, 8, .inl (fun _ => 0))), ((u3 5), .inl (cI, 4, .inl (fun _ => 0))), ((u3 6), .inl (cI, 4, .inl (fun _ => 0))), ((u3 7), .inl (cI, 4, .inl (fun _ => 0))), (q5, .inl (cI, 5, .inl (fun _ => 0))), (q6, .inl (cI, 220, .inl (fun _ => 0)))] H := ⟨hP, hD⟩
  have hP := hPD.1
  have hD := hPD.2
  clear hPD
  refine lv_aload_n hx hb dX7_init_46 rfl (lv_at hl 0 rfl) ?_
  refine lv_iconst (v := 0) hx hb dX7_init_47 (by decide) ?_
  refine va_put (D := (dC, dI)) (ci := 7) (v := .int 0) (ty := .int) (C := RX7) (T := TX7) (N := 7) hx hb hts hi_X7 tyX7 tyX7_ok nmX7 hown hK hP hD hS 0 rfl rfl 6 (by decide) (hts (.fieldLink RX7 35 "LeftQuills$Reader" "fault" "I") (wmx 14 rfl)) (fun _ h9 => h9) rfl (by decide +kernel) rfl rfl (Nat.le_of_ble_eq_true rfl) dX7_init_48 (fun H locs hP hD hS => ?_)
  have hPD : pdW (dC, dI) vwCl A [(h0, .inr (7, [.ref q1, .int (-1), .ref q5, .ref q6, .int 0, .int 0, .int 0])), (q1, .inr (5, [.int 0, .int 0, .int 0, .int 0, .int 0, .ref (u3 0), .ref (u3 1), .ref (u3 2), .ref (u3 3), .ref (u3 4), .ref (u3 5), .ref (u3 6), .ref (u3 7)])), ((u3 0), .inl (cI, 8, .inl (fun _ => 0))), ((u3 1), .inl (cI, 8, .inl (fun _ => 0))), ((u3 2), .inl (cI, 8, .inl (fun _ => 0))), ((u3 3), .inl (cI, 8, .inl (fun _ => 0))), ((u3 4), .inl (cI, 8, .inl (fun _ => 0))), ((u3 5), .inl (cI, 4, .inl (fun _ => 0))), ((u3 6), .inl (cI, 4, .inl (fun _ => 0))), ((u3 7), .inl (cI, 4, .inl (fun _ => 0))), (q5, .inl (cI, 5, .inl (fun _ => 0))), (q6, .inl (cI, 220, .inl (fun _ => 0)))] H := ⟨hP, hD⟩
  have hP := hPD.1
  have hD := hPD.2
  clear hPD
  have hP9 := hP.sub (ws' := [(h0, .inr (7, [.ref q1, .int (-1), .ref q5, .ref q6, .int 0, .int 0, .int 0])), (q5, .inl (cI, 5, .inl (fun _ => 0))), (q6, .inl (cI, 220, .inl (fun _ => 0))), (q1, .inr (5, [.int 0, .int 0, .int 0, .int 0, .int 0, .ref (u3 0), .ref (u3 1), .ref (u3 2), .ref (u3 3), .ref (u3 4), .ref (u3 5), .ref (u3 6), .ref (u3 7)])), ((u3 0), .inl (cI, 8, .inl (fun _ => 0))), ((u3 1), .inl (cI, 8, .inl (fun _ => 0))), ((u3 2), .inl (cI, 8, .inl (fun _ => 0))), ((u3 3), .inl (cI, 8, .inl (fun _ => 0))), ((u3 4), .inl (cI, 8, .inl (fun _ => 0))), ((u3 5), .inl (cI, 4, .inl (fun _ => 0))), ((u3 6), .inl (cI, 4, .inl (fun _ => 0))), ((u3 7), .inl (cI, 4, .inl (fun _ => 0)))]) [0, 10, 11, 1, 2, 3, 4, 5, 6, 7, 8, 9] rfl
  have hD9 := hD.sub (ws' := [(h0, .inr (7, [.ref q1, .int (-1), .ref q5, .ref q6, .int 0, .int 0, .int 0])), (q5, .inl (cI, 5, .inl (fun _ => 0))), (q6, .inl (cI, 220, .inl (fun _ => 0))), (q1, .inr (5, [.int 0, .int 0, .int 0, .int 0, .int 0, .ref (u3 0), .ref (u3 1), .ref (u3 2), .ref (u3 3), .ref (u3 4), .ref (u3 5), .ref (u3 6), .ref (u3 7)])), ((u3 0), .inl (cI, 8, .inl (fun _ => 0))), ((u3 1), .inl (cI, 8, .inl (fun _ => 0))), ((u3 2), .inl (cI, 8, .inl (fun _ => 0))), ((u3 3), .inl (cI, 8, .inl (fun _ => 0))), ((u3 4), .inl (cI, 8, .inl (fun _ => 0))), ((u3 5), .inl (cI, 4, .inl (fun _ => 0))), ((u3 6), .inl (cI, 4, .inl (fun _ => 0))), ((u3 7), .inl (cI, 4, .inl (fun _ => 0)))]) [0, 10, 11, 1, 2, 3, 4, 5, 6, 7, 8, 9] (by decide +kernel) rfl
  refine W.widen (k := 11) (n := 290) (Nat.le_of_ble_eq_true rfl) (Nat.le_of_ble_eq_true rfl) ?_
  exact W.vret hx hb hr (fun t ht hW => ⟨⟨(vn [q1, q5, q6, (u3 0), (u3 1), (u3 2), (u3 3), (u3 4), (u3 5), (u3 6), (u3 7)]), rfl, by first | trivial | rfl | (simp_all; done), ⟨va_hq ht hP9, hD9⟩⟩, hS.F ht⟩) hS.2.2 dX7_init_51
set_option maxHeartbeats 4000000 in
set_option maxRecDepth 100000 in
theorem c_X4_init (l : Launch) (dC : Nat → ClassId) (dI : Nat → Nat → Nat) (cI cZ cQ : ClassId) (h0 : Nat) (ho : Nat) (sz : Nat)  : Met l yX4_init wsX4_init ({ frames := 2, cells := 15, slots := 86, locals := 61 }) (va_Pc [.ref h0, .ref ho] (fun U => U.heap.size = sz ∧ va_P (dC, dI) vwCl [(h0, .inr (4, [.null, .null, .null]))] U.heap ∧ va_K (dC, dI) vwCl (tys0 cI cZ cQ) U ∧ va_D (fun _ => True) [(h0, .inr (4, [.null, .null, .null]))] ∧ xN U)) (va_Qv (fun (u : Nat → Nat) => True) (fun (u : Nat → Nat) (t : State) => va_P (dC, dI) vwCl [(h0, .inr (4, [.ref (u 0), .ref (u 1), .ref (u 2)])), ((u 0), .inl (cQ, 2, .inr (.inr (.inr (.inr (va_up (va_up (fun _ => none) (0 : Int32).toNatClampNeg (some (u 3))) (1 : Int32).toNatClampNeg (some (u 4)))))))), ((u 1), .inl (cI, 2, .inl (fun _ => 0))), ((u 2), .inl (cZ, 2, .inl (fun _ => 0))), ((u 3), .inr (1, [.int 0, .int 0, .ref (u 5), .ref (u 6), .ref (u 7), .ref (u 8), .ref (u 9), .ref ho])), ((u 5), .inl (cI, 8, .inl (fun _ => 0))), ((u 6), .inl (cI, 8, .inl (fun _ => 0))), ((u 7), .inl (cI, 8, .inl (fun _ => 0))), ((u 8), .inl (cI, 4, .inl (fun _ => 0))), ((u 9), .inl (cI, 4, .inl (fun _ => 0))), ((u 4), .inr (1, [.int 0, .int 0, .ref (u 10), .ref (u 11), .ref (u 12), .ref (u 13), .ref (u 14), .ref ho])), ((u 10), .inl (cI, 8, .inl (fun _ => 0))), ((u 11), .inl (cI, 8, .inl (fun _ => 0))), ((u 12), .inl (cI, 8, .inl (fun _ => 0))), ((u 13), .inl (cI, 4, .inl (fun _ => 0))), ((u 14), .inl (cI, 4, .inl (fun _ => 0)))] t.heap ∧ va_D (va_A [(h0, .inr (4, [.null, .null, .null]))] sz) [(h0, .inr (4, [.ref (u 0), .ref (u 1), .ref (u 2)])), ((u 0), .inl (cQ, 2, .inr (.inr (.inr (.inr (va_up (va_up (fun _ => none) (0 : Int32).toNatClampNeg (some (u 3))) (1 : Int32).toNatClampNeg (some (u 4)))))))), ((u 1), .inl (cI, 2, .inl (fun _ => 0))), ((u 2), .inl (cZ, 2, .inl (fun _ => 0))), ((u 3), .inr (1, [.int 0, .int 0, .ref (u 5), .ref (u 6), .ref (u 7), .ref (u 8), .ref (u 9), .ref ho])), ((u 5), .inl (cI, 8, .inl (fun _ => 0))), ((u 6), .inl (cI, 8, .inl (fun _ => 0))), ((u 7), .inl (cI, 8, .inl (fun _ => 0))), ((u 8), .inl (cI, 4, .inl (fun _ => 0))), ((u 9), .inl (cI, 4, .inl (fun _ => 0))), ((u 4), .inr (1, [.int 0, .int 0, .ref (u 10), .ref (u 11), .ref (u 12), .ref (u 13), .ref (u 14), .ref ho])), ((u 10), .inl (cI, 8, .inl (fun _ => 0))), ((u 11), .inl (cI, 8, .inl (fun _ => 0))), ((u 12), .inl (cI, 8, .inl (fun _ => 0))), ((u 13), .inl (cI, 4, .inl (fun _ => 0))), ((u 14), .inl (cI, 4, .inl (fun _ => 0)))]) (va_A [(h0, .inr (4, [.null, .null, .null]))] sz)) 15 86 (va_A [(h0, .inr (4, [.null, .null, .null]))] sz) := by
  refine Met.ofW (cc := cX4_init) (maxL := 3) (ret := none) (by decide) rfl ?_
  intro p e s m args below meth c s₁ B hml hv
  obtain ⟨rfl, hsz, hP, hK, hD0, hN⟩ := hv
  have hx := B.exec
  have hb := B.bytes
  have hr := B.returns
  have hts := atoms_spec (ws := wsX4_init) B.pre
  have hown : s.vm.findClass RX4 = some m.cls := findClass_of_methodNamed B.named
  have hlocks := B.notSynchronized
  have hin : meth.name = "<init>" := (name_of_methodNamed B.named B.method).1
  have hi_X1 : ∀ w ∈ u_ws RX1 TX1 8, w ∈ wsX4_init := fun _ h => List.mem_cons_of_mem _ (List.mem_append_right _ (h))
  have hi_X4 : ∀ w ∈ u_ws RX4 TX4 3, w ∈ wsX4_init := fun _ h => List.mem_cons_of_mem _ (List.mem_append_left _ (List.mem_append_right _ (h)))
  subst hsz
  have hD := hD0.self (sz := s.heap.size)
  generalize hAe : va_A [(h0, .inr (4, [.null, .null, .null]))] s.heap.size = A at hD ⊢
  have hA : ∀ q : Nat, s.heap.size ≤ q → A q := fun q h => by rw [← hAe]; exact Or.inr h
  have hS : va_S A s.heap s.heap [] := va_S.rf
  have hl := lv_entry ([.ref h0, .ref ho]) (n := 3) (Nat.le_of_ble_eq_true rfl)
  rw [lg_entry_eq]
  generalize (lg_sl ([.ref h0, .ref ho]) ++ List.replicate (3 - (lg_sl ([.ref h0, .ref ho])).length) Slot.unset).toArray = ls at hl ⊢
  have hl : lv_has ls 3 [(0, .ref h0), (1, .ref ho)] := hl
  refine lv_aload_n hx hb dX4_init_0 rfl (lv_at hl 0 rfl) ?_
  refine W.objInit hx hb hown (hts (.methodLink RX4 1 objectInit) (wmx 1 rfl)) (hts (.instanceMethod objectInit) (wmx 2 rfl)) (hts (.code objectInit ⟨#[0xb1]⟩ 1 none) (wmx 3 rfl)) rfl (by rw [hml]; exact hl.1) rfl dX4_init_1 (Nat.le_of_ble_eq_true rfl) (Nat.le_of_ble_eq_true rfl) ?_
  refine W.eq (g2 := F0 m 4 ls []) rfl ?_
  refine lv_aload_n hx hb dX4_init_4 rfl (lv_at hl 0 rfl) ?_
  refine lv_iconst (v := 2) hx hb dX4_init_5 (by decide) ?_
  refine va_newq (N' := 2) hx hb hown (hts (.classLink RX4 9 RX1) (wmx 4 rfl)) hN.1 hK hP hD hS hA (by decide) (by decide) (by decide) (Nat.le_of_ble_eq_true rfl) (Nat.le_of_ble_eq_true rfl) dX4_init_6 (fun q1 cA H hKn hP hD hS => ?_)
  have ecA := xcQ hKn
  subst ecA
  clear hKn
  refine W.widen (k := 1) (n := 2) (Nat.le_of_ble_eq_true rfl) (Nat.le_of_ble_eq_true rfl) ?_
  have hPD : pdW (dC, dI) vwCl A [(h0, .inr (4, [.null, .null, .null])), (q1, .inl (cQ, 2, .inr (.inr (.inr (.inr (fun _ => none))))))] H := ⟨hP, hD⟩
  have hP := hPD.1
  have hD := hPD.2
  clear hPD
  refine va_putF (D := (dC, dI)) (ci := 4) (v := .ref q1) (ty := .array (.object "LeftQuills$Desk")) (C := RX4) (T := TX4) (N := 3) hx hb hts hi_X4 tyX4 tyX4_ok nmX4 hown hK hP hD hS 0 rfl rfl 0 (by decide) (hts (.fieldLink RX4 11 "LeftQuills$Images" "desks" "[LLeftQuills$Desk;") (wmx 5 rfl)) (fun _ h9 => h9) rfl hin rfl (by decide +kernel) rfl rfl (Nat.le_of_ble_eq_true rfl) dX4_init_9 (fun H locs hP hD hS => ?_)
  have hPD : pdW (dC, dI) vwCl A [(h0, .inr (4, [.ref q1, .null, .null])), (q1, .inl (cQ, 2, .inr (.inr (.inr (.inr (fun _ => none))))))] H := ⟨hP, hD⟩
  have hP := hPD.1
  have hD := hPD.2
  clear hPD
  refine lv_aload_n hx hb dX4_init_12 rfl (lv_at hl 0 rfl) ?_
  refine lv_iconst (v := 2) hx hb dX4_init_13 (by decide) ?_
  refine va_newa (atype := .int) (ty := .int) (n := 2) (a0 := (2, .inl (fun _ => 0))) (N' := 2) hx hb (hts (.arrayClass .int) (wmx 6 rfl)) rfl hK hP hD hS hA (fun _ => rfl) (by decide) (by decide) (by decide) (Nat.le_of_ble_eq_true rfl) (Nat.le_of_ble_eq_true rfl) dX4_init_14 (fun q2 cA H hKn hP hD hS => ?_)
  have ecA := xcI hKn
  subst ecA
  clear hKn
  refine W.widen (k := 2) (n := 4) (Nat.le_of_ble_eq_true rfl) (Nat.le_of_ble_eq_true rfl) ?_
  have hPD : pdW (dC, dI) vwCl A [(h0, .inr (4, [.ref q1, .null, .null])), (q1, .inl (cQ, 2, .inr (.inr (.inr (.inr (fun _ => none)))))), (q2, .inl (cI, 2, .inl (fun _ => 0)))] H := ⟨hP, hD⟩
  have hP := hPD.1
  have hD := hPD.2
  clear hPD
  refine va_putF (D := (dC, dI)) (ci := 4) (v := .ref q2) (ty := .array .int) (C := RX4) (T := TX4) (N := 3) hx hb hts hi_X4 tyX4 tyX4_ok nmX4 hown hK hP hD hS 0 rfl rfl 1 (by decide) (hts (.fieldLink RX4 15 "LeftQuills$Images" "seeds" "[I") (wmx 7 rfl)) (fun _ h9 => h9) rfl hin rfl (by decide +kernel) rfl rfl (Nat.le_of_ble_eq_true rfl) dX4_init_16 (fun H locs hP hD hS => ?_)
  have hPD : pdW (dC, dI) vwCl A [(h0, .inr (4, [.ref q1, .ref q2, .null])), (q1, .inl (cQ, 2, .inr (.inr (.inr (.inr (fun _ => none)))))), (q2, .inl (cI, 2, .inl (fun _ => 0)))] H := ⟨hP, hD⟩
  have hP := hPD.1
  have hD := hPD.2
  clear hPD
  refine lv_aload_n hx hb dX4_init_19 rfl (lv_at hl 0 rfl) ?_
  refine lv_iconst (v := 2) hx hb dX4_init_20 (by decide) ?_
  refine va_newa (atype := .boolean) (ty := .boolean) (n := 2) (a0 := (2, .inl (fun _ => 0))) (N' := 2) hx hb (hts (.arrayClass .boolean) (wmx 8 rfl)) rfl hK hP hD hS hA (fun _ => rfl) (by decide) (by decide) (by decide) (Nat.le_of_ble_eq_true rfl) (Nat.le_of_ble_eq_true rfl) dX4_init_21 (fun q3 cA H hKn hP hD hS => ?_)
  have ecA := xcZ hKn
  subst ecA
  clear hKn
  refine W.widen (k := 3) (n := 6) (Nat.le_of_ble_eq_true rfl) (Nat.le_of_ble_eq_true rfl) ?_
  have hPD : pdW (dC, dI) vwCl A [(h0, .inr (4, [.ref q1, .ref q2, .null])), (q1, .inl (cQ, 2, .inr (.inr (.inr (.inr (fun _ => none)))))), (q2, .inl (cI, 2, .inl (fun _ => 0))), (q3, .inl (cZ, 2, .inl (fun _ => 0)))] H := ⟨hP, hD⟩
  have hP := hPD.1
  have hD := hPD.2
  clear hPD
  refine va_putF (D := (dC, dI)) (ci := 4) (v := .ref q3) (ty := .array .boolean) (C := RX4) (T := TX4) (N := 3) hx hb hts hi_X4 tyX4 tyX4_ok nmX4 hown hK hP hD hS 0 rfl rfl 2 (by decide) (hts (.fieldLink RX4 19 "LeftQuills$Images" "kept" "[Z") (wmx 9 rfl)) (fun _ h9 => h9) rfl hin rfl (by decide +kernel) rfl rfl (Nat.le_of_ble_eq_true rfl) dX4_init_23 (fun H locs hP hD hS => ?_)
  have hPD : pdW (dC, dI) vwCl A [(h0, .inr (4, [.ref q1, .ref q2, .ref q3])), (q1, .inl (cQ, 2, .inr (.inr (.inr (.inr (fun _ => none)))))), (q2, .inl (cI, 2, .inl (fun _ => 0))), (q3, .inl (cZ, 2, .inl (fun _ => 0)))] H := ⟨hP, hD⟩
  have hP := hPD.1
  have hD := hPD.2
  clear hPD
  refine lv_iconst (v := 0) hx hb dX4_init_26 (by decide) ?_
  refine lv_istore_n (lv' := [(2, .int 0), (0, .ref h0), (1, .ref ho)]) hx hb dX4_init_27 rfl hl (by decide) rfl (fun ls hl => ?_)
  refine lv_iload_n hx hb dX4_init_28 rfl (lv_at hl 0 rfl) ?_
  refine lv_iconst (v := 2) hx hb dX4_init_29 (by decide) ?_
  refine lv_icmp_ge (tgt := 53) hx hb dX4_init_30 (by decide) (fun c4 => ?_) (fun c4 => ?_)
  · exact absurd c4 (by decide)
  clear c4
  refine lv_aload_n hx hb dX4_init_33 rfl (lv_at hl 1 rfl) ?_
  refine va_get (D := (dC, dI)) (ci := 4) (v := .ref q1) (C := RX4) (T := TX4) (N := 3) hx hb hts hi_X4 hown hK hP 0 rfl rfl 0 (by decide) (hts (.fieldLink RX4 11 "LeftQuills$Images" "desks" "[LLeftQuills$Desk;") (wmx 5 rfl)) (fun _ h9 => h9) rfl dX4_init_34 ?_
  refine lv_iload_n hx hb dX4_init_37 rfl (lv_at hl 0 rfl) ?_
  refine va_new (ci := 1) (fs := [.int 0, .int 0, .null, .null, .null, .null, .null, .null]) (C := RX1) (T := TX1) (N := 8) hx hb hts hi_X1 tyX1 tyX1_ok hown (hts (.classLink RX4 9 RX1) (wmx 4 rfl)) (hts (.instantiable RX1 8) (wmx 10 rfl)) (hts (.initialized RX1) (wmx 11 rfl)) hK hP hD hS hA rfl (fun j hj => by rcases (show j = 0 ∨ j = 1 ∨ j = 2 ∨ j = 3 ∨ j = 4 ∨ j = 5 ∨ j = 6 ∨ j = 7 by omega) with rfl | rfl | rfl | rfl | rfl | rfl | rfl | rfl <;> rfl) (Nat.le_of_ble_eq_true rfl) (Nat.le_of_ble_eq_true rfl) dX4_init_38 (fun q5 H hP hD hS => ?_)
  refine W.widen (k := 4) (n := 14) (Nat.le_of_ble_eq_true rfl) (Nat.le_of_ble_eq_true rfl) ?_
  have hPD : pdW (dC, dI) vwCl A [(h0, .inr (4, [.ref q1, .ref q2, .ref q3])), (q1, .inl (cQ, 2, .inr (.inr (.inr (.inr (fun _ => none)))))), (q2, .inl (cI, 2, .inl (fun _ => 0))), (q3, .inl (cZ, 2, .inl (fun _ => 0))), (q5, .inr (1, [.int 0, .int 0, .null, .null, .null, .null, .null, .null]))] H := ⟨hP, hD⟩
  have hP := hPD.1
  have hD := hPD.2
  clear hPD
  refine lv_dup hx hb dX4_init_41 rfl ?_
  refine lv_aload_n hx hb dX4_init_42 rfl (lv_at hl 2 rfl) ?_
  have hc9 := va_cut (W' := [(q5, .inr (1, [.int 0, .int 0, .null, .null, .null, .null, .null, .null]))]) hP hD hS hA [4] (by decide) rfl
  have hPc := hc9.1
  have hDc := hc9.2.1
  have hFc := hc9.2.2
  clear hc9
  refine va_callv (va_runI (As := [.ref ho]) (rest := [.ref q5, .int 0, .ref q1]) ⟨hx, hb, hml, hown, hts⟩ (c_X1_init l dC dI cI cZ cQ q5 ho H.size ) (cwI 1 hts gX4_init_X1_init rfl rfl rfl (hts (.initialized RX1) (wmx 11 rfl)) (hts (.methodLink RX4 23 yX1_init) (wmx 12 rfl)) (hts (.instanceMethod yX1_init) (wmx 13 rfl)) rfl (by decide +kernel) ⟨Nat.le_of_ble_eq_true rfl, Nat.le_of_ble_eq_true rfl⟩) (ps_D hK hPc hDc) rfl rfl hl.1 rfl (lv_room (Nat.le_of_ble_eq_true rfl)) dX4_init_43 ⟨Nat.le_of_ble_eq_true rfl, Nat.le_of_ble_eq_true rfl⟩) hS (fun q _ h => hFc q h) hFc (fun u7 t H1 locs ht hvm hw8 hB hz1 hk1 hS => ?_)
  obtain ⟨hP1, hD1⟩ := hB
  replace hP1 := va_hp ht hP1
  obtain ⟨hP, hD⟩ := va_join (wr := [(h0, .inr (4, [.ref q1, .ref q2, .ref q3])), (q1, .inl (cQ, 2, .inr (.inr (.inr (.inr (fun _ => none)))))), (q2, .inl (cI, 2, .inl (fun _ => 0))), (q3, .inl (cZ, 2, .inl (fun _ => 0)))]) (w1 := [(q5, .inr (1, [.int 0, .int 0, .ref (u7 0), .ref (u7 1), .ref (u7 2), .ref (u7 3), .ref (u7 4), .ref ho])), ((u7 0), .inl (cI, 8, .inl (fun _ => 0))), ((u7 1), .inl (cI, 8, .inl (fun _ => 0))), ((u7 2), .inl (cI, 8, .inl (fun _ => 0))), ((u7 3), .inl (cI, 4, .inl (fun _ => 0))), ((u7 4), .inl (cI, 4, .inl (fun _ => 0)))]) hP hD [4] [0, 1, 2, 3] rfl rfl (by decide +kernel) (by decide +kernel) hk1 hFc hP1 hD1
  clear hP1 hD1
  clear hz1 hk1 hPc hDc hFc
  generalize H1 = H at hP hS ht ⊢
  have hPD : pdW (dC, dI) vwCl A [(h0, .inr (4, [.ref q1, .ref q2, .ref q3])), (q1, .inl (cQ, 2, .inr (.inr (.inr (.inr (fun _ => none)))))), (q2, .inl (cI, 2, .inl (fun _ => 0))), (q3, .inl (cZ, 2, .inl (fun _ => 0))), (q5, .inr (1, [.int 0, .int 0, .ref (u7 0), .ref (u7 1), .ref (u7 2), .ref (u7 3), .ref (u7 4), .ref ho])), ((u7 0), .inl (cI, 8, .inl (fun _ => 0))), ((u7 1), .inl (cI, 8, .inl (fun _ => 0))), ((u7 2), .inl (cI, 8, .inl (fun _ => 0))), ((u7 3), .inl (cI, 4, .inl (fun _ => 0))), ((u7 4), .inl (cI, 4, .inl (fun _ => 0)))] H := ⟨hP, hD⟩
  have hP := hPD.1
  have hD := hPD.2
  clear hPD
  refine W.widen (k := 9) (n := 46) (Nat.le_of_ble_eq_true rfl) (Nat.le_of_ble_eq_true rfl) ?_
  try dsimp only at hw8
  refine va_astq hx hb hK hP hD hS 1 2 4 1 rfl rfl rfl rfl (vp_in_iff.mpr ⟨by decide, by decide⟩) dX4_init_46 (fun H locs hP hD hS => ?_)
  have hPD : pdW (dC, dI) vwCl A [(h0, .inr (4, [.ref q1, .ref q2, .ref q3])), (q1, .inl (cQ, 2, .inr (.inr (.inr (.inr (va_up (fun _ => none) (0 : Int32).toNatClampNeg (some q5))))))), (q2, .inl (cI, 2, .inl (fun _ => 0))), (q3, .inl (cZ, 2, .inl (fun _ => 0))), (q5, .inr (1, [.int 0, .int 0, .ref (u7 0), .ref (u7 1), .ref (u7 2), .ref (u7 3), .ref (u7 4), .ref ho])), ((u7 0), .inl (cI, 8, .inl (fun _ => 0))), ((u7 1), .inl (cI, 8, .inl (fun _ => 0))), ((u7 2), .inl (cI, 8, .inl (fun _ => 0))), ((u7 3), .inl (cI, 4, .inl (fun _ => 0))), ((u7 4), .inl (cI, 4, .inl (fun _ => 0)))] H := ⟨hP, hD⟩
  have hP := hPD.1
  have hD := hPD.2
  clear hPD
  refine lv_iinc (v := 1) (lv' := [(2, .int 1), (0, .ref h0), (1, .ref ho)]) hx hb dX4_init_47 hl (k := 0) rfl (by decide) (by decide) rfl (fun ls hl => ?_)
  refine lv_goto (tgt := 28) hx hb dX4_init_50 (by decide) ?_
  refine lv_iload_n hx hb dX4_init_28 rfl (lv_at hl 0 rfl) ?_
  refine lv_iconst (v := 2) hx hb dX4_init_29 (by decide) ?_
  refine lv_icmp_ge (tgt := 53) hx hb dX4_init_30 (by decide) (fun c9 => ?_) (fun c9 => ?_)
  · exact absurd c9 (by decide)
  clear c9
  refine lv_aload_n hx hb dX4_init_33 rfl (lv_at hl 1 rfl) ?_
  refine va_get (D := (dC, dI)) (ci := 4) (v := .ref q1) (C := RX4) (T := TX4) (N := 3) hx hb hts hi_X4 hown hK hP 0 rfl rfl 0 (by decide) (hts (.fieldLink RX4 11 "LeftQuills$Images" "desks" "[LLeftQuills$Desk;") (wmx 5 rfl)) (fun _ h9 => h9) rfl dX4_init_34 ?_
  refine lv_iload_n hx hb dX4_init_37 rfl (lv_at hl 0 rfl) ?_
  refine va_new (ci := 1) (fs := [.int 0, .int 0, .null, .null, .null, .null, .null, .null]) (C := RX1) (T := TX1) (N := 8) hx hb hts hi_X1 tyX1 tyX1_ok hown (hts (.classLink RX4 9 RX1) (wmx 4 rfl)) (hts (.instantiable RX1 8) (wmx 10 rfl)) (hts (.initialized RX1) (wmx 11 rfl)) hK hP hD hS hA rfl (fun j hj => by rcases (show j = 0 ∨ j = 1 ∨ j = 2 ∨ j = 3 ∨ j = 4 ∨ j = 5 ∨ j = 6 ∨ j = 7 by omega) with rfl | rfl | rfl | rfl | rfl | rfl | rfl | rfl <;> rfl) (Nat.le_of_ble_eq_true rfl) (Nat.le_of_ble_eq_true rfl) dX4_init_38 (fun q10 H hP hD hS => ?_)
  refine W.widen (k := 10) (n := 54) (Nat.le_of_ble_eq_true rfl) (Nat.le_of_ble_eq_true rfl) ?_
  have hPD : pdW (dC, dI) vwCl A [(h0, .inr (4, [.ref q1, .ref q2, .ref q3])), (q1, .inl (cQ, 2, .inr (.inr (.inr (.inr (va_up (fun _ => none) (0 : Int32).toNatClampNeg (some q5))))))), (q2, .inl (cI, 2, .inl (fun _ => 0))), (q3, .inl (cZ, 2, .inl (fun _ => 0))), (q5, .inr (1, [.int 0, .int 0, .ref (u7 0), .ref (u7 1), .ref (u7 2), .ref (u7 3), .ref (u7 4), .ref ho])), ((u7 0), .inl (cI, 8, .inl (fun _ => 0))), ((u7 1), .inl (cI, 8, .inl (fun _ => 0))), ((u7 2), .inl (cI, 8, .inl (fun _ => 0))), ((u7 3), .inl (cI, 4, .inl (fun _ => 0))), ((u7 4), .inl (cI, 4, .inl (fun _ => 0))), (q10, .inr (1, [.int 0, .int 0, .null, .null, .null, .null, .null, .null]))] H := ⟨hP, hD⟩
  have hP := hPD.1
  have hD := hPD.2
  clear hPD
  refine lv_dup hx hb dX4_init_41 rfl ?_
  refine lv_aload_n hx hb dX4_init_42 rfl (lv_at hl 2 rfl) ?_
  have hc9 := va_cut (W' := [(q10, .inr (1, [.int 0, .int 0, .null, .null, .null, .null, .null, .null]))]) hP hD hS hA [10] (by decide) rfl
  have hPc := hc9.1
  have hDc := hc9.2.1
  have hFc := hc9.2.2
  clear hc9
  refine va_callv (va_runI (As := [.ref ho]) (rest := [.ref q10, .int 1, .ref q1]) ⟨hx, hb, hml, hown, hts⟩ (c_X1_init l dC dI cI cZ cQ q10 ho H.size ) (cwI 1 hts gX4_init_X1_init rfl rfl rfl (hts (.initialized RX1) (wmx 11 rfl)) (hts (.methodLink RX4 23 yX1_init) (wmx 12 rfl)) (hts (.instanceMethod yX1_init) (wmx 13 rfl)) rfl (by decide +kernel) ⟨Nat.le_of_ble_eq_true rfl, Nat.le_of_ble_eq_true rfl⟩) (ps_D hK hPc hDc) rfl rfl hl.1 rfl (lv_room (Nat.le_of_ble_eq_true rfl)) dX4_init_43 ⟨Nat.le_of_ble_eq_true rfl, Nat.le_of_ble_eq_true rfl⟩) hS (fun q _ h => hFc q h) hFc (fun u12 t H1 locs ht hvm hw13 hB hz1 hk1 hS => ?_)
  obtain ⟨hP1, hD1⟩ := hB
  replace hP1 := va_hp ht hP1
  obtain ⟨hP, hD⟩ := va_join (wr := [(h0, .inr (4, [.ref q1, .ref q2, .ref q3])), (q1, .inl (cQ, 2, .inr (.inr (.inr (.inr (va_up (fun _ => none) (0 : Int32).toNatClampNeg (some q5))))))), (q2, .inl (cI, 2, .inl (fun _ => 0))), (q3, .inl (cZ, 2, .inl (fun _ => 0))), (q5, .inr (1, [.int 0, .int 0, .ref (u7 0), .ref (u7 1), .ref (u7 2), .ref (u7 3), .ref (u7 4), .ref ho])), ((u7 0), .inl (cI, 8, .inl (fun _ => 0))), ((u7 1), .inl (cI, 8, .inl (fun _ => 0))), ((u7 2), .inl (cI, 8, .inl (fun _ => 0))), ((u7 3), .inl (cI, 4, .inl (fun _ => 0))), ((u7 4), .inl (cI, 4, .inl (fun _ => 0)))]) (w1 := [(q10, .inr (1, [.int 0, .int 0, .ref (u12 0), .ref (u12 1), .ref (u12 2), .ref (u12 3), .ref (u12 4), .ref ho])), ((u12 0), .inl (cI, 8, .inl (fun _ => 0))), ((u12 1), .inl (cI, 8, .inl (fun _ => 0))), ((u12 2), .inl (cI, 8, .inl (fun _ => 0))), ((u12 3), .inl (cI, 4, .inl (fun _ => 0))), ((u12 4), .inl (cI, 4, .inl (fun _ => 0)))]) hP hD [10] [0, 1, 2, 3, 4, 5, 6, 7, 8, 9] rfl rfl (by decide +kernel) (by decide +kernel) hk1 hFc hP1 hD1
  clear hP1 hD1
  clear hz1 hk1 hPc hDc hFc
  generalize H1 = H at hP hS ht ⊢
  have hPD : pdW (dC, dI) vwCl A [(h0, .inr (4, [.ref q1, .ref q2, .ref q3])), (q1, .inl (cQ, 2, .inr (.inr (.inr (.inr (va_up (fun _ => none) (0 : Int32).toNatClampNeg (some q5))))))), (q2, .inl (cI, 2, .inl (fun _ => 0))), (q3, .inl (cZ, 2, .inl (fun _ => 0))), (q5, .inr (1, [.int 0, .int 0, .ref (u7 0), .ref (u7 1), .ref (u7 2), .ref (u7 3), .ref (u7 4), .ref ho])), ((u7 0), .inl (cI, 8, .inl (fun _ => 0))), ((u7 1), .inl (cI, 8, .inl (fun _ => 0))), ((u7 2), .inl (cI, 8, .inl (fun _ => 0))), ((u7 3), .inl (cI, 4, .inl (fun _ => 0))), ((u7 4), .inl (cI, 4, .inl (fun _ => 0))), (q10, .inr (1, [.int 0, .int 0, .ref (u12 0), .ref (u12 1), .ref (u12 2), .ref (u12 3), .ref (u12 4), .ref ho])), ((u12 0), .inl (cI, 8, .inl (fun _ => 0))), ((u12 1), .inl (cI, 8, .inl (fun _ => 0))), ((u12 2), .inl (cI, 8, .inl (fun _ => 0))), ((u12 3), .inl (cI, 4, .inl (fun _ => 0))), ((u12 4), .inl (cI, 4, .inl (fun _ => 0)))] H := ⟨hP, hD⟩
  have hP := hPD.1
  have hD := hPD.2
  clear hPD
  refine W.widen (k := 15) (n := 86) (Nat.le_of_ble_eq_true rfl) (Nat.le_of_ble_eq_true rfl) ?_
  try dsimp only at hw13
  refine va_astq hx hb hK hP hD hS 1 2 10 1 rfl rfl rfl rfl (vp_in_iff.mpr ⟨by decide, by decide⟩) dX4_init_46 (fun H locs hP hD hS => ?_)
  have hPD : pdW (dC, dI) vwCl A [(h0, .inr (4, [.ref q1, .ref q2, .ref q3])), (q1, .inl (cQ, 2, .inr (.inr (.inr (.inr (va_up (va_up (fun _ => none) (0 : Int32).toNatClampNeg (some q5)) (1 : Int32).toNatClampNeg (some q10))))))), (q2, .inl (cI, 2, .inl (fun _ => 0))), (q3, .inl (cZ, 2, .inl (fun _ => 0))), (q5, .inr (1, [.int 0, .int 0, .ref (u7 0), .ref (u7 1), .ref (u7 2), .ref (u7 3), .ref (u7 4), .ref ho])), ((u7 0), .inl (cI, 8, .inl (fun _ => 0))), ((u7 1), .inl (cI, 8, .inl (fun _ => 0))), ((u7 2), .inl (cI, 8, .inl (fun _ => 0))), ((u7 3), .inl (cI, 4, .inl (fun _ => 0))), ((u7 4), .inl (cI, 4, .inl (fun _ => 0))), (q10, .inr (1, [.int 0, .int 0, .ref (u12 0), .ref (u12 1), .ref (u12 2), .ref (u12 3), .ref (u12 4), .ref ho])), ((u12 0), .inl (cI, 8, .inl (fun _ => 0))), ((u12 1), .inl (cI, 8, .inl (fun _ => 0))), ((u12 2), .inl (cI, 8, .inl (fun _ => 0))), ((u12 3), .inl (cI, 4, .inl (fun _ => 0))), ((u12 4), .inl (cI, 4, .inl (fun _ => 0)))] H := ⟨hP, hD⟩
  have hP := hPD.1
  have hD := hPD.2
  clear hPD
  refine lv_iinc (v := 2) (lv' := [(2, .int 2), (0, .ref h0), (1, .ref ho)]) hx hb dX4_init_47 hl (k := 0) rfl (by decide) (by decide) rfl (fun ls hl => ?_)
  refine lv_goto (tgt := 28) hx hb dX4_init_50 (by decide) ?_
  refine lv_iload_n hx hb dX4_init_28 rfl (lv_at hl 0 rfl) ?_
  refine lv_iconst (v := 2) hx hb dX4_init_29 (by decide) ?_
  refine lv_icmp_ge (tgt := 53) hx hb dX4_init_30 (by decide) (fun c14 => ?_) (fun c14 => ?_)
  rotate_left
  · exact absurd c14 (by decide)
  clear c14
  have hP9 := hP.sub (ws' := [(h0, .inr (4, [.ref q1, .ref q2, .ref q3])), (q1, .inl (cQ, 2, .inr (.inr (.inr (.inr (va_up (va_up (fun _ => none) (0 : Int32).toNatClampNeg (some q5)) (1 : Int32).toNatClampNeg (some q10))))))), (q2, .inl (cI, 2, .inl (fun _ => 0))), (q3, .inl (cZ, 2, .inl (fun _ => 0))), (q5, .inr (1, [.int 0, .int 0, .ref (u7 0), .ref (u7 1), .ref (u7 2), .ref (u7 3), .ref (u7 4), .ref ho])), ((u7 0), .inl (cI, 8, .inl (fun _ => 0))), ((u7 1), .inl (cI, 8, .inl (fun _ => 0))), ((u7 2), .inl (cI, 8, .inl (fun _ => 0))), ((u7 3), .inl (cI, 4, .inl (fun _ => 0))), ((u7 4), .inl (cI, 4, .inl (fun _ => 0))), (q10, .inr (1, [.int 0, .int 0, .ref (u12 0), .ref (u12 1), .ref (u12 2), .ref (u12 3), .ref (u12 4), .ref ho])), ((u12 0), .inl (cI, 8, .inl (fun _ => 0))), ((u12 1), .inl (cI, 8, .inl (fun _ => 0))), ((u12 2), .inl (cI, 8, .inl (fun _ => 0))), ((u12 3), .inl (cI, 4, .inl (fun _ => 0))), ((u12 4), .inl (cI, 4, .inl (fun _ => 0)))]) [0, 1, 2, 3, 4, 5, 6, 7, 8, 9, 10, 11, 12, 13, 14, 15] rfl
  have hD9 := hD.sub (ws' := [(h0, .inr (4, [.ref q1, .ref q2, .ref q3])), (q1, .inl (cQ, 2, .inr (.inr (.inr (.inr (va_up (va_up (fun _ => none) (0 : Int32).toNatClampNeg (some q5)) (1 : Int32).toNatClampNeg (some q10))))))), (q2, .inl (cI, 2, .inl (fun _ => 0))), (q3, .inl (cZ, 2, .inl (fun _ => 0))), (q5, .inr (1, [.int 0, .int 0, .ref (u7 0), .ref (u7 1), .ref (u7 2), .ref (u7 3), .ref (u7 4), .ref ho])), ((u7 0), .inl (cI, 8, .inl (fun _ => 0))), ((u7 1), .inl (cI, 8, .inl (fun _ => 0))), ((u7 2), .inl (cI, 8, .inl (fun _ => 0))), ((u7 3), .inl (cI, 4, .inl (fun _ => 0))), ((u7 4), .inl (cI, 4, .inl (fun _ => 0))), (q10, .inr (1, [.int 0, .int 0, .ref (u12 0), .ref (u12 1), .ref (u12 2), .ref (u12 3), .ref (u12 4), .ref ho])), ((u12 0), .inl (cI, 8, .inl (fun _ => 0))), ((u12 1), .inl (cI, 8, .inl (fun _ => 0))), ((u12 2), .inl (cI, 8, .inl (fun _ => 0))), ((u12 3), .inl (cI, 4, .inl (fun _ => 0))), ((u12 4), .inl (cI, 4, .inl (fun _ => 0)))]) [0, 1, 2, 3, 4, 5, 6, 7, 8, 9, 10, 11, 12, 13, 14, 15] (by decide +kernel) rfl
  refine W.widen (k := 15) (n := 86) (Nat.le_of_ble_eq_true rfl) (Nat.le_of_ble_eq_true rfl) ?_
  exact W.vret hx hb hr (fun t ht hW => ⟨⟨(vn [q1, q2, q3, q5, q10, (u7 0), (u7 1), (u7 2), (u7 3), (u7 4), (u12 0), (u12 1), (u12 2), (u12 3), (u12 4)]), rfl, by first | trivial | rfl | (simp_all; done), ⟨va_hq ht hP9, hD9⟩⟩, hS.F ht⟩) hS.2.2 dX4_init_53
set_option maxHeartbeats 4000000 in
set_option maxRecDepth 100000 in
theorem c_X11_init (l : Launch) (dC : Nat → ClassId) (dI : Nat → Nat → Nat) (cI cZ cQ : ClassId) (h0 : Nat) (sz : Nat)  : Met l yX11_init wsX11_init ({ frames := 1, cells := 27, slots := 1187, locals := 40 }) (va_Pc [.ref h0] (fun U => U.heap.size = sz ∧ va_P (dC, dI) vwCl [(h0, .inr (11, (.int 0 :: .int 0 :: .int 0 :: .null :: .null :: .null :: .int 0 :: .null :: .null :: .null :: .null :: .int 0 :: .null :: .int 0 :: .int 0 :: .int 0 :: .int 0 :: .int 0 :: .null :: .int 0 :: .null :: .null :: .null :: .null :: .null :: .int 0 :: .null :: .null :: .null :: .int 0 :: .null :: .int 0 :: .int 0 :: .null :: .int 0 :: .int 0 :: .null :: .int 0 :: .null :: .null :: .null :: .int 0 :: .null :: .null :: .null :: .null :: [])))] U.heap ∧ va_K (dC, dI) vwCl (tys0 cI cZ cQ) U ∧ va_D (fun _ => True) [(h0, .inr (11, (.int 0 :: .int 0 :: .int 0 :: .null :: .null :: .null :: .int 0 :: .null :: .null :: .null :: .null :: .int 0 :: .null :: .int 0 :: .int 0 :: .int 0 :: .int 0 :: .int 0 :: .null :: .int 0 :: .null :: .null :: .null :: .null :: .null :: .int 0 :: .null :: .null :: .null :: .int 0 :: .null :: .int 0 :: .int 0 :: .null :: .int 0 :: .int 0 :: .null :: .int 0 :: .null :: .null :: .null :: .int 0 :: .null :: .null :: .null :: .null :: [])))])) (va_Qv (fun (u : Nat → Nat) => True) (fun (u : Nat → Nat) (t : State) => va_P (dC, dI) vwCl [(h0, .inr (11, (.int 0 :: .int 0 :: .int 0 :: .ref (u 0) :: .ref (u 1) :: .ref (u 2) :: .int 0 :: .ref (u 3) :: .ref (u 4) :: .ref (u 5) :: .ref (u 6) :: .int 0 :: .ref (u 7) :: .int 0 :: .int (-1) :: .int 0 :: .int 0 :: .int 0 :: .ref (u 8) :: .int 0 :: .ref (u 9) :: .ref (u 10) :: .ref (u 11) :: .ref (u 12) :: .ref (u 13) :: .int 0 :: .ref (u 14) :: .ref (u 15) :: .ref (u 16) :: .int 0 :: .ref (u 17) :: .int 0 :: .int 0 :: .ref (u 18) :: .int 0 :: .int 0 :: .ref (u 19) :: .int 0 :: .ref (u 20) :: .ref (u 21) :: .ref (u 22) :: .int 0 :: .ref (u 23) :: .ref (u 24) :: .ref (u 25) :: .ref (u 26) :: []))), ((u 0), .inl (cI, 8, .inl (fun _ => 0))), ((u 1), .inl (cI, 8, .inl (fun _ => 0))), ((u 2), .inl (cI, 8, .inl (fun _ => 0))), ((u 3), .inl (cI, 4, .inl (fun _ => 0))), ((u 4), .inl (cI, 4, .inl (fun _ => 0))), ((u 5), .inl (cI, 4, .inl (fun _ => 0))), ((u 6), .inl (cI, 34, .inl (fun _ => 0))), ((u 7), .inl (cI, 220, .inl (fun _ => 0))), ((u 8), .inl (cI, 2, .inl (fun _ => 0))), ((u 9), .inl (cI, 8, .inl (fun _ => 0))), ((u 10), .inl (cI, 8, .inl (fun _ => 0))), ((u 11), .inl (cI, 8, .inl (fun _ => 0))), ((u 12), .inl (cI, 8, .inl (fun _ => 0))), ((u 13), .inl (cI, 8, .inl (fun _ => 0))), ((u 14), .inl (cI, 4, .inl (fun _ => 0))), ((u 15), .inl (cI, 4, .inl (fun _ => 0))), ((u 16), .inl (cI, 4, .inl (fun _ => 0))), ((u 17), .inl (cI, 680, .inl (fun _ => 0))), ((u 18), .inl (cI, 34, .inl (fun _ => 0))), ((u 19), .inl (cI, 9, .inl (fun _ => 0))), ((u 20), .inl (cI, 6, .inl (fun _ => 0))), ((u 21), .inl (cI, 6, .inl (fun _ => 0))), ((u 22), .inl (cI, 6, .inl (fun _ => 0))), ((u 23), .inl (cI, 15, .inl (fun _ => 0))), ((u 24), .inl (cI, 15, .inl (fun _ => 0))), ((u 25), .inl (cI, 70, .inl (fun _ => 0))), ((u 26), .inl (cZ, 2, .inl (fun _ => 0)))] t.heap ∧ va_D (va_A [(h0, .inr (11, (.int 0 :: .int 0 :: .int 0 :: .null :: .null :: .null :: .int 0 :: .null :: .null :: .null :: .null :: .int 0 :: .null :: .int 0 :: .int 0 :: .int 0 :: .int 0 :: .int 0 :: .null :: .int 0 :: .null :: .null :: .null :: .null :: .null :: .int 0 :: .null :: .null :: .null :: .int 0 :: .null :: .int 0 :: .int 0 :: .null :: .int 0 :: .int 0 :: .null :: .int 0 :: .null :: .null :: .null :: .int 0 :: .null :: .null :: .null :: .null :: [])))] sz) [(h0, .inr (11, (.int 0 :: .int 0 :: .int 0 :: .ref (u 0) :: .ref (u 1) :: .ref (u 2) :: .int 0 :: .ref (u 3) :: .ref (u 4) :: .ref (u 5) :: .ref (u 6) :: .int 0 :: .ref (u 7) :: .int 0 :: .int (-1) :: .int 0 :: .int 0 :: .int 0 :: .ref (u 8) :: .int 0 :: .ref (u 9) :: .ref (u 10) :: .ref (u 11) :: .ref (u 12) :: .ref (u 13) :: .int 0 :: .ref (u 14) :: .ref (u 15) :: .ref (u 16) :: .int 0 :: .ref (u 17) :: .int 0 :: .int 0 :: .ref (u 18) :: .int 0 :: .int 0 :: .ref (u 19) :: .int 0 :: .ref (u 20) :: .ref (u 21) :: .ref (u 22) :: .int 0 :: .ref (u 23) :: .ref (u 24) :: .ref (u 25) :: .ref (u 26) :: []))), ((u 0), .inl (cI, 8, .inl (fun _ => 0))), ((u 1), .inl (cI, 8, .inl (fun _ => 0))), ((u 2), .inl (cI, 8, .inl (fun _ => 0))), ((u 3), .inl (cI, 4, .inl (fun _ => 0))), ((u 4), .inl (cI, 4, .inl (fun _ => 0))), ((u 5), .inl (cI, 4, .inl (fun _ => 0))), ((u 6), .inl (cI, 34, .inl (fun _ => 0))), ((u 7), .inl (cI, 220, .inl (fun _ => 0))), ((u 8), .inl (cI, 2, .inl (fun _ => 0))), ((u 9), .inl (cI, 8, .inl (fun _ => 0))), ((u 10), .inl (cI, 8, .inl (fun _ => 0))), ((u 11), .inl (cI, 8, .inl (fun _ => 0))), ((u 12), .inl (cI, 8, .inl (fun _ => 0))), ((u 13), .inl (cI, 8, .inl (fun _ => 0))), ((u 14), .inl (cI, 4, .inl (fun _ => 0))), ((u 15), .inl (cI, 4, .inl (fun _ => 0))), ((u 16), .inl (cI, 4, .inl (fun _ => 0))), ((u 17), .inl (cI, 680, .inl (fun _ => 0))), ((u 18), .inl (cI, 34, .inl (fun _ => 0))), ((u 19), .inl (cI, 9, .inl (fun _ => 0))), ((u 20), .inl (cI, 6, .inl (fun _ => 0))), ((u 21), .inl (cI, 6, .inl (fun _ => 0))), ((u 22), .inl (cI, 6, .inl (fun _ => 0))), ((u 23), .inl (cI, 15, .inl (fun _ => 0))), ((u 24), .inl (cI, 15, .inl (fun _ => 0))), ((u 25), .inl (cI, 70, .inl (fun _ => 0))), ((u 26), .inl (cZ, 2, .inl (fun _ => 0)))]) (va_A [(h0, .inr (11, (.int 0 :: .int 0 :: .int 0 :: .null :: .null :: .null :: .int 0 :: .null :: .null :: .null :: .null :: .int 0 :: .null :: .int 0 :: .int 0 :: .int 0 :: .int 0 :: .int 0 :: .null :: .int 0 :: .null :: .null :: .null :: .null :: .null :: .int 0 :: .null :: .null :: .null :: .int 0 :: .null :: .int 0 :: .int 0 :: .null :: .int 0 :: .int 0 :: .null :: .int 0 :: .null :: .null :: .null :: .int 0 :: .null :: .null :: .null :: .null :: [])))] sz)) 27 1187 (va_A [(h0, .inr (11, (.int 0 :: .int 0 :: .int 0 :: .null :: .null :: .null :: .int 0 :: .null :: .null :: .null :: .null :: .int 0 :: .null :: .int 0 :: .int 0 :: .int 0 :: .int 0 :: .int 0 :: .null :: .int 0 :: .null :: .null :: .null :: .null :: .null :: .int 0 :: .null :: .null :: .null :: .int 0 :: .null :: .int 0 :: .int 0 :: .null :: .int 0 :: .int 0 :: .null :: .int 0 :: .null :: .null :: .null :: .int 0 :: .null :: .null :: .null :: .null :: [])))] sz) := by
  refine Met.ofW (cc := cX11_init) (maxL := 1) (ret := none) (by decide) rfl ?_
  intro p e s m args below meth c s₁ B hml hv
  obtain ⟨rfl, hsz, hP, hK, hD0⟩ := hv
  have hx := B.exec
  have hb := B.bytes
  have hr := B.returns
  have hts := atoms_spec (ws := wsX11_init) B.pre
  have hown : s.vm.findClass RX11 = some m.cls := findClass_of_methodNamed B.named
  have hlocks := B.notSynchronized
  have hin : meth.name = "<init>" := (name_of_methodNamed B.named B.method).1
  have hi_X11 : ∀ w ∈ u_ws RX11 TX11 46, w ∈ wsX11_init := fun _ h => List.mem_cons_of_mem _ (List.mem_append_right _ (h))
  subst hsz
  have hD := hD0.self (sz := s.heap.size)
  generalize hAe : va_A [(h0, .inr (11, (.int 0 :: .int 0 :: .int 0 :: .null :: .null :: .null :: .int 0 :: .null :: .null :: .null :: .null :: .int 0 :: .null :: .int 0 :: .int 0 :: .int 0 :: .int 0 :: .int 0 :: .null :: .int 0 :: .null :: .null :: .null :: .null :: .null :: .int 0 :: .null :: .null :: .null :: .int 0 :: .null :: .int 0 :: .int 0 :: .null :: .int 0 :: .int 0 :: .null :: .int 0 :: .null :: .null :: .null :: .int 0 :: .null :: .null :: .null :: .null :: [])))] s.heap.size = A at hD ⊢
  have hA : ∀ q : Nat, s.heap.size ≤ q → A q := fun q h => by rw [← hAe]; exact Or.inr h
  have hS : va_S A s.heap s.heap [] := va_S.rf
  have hl := lv_entry ([.ref h0]) (n := 1) (Nat.le_of_ble_eq_true rfl)
  rw [lg_entry_eq]
  generalize (lg_sl ([.ref h0]) ++ List.replicate (1 - (lg_sl ([.ref h0])).length) Slot.unset).toArray = ls at hl ⊢
  have hl : lv_has ls 1 [(0, .ref h0)] := hl
  refine lv_aload_n hx hb dX11_init_0 rfl (lv_at hl 0 rfl) ?_
  refine W.objInit hx hb hown (hts (.methodLink RX11 1 objectInit) (wmx 1 rfl)) (hts (.instanceMethod objectInit) (wmx 2 rfl)) (hts (.code objectInit ⟨#[0xb1]⟩ 1 none) (wmx 3 rfl)) rfl (by rw [hml]; exact hl.1) rfl dX11_init_1 (Nat.le_of_ble_eq_true rfl) (Nat.le_of_ble_eq_true rfl) ?_
  refine W.eq (g2 := F0 m 4 ls []) rfl ?_
  refine lv_aload_n hx hb dX11_init_4 rfl (lv_at hl 0 rfl) ?_
  refine lv_bipush (v := 8) hx hb dX11_init_5 (by decide) ?_
  refine va_newa (atype := .int) (ty := .int) (n := 8) (a0 := (8, .inl (fun _ => 0))) (N' := 8) hx hb (hts (.arrayClass .int) (wmx 4 rfl)) rfl hK hP hD hS hA (fun _ => rfl) (by decide) (by decide) (by decide) (Nat.le_of_ble_eq_true rfl) (Nat.le_of_ble_eq_true rfl) dX11_init_7 (fun q1 cA H hKn hP hD hS => ?_)
  have ecA := xcI hKn
  subst ecA
  clear hKn
  refine W.widen (k := 1) (n := 8) (Nat.le_of_ble_eq_true rfl) (Nat.le_of_ble_eq_true rfl) ?_
  have hPD : pdW (dC, dI) vwCl A [(h0, .inr (11, (.int 0 :: .int 0 :: .int 0 :: .null :: .null :: .null :: .int 0 :: .null :: .null :: .null :: .null :: .int 0 :: .null :: .int 0 :: .int 0 :: .int 0 :: .int 0 :: .int 0 :: .null :: .int 0 :: .null :: .null :: .null :: .null :: .null :: .int 0 :: .null :: .null :: .null :: .int 0 :: .null :: .int 0 :: .int 0 :: .null :: .int 0 :: .int 0 :: .null :: .int 0 :: .null :: .null :: .null :: .int 0 :: .null :: .null :: .null :: .null :: []))), (q1, .inl (cI, 8, .inl (fun _ => 0)))] H := ⟨hP, hD⟩
  have hP := hPD.1
  have hD := hPD.2
  clear hPD
  refine va_putF (D := (dC, dI)) (ci := 11) (v := .ref q1) (ty := .array .int) (C := RX11) (T := TX11) (N := 46) hx hb hts hi_X11 tyX11 tyX11_ok nmX11 hown hK hP hD hS 0 rfl rfl 3 (by decide) (hts (.fieldLink RX11 7 "LeftQuillsModel" "wing" "[I") (wmx 5 rfl)) (fun _ h9 => h9) rfl hin rfl (by decide +kernel) rfl rfl (Nat.le_of_ble_eq_true rfl) dX11_init_9 (fun H locs hP hD hS => ?_)
  have hPD : pdW (dC, dI) vwCl A [(h0, .inr (11, (.int 0 :: .int 0 :: .int 0 :: .ref q1 :: .null :: .null :: .int 0 :: .null :: .null :: .null :: .null :: .int 0 :: .null :: .int 0 :: .int 0 :: .int 0 :: .int 0 :: .int 0 :: .null :: .int 0 :: .null :: .null :: .null :: .null :: .null :: .int 0 :: .null :: .null :: .null :: .int 0 :: .null :: .int 0 :: .int 0 :: .null :: .int 0 :: .int 0 :: .null :: .int 0 :: .null :: .null :: .null :: .int 0 :: .null :: .null :: .null :: .null :: []))), (q1, .inl (cI, 8, .inl (fun _ => 0)))] H := ⟨hP, hD⟩
  have hP := hPD.1
  have hD := hPD.2
  clear hPD
  refine lv_aload_n hx hb dX11_init_12 rfl (lv_at hl 0 rfl) ?_
  refine lv_bipush (v := 8) hx hb dX11_init_13 (by decide) ?_
  refine va_newa (atype := .int) (ty := .int) (n := 8) (a0 := (8, .inl (fun _ => 0))) (N' := 8) hx hb (hts (.arrayClass .int) (wmx 4 rfl)) rfl hK hP hD hS hA (fun _ => rfl) (by decide) (by decide) (by decide) (Nat.le_of_ble_eq_true rfl) (Nat.le_of_ble_eq_true rfl) dX11_init_15 (fun q2 cA H hKn hP hD hS => ?_)
  have ecA := xcI hKn
  subst ecA
  clear hKn
  refine W.widen (k := 2) (n := 16) (Nat.le_of_ble_eq_true rfl) (Nat.le_of_ble_eq_true rfl) ?_
  have hPD : pdW (dC, dI) vwCl A [(h0, .inr (11, (.int 0 :: .int 0 :: .int 0 :: .ref q1 :: .null :: .null :: .int 0 :: .null :: .null :: .null :: .null :: .int 0 :: .null :: .int 0 :: .int 0 :: .int 0 :: .int 0 :: .int 0 :: .null :: .int 0 :: .null :: .null :: .null :: .null :: .null :: .int 0 :: .null :: .null :: .null :: .int 0 :: .null :: .int 0 :: .int 0 :: .null :: .int 0 :: .int 0 :: .null :: .int 0 :: .null :: .null :: .null :: .int 0 :: .null :: .null :: .null :: .null :: []))), (q1, .inl (cI, 8, .inl (fun _ => 0))), (q2, .inl (cI, 8, .inl (fun _ => 0)))] H := ⟨hP, hD⟩
  have hP := hPD.1
  have hD := hPD.2
  clear hPD
  refine va_putF (D := (dC, dI)) (ci := 11) (v := .ref q2) (ty := .array .int) (C := RX11) (T := TX11) (N := 46) hx hb hts hi_X11 tyX11 tyX11_ok nmX11 hown hK hP hD hS 0 rfl rfl 4 (by decide) (hts (.fieldLink RX11 13 "LeftQuillsModel" "place" "[I") (wmx 6 rfl)) (fun _ h9 => h9) rfl hin rfl (by decide +kernel) rfl rfl (Nat.le_of_ble_eq_true rfl) dX11_init_17 (fun H locs hP hD hS => ?_)
  have hPD : pdW (dC, dI) vwCl A [(h0, .inr (11, (.int 0 :: .int 0 :: .int 0 :: .ref q1 :: .ref q2 :: .null :: .int 0 :: .null :: .null :: .null :: .null :: .int 0 :: .null :: .int 0 :: .int 0 :: .int 0 :: .int 0 :: .int 0 :: .null :: .int 0 :: .null :: .null :: .null :: .null :: .null :: .int 0 :: .null :: .null :: .null :: .int 0 :: .null :: .int 0 :: .int 0 :: .null :: .int 0 :: .int 0 :: .null :: .int 0 :: .null :: .null :: .null :: .int 0 :: .null :: .null :: .null :: .null :: []))), (q1, .inl (cI, 8, .inl (fun _ => 0))), (q2, .inl (cI, 8, .inl (fun _ => 0)))] H := ⟨hP, hD⟩
  have hP := hPD.1
  have hD := hPD.2
  clear hPD
  refine lv_aload_n hx hb dX11_init_20 rfl (lv_at hl 0 rfl) ?_
  refine lv_bipush (v := 8) hx hb dX11_init_21 (by decide) ?_
  refine va_newa (atype := .int) (ty := .int) (n := 8) (a0 := (8, .inl (fun _ => 0))) (N' := 8) hx hb (hts (.arrayClass .int) (wmx 4 rfl)) rfl hK hP hD hS hA (fun _ => rfl) (by decide) (by decide) (by decide) (Nat.le_of_ble_eq_true rfl) (Nat.le_of_ble_eq_true rfl) dX11_init_23 (fun q3 cA H hKn hP hD hS => ?_)
  have ecA := xcI hKn
  subst ecA
  clear hKn
  refine W.widen (k := 3) (n := 24) (Nat.le_of_ble_eq_true rfl) (Nat.le_of_ble_eq_true rfl) ?_
  have hPD : pdW (dC, dI) vwCl A [(h0, .inr (11, (.int 0 :: .int 0 :: .int 0 :: .ref q1 :: .ref q2 :: .null :: .int 0 :: .null :: .null :: .null :: .null :: .int 0 :: .null :: .int 0 :: .int 0 :: .int 0 :: .int 0 :: .int 0 :: .null :: .int 0 :: .null :: .null :: .null :: .null :: .null :: .int 0 :: .null :: .null :: .null :: .int 0 :: .null :: .int 0 :: .int 0 :: .null :: .int 0 :: .int 0 :: .null :: .int 0 :: .null :: .null :: .null :: .int 0 :: .null :: .null :: .null :: .null :: []))), (q1, .inl (cI, 8, .inl (fun _ => 0))), (q2, .inl (cI, 8, .inl (fun _ => 0))), (q3, .inl (cI, 8, .inl (fun _ => 0)))] H := ⟨hP, hD⟩
  have hP := hPD.1
  have hD := hPD.2
  clear hPD
  refine va_putF (D := (dC, dI)) (ci := 11) (v := .ref q3) (ty := .array .int) (C := RX11) (T := TX11) (N := 46) hx hb hts hi_X11 tyX11 tyX11_ok nmX11 hown hK hP hD hS 0 rfl rfl 5 (by decide) (hts (.fieldLink RX11 16 "LeftQuillsModel" "cooked" "[I") (wmx 7 rfl)) (fun _ h9 => h9) rfl hin rfl (by decide +kernel) rfl rfl (Nat.le_of_ble_eq_true rfl) dX11_init_25 (fun H locs hP hD hS => ?_)
  have hPD : pdW (dC, dI) vwCl A [(h0, .inr (11, (.int 0 :: .int 0 :: .int 0 :: .ref q1 :: .ref q2 :: .ref q3 :: .int 0 :: .null :: .null :: .null :: .null :: .int 0 :: .null :: .int 0 :: .int 0 :: .int 0 :: .int 0 :: .int 0 :: .null :: .int 0 :: .null :: .null :: .null :: .null :: .null :: .int 0 :: .null :: .null :: .null :: .int 0 :: .null :: .int 0 :: .int 0 :: .null :: .int 0 :: .int 0 :: .null :: .int 0 :: .null :: .null :: .null :: .int 0 :: .null :: .null :: .null :: .null :: []))), (q1, .inl (cI, 8, .inl (fun _ => 0))), (q2, .inl (cI, 8, .inl (fun _ => 0))), (q3, .inl (cI, 8, .inl (fun _ => 0)))] H := ⟨hP, hD⟩
  have hP := hPD.1
  have hD := hPD.2
  clear hPD
  refine lv_aload_n hx hb dX11_init_28 rfl (lv_at hl 0 rfl) ?_
  refine lv_iconst (v := 4) hx hb dX11_init_29 (by decide) ?_
  refine va_newa (atype := .int) (ty := .int) (n := 4) (a0 := (4, .inl (fun _ => 0))) (N' := 4) hx hb (hts (.arrayClass .int) (wmx 4 rfl)) rfl hK hP hD hS hA (fun _ => rfl) (by decide) (by decide) (by decide) (Nat.le_of_ble_eq_true rfl) (Nat.le_of_ble_eq_true rfl) dX11_init_30 (fun q4 cA H hKn hP hD hS => ?_)
  have ecA := xcI hKn
  subst ecA
  clear hKn
  refine W.widen (k := 4) (n := 28) (Nat.le_of_ble_eq_true rfl) (Nat.le_of_ble_eq_true rfl) ?_
  have hPD : pdW (dC, dI) vwCl A [(h0, .inr (11, (.int 0 :: .int 0 :: .int 0 :: .ref q1 :: .ref q2 :: .ref q3 :: .int 0 :: .null :: .null :: .null :: .null :: .int 0 :: .null :: .int 0 :: .int 0 :: .int 0 :: .int 0 :: .int 0 :: .null :: .int 0 :: .null :: .null :: .null :: .null :: .null :: .int 0 :: .null :: .null :: .null :: .int 0 :: .null :: .int 0 :: .int 0 :: .null :: .int 0 :: .int 0 :: .null :: .int 0 :: .null :: .null :: .null :: .int 0 :: .null :: .null :: .null :: .null :: []))), (q1, .inl (cI, 8, .inl (fun _ => 0))), (q2, .inl (cI, 8, .inl (fun _ => 0))), (q3, .inl (cI, 8, .inl (fun _ => 0))), (q4, .inl (cI, 4, .inl (fun _ => 0)))] H := ⟨hP, hD⟩
  have hP := hPD.1
  have hD := hPD.2
  clear hPD
  refine va_putF (D := (dC, dI)) (ci := 11) (v := .ref q4) (ty := .array .int) (C := RX11) (T := TX11) (N := 46) hx hb hts hi_X11 tyX11 tyX11_ok nmX11 hown hK hP hD hS 0 rfl rfl 7 (by decide) (hts (.fieldLink RX11 19 "LeftQuillsModel" "side" "[I") (wmx 8 rfl)) (fun _ h9 => h9) rfl hin rfl (by decide +kernel) rfl rfl (Nat.le_of_ble_eq_true rfl) dX11_init_32 (fun H locs hP hD hS => ?_)
  have hPD : pdW (dC, dI) vwCl A [(h0, .inr (11, (.int 0 :: .int 0 :: .int 0 :: .ref q1 :: .ref q2 :: .ref q3 :: .int 0 :: .ref q4 :: .null :: .null :: .null :: .int 0 :: .null :: .int 0 :: .int 0 :: .int 0 :: .int 0 :: .int 0 :: .null :: .int 0 :: .null :: .null :: .null :: .null :: .null :: .int 0 :: .null :: .null :: .null :: .int 0 :: .null :: .int 0 :: .int 0 :: .null :: .int 0 :: .int 0 :: .null :: .int 0 :: .null :: .null :: .null :: .int 0 :: .null :: .null :: .null :: .null :: []))), (q1, .inl (cI, 8, .inl (fun _ => 0))), (q2, .inl (cI, 8, .inl (fun _ => 0))), (q3, .inl (cI, 8, .inl (fun _ => 0))), (q4, .inl (cI, 4, .inl (fun _ => 0)))] H := ⟨hP, hD⟩
  have hP := hPD.1
  have hD := hPD.2
  clear hPD
  refine lv_aload_n hx hb dX11_init_35 rfl (lv_at hl 0 rfl) ?_
  refine lv_iconst (v := 4) hx hb dX11_init_36 (by decide) ?_
  refine va_newa (atype := .int) (ty := .int) (n := 4) (a0 := (4, .inl (fun _ => 0))) (N' := 4) hx hb (hts (.arrayClass .int) (wmx 4 rfl)) rfl hK hP hD hS hA (fun _ => rfl) (by decide) (by decide) (by decide) (Nat.le_of_ble_eq_true rfl) (Nat.le_of_ble_eq_true rfl) dX11_init_37 (fun q5 cA H hKn hP hD hS => ?_)
  have ecA := xcI hKn
  subst ecA
  clear hKn
  refine W.widen (k := 5) (n := 32) (Nat.le_of_ble_eq_true rfl) (Nat.le_of_ble_eq_true rfl) ?_
  have hPD : pdW (dC, dI) vwCl A [(h0, .inr (11, (.int 0 :: .int 0 :: .int 0 :: .ref q1 :: .ref q2 :: .ref q3 :: .int 0 :: .ref q4 :: .null :: .null :: .null :: .int 0 :: .null :: .int 0 :: .int 0 :: .int 0 :: .int 0 :: .int 0 :: .null :: .int 0 :: .null :: .null :: .null :: .null :: .null :: .int 0 :: .null :: .null :: .null :: .int 0 :: .null :: .int 0 :: .int 0 :: .null :: .int 0 :: .int 0 :: .null :: .int 0 :: .null :: .null :: .null :: .int 0 :: .null :: .null :: .null :: .null :: []))), (q1, .inl (cI, 8, .inl (fun _ => 0))), (q2, .inl (cI, 8, .inl (fun _ => 0))), (q3, .inl (cI, 8, .inl (fun _ => 0))), (q4, .inl (cI, 4, .inl (fun _ => 0))), (q5, .inl (cI, 4, .inl (fun _ => 0)))] H := ⟨hP, hD⟩
  have hP := hPD.1
  have hD := hPD.2
  clear hPD
  refine va_putF (D := (dC, dI)) (ci := 11) (v := .ref q5) (ty := .array .int) (C := RX11) (T := TX11) (N := 46) hx hb hts hi_X11 tyX11 tyX11_ok nmX11 hown hK hP hD hS 0 rfl rfl 8 (by decide) (hts (.fieldLink RX11 22 "LeftQuillsModel" "presses" "[I") (wmx 9 rfl)) (fun _ h9 => h9) rfl hin rfl (by decide +kernel) rfl rfl (Nat.le_of_ble_eq_true rfl) dX11_init_39 (fun H locs hP hD hS => ?_)
  have hPD : pdW (dC, dI) vwCl A [(h0, .inr (11, (.int 0 :: .int 0 :: .int 0 :: .ref q1 :: .ref q2 :: .ref q3 :: .int 0 :: .ref q4 :: .ref q5 :: .null :: .null :: .int 0 :: .null :: .int 0 :: .int 0 :: .int 0 :: .int 0 :: .int 0 :: .null :: .int 0 :: .null :: .null :: .null :: .null :: .null :: .int 0 :: .null :: .null :: .null :: .int 0 :: .null :: .int 0 :: .int 0 :: .null :: .int 0 :: .int 0 :: .null :: .int 0 :: .null :: .null :: .null :: .int 0 :: .null :: .null :: .null :: .null :: []))), (q1, .inl (cI, 8, .inl (fun _ => 0))), (q2, .inl (cI, 8, .inl (fun _ => 0))), (q3, .inl (cI, 8, .inl (fun _ => 0))), (q4, .inl (cI, 4, .inl (fun _ => 0))), (q5, .inl (cI, 4, .inl (fun _ => 0)))] H := ⟨hP, hD⟩
  have hP := hPD.1
  have hD := hPD.2
  clear hPD
  refine lv_aload_n hx hb dX11_init_42 rfl (lv_at hl 0 rfl) ?_
  refine lv_iconst (v := 4) hx hb dX11_init_43 (by decide) ?_
  refine va_newa (atype := .int) (ty := .int) (n := 4) (a0 := (4, .inl (fun _ => 0))) (N' := 4) hx hb (hts (.arrayClass .int) (wmx 4 rfl)) rfl hK hP hD hS hA (fun _ => rfl) (by decide) (by decide) (by decide) (Nat.le_of_ble_eq_true rfl) (Nat.le_of_ble_eq_true rfl) dX11_init_44 (fun q6 cA H hKn hP hD hS => ?_)
  have ecA := xcI hKn
  subst ecA
  clear hKn
  refine W.widen (k := 6) (n := 36) (Nat.le_of_ble_eq_true rfl) (Nat.le_of_ble_eq_true rfl) ?_
  have hPD : pdW (dC, dI) vwCl A [(h0, .inr (11, (.int 0 :: .int 0 :: .int 0 :: .ref q1 :: .ref q2 :: .ref q3 :: .int 0 :: .ref q4 :: .ref q5 :: .null :: .null :: .int 0 :: .null :: .int 0 :: .int 0 :: .int 0 :: .int 0 :: .int 0 :: .null :: .int 0 :: .null :: .null :: .null :: .null :: .null :: .int 0 :: .null :: .null :: .null :: .int 0 :: .null :: .int 0 :: .int 0 :: .null :: .int 0 :: .int 0 :: .null :: .int 0 :: .null :: .null :: .null :: .int 0 :: .null :: .null :: .null :: .null :: []))), (q1, .inl (cI, 8, .inl (fun _ => 0))), (q2, .inl (cI, 8, .inl (fun _ => 0))), (q3, .inl (cI, 8, .inl (fun _ => 0))), (q4, .inl (cI, 4, .inl (fun _ => 0))), (q5, .inl (cI, 4, .inl (fun _ => 0))), (q6, .inl (cI, 4, .inl (fun _ => 0)))] H := ⟨hP, hD⟩
  have hP := hPD.1
  have hD := hPD.2
  clear hPD
  refine va_putF (D := (dC, dI)) (ci := 11) (v := .ref q6) (ty := .array .int) (C := RX11) (T := TX11) (N := 46) hx hb hts hi_X11 tyX11 tyX11_ok nmX11 hown hK hP hD hS 0 rfl rfl 9 (by decide) (hts (.fieldLink RX11 25 "LeftQuillsModel" "wants" "[I") (wmx 10 rfl)) (fun _ h9 => h9) rfl hin rfl (by decide +kernel) rfl rfl (Nat.le_of_ble_eq_true rfl) dX11_init_46 (fun H locs hP hD hS => ?_)
  have hPD : pdW (dC, dI) vwCl A [(h0, .inr (11, (.int 0 :: .int 0 :: .int 0 :: .ref q1 :: .ref q2 :: .ref q3 :: .int 0 :: .ref q4 :: .ref q5 :: .ref q6 :: .null :: .int 0 :: .null :: .int 0 :: .int 0 :: .int 0 :: .int 0 :: .int 0 :: .null :: .int 0 :: .null :: .null :: .null :: .null :: .null :: .int 0 :: .null :: .null :: .null :: .int 0 :: .null :: .int 0 :: .int 0 :: .null :: .int 0 :: .int 0 :: .null :: .int 0 :: .null :: .null :: .null :: .int 0 :: .null :: .null :: .null :: .null :: []))), (q1, .inl (cI, 8, .inl (fun _ => 0))), (q2, .inl (cI, 8, .inl (fun _ => 0))), (q3, .inl (cI, 8, .inl (fun _ => 0))), (q4, .inl (cI, 4, .inl (fun _ => 0))), (q5, .inl (cI, 4, .inl (fun _ => 0))), (q6, .inl (cI, 4, .inl (fun _ => 0)))] H := ⟨hP, hD⟩
  have hP := hPD.1
  have hD := hPD.2
  clear hPD
  refine lv_aload_n hx hb dX11_init_49 rfl (lv_at hl 0 rfl) ?_
  refine lv_bipush (v := 34) hx hb dX11_init_50 (by decide) ?_
  refine va_newa (atype := .int) (ty := .int) (n := 34) (a0 := (34, .inl (fun _ => 0))) (N' := 34) hx hb (hts (.arrayClass .int) (wmx 4 rfl)) rfl hK hP hD hS hA (fun _ => rfl) (by decide) (by decide) (by decide) (Nat.le_of_ble_eq_true rfl) (Nat.le_of_ble_eq_true rfl) dX11_init_52 (fun q7 cA H hKn hP hD hS => ?_)
  have ecA := xcI hKn
  subst ecA
  clear hKn
  refine W.widen (k := 7) (n := 70) (Nat.le_of_ble_eq_true rfl) (Nat.le_of_ble_eq_true rfl) ?_
  have hPD : pdW (dC, dI) vwCl A [(h0, .inr (11, (.int 0 :: .int 0 :: .int 0 :: .ref q1 :: .ref q2 :: .ref q3 :: .int 0 :: .ref q4 :: .ref q5 :: .ref q6 :: .null :: .int 0 :: .null :: .int 0 :: .int 0 :: .int 0 :: .int 0 :: .int 0 :: .null :: .int 0 :: .null :: .null :: .null :: .null :: .null :: .int 0 :: .null :: .null :: .null :: .int 0 :: .null :: .int 0 :: .int 0 :: .null :: .int 0 :: .int 0 :: .null :: .int 0 :: .null :: .null :: .null :: .int 0 :: .null :: .null :: .null :: .null :: []))), (q1, .inl (cI, 8, .inl (fun _ => 0))), (q2, .inl (cI, 8, .inl (fun _ => 0))), (q3, .inl (cI, 8, .inl (fun _ => 0))), (q4, .inl (cI, 4, .inl (fun _ => 0))), (q5, .inl (cI, 4, .inl (fun _ => 0))), (q6, .inl (cI, 4, .inl (fun _ => 0))), (q7, .inl (cI, 34, .inl (fun _ => 0)))] H := ⟨hP, hD⟩
  have hP := hPD.1
  have hD := hPD.2
  clear hPD
  refine va_putF (D := (dC, dI)) (ci := 11) (v := .ref q7) (ty := .array .int) (C := RX11) (T := TX11) (N := 46) hx hb hts hi_X11 tyX11 tyX11_ok nmX11 hown hK hP hD hS 0 rfl rfl 10 (by decide) (hts (.fieldLink RX11 28 "LeftQuillsModel" "now" "[I") (wmx 11 rfl)) (fun _ h9 => h9) rfl hin rfl (by decide +kernel) rfl rfl (Nat.le_of_ble_eq_true rfl) dX11_init_54 (fun H locs hP hD hS => ?_)
  have hPD : pdW (dC, dI) vwCl A [(h0, .inr (11, (.int 0 :: .int 0 :: .int 0 :: .ref q1 :: .ref q2 :: .ref q3 :: .int 0 :: .ref q4 :: .ref q5 :: .ref q6 :: .ref q7 :: .int 0 :: .null :: .int 0 :: .int 0 :: .int 0 :: .int 0 :: .int 0 :: .null :: .int 0 :: .null :: .null :: .null :: .null :: .null :: .int 0 :: .null :: .null :: .null :: .int 0 :: .null :: .int 0 :: .int 0 :: .null :: .int 0 :: .int 0 :: .null :: .int 0 :: .null :: .null :: .null :: .int 0 :: .null :: .null :: .null :: .null :: []))), (q1, .inl (cI, 8, .inl (fun _ => 0))), (q2, .inl (cI, 8, .inl (fun _ => 0))), (q3, .inl (cI, 8, .inl (fun _ => 0))), (q4, .inl (cI, 4, .inl (fun _ => 0))), (q5, .inl (cI, 4, .inl (fun _ => 0))), (q6, .inl (cI, 4, .inl (fun _ => 0))), (q7, .inl (cI, 34, .inl (fun _ => 0)))] H := ⟨hP, hD⟩
  have hP := hPD.1
  have hD := hPD.2
  clear hPD
  refine lv_aload_n hx hb dX11_init_57 rfl (lv_at hl 0 rfl) ?_
  refine lv_sipush (v := 220) hx hb dX11_init_58 (by decide) ?_
  refine va_newa (atype := .int) (ty := .int) (n := 220) (a0 := (220, .inl (fun _ => 0))) (N' := 220) hx hb (hts (.arrayClass .int) (wmx 4 rfl)) rfl hK hP hD hS hA (fun _ => rfl) (by decide) (by decide) (by decide) (Nat.le_of_ble_eq_true rfl) (Nat.le_of_ble_eq_true rfl) dX11_init_61 (fun q8 cA H hKn hP hD hS => ?_)
  have ecA := xcI hKn
  subst ecA
  clear hKn
  refine W.widen (k := 8) (n := 290) (Nat.le_of_ble_eq_true rfl) (Nat.le_of_ble_eq_true rfl) ?_
  have hPD : pdW (dC, dI) vwCl A [(h0, .inr (11, (.int 0 :: .int 0 :: .int 0 :: .ref q1 :: .ref q2 :: .ref q3 :: .int 0 :: .ref q4 :: .ref q5 :: .ref q6 :: .ref q7 :: .int 0 :: .null :: .int 0 :: .int 0 :: .int 0 :: .int 0 :: .int 0 :: .null :: .int 0 :: .null :: .null :: .null :: .null :: .null :: .int 0 :: .null :: .null :: .null :: .int 0 :: .null :: .int 0 :: .int 0 :: .null :: .int 0 :: .int 0 :: .null :: .int 0 :: .null :: .null :: .null :: .int 0 :: .null :: .null :: .null :: .null :: []))), (q1, .inl (cI, 8, .inl (fun _ => 0))), (q2, .inl (cI, 8, .inl (fun _ => 0))), (q3, .inl (cI, 8, .inl (fun _ => 0))), (q4, .inl (cI, 4, .inl (fun _ => 0))), (q5, .inl (cI, 4, .inl (fun _ => 0))), (q6, .inl (cI, 4, .inl (fun _ => 0))), (q7, .inl (cI, 34, .inl (fun _ => 0))), (q8, .inl (cI, 220, .inl (fun _ => 0)))] H := ⟨hP, hD⟩
  have hP := hPD.1
  have hD := hPD.2
  clear hPD
  refine va_putF (D := (dC, dI)) (ci := 11) (v := .ref q8) (ty := .array .int) (C := RX11) (T := TX11) (N := 46) hx hb hts hi_X11 tyX11 tyX11_ok nmX11 hown hK hP hD hS 0 rfl rfl 12 (by decide) (hts (.fieldLink RX11 31 "LeftQuillsModel" "text" "[I") (wmx 12 rfl)) (fun _ h9 => h9) rfl hin rfl (by decide +kernel) rfl rfl (Nat.le_of_ble_eq_true rfl) dX11_init_63 (fun H locs hP hD hS => ?_)
  have hPD : pdW (dC, dI) vwCl A [(h0, .inr (11, (.int 0 :: .int 0 :: .int 0 :: .ref q1 :: .ref q2 :: .ref q3 :: .int 0 :: .ref q4 :: .ref q5 :: .ref q6 :: .ref q7 :: .int 0 :: .ref q8 :: .int 0 :: .int 0 :: .int 0 :: .int 0 :: .int 0 :: .null :: .int 0 :: .null :: .null :: .null :: .null :: .null :: .int 0 :: .null :: .null :: .null :: .int 0 :: .null :: .int 0 :: .int 0 :: .null :: .int 0 :: .int 0 :: .null :: .int 0 :: .null :: .null :: .null :: .int 0 :: .null :: .null :: .null :: .null :: []))), (q1, .inl (cI, 8, .inl (fun _ => 0))), (q2, .inl (cI, 8, .inl (fun _ => 0))), (q3, .inl (cI, 8, .inl (fun _ => 0))), (q4, .inl (cI, 4, .inl (fun _ => 0))), (q5, .inl (cI, 4, .inl (fun _ => 0))), (q6, .inl (cI, 4, .inl (fun _ => 0))), (q7, .inl (cI, 34, .inl (fun _ => 0))), (q8, .inl (cI, 220, .inl (fun _ => 0)))] H := ⟨hP, hD⟩
  have hP := hPD.1
  have hD := hPD.2
  clear hPD
  refine lv_aload_n hx hb dX11_init_66 rfl (lv_at hl 0 rfl) ?_
  refine lv_iconst (v := (-1)) hx hb dX11_init_67 (by decide) ?_
  refine va_put (D := (dC, dI)) (ci := 11) (v := .int (-1)) (ty := .int) (C := RX11) (T := TX11) (N := 46) hx hb hts hi_X11 tyX11 tyX11_ok nmX11 hown hK hP hD hS 0 rfl rfl 14 (by decide) (hts (.fieldLink RX11 34 "LeftQuillsModel" "faultPlace" "I") (wmx 13 rfl)) (fun _ h9 => h9) rfl (by decide +kernel) rfl rfl (Nat.le_of_ble_eq_true rfl) dX11_init_68 (fun H locs hP hD hS => ?_)
  have hPD : pdW (dC, dI) vwCl A [(h0, .inr (11, (.int 0 :: .int 0 :: .int 0 :: .ref q1 :: .ref q2 :: .ref q3 :: .int 0 :: .ref q4 :: .ref q5 :: .ref q6 :: .ref q7 :: .int 0 :: .ref q8 :: .int 0 :: .int (-1) :: .int 0 :: .int 0 :: .int 0 :: .null :: .int 0 :: .null :: .null :: .null :: .null :: .null :: .int 0 :: .null :: .null :: .null :: .int 0 :: .null :: .int 0 :: .int 0 :: .null :: .int 0 :: .int 0 :: .null :: .int 0 :: .null :: .null :: .null :: .int 0 :: .null :: .null :: .null :: .null :: []))), (q1, .inl (cI, 8, .inl (fun _ => 0))), (q2, .inl (cI, 8, .inl (fun _ => 0))), (q3, .inl (cI, 8, .inl (fun _ => 0))), (q4, .inl (cI, 4, .inl (fun _ => 0))), (q5, .inl (cI, 4, .inl (fun _ => 0))), (q6, .inl (cI, 4, .inl (fun _ => 0))), (q7, .inl (cI, 34, .inl (fun _ => 0))), (q8, .inl (cI, 220, .inl (fun _ => 0)))] H := ⟨hP, hD⟩
  have hP := hPD.1
  have hD := hPD.2
  clear hPD
  refine lv_aload_n hx hb dX11_init_71 rfl (lv_at hl 0 rfl) ?_
  refine lv_iconst (v := 2) hx hb dX11_init_72 (by decide) ?_
  refine va_newa (atype := .int) (ty := .int) (n := 2) (a0 := (2, .inl (fun _ => 0))) (N' := 2) hx hb (hts (.arrayClass .int) (wmx 4 rfl)) rfl hK hP hD hS hA (fun _ => rfl) (by decide) (by decide) (by decide) (Nat.le_of_ble_eq_true rfl) (Nat.le_of_ble_eq_true rfl) dX11_init_73 (fun q9 cA H hKn hP hD hS => ?_)
  have ecA := xcI hKn
  subst ecA
  clear hKn
  refine W.widen (k := 9) (n := 292) (Nat.le_of_ble_eq_true rfl) (Nat.le_of_ble_eq_true rfl) ?_
  have hPD : pdW (dC, dI) vwCl A [(h0, .inr (11, (.int 0 :: .int 0 :: .int 0 :: .ref q1 :: .ref q2 :: .ref q3 :: .int 0 :: .ref q4 :: .ref q5 :: .ref q6 :: .ref q7 :: .int 0 :: .ref q8 :: .int 0 :: .int (-1) :: .int 0 :: .int 0 :: .int 0 :: .null :: .int 0 :: .null :: .null :: .null :: .null :: .null :: .int 0 :: .null :: .null :: .null :: .int 0 :: .null :: .int 0 :: .int 0 :: .null :: .int 0 :: .int 0 :: .null :: .int 0 :: .null :: .null :: .null :: .int 0 :: .null :: .null :: .null :: .null :: []))), (q1, .inl (cI, 8, .inl (fun _ => 0))), (q2, .inl (cI, 8, .inl (fun _ => 0))), (q3, .inl (cI, 8, .inl (fun _ => 0))), (q4, .inl (cI, 4, .inl (fun _ => 0))), (q5, .inl (cI, 4, .inl (fun _ => 0))), (q6, .inl (cI, 4, .inl (fun _ => 0))), (q7, .inl (cI, 34, .inl (fun _ => 0))), (q8, .inl (cI, 220, .inl (fun _ => 0))), (q9, .inl (cI, 2, .inl (fun _ => 0)))] H := ⟨hP, hD⟩
  have hP := hPD.1
  have hD := hPD.2
  clear hPD
  refine va_putF (D := (dC, dI)) (ci := 11) (v := .ref q9) (ty := .array .int) (C := RX11) (T := TX11) (N := 46) hx hb hts hi_X11 tyX11 tyX11_ok nmX11 hown hK hP hD hS 0 rfl rfl 18 (by decide) (hts (.fieldLink RX11 38 "LeftQuillsModel" "readOffice" "[I") (wmx 14 rfl)) (fun _ h9 => h9) rfl hin rfl (by decide +kernel) rfl rfl (Nat.le_of_ble_eq_true rfl) dX11_init_75 (fun H locs hP hD hS => ?_)
  have hPD : pdW (dC, dI) vwCl A [(h0, .inr (11, (.int 0 :: .int 0 :: .int 0 :: .ref q1 :: .ref q2 :: .ref q3 :: .int 0 :: .ref q4 :: .ref q5 :: .ref q6 :: .ref q7 :: .int 0 :: .ref q8 :: .int 0 :: .int (-1) :: .int 0 :: .int 0 :: .int 0 :: .ref q9 :: .int 0 :: .null :: .null :: .null :: .null :: .null :: .int 0 :: .null :: .null :: .null :: .int 0 :: .null :: .int 0 :: .int 0 :: .null :: .int 0 :: .int 0 :: .null :: .int 0 :: .null :: .null :: .null :: .int 0 :: .null :: .null :: .null :: .null :: []))), (q1, .inl (cI, 8, .inl (fun _ => 0))), (q2, .inl (cI, 8, .inl (fun _ => 0))), (q3, .inl (cI, 8, .inl (fun _ => 0))), (q4, .inl (cI, 4, .inl (fun _ => 0))), (q5, .inl (cI, 4, .inl (fun _ => 0))), (q6, .inl (cI, 4, .inl (fun _ => 0))), (q7, .inl (cI, 34, .inl (fun _ => 0))), (q8, .inl (cI, 220, .inl (fun _ => 0))), (q9, .inl (cI, 2, .inl (fun _ => 0)))] H := ⟨hP, hD⟩
  have hP := hPD.1
  have hD := hPD.2
  clear hPD
  refine lv_aload_n hx hb dX11_init_78 rfl (lv_at hl 0 rfl) ?_
  refine lv_bipush (v := 8) hx hb dX11_init_79 (by decide) ?_
  refine va_newa (atype := .int) (ty := .int) (n := 8) (a0 := (8, .inl (fun _ => 0))) (N' := 8) hx hb (hts (.arrayClass .int) (wmx 4 rfl)) rfl hK hP hD hS hA (fun _ => rfl) (by decide) (by decide) (by decide) (Nat.le_of_ble_eq_true rfl) (Nat.le_of_ble_eq_true rfl) dX11_init_81 (fun q10 cA H hKn hP hD hS => ?_)
  have ecA := xcI hKn
  subst ecA
  clear hKn
  refine W.widen (k := 10) (n := 300) (Nat.le_of_ble_eq_true rfl) (Nat.le_of_ble_eq_true rfl) ?_
  have hPD : pdW (dC, dI) vwCl A [(h0, .inr (11, (.int 0 :: .int 0 :: .int 0 :: .ref q1 :: .ref q2 :: .ref q3 :: .int 0 :: .ref q4 :: .ref q5 :: .ref q6 :: .ref q7 :: .int 0 :: .ref q8 :: .int 0 :: .int (-1) :: .int 0 :: .int 0 :: .int 0 :: .ref q9 :: .int 0 :: .null :: .null :: .null :: .null :: .null :: .int 0 :: .null :: .null :: .null :: .int 0 :: .null :: .int 0 :: .int 0 :: .null :: .int 0 :: .int 0 :: .null :: .int 0 :: .null :: .null :: .null :: .int 0 :: .null :: .null :: .null :: .null :: []))), (q1, .inl (cI, 8, .inl (fun _ => 0))), (q2, .inl (cI, 8, .inl (fun _ => 0))), (q3, .inl (cI, 8, .inl (fun _ => 0))), (q4, .inl (cI, 4, .inl (fun _ => 0))), (q5, .inl (cI, 4, .inl (fun _ => 0))), (q6, .inl (cI, 4, .inl (fun _ => 0))), (q7, .inl (cI, 34, .inl (fun _ => 0))), (q8, .inl (cI, 220, .inl (fun _ => 0))), (q9, .inl (cI, 2, .inl (fun _ => 0))), (q10, .inl (cI, 8, .inl (fun _ => 0)))] H := ⟨hP, hD⟩
  have hP := hPD.1
  have hD := hPD.2
  clear hPD
  refine va_putF (D := (dC, dI)) (ci := 11) (v := .ref q10) (ty := .array .int) (C := RX11) (T := TX11) (N := 46) hx hb hts hi_X11 tyX11 tyX11_ok nmX11 hown hK hP hD hS 0 rfl rfl 20 (by decide) (hts (.fieldLink RX11 41 "LeftQuillsModel" "readWing" "[I") (wmx 15 rfl)) (fun _ h9 => h9) rfl hin rfl (by decide +kernel) rfl rfl (Nat.le_of_ble_eq_true rfl) dX11_init_83 (fun H locs hP hD hS => ?_)
  have hPD : pdW (dC, dI) vwCl A [(h0, .inr (11, (.int 0 :: .int 0 :: .int 0 :: .ref q1 :: .ref q2 :: .ref q3 :: .int 0 :: .ref q4 :: .ref q5 :: .ref q6 :: .ref q7 :: .int 0 :: .ref q8 :: .int 0 :: .int (-1) :: .int 0 :: .int 0 :: .int 0 :: .ref q9 :: .int 0 :: .ref q10 :: .null :: .null :: .null :: .null :: .int 0 :: .null :: .null :: .null :: .int 0 :: .null :: .int 0 :: .int 0 :: .null :: .int 0 :: .int 0 :: .null :: .int 0 :: .null :: .null :: .null :: .int 0 :: .null :: .null :: .null :: .null :: []))), (q1, .inl (cI, 8, .inl (fun _ => 0))), (q2, .inl (cI, 8, .inl (fun _ => 0))), (q3, .inl (cI, 8, .inl (fun _ => 0))), (q4, .inl (cI, 4, .inl (fun _ => 0))), (q5, .inl (cI, 4, .inl (fun _ => 0))), (q6, .inl (cI, 4, .inl (fun _ => 0))), (q7, .inl (cI, 34, .inl (fun _ => 0))), (q8, .inl (cI, 220, .inl (fun _ => 0))), (q9, .inl (cI, 2, .inl (fun _ => 0))), (q10, .inl (cI, 8, .inl (fun _ => 0)))] H := ⟨hP, hD⟩
  have hP := hPD.1
  have hD := hPD.2
  clear hPD
  refine lv_aload_n hx hb dX11_init_86 rfl (lv_at hl 0 rfl) ?_
  refine lv_bipush (v := 8) hx hb dX11_init_87 (by decide) ?_
  refine va_newa (atype := .int) (ty := .int) (n := 8) (a0 := (8, .inl (fun _ => 0))) (N' := 8) hx hb (hts (.arrayClass .int) (wmx 4 rfl)) rfl hK hP hD hS hA (fun _ => rfl) (by decide) (by decide) (by decide) (Nat.le_of_ble_eq_true rfl) (Nat.le_of_ble_eq_true rfl) dX11_init_89 (fun q11 cA H hKn hP hD hS => ?_)
  have ecA := xcI hKn
  subst ecA
  clear hKn
  refine W.widen (k := 11) (n := 308) (Nat.le_of_ble_eq_true rfl) (Nat.le_of_ble_eq_true rfl) ?_
  have hPD : pdW (dC, dI) vwCl A [(h0, .inr (11, (.int 0 :: .int 0 :: .int 0 :: .ref q1 :: .ref q2 :: .ref q3 :: .int 0 :: .ref q4 :: .ref q5 :: .ref q6 :: .ref q7 :: .int 0 :: .ref q8 :: .int 0 :: .int (-1) :: .int 0 :: .int 0 :: .int 0 :: .ref q9 :: .int 0 :: .ref q10 :: .null :: .null :: .null :: .null :: .int 0 :: .null :: .null :: .null :: .int 0 :: .null :: .int 0 :: .int 0 :: .null :: .int 0 :: .int 0 :: .null :: .int 0 :: .null :: .null :: .null :: .int 0 :: .null :: .null :: .null :: .null :: []))), (q1, .inl (cI, 8, .inl (fun _ => 0))), (q2, .inl (cI, 8, .inl (fun _ => 0))), (q3, .inl (cI, 8, .inl (fun _ => 0))), (q4, .inl (cI, 4, .inl (fun _ => 0))), (q5, .inl (cI, 4, .inl (fun _ => 0))), (q6, .inl (cI, 4, .inl (fun _ => 0))), (q7, .inl (cI, 34, .inl (fun _ => 0))), (q8, .inl (cI, 220, .inl (fun _ => 0))), (q9, .inl (cI, 2, .inl (fun _ => 0))), (q10, .inl (cI, 8, .inl (fun _ => 0))), (q11, .inl (cI, 8, .inl (fun _ => 0)))] H := ⟨hP, hD⟩
  have hP := hPD.1
  have hD := hPD.2
  clear hPD
  refine va_putF (D := (dC, dI)) (ci := 11) (v := .ref q11) (ty := .array .int) (C := RX11) (T := TX11) (N := 46) hx hb hts hi_X11 tyX11 tyX11_ok nmX11 hown hK hP hD hS 0 rfl rfl 21 (by decide) (hts (.fieldLink RX11 44 "LeftQuillsModel" "readPlace" "[I") (wmx 16 rfl)) (fun _ h9 => h9) rfl hin rfl (by decide +kernel) rfl rfl (Nat.le_of_ble_eq_true rfl) dX11_init_91 (fun H locs hP hD hS => ?_)
  have hPD : pdW (dC, dI) vwCl A [(h0, .inr (11, (.int 0 :: .int 0 :: .int 0 :: .ref q1 :: .ref q2 :: .ref q3 :: .int 0 :: .ref q4 :: .ref q5 :: .ref q6 :: .ref q7 :: .int 0 :: .ref q8 :: .int 0 :: .int (-1) :: .int 0 :: .int 0 :: .int 0 :: .ref q9 :: .int 0 :: .ref q10 :: .ref q11 :: .null :: .null :: .null :: .int 0 :: .null :: .null :: .null :: .int 0 :: .null :: .int 0 :: .int 0 :: .null :: .int 0 :: .int 0 :: .null :: .int 0 :: .null :: .null :: .null :: .int 0 :: .null :: .null :: .null :: .null :: []))), (q1, .inl (cI, 8, .inl (fun _ => 0))), (q2, .inl (cI, 8, .inl (fun _ => 0))), (q3, .inl (cI, 8, .inl (fun _ => 0))), (q4, .inl (cI, 4, .inl (fun _ => 0))), (q5, .inl (cI, 4, .inl (fun _ => 0))), (q6, .inl (cI, 4, .inl (fun _ => 0))), (q7, .inl (cI, 34, .inl (fun _ => 0))), (q8, .inl (cI, 220, .inl (fun _ => 0))), (q9, .inl (cI, 2, .inl (fun _ => 0))), (q10, .inl (cI, 8, .inl (fun _ => 0))), (q11, .inl (cI, 8, .inl (fun _ => 0)))] H := ⟨hP, hD⟩
  have hP := hPD.1
  have hD := hPD.2
  clear hPD
  refine lv_aload_n hx hb dX11_init_94 rfl (lv_at hl 0 rfl) ?_
  refine lv_bipush (v := 8) hx hb dX11_init_95 (by decide) ?_
  refine va_newa (atype := .int) (ty := .int) (n := 8) (a0 := (8, .inl (fun _ => 0))) (N' := 8) hx hb (hts (.arrayClass .int) (wmx 4 rfl)) rfl hK hP hD hS hA (fun _ => rfl) (by decide) (by decide) (by decide) (Nat.le_of_ble_eq_true rfl) (Nat.le_of_ble_eq_true rfl) dX11_init_97 (fun q12 cA H hKn hP hD hS => ?_)
  have ecA := xcI hKn
  subst ecA
  clear hKn
  refine W.widen (k := 12) (n := 316) (Nat.le_of_ble_eq_true rfl) (Nat.le_of_ble_eq_true rfl) ?_
  have hPD : pdW (dC, dI) vwCl A [(h0, .inr (11, (.int 0 :: .int 0 :: .int 0 :: .ref q1 :: .ref q2 :: .ref q3 :: .int 0 :: .ref q4 :: .ref q5 :: .ref q6 :: .ref q7 :: .int 0 :: .ref q8 :: .int 0 :: .int (-1) :: .int 0 :: .int 0 :: .int 0 :: .ref q9 :: .int 0 :: .ref q10 :: .ref q11 :: .null :: .null :: .null :: .int 0 :: .null :: .null :: .null :: .int 0 :: .null :: .int 0 :: .int 0 :: .null :: .int 0 :: .int 0 :: .null :: .int 0 :: .null :: .null :: .null :: .int 0 :: .null :: .null :: .null :: .null :: []))), (q1, .inl (cI, 8, .inl (fun _ => 0))), (q2, .inl (cI, 8, .inl (fun _ => 0))), (q3, .inl (cI, 8, .inl (fun _ => 0))), (q4, .inl (cI, 4, .inl (fun _ => 0))), (q5, .inl (cI, 4, .inl (fun _ => 0))), (q6, .inl (cI, 4, .inl (fun _ => 0))), (q7, .inl (cI, 34, .inl (fun _ => 0))), (q8, .inl (cI, 220, .inl (fun _ => 0))), (q9, .inl (cI, 2, .inl (fun _ => 0))), (q10, .inl (cI, 8, .inl (fun _ => 0))), (q11, .inl (cI, 8, .inl (fun _ => 0))), (q12, .inl (cI, 8, .inl (fun _ => 0)))] H := ⟨hP, hD⟩
  have hP := hPD.1
  have hD := hPD.2
  clear hPD
  refine va_putF (D := (dC, dI)) (ci := 11) (v := .ref q12) (ty := .array .int) (C := RX11) (T := TX11) (N := 46) hx hb hts hi_X11 tyX11 tyX11_ok nmX11 hown hK hP hD hS 0 rfl rfl 22 (by decide) (hts (.fieldLink RX11 47 "LeftQuillsModel" "readCooked" "[I") (wmx 17 rfl)) (fun _ h9 => h9) rfl hin rfl (by decide +kernel) rfl rfl (Nat.le_of_ble_eq_true rfl) dX11_init_99 (fun H locs hP hD hS => ?_)
  have hPD : pdW (dC, dI) vwCl A [(h0, .inr (11, (.int 0 :: .int 0 :: .int 0 :: .ref q1 :: .ref q2 :: .ref q3 :: .int 0 :: .ref q4 :: .ref q5 :: .ref q6 :: .ref q7 :: .int 0 :: .ref q8 :: .int 0 :: .int (-1) :: .int 0 :: .int 0 :: .int 0 :: .ref q9 :: .int 0 :: .ref q10 :: .ref q11 :: .ref q12 :: .null :: .null :: .int 0 :: .null :: .null :: .null :: .int 0 :: .null :: .int 0 :: .int 0 :: .null :: .int 0 :: .int 0 :: .null :: .int 0 :: .null :: .null :: .null :: .int 0 :: .null :: .null :: .null :: .null :: []))), (q1, .inl (cI, 8, .inl (fun _ => 0))), (q2, .inl (cI, 8, .inl (fun _ => 0))), (q3, .inl (cI, 8, .inl (fun _ => 0))), (q4, .inl (cI, 4, .inl (fun _ => 0))), (q5, .inl (cI, 4, .inl (fun _ => 0))), (q6, .inl (cI, 4, .inl (fun _ => 0))), (q7, .inl (cI, 34, .inl (fun _ => 0))), (q8, .inl (cI, 220, .inl (fun _ => 0))), (q9, .inl (cI, 2, .inl (fun _ => 0))), (q10, .inl (cI, 8, .inl (fun _ => 0))), (q11, .inl (cI, 8, .inl (fun _ => 0))), (q12, .inl (cI, 8, .inl (fun _ => 0)))] H := ⟨hP, hD⟩
  have hP := hPD.1
  have hD := hPD.2
  clear hPD
  refine lv_aload_n hx hb dX11_init_102 rfl (lv_at hl 0 rfl) ?_
  refine lv_bipush (v := 8) hx hb dX11_init_103 (by decide) ?_
  refine va_newa (atype := .int) (ty := .int) (n := 8) (a0 := (8, .inl (fun _ => 0))) (N' := 8) hx hb (hts (.arrayClass .int) (wmx 4 rfl)) rfl hK hP hD hS hA (fun _ => rfl) (by decide) (by decide) (by decide) (Nat.le_of_ble_eq_true rfl) (Nat.le_of_ble_eq_true rfl) dX11_init_105 (fun q13 cA H hKn hP hD hS => ?_)
  have ecA := xcI hKn
  subst ecA
  clear hKn
  refine W.widen (k := 13) (n := 324) (Nat.le_of_ble_eq_true rfl) (Nat.le_of_ble_eq_true rfl) ?_
  have hPD : pdW (dC, dI) vwCl A [(h0, .inr (11, (.int 0 :: .int 0 :: .int 0 :: .ref q1 :: .ref q2 :: .ref q3 :: .int 0 :: .ref q4 :: .ref q5 :: .ref q6 :: .ref q7 :: .int 0 :: .ref q8 :: .int 0 :: .int (-1) :: .int 0 :: .int 0 :: .int 0 :: .ref q9 :: .int 0 :: .ref q10 :: .ref q11 :: .ref q12 :: .null :: .null :: .int 0 :: .null :: .null :: .null :: .int 0 :: .null :: .int 0 :: .int 0 :: .null :: .int 0 :: .int 0 :: .null :: .int 0 :: .null :: .null :: .null :: .int 0 :: .null :: .null :: .null :: .null :: []))), (q1, .inl (cI, 8, .inl (fun _ => 0))), (q2, .inl (cI, 8, .inl (fun _ => 0))), (q3, .inl (cI, 8, .inl (fun _ => 0))), (q4, .inl (cI, 4, .inl (fun _ => 0))), (q5, .inl (cI, 4, .inl (fun _ => 0))), (q6, .inl (cI, 4, .inl (fun _ => 0))), (q7, .inl (cI, 34, .inl (fun _ => 0))), (q8, .inl (cI, 220, .inl (fun _ => 0))), (q9, .inl (cI, 2, .inl (fun _ => 0))), (q10, .inl (cI, 8, .inl (fun _ => 0))), (q11, .inl (cI, 8, .inl (fun _ => 0))), (q12, .inl (cI, 8, .inl (fun _ => 0))), (q13, .inl (cI, 8, .inl (fun _ => 0)))] H := ⟨hP, hD⟩
  have hP := hPD.1
  have hD := hPD.2
  clear hPD
  refine va_putF (D := (dC, dI)) (ci := 11) (v := .ref q13) (ty := .array .int) (C := RX11) (T := TX11) (N := 46) hx hb hts hi_X11 tyX11 tyX11_ok nmX11 hown hK hP hD hS 0 rfl rfl 23 (by decide) (hts (.fieldLink RX11 50 "LeftQuillsModel" "readLength" "[I") (wmx 18 rfl)) (fun _ h9 => h9) rfl hin rfl (by decide +kernel) rfl rfl (Nat.le_of_ble_eq_true rfl) dX11_init_107 (fun H locs hP hD hS => ?_)
  have hPD : pdW (dC, dI) vwCl A [(h0, .inr (11, (.int 0 :: .int 0 :: .int 0 :: .ref q1 :: .ref q2 :: .ref q3 :: .int 0 :: .ref q4 :: .ref q5 :: .ref q6 :: .ref q7 :: .int 0 :: .ref q8 :: .int 0 :: .int (-1) :: .int 0 :: .int 0 :: .int 0 :: .ref q9 :: .int 0 :: .ref q10 :: .ref q11 :: .ref q12 :: .ref q13 :: .null :: .int 0 :: .null :: .null :: .null :: .int 0 :: .null :: .int 0 :: .int 0 :: .null :: .int 0 :: .int 0 :: .null :: .int 0 :: .null :: .null :: .null :: .int 0 :: .null :: .null :: .null :: .null :: []))), (q1, .inl (cI, 8, .inl (fun _ => 0))), (q2, .inl (cI, 8, .inl (fun _ => 0))), (q3, .inl (cI, 8, .inl (fun _ => 0))), (q4, .inl (cI, 4, .inl (fun _ => 0))), (q5, .inl (cI, 4, .inl (fun _ => 0))), (q6, .inl (cI, 4, .inl (fun _ => 0))), (q7, .inl (cI, 34, .inl (fun _ => 0))), (q8, .inl (cI, 220, .inl (fun _ => 0))), (q9, .inl (cI, 2, .inl (fun _ => 0))), (q10, .inl (cI, 8, .inl (fun _ => 0))), (q11, .inl (cI, 8, .inl (fun _ => 0))), (q12, .inl (cI, 8, .inl (fun _ => 0))), (q13, .inl (cI, 8, .inl (fun _ => 0)))] H := ⟨hP, hD⟩
  have hP := hPD.1
  have hD := hPD.2
  clear hPD
  refine lv_aload_n hx hb dX11_init_110 rfl (lv_at hl 0 rfl) ?_
  refine lv_bipush (v := 8) hx hb dX11_init_111 (by decide) ?_
  refine va_newa (atype := .int) (ty := .int) (n := 8) (a0 := (8, .inl (fun _ => 0))) (N' := 8) hx hb (hts (.arrayClass .int) (wmx 4 rfl)) rfl hK hP hD hS hA (fun _ => rfl) (by decide) (by decide) (by decide) (Nat.le_of_ble_eq_true rfl) (Nat.le_of_ble_eq_true rfl) dX11_init_113 (fun q14 cA H hKn hP hD hS => ?_)
  have ecA := xcI hKn
  subst ecA
  clear hKn
  refine W.widen (k := 14) (n := 332) (Nat.le_of_ble_eq_true rfl) (Nat.le_of_ble_eq_true rfl) ?_
  have hPD : pdW (dC, dI) vwCl A [(h0, .inr (11, (.int 0 :: .int 0 :: .int 0 :: .ref q1 :: .ref q2 :: .ref q3 :: .int 0 :: .ref q4 :: .ref q5 :: .ref q6 :: .ref q7 :: .int 0 :: .ref q8 :: .int 0 :: .int (-1) :: .int 0 :: .int 0 :: .int 0 :: .ref q9 :: .int 0 :: .ref q10 :: .ref q11 :: .ref q12 :: .ref q13 :: .null :: .int 0 :: .null :: .null :: .null :: .int 0 :: .null :: .int 0 :: .int 0 :: .null :: .int 0 :: .int 0 :: .null :: .int 0 :: .null :: .null :: .null :: .int 0 :: .null :: .null :: .null :: .null :: []))), (q1, .inl (cI, 8, .inl (fun _ => 0))), (q2, .inl (cI, 8, .inl (fun _ => 0))), (q3, .inl (cI, 8, .inl (fun _ => 0))), (q4, .inl (cI, 4, .inl (fun _ => 0))), (q5, .inl (cI, 4, .inl (fun _ => 0))), (q6, .inl (cI, 4, .inl (fun _ => 0))), (q7, .inl (cI, 34, .inl (fun _ => 0))), (q8, .inl (cI, 220, .inl (fun _ => 0))), (q9, .inl (cI, 2, .inl (fun _ => 0))), (q10, .inl (cI, 8, .inl (fun _ => 0))), (q11, .inl (cI, 8, .inl (fun _ => 0))), (q12, .inl (cI, 8, .inl (fun _ => 0))), (q13, .inl (cI, 8, .inl (fun _ => 0))), (q14, .inl (cI, 8, .inl (fun _ => 0)))] H := ⟨hP, hD⟩
  have hP := hPD.1
  have hD := hPD.2
  clear hPD
  refine va_putF (D := (dC, dI)) (ci := 11) (v := .ref q14) (ty := .array .int) (C := RX11) (T := TX11) (N := 46) hx hb hts hi_X11 tyX11 tyX11_ok nmX11 hown hK hP hD hS 0 rfl rfl 24 (by decide) (hts (.fieldLink RX11 53 "LeftQuillsModel" "readNib" "[I") (wmx 19 rfl)) (fun _ h9 => h9) rfl hin rfl (by decide +kernel) rfl rfl (Nat.le_of_ble_eq_true rfl) dX11_init_115 (fun H locs hP hD hS => ?_)
  have hPD : pdW (dC, dI) vwCl A [(h0, .inr (11, (.int 0 :: .int 0 :: .int 0 :: .ref q1 :: .ref q2 :: .ref q3 :: .int 0 :: .ref q4 :: .ref q5 :: .ref q6 :: .ref q7 :: .int 0 :: .ref q8 :: .int 0 :: .int (-1) :: .int 0 :: .int 0 :: .int 0 :: .ref q9 :: .int 0 :: .ref q10 :: .ref q11 :: .ref q12 :: .ref q13 :: .ref q14 :: .int 0 :: .null :: .null :: .null :: .int 0 :: .null :: .int 0 :: .int 0 :: .null :: .int 0 :: .int 0 :: .null :: .int 0 :: .null :: .null :: .null :: .int 0 :: .null :: .null :: .null :: .null :: []))), (q1, .inl (cI, 8, .inl (fun _ => 0))), (q2, .inl (cI, 8, .inl (fun _ => 0))), (q3, .inl (cI, 8, .inl (fun _ => 0))), (q4, .inl (cI, 4, .inl (fun _ => 0))), (q5, .inl (cI, 4, .inl (fun _ => 0))), (q6, .inl (cI, 4, .inl (fun _ => 0))), (q7, .inl (cI, 34, .inl (fun _ => 0))), (q8, .inl (cI, 220, .inl (fun _ => 0))), (q9, .inl (cI, 2, .inl (fun _ => 0))), (q10, .inl (cI, 8, .inl (fun _ => 0))), (q11, .inl (cI, 8, .inl (fun _ => 0))), (q12, .inl (cI, 8, .inl (fun _ => 0))), (q13, .inl (cI, 8, .inl (fun _ => 0))), (q14, .inl (cI, 8, .inl (fun _ => 0)))] H := ⟨hP, hD⟩
  have hP := hPD.1
  have hD := hPD.2
  clear hPD
  refine lv_aload_n hx hb dX11_init_118 rfl (lv_at hl 0 rfl) ?_
  refine lv_iconst (v := 4) hx hb dX11_init_119 (by decide) ?_
  refine va_newa (atype := .int) (ty := .int) (n := 4) (a0 := (4, .inl (fun _ => 0))) (N' := 4) hx hb (hts (.arrayClass .int) (wmx 4 rfl)) rfl hK hP hD hS hA (fun _ => rfl) (by decide) (by decide) (by decide) (Nat.le_of_ble_eq_true rfl) (Nat.le_of_ble_eq_true rfl) dX11_init_120 (fun q15 cA H hKn hP hD hS => ?_)
  have ecA := xcI hKn
  subst ecA
  clear hKn
  refine W.widen (k := 15) (n := 336) (Nat.le_of_ble_eq_true rfl) (Nat.le_of_ble_eq_true rfl) ?_
  have hPD : pdW (dC, dI) vwCl A [(h0, .inr (11, (.int 0 :: .int 0 :: .int 0 :: .ref q1 :: .ref q2 :: .ref q3 :: .int 0 :: .ref q4 :: .ref q5 :: .ref q6 :: .ref q7 :: .int 0 :: .ref q8 :: .int 0 :: .int (-1) :: .int 0 :: .int 0 :: .int 0 :: .ref q9 :: .int 0 :: .ref q10 :: .ref q11 :: .ref q12 :: .ref q13 :: .ref q14 :: .int 0 :: .null :: .null :: .null :: .int 0 :: .null :: .int 0 :: .int 0 :: .null :: .int 0 :: .int 0 :: .null :: .int 0 :: .null :: .null :: .null :: .int 0 :: .null :: .null :: .null :: .null :: []))), (q1, .inl (cI, 8, .inl (fun _ => 0))), (q2, .inl (cI, 8, .inl (fun _ => 0))), (q3, .inl (cI, 8, .inl (fun _ => 0))), (q4, .inl (cI, 4, .inl (fun _ => 0))), (q5, .inl (cI, 4, .inl (fun _ => 0))), (q6, .inl (cI, 4, .inl (fun _ => 0))), (q7, .inl (cI, 34, .inl (fun _ => 0))), (q8, .inl (cI, 220, .inl (fun _ => 0))), (q9, .inl (cI, 2, .inl (fun _ => 0))), (q10, .inl (cI, 8, .inl (fun _ => 0))), (q11, .inl (cI, 8, .inl (fun _ => 0))), (q12, .inl (cI, 8, .inl (fun _ => 0))), (q13, .inl (cI, 8, .inl (fun _ => 0))), (q14, .inl (cI, 8, .inl (fun _ => 0))), (q15, .inl (cI, 4, .inl (fun _ => 0)))] H := ⟨hP, hD⟩
  have hP := hPD.1
  have hD := hPD.2
  clear hPD
  refine va_putF (D := (dC, dI)) (ci := 11) (v := .ref q15) (ty := .array .int) (C := RX11) (T := TX11) (N := 46) hx hb hts hi_X11 tyX11 tyX11_ok nmX11 hown hK hP hD hS 0 rfl rfl 26 (by decide) (hts (.fieldLink RX11 56 "LeftQuillsModel" "readSide" "[I") (wmx 20 rfl)) (fun _ h9 => h9) rfl hin rfl (by decide +kernel) rfl rfl (Nat.le_of_ble_eq_true rfl) dX11_init_122 (fun H locs hP hD hS => ?_)
  have hPD : pdW (dC, dI) vwCl A [(h0, .inr (11, (.int 0 :: .int 0 :: .int 0 :: .ref q1 :: .ref q2 :: .ref q3 :: .int 0 :: .ref q4 :: .ref q5 :: .ref q6 :: .ref q7 :: .int 0 :: .ref q8 :: .int 0 :: .int (-1) :: .int 0 :: .int 0 :: .int 0 :: .ref q9 :: .int 0 :: .ref q10 :: .ref q11 :: .ref q12 :: .ref q13 :: .ref q14 :: .int 0 :: .ref q15 :: .null :: .null :: .int 0 :: .null :: .int 0 :: .int 0 :: .null :: .int 0 :: .int 0 :: .null :: .int 0 :: .null :: .null :: .null :: .int 0 :: .null :: .null :: .null :: .null :: []))), (q1, .inl (cI, 8, .inl (fun _ => 0))), (q2, .inl (cI, 8, .inl (fun _ => 0))), (q3, .inl (cI, 8, .inl (fun _ => 0))), (q4, .inl (cI, 4, .inl (fun _ => 0))), (q5, .inl (cI, 4, .inl (fun _ => 0))), (q6, .inl (cI, 4, .inl (fun _ => 0))), (q7, .inl (cI, 34, .inl (fun _ => 0))), (q8, .inl (cI, 220, .inl (fun _ => 0))), (q9, .inl (cI, 2, .inl (fun _ => 0))), (q10, .inl (cI, 8, .inl (fun _ => 0))), (q11, .inl (cI, 8, .inl (fun _ => 0))), (q12, .inl (cI, 8, .inl (fun _ => 0))), (q13, .inl (cI, 8, .inl (fun _ => 0))), (q14, .inl (cI, 8, .inl (fun _ => 0))), (q15, .inl (cI, 4, .inl (fun _ => 0)))] H := ⟨hP, hD⟩
  have hP := hPD.1
  have hD := hPD.2
  clear hPD
  refine lv_aload_n hx hb dX11_init_125 rfl (lv_at hl 0 rfl) ?_
  refine lv_iconst (v := 4) hx hb dX11_init_126 (by decide) ?_
  refine va_newa (atype := .int) (ty := .int) (n := 4) (a0 := (4, .inl (fun _ => 0))) (N' := 4) hx hb (hts (.arrayClass .int) (wmx 4 rfl)) rfl hK hP hD hS hA (fun _ => rfl) (by decide) (by decide) (by decide) (Nat.le_of_ble_eq_true rfl) (Nat.le_of_ble_eq_true rfl) dX11_init_127 (fun q16 cA H hKn hP hD hS => ?_)
  have ecA := xcI hKn
  subst ecA
  clear hKn
  refine W.widen (k := 16) (n := 340) (Nat.le_of_ble_eq_true rfl) (Nat.le_of_ble_eq_true rfl) ?_
  have hPD : pdW (dC, dI) vwCl A [(h0, .inr (11, (.int 0 :: .int 0 :: .int 0 :: .ref q1 :: .ref q2 :: .ref q3 :: .int 0 :: .ref q4 :: .ref q5 :: .ref q6 :: .ref q7 :: .int 0 :: .ref q8 :: .int 0 :: .int (-1) :: .int 0 :: .int 0 :: .int 0 :: .ref q9 :: .int 0 :: .ref q10 :: .ref q11 :: .ref q12 :: .ref q13 :: .ref q14 :: .int 0 :: .ref q15 :: .null :: .null :: .int 0 :: .null :: .int 0 :: .int 0 :: .null :: .int 0 :: .int 0 :: .null :: .int 0 :: .null :: .null :: .null :: .int 0 :: .null :: .null :: .null :: .null :: []))), (q1, .inl (cI, 8, .inl (fun _ => 0))), (q2, .inl (cI, 8, .inl (fun _ => 0))), (q3, .inl (cI, 8, .inl (fun _ => 0))), (q4, .inl (cI, 4, .inl (fun _ => 0))), (q5, .inl (cI, 4, .inl (fun _ => 0))), (q6, .inl (cI, 4, .inl (fun _ => 0))), (q7, .inl (cI, 34, .inl (fun _ => 0))), (q8, .inl (cI, 220, .inl (fun _ => 0))), (q9, .inl (cI, 2, .inl (fun _ => 0))), (q10, .inl (cI, 8, .inl (fun _ => 0))), (q11, .inl (cI, 8, .inl (fun _ => 0))), (q12, .inl (cI, 8, .inl (fun _ => 0))), (q13, .inl (cI, 8, .inl (fun _ => 0))), (q14, .inl (cI, 8, .inl (fun _ => 0))), (q15, .inl (cI, 4, .inl (fun _ => 0))), (q16, .inl (cI, 4, .inl (fun _ => 0)))] H := ⟨hP, hD⟩
  have hP := hPD.1
  have hD := hPD.2
  clear hPD
  refine va_putF (D := (dC, dI)) (ci := 11) (v := .ref q16) (ty := .array .int) (C := RX11) (T := TX11) (N := 46) hx hb hts hi_X11 tyX11 tyX11_ok nmX11 hown hK hP hD hS 0 rfl rfl 27 (by decide) (hts (.fieldLink RX11 59 "LeftQuillsModel" "readPresses" "[I") (wmx 21 rfl)) (fun _ h9 => h9) rfl hin rfl (by decide +kernel) rfl rfl (Nat.le_of_ble_eq_true rfl) dX11_init_129 (fun H locs hP hD hS => ?_)
  have hPD : pdW (dC, dI) vwCl A [(h0, .inr (11, (.int 0 :: .int 0 :: .int 0 :: .ref q1 :: .ref q2 :: .ref q3 :: .int 0 :: .ref q4 :: .ref q5 :: .ref q6 :: .ref q7 :: .int 0 :: .ref q8 :: .int 0 :: .int (-1) :: .int 0 :: .int 0 :: .int 0 :: .ref q9 :: .int 0 :: .ref q10 :: .ref q11 :: .ref q12 :: .ref q13 :: .ref q14 :: .int 0 :: .ref q15 :: .ref q16 :: .null :: .int 0 :: .null :: .int 0 :: .int 0 :: .null :: .int 0 :: .int 0 :: .null :: .int 0 :: .null :: .null :: .null :: .int 0 :: .null :: .null :: .null :: .null :: []))), (q1, .inl (cI, 8, .inl (fun _ => 0))), (q2, .inl (cI, 8, .inl (fun _ => 0))), (q3, .inl (cI, 8, .inl (fun _ => 0))), (q4, .inl (cI, 4, .inl (fun _ => 0))), (q5, .inl (cI, 4, .inl (fun _ => 0))), (q6, .inl (cI, 4, .inl (fun _ => 0))), (q7, .inl (cI, 34, .inl (fun _ => 0))), (q8, .inl (cI, 220, .inl (fun _ => 0))), (q9, .inl (cI, 2, .inl (fun _ => 0))), (q10, .inl (cI, 8, .inl (fun _ => 0))), (q11, .inl (cI, 8, .inl (fun _ => 0))), (q12, .inl (cI, 8, .inl (fun _ => 0))), (q13, .inl (cI, 8, .inl (fun _ => 0))), (q14, .inl (cI, 8, .inl (fun _ => 0))), (q15, .inl (cI, 4, .inl (fun _ => 0))), (q16, .inl (cI, 4, .inl (fun _ => 0)))] H := ⟨hP, hD⟩
  have hP := hPD.1
  have hD := hPD.2
  clear hPD
  refine lv_aload_n hx hb dX11_init_132 rfl (lv_at hl 0 rfl) ?_
  refine lv_iconst (v := 4) hx hb dX11_init_133 (by decide) ?_
  refine va_newa (atype := .int) (ty := .int) (n := 4) (a0 := (4, .inl (fun _ => 0))) (N' := 4) hx hb (hts (.arrayClass .int) (wmx 4 rfl)) rfl hK hP hD hS hA (fun _ => rfl) (by decide) (by decide) (by decide) (Nat.le_of_ble_eq_true rfl) (Nat.le_of_ble_eq_true rfl) dX11_init_134 (fun q17 cA H hKn hP hD hS => ?_)
  have ecA := xcI hKn
  subst ecA
  clear hKn
  refine W.widen (k := 17) (n := 344) (Nat.le_of_ble_eq_true rfl) (Nat.le_of_ble_eq_true rfl) ?_
  have hPD : pdW (dC, dI) vwCl A [(h0, .inr (11, (.int 0 :: .int 0 :: .int 0 :: .ref q1 :: .ref q2 :: .ref q3 :: .int 0 :: .ref q4 :: .ref q5 :: .ref q6 :: .ref q7 :: .int 0 :: .ref q8 :: .int 0 :: .int (-1) :: .int 0 :: .int 0 :: .int 0 :: .ref q9 :: .int 0 :: .ref q10 :: .ref q11 :: .ref q12 :: .ref q13 :: .ref q14 :: .int 0 :: .ref q15 :: .ref q16 :: .null :: .int 0 :: .null :: .int 0 :: .int 0 :: .null :: .int 0 :: .int 0 :: .null :: .int 0 :: .null :: .null :: .null :: .int 0 :: .null :: .null :: .null :: .null :: []))), (q1, .inl (cI, 8, .inl (fun _ => 0))), (q2, .inl (cI, 8, .inl (fun _ => 0))), (q3, .inl (cI, 8, .inl (fun _ => 0))), (q4, .inl (cI, 4, .inl (fun _ => 0))), (q5, .inl (cI, 4, .inl (fun _ => 0))), (q6, .inl (cI, 4, .inl (fun _ => 0))), (q7, .inl (cI, 34, .inl (fun _ => 0))), (q8, .inl (cI, 220, .inl (fun _ => 0))), (q9, .inl (cI, 2, .inl (fun _ => 0))), (q10, .inl (cI, 8, .inl (fun _ => 0))), (q11, .inl (cI, 8, .inl (fun _ => 0))), (q12, .inl (cI, 8, .inl (fun _ => 0))), (q13, .inl (cI, 8, .inl (fun _ => 0))), (q14, .inl (cI, 8, .inl (fun _ => 0))), (q15, .inl (cI, 4, .inl (fun _ => 0))), (q16, .inl (cI, 4, .inl (fun _ => 0))), (q17, .inl (cI, 4, .inl (fun _ => 0)))] H := ⟨hP, hD⟩
  have hP := hPD.1
  have hD := hPD.2
  clear hPD
  refine va_putF (D := (dC, dI)) (ci := 11) (v := .ref q17) (ty := .array .int) (C := RX11) (T := TX11) (N := 46) hx hb hts hi_X11 tyX11 tyX11_ok nmX11 hown hK hP hD hS 0 rfl rfl 28 (by decide) (hts (.fieldLink RX11 62 "LeftQuillsModel" "readWants" "[I") (wmx 22 rfl)) (fun _ h9 => h9) rfl hin rfl (by decide +kernel) rfl rfl (Nat.le_of_ble_eq_true rfl) dX11_init_136 (fun H locs hP hD hS => ?_)
  have hPD : pdW (dC, dI) vwCl A [(h0, .inr (11, (.int 0 :: .int 0 :: .int 0 :: .ref q1 :: .ref q2 :: .ref q3 :: .int 0 :: .ref q4 :: .ref q5 :: .ref q6 :: .ref q7 :: .int 0 :: .ref q8 :: .int 0 :: .int (-1) :: .int 0 :: .int 0 :: .int 0 :: .ref q9 :: .int 0 :: .ref q10 :: .ref q11 :: .ref q12 :: .ref q13 :: .ref q14 :: .int 0 :: .ref q15 :: .ref q16 :: .ref q17 :: .int 0 :: .null :: .int 0 :: .int 0 :: .null :: .int 0 :: .int 0 :: .null :: .int 0 :: .null :: .null :: .null :: .int 0 :: .null :: .null :: .null :: .null :: []))), (q1, .inl (cI, 8, .inl (fun _ => 0))), (q2, .inl (cI, 8, .inl (fun _ => 0))), (q3, .inl (cI, 8, .inl (fun _ => 0))), (q4, .inl (cI, 4, .inl (fun _ => 0))), (q5, .inl (cI, 4, .inl (fun _ => 0))), (q6, .inl (cI, 4, .inl (fun _ => 0))), (q7, .inl (cI, 34, .inl (fun _ => 0))), (q8, .inl (cI, 220, .inl (fun _ => 0))), (q9, .inl (cI, 2, .inl (fun _ => 0))), (q10, .inl (cI, 8, .inl (fun _ => 0))), (q11, .inl (cI, 8, .inl (fun _ => 0))), (q12, .inl (cI, 8, .inl (fun _ => 0))), (q13, .inl (cI, 8, .inl (fun _ => 0))), (q14, .inl (cI, 8, .inl (fun _ => 0))), (q15, .inl (cI, 4, .inl (fun _ => 0))), (q16, .inl (cI, 4, .inl (fun _ => 0))), (q17, .inl (cI, 4, .inl (fun _ => 0)))] H := ⟨hP, hD⟩
  have hP := hPD.1
  have hD := hPD.2
  clear hPD
  refine lv_aload_n hx hb dX11_init_139 rfl (lv_at hl 0 rfl) ?_
  refine lv_sipush (v := 680) hx hb dX11_init_140 (by decide) ?_
  refine va_newa (atype := .int) (ty := .int) (n := 680) (a0 := (680, .inl (fun _ => 0))) (N' := 680) hx hb (hts (.arrayClass .int) (wmx 4 rfl)) rfl hK hP hD hS hA (fun _ => rfl) (by decide) (by decide) (by decide) (Nat.le_of_ble_eq_true rfl) (Nat.le_of_ble_eq_true rfl) dX11_init_143 (fun q18 cA H hKn hP hD hS => ?_)
  have ecA := xcI hKn
  subst ecA
  clear hKn
  refine W.widen (k := 18) (n := 1024) (Nat.le_of_ble_eq_true rfl) (Nat.le_of_ble_eq_true rfl) ?_
  have hPD : pdW (dC, dI) vwCl A [(h0, .inr (11, (.int 0 :: .int 0 :: .int 0 :: .ref q1 :: .ref q2 :: .ref q3 :: .int 0 :: .ref q4 :: .ref q5 :: .ref q6 :: .ref q7 :: .int 0 :: .ref q8 :: .int 0 :: .int (-1) :: .int 0 :: .int 0 :: .int 0 :: .ref q9 :: .int 0 :: .ref q10 :: .ref q11 :: .ref q12 :: .ref q13 :: .ref q14 :: .int 0 :: .ref q15 :: .ref q16 :: .ref q17 :: .int 0 :: .null :: .int 0 :: .int 0 :: .null :: .int 0 :: .int 0 :: .null :: .int 0 :: .null :: .null :: .null :: .int 0 :: .null :: .null :: .null :: .null :: []))), (q1, .inl (cI, 8, .inl (fun _ => 0))), (q2, .inl (cI, 8, .inl (fun _ => 0))), (q3, .inl (cI, 8, .inl (fun _ => 0))), (q4, .inl (cI, 4, .inl (fun _ => 0))), (q5, .inl (cI, 4, .inl (fun _ => 0))), (q6, .inl (cI, 4, .inl (fun _ => 0))), (q7, .inl (cI, 34, .inl (fun _ => 0))), (q8, .inl (cI, 220, .inl (fun _ => 0))), (q9, .inl (cI, 2, .inl (fun _ => 0))), (q10, .inl (cI, 8, .inl (fun _ => 0))), (q11, .inl (cI, 8, .inl (fun _ => 0))), (q12, .inl (cI, 8, .inl (fun _ => 0))), (q13, .inl (cI, 8, .inl (fun _ => 0))), (q14, .inl (cI, 8, .inl (fun _ => 0))), (q15, .inl (cI, 4, .inl (fun _ => 0))), (q16, .inl (cI, 4, .inl (fun _ => 0))), (q17, .inl (cI, 4, .inl (fun _ => 0))), (q18, .inl (cI, 680, .inl (fun _ => 0)))] H := ⟨hP, hD⟩
  have hP := hPD.1
  have hD := hPD.2
  clear hPD
  refine va_putF (D := (dC, dI)) (ci := 11) (v := .ref q18) (ty := .array .int) (C := RX11) (T := TX11) (N := 46) hx hb hts hi_X11 tyX11 tyX11_ok nmX11 hown hK hP hD hS 0 rfl rfl 30 (by decide) (hts (.fieldLink RX11 65 "LeftQuillsModel" "past" "[I") (wmx 23 rfl)) (fun _ h9 => h9) rfl hin rfl (by decide +kernel) rfl rfl (Nat.le_of_ble_eq_true rfl) dX11_init_145 (fun H locs hP hD hS => ?_)
  have hPD : pdW (dC, dI) vwCl A [(h0, .inr (11, (.int 0 :: .int 0 :: .int 0 :: .ref q1 :: .ref q2 :: .ref q3 :: .int 0 :: .ref q4 :: .ref q5 :: .ref q6 :: .ref q7 :: .int 0 :: .ref q8 :: .int 0 :: .int (-1) :: .int 0 :: .int 0 :: .int 0 :: .ref q9 :: .int 0 :: .ref q10 :: .ref q11 :: .ref q12 :: .ref q13 :: .ref q14 :: .int 0 :: .ref q15 :: .ref q16 :: .ref q17 :: .int 0 :: .ref q18 :: .int 0 :: .int 0 :: .null :: .int 0 :: .int 0 :: .null :: .int 0 :: .null :: .null :: .null :: .int 0 :: .null :: .null :: .null :: .null :: []))), (q1, .inl (cI, 8, .inl (fun _ => 0))), (q2, .inl (cI, 8, .inl (fun _ => 0))), (q3, .inl (cI, 8, .inl (fun _ => 0))), (q4, .inl (cI, 4, .inl (fun _ => 0))), (q5, .inl (cI, 4, .inl (fun _ => 0))), (q6, .inl (cI, 4, .inl (fun _ => 0))), (q7, .inl (cI, 34, .inl (fun _ => 0))), (q8, .inl (cI, 220, .inl (fun _ => 0))), (q9, .inl (cI, 2, .inl (fun _ => 0))), (q10, .inl (cI, 8, .inl (fun _ => 0))), (q11, .inl (cI, 8, .inl (fun _ => 0))), (q12, .inl (cI, 8, .inl (fun _ => 0))), (q13, .inl (cI, 8, .inl (fun _ => 0))), (q14, .inl (cI, 8, .inl (fun _ => 0))), (q15, .inl (cI, 4, .inl (fun _ => 0))), (q16, .inl (cI, 4, .inl (fun _ => 0))), (q17, .inl (cI, 4, .inl (fun _ => 0))), (q18, .inl (cI, 680, .inl (fun _ => 0)))] H := ⟨hP, hD⟩
  have hP := hPD.1
  have hD := hPD.2
  clear hPD
  refine lv_aload_n hx hb dX11_init_148 rfl (lv_at hl 0 rfl) ?_
  refine lv_bipush (v := 34) hx hb dX11_init_149 (by decide) ?_
  refine va_newa (atype := .int) (ty := .int) (n := 34) (a0 := (34, .inl (fun _ => 0))) (N' := 34) hx hb (hts (.arrayClass .int) (wmx 4 rfl)) rfl hK hP hD hS hA (fun _ => rfl) (by decide) (by decide) (by decide) (Nat.le_of_ble_eq_true rfl) (Nat.le_of_ble_eq_true rfl) dX11_init_151 (fun q19 cA H hKn hP hD hS => ?_)
  have ecA := xcI hKn
  subst ecA
  clear hKn
  refine W.widen (k := 19) (n := 1058) (Nat.le_of_ble_eq_true rfl) (Nat.le_of_ble_eq_true rfl) ?_
  have hPD : pdW (dC, dI) vwCl A [(h0, .inr (11, (.int 0 :: .int 0 :: .int 0 :: .ref q1 :: .ref q2 :: .ref q3 :: .int 0 :: .ref q4 :: .ref q5 :: .ref q6 :: .ref q7 :: .int 0 :: .ref q8 :: .int 0 :: .int (-1) :: .int 0 :: .int 0 :: .int 0 :: .ref q9 :: .int 0 :: .ref q10 :: .ref q11 :: .ref q12 :: .ref q13 :: .ref q14 :: .int 0 :: .ref q15 :: .ref q16 :: .ref q17 :: .int 0 :: .ref q18 :: .int 0 :: .int 0 :: .null :: .int 0 :: .int 0 :: .null :: .int 0 :: .null :: .null :: .null :: .int 0 :: .null :: .null :: .null :: .null :: []))), (q1, .inl (cI, 8, .inl (fun _ => 0))), (q2, .inl (cI, 8, .inl (fun _ => 0))), (q3, .inl (cI, 8, .inl (fun _ => 0))), (q4, .inl (cI, 4, .inl (fun _ => 0))), (q5, .inl (cI, 4, .inl (fun _ => 0))), (q6, .inl (cI, 4, .inl (fun _ => 0))), (q7, .inl (cI, 34, .inl (fun _ => 0))), (q8, .inl (cI, 220, .inl (fun _ => 0))), (q9, .inl (cI, 2, .inl (fun _ => 0))), (q10, .inl (cI, 8, .inl (fun _ => 0))), (q11, .inl (cI, 8, .inl (fun _ => 0))), (q12, .inl (cI, 8, .inl (fun _ => 0))), (q13, .inl (cI, 8, .inl (fun _ => 0))), (q14, .inl (cI, 8, .inl (fun _ => 0))), (q15, .inl (cI, 4, .inl (fun _ => 0))), (q16, .inl (cI, 4, .inl (fun _ => 0))), (q17, .inl (cI, 4, .inl (fun _ => 0))), (q18, .inl (cI, 680, .inl (fun _ => 0))), (q19, .inl (cI, 34, .inl (fun _ => 0)))] H := ⟨hP, hD⟩
  have hP := hPD.1
  have hD := hPD.2
  clear hPD
  refine va_putF (D := (dC, dI)) (ci := 11) (v := .ref q19) (ty := .array .int) (C := RX11) (T := TX11) (N := 46) hx hb hts hi_X11 tyX11 tyX11_ok nmX11 hown hK hP hD hS 0 rfl rfl 33 (by decide) (hts (.fieldLink RX11 68 "LeftQuillsModel" "was" "[I") (wmx 24 rfl)) (fun _ h9 => h9) rfl hin rfl (by decide +kernel) rfl rfl (Nat.le_of_ble_eq_true rfl) dX11_init_153 (fun H locs hP hD hS => ?_)
  have hPD : pdW (dC, dI) vwCl A [(h0, .inr (11, (.int 0 :: .int 0 :: .int 0 :: .ref q1 :: .ref q2 :: .ref q3 :: .int 0 :: .ref q4 :: .ref q5 :: .ref q6 :: .ref q7 :: .int 0 :: .ref q8 :: .int 0 :: .int (-1) :: .int 0 :: .int 0 :: .int 0 :: .ref q9 :: .int 0 :: .ref q10 :: .ref q11 :: .ref q12 :: .ref q13 :: .ref q14 :: .int 0 :: .ref q15 :: .ref q16 :: .ref q17 :: .int 0 :: .ref q18 :: .int 0 :: .int 0 :: .ref q19 :: .int 0 :: .int 0 :: .null :: .int 0 :: .null :: .null :: .null :: .int 0 :: .null :: .null :: .null :: .null :: []))), (q1, .inl (cI, 8, .inl (fun _ => 0))), (q2, .inl (cI, 8, .inl (fun _ => 0))), (q3, .inl (cI, 8, .inl (fun _ => 0))), (q4, .inl (cI, 4, .inl (fun _ => 0))), (q5, .inl (cI, 4, .inl (fun _ => 0))), (q6, .inl (cI, 4, .inl (fun _ => 0))), (q7, .inl (cI, 34, .inl (fun _ => 0))), (q8, .inl (cI, 220, .inl (fun _ => 0))), (q9, .inl (cI, 2, .inl (fun _ => 0))), (q10, .inl (cI, 8, .inl (fun _ => 0))), (q11, .inl (cI, 8, .inl (fun _ => 0))), (q12, .inl (cI, 8, .inl (fun _ => 0))), (q13, .inl (cI, 8, .inl (fun _ => 0))), (q14, .inl (cI, 8, .inl (fun _ => 0))), (q15, .inl (cI, 4, .inl (fun _ => 0))), (q16, .inl (cI, 4, .inl (fun _ => 0))), (q17, .inl (cI, 4, .inl (fun _ => 0))), (q18, .inl (cI, 680, .inl (fun _ => 0))), (q19, .inl (cI, 34, .inl (fun _ => 0)))] H := ⟨hP, hD⟩
  have hP := hPD.1
  have hD := hPD.2
  clear hPD
  refine lv_aload_n hx hb dX11_init_156 rfl (lv_at hl 0 rfl) ?_
  refine lv_bipush (v := 9) hx hb dX11_init_157 (by decide) ?_
  refine va_newa (atype := .int) (ty := .int) (n := 9) (a0 := (9, .inl (fun _ => 0))) (N' := 9) hx hb (hts (.arrayClass .int) (wmx 4 rfl)) rfl hK hP hD hS hA (fun _ => rfl) (by decide) (by decide) (by decide) (Nat.le_of_ble_eq_true rfl) (Nat.le_of_ble_eq_true rfl) dX11_init_159 (fun q20 cA H hKn hP hD hS => ?_)
  have ecA := xcI hKn
  subst ecA
  clear hKn
  refine W.widen (k := 20) (n := 1067) (Nat.le_of_ble_eq_true rfl) (Nat.le_of_ble_eq_true rfl) ?_
  have hPD : pdW (dC, dI) vwCl A [(h0, .inr (11, (.int 0 :: .int 0 :: .int 0 :: .ref q1 :: .ref q2 :: .ref q3 :: .int 0 :: .ref q4 :: .ref q5 :: .ref q6 :: .ref q7 :: .int 0 :: .ref q8 :: .int 0 :: .int (-1) :: .int 0 :: .int 0 :: .int 0 :: .ref q9 :: .int 0 :: .ref q10 :: .ref q11 :: .ref q12 :: .ref q13 :: .ref q14 :: .int 0 :: .ref q15 :: .ref q16 :: .ref q17 :: .int 0 :: .ref q18 :: .int 0 :: .int 0 :: .ref q19 :: .int 0 :: .int 0 :: .null :: .int 0 :: .null :: .null :: .null :: .int 0 :: .null :: .null :: .null :: .null :: []))), (q1, .inl (cI, 8, .inl (fun _ => 0))), (q2, .inl (cI, 8, .inl (fun _ => 0))), (q3, .inl (cI, 8, .inl (fun _ => 0))), (q4, .inl (cI, 4, .inl (fun _ => 0))), (q5, .inl (cI, 4, .inl (fun _ => 0))), (q6, .inl (cI, 4, .inl (fun _ => 0))), (q7, .inl (cI, 34, .inl (fun _ => 0))), (q8, .inl (cI, 220, .inl (fun _ => 0))), (q9, .inl (cI, 2, .inl (fun _ => 0))), (q10, .inl (cI, 8, .inl (fun _ => 0))), (q11, .inl (cI, 8, .inl (fun _ => 0))), (q12, .inl (cI, 8, .inl (fun _ => 0))), (q13, .inl (cI, 8, .inl (fun _ => 0))), (q14, .inl (cI, 8, .inl (fun _ => 0))), (q15, .inl (cI, 4, .inl (fun _ => 0))), (q16, .inl (cI, 4, .inl (fun _ => 0))), (q17, .inl (cI, 4, .inl (fun _ => 0))), (q18, .inl (cI, 680, .inl (fun _ => 0))), (q19, .inl (cI, 34, .inl (fun _ => 0))), (q20, .inl (cI, 9, .inl (fun _ => 0)))] H := ⟨hP, hD⟩
  have hP := hPD.1
  have hD := hPD.2
  clear hPD
  refine va_putF (D := (dC, dI)) (ci := 11) (v := .ref q20) (ty := .array .int) (C := RX11) (T := TX11) (N := 46) hx hb hts hi_X11 tyX11 tyX11_ok nmX11 hown hK hP hD hS 0 rfl rfl 36 (by decide) (hts (.fieldLink RX11 71 "LeftQuillsModel" "softs" "[I") (wmx 25 rfl)) (fun _ h9 => h9) rfl hin rfl (by decide +kernel) rfl rfl (Nat.le_of_ble_eq_true rfl) dX11_init_161 (fun H locs hP hD hS => ?_)
  have hPD : pdW (dC, dI) vwCl A [(h0, .inr (11, (.int 0 :: .int 0 :: .int 0 :: .ref q1 :: .ref q2 :: .ref q3 :: .int 0 :: .ref q4 :: .ref q5 :: .ref q6 :: .ref q7 :: .int 0 :: .ref q8 :: .int 0 :: .int (-1) :: .int 0 :: .int 0 :: .int 0 :: .ref q9 :: .int 0 :: .ref q10 :: .ref q11 :: .ref q12 :: .ref q13 :: .ref q14 :: .int 0 :: .ref q15 :: .ref q16 :: .ref q17 :: .int 0 :: .ref q18 :: .int 0 :: .int 0 :: .ref q19 :: .int 0 :: .int 0 :: .ref q20 :: .int 0 :: .null :: .null :: .null :: .int 0 :: .null :: .null :: .null :: .null :: []))), (q1, .inl (cI, 8, .inl (fun _ => 0))), (q2, .inl (cI, 8, .inl (fun _ => 0))), (q3, .inl (cI, 8, .inl (fun _ => 0))), (q4, .inl (cI, 4, .inl (fun _ => 0))), (q5, .inl (cI, 4, .inl (fun _ => 0))), (q6, .inl (cI, 4, .inl (fun _ => 0))), (q7, .inl (cI, 34, .inl (fun _ => 0))), (q8, .inl (cI, 220, .inl (fun _ => 0))), (q9, .inl (cI, 2, .inl (fun _ => 0))), (q10, .inl (cI, 8, .inl (fun _ => 0))), (q11, .inl (cI, 8, .inl (fun _ => 0))), (q12, .inl (cI, 8, .inl (fun _ => 0))), (q13, .inl (cI, 8, .inl (fun _ => 0))), (q14, .inl (cI, 8, .inl (fun _ => 0))), (q15, .inl (cI, 4, .inl (fun _ => 0))), (q16, .inl (cI, 4, .inl (fun _ => 0))), (q17, .inl (cI, 4, .inl (fun _ => 0))), (q18, .inl (cI, 680, .inl (fun _ => 0))), (q19, .inl (cI, 34, .inl (fun _ => 0))), (q20, .inl (cI, 9, .inl (fun _ => 0)))] H := ⟨hP, hD⟩
  have hP := hPD.1
  have hD := hPD.2
  clear hPD
  refine lv_aload_n hx hb dX11_init_164 rfl (lv_at hl 0 rfl) ?_
  refine lv_bipush (v := 6) hx hb dX11_init_165 (by decide) ?_
  refine va_newa (atype := .int) (ty := .int) (n := 6) (a0 := (6, .inl (fun _ => 0))) (N' := 6) hx hb (hts (.arrayClass .int) (wmx 4 rfl)) rfl hK hP hD hS hA (fun _ => rfl) (by decide) (by decide) (by decide) (Nat.le_of_ble_eq_true rfl) (Nat.le_of_ble_eq_true rfl) dX11_init_167 (fun q21 cA H hKn hP hD hS => ?_)
  have ecA := xcI hKn
  subst ecA
  clear hKn
  refine W.widen (k := 21) (n := 1073) (Nat.le_of_ble_eq_true rfl) (Nat.le_of_ble_eq_true rfl) ?_
  have hPD : pdW (dC, dI) vwCl A [(h0, .inr (11, (.int 0 :: .int 0 :: .int 0 :: .ref q1 :: .ref q2 :: .ref q3 :: .int 0 :: .ref q4 :: .ref q5 :: .ref q6 :: .ref q7 :: .int 0 :: .ref q8 :: .int 0 :: .int (-1) :: .int 0 :: .int 0 :: .int 0 :: .ref q9 :: .int 0 :: .ref q10 :: .ref q11 :: .ref q12 :: .ref q13 :: .ref q14 :: .int 0 :: .ref q15 :: .ref q16 :: .ref q17 :: .int 0 :: .ref q18 :: .int 0 :: .int 0 :: .ref q19 :: .int 0 :: .int 0 :: .ref q20 :: .int 0 :: .null :: .null :: .null :: .int 0 :: .null :: .null :: .null :: .null :: []))), (q1, .inl (cI, 8, .inl (fun _ => 0))), (q2, .inl (cI, 8, .inl (fun _ => 0))), (q3, .inl (cI, 8, .inl (fun _ => 0))), (q4, .inl (cI, 4, .inl (fun _ => 0))), (q5, .inl (cI, 4, .inl (fun _ => 0))), (q6, .inl (cI, 4, .inl (fun _ => 0))), (q7, .inl (cI, 34, .inl (fun _ => 0))), (q8, .inl (cI, 220, .inl (fun _ => 0))), (q9, .inl (cI, 2, .inl (fun _ => 0))), (q10, .inl (cI, 8, .inl (fun _ => 0))), (q11, .inl (cI, 8, .inl (fun _ => 0))), (q12, .inl (cI, 8, .inl (fun _ => 0))), (q13, .inl (cI, 8, .inl (fun _ => 0))), (q14, .inl (cI, 8, .inl (fun _ => 0))), (q15, .inl (cI, 4, .inl (fun _ => 0))), (q16, .inl (cI, 4, .inl (fun _ => 0))), (q17, .inl (cI, 4, .inl (fun _ => 0))), (q18, .inl (cI, 680, .inl (fun _ => 0))), (q19, .inl (cI, 34, .inl (fun _ => 0))), (q20, .inl (cI, 9, .inl (fun _ => 0))), (q21, .inl (cI, 6, .inl (fun _ => 0)))] H := ⟨hP, hD⟩
  have hP := hPD.1
  have hD := hPD.2
  clear hPD
  refine va_putF (D := (dC, dI)) (ci := 11) (v := .ref q21) (ty := .array .int) (C := RX11) (T := TX11) (N := 46) hx hb hts hi_X11 tyX11 tyX11_ok nmX11 hown hK hP hD hS 0 rfl rfl 38 (by decide) (hts (.fieldLink RX11 74 "LeftQuillsModel" "wornQuill" "[I") (wmx 26 rfl)) (fun _ h9 => h9) rfl hin rfl (by decide +kernel) rfl rfl (Nat.le_of_ble_eq_true rfl) dX11_init_169 (fun H locs hP hD hS => ?_)
  have hPD : pdW (dC, dI) vwCl A [(h0, .inr (11, (.int 0 :: .int 0 :: .int 0 :: .ref q1 :: .ref q2 :: .ref q3 :: .int 0 :: .ref q4 :: .ref q5 :: .ref q6 :: .ref q7 :: .int 0 :: .ref q8 :: .int 0 :: .int (-1) :: .int 0 :: .int 0 :: .int 0 :: .ref q9 :: .int 0 :: .ref q10 :: .ref q11 :: .ref q12 :: .ref q13 :: .ref q14 :: .int 0 :: .ref q15 :: .ref q16 :: .ref q17 :: .int 0 :: .ref q18 :: .int 0 :: .int 0 :: .ref q19 :: .int 0 :: .int 0 :: .ref q20 :: .int 0 :: .ref q21 :: .null :: .null :: .int 0 :: .null :: .null :: .null :: .null :: []))), (q1, .inl (cI, 8, .inl (fun _ => 0))), (q2, .inl (cI, 8, .inl (fun _ => 0))), (q3, .inl (cI, 8, .inl (fun _ => 0))), (q4, .inl (cI, 4, .inl (fun _ => 0))), (q5, .inl (cI, 4, .inl (fun _ => 0))), (q6, .inl (cI, 4, .inl (fun _ => 0))), (q7, .inl (cI, 34, .inl (fun _ => 0))), (q8, .inl (cI, 220, .inl (fun _ => 0))), (q9, .inl (cI, 2, .inl (fun _ => 0))), (q10, .inl (cI, 8, .inl (fun _ => 0))), (q11, .inl (cI, 8, .inl (fun _ => 0))), (q12, .inl (cI, 8, .inl (fun _ => 0))), (q13, .inl (cI, 8, .inl (fun _ => 0))), (q14, .inl (cI, 8, .inl (fun _ => 0))), (q15, .inl (cI, 4, .inl (fun _ => 0))), (q16, .inl (cI, 4, .inl (fun _ => 0))), (q17, .inl (cI, 4, .inl (fun _ => 0))), (q18, .inl (cI, 680, .inl (fun _ => 0))), (q19, .inl (cI, 34, .inl (fun _ => 0))), (q20, .inl (cI, 9, .inl (fun _ => 0))), (q21, .inl (cI, 6, .inl (fun _ => 0)))] H := ⟨hP, hD⟩
  have hP := hPD.1
  have hD := hPD.2
  clear hPD
  refine lv_aload_n hx hb dX11_init_172 rfl (lv_at hl 0 rfl) ?_
  refine lv_bipush (v := 6) hx hb dX11_init_173 (by decide) ?_
  refine va_newa (atype := .int) (ty := .int) (n := 6) (a0 := (6, .inl (fun _ => 0))) (N' := 6) hx hb (hts (.arrayClass .int) (wmx 4 rfl)) rfl hK hP hD hS hA (fun _ => rfl) (by decide) (by decide) (by decide) (Nat.le_of_ble_eq_true rfl) (Nat.le_of_ble_eq_true rfl) dX11_init_175 (fun q22 cA H hKn hP hD hS => ?_)
  have ecA := xcI hKn
  subst ecA
  clear hKn
  refine W.widen (k := 22) (n := 1079) (Nat.le_of_ble_eq_true rfl) (Nat.le_of_ble_eq_true rfl) ?_
  have hPD : pdW (dC, dI) vwCl A [(h0, .inr (11, (.int 0 :: .int 0 :: .int 0 :: .ref q1 :: .ref q2 :: .ref q3 :: .int 0 :: .ref q4 :: .ref q5 :: .ref q6 :: .ref q7 :: .int 0 :: .ref q8 :: .int 0 :: .int (-1) :: .int 0 :: .int 0 :: .int 0 :: .ref q9 :: .int 0 :: .ref q10 :: .ref q11 :: .ref q12 :: .ref q13 :: .ref q14 :: .int 0 :: .ref q15 :: .ref q16 :: .ref q17 :: .int 0 :: .ref q18 :: .int 0 :: .int 0 :: .ref q19 :: .int 0 :: .int 0 :: .ref q20 :: .int 0 :: .ref q21 :: .null :: .null :: .int 0 :: .null :: .null :: .null :: .null :: []))), (q1, .inl (cI, 8, .inl (fun _ => 0))), (q2, .inl (cI, 8, .inl (fun _ => 0))), (q3, .inl (cI, 8, .inl (fun _ => 0))), (q4, .inl (cI, 4, .inl (fun _ => 0))), (q5, .inl (cI, 4, .inl (fun _ => 0))), (q6, .inl (cI, 4, .inl (fun _ => 0))), (q7, .inl (cI, 34, .inl (fun _ => 0))), (q8, .inl (cI, 220, .inl (fun _ => 0))), (q9, .inl (cI, 2, .inl (fun _ => 0))), (q10, .inl (cI, 8, .inl (fun _ => 0))), (q11, .inl (cI, 8, .inl (fun _ => 0))), (q12, .inl (cI, 8, .inl (fun _ => 0))), (q13, .inl (cI, 8, .inl (fun _ => 0))), (q14, .inl (cI, 8, .inl (fun _ => 0))), (q15, .inl (cI, 4, .inl (fun _ => 0))), (q16, .inl (cI, 4, .inl (fun _ => 0))), (q17, .inl (cI, 4, .inl (fun _ => 0))), (q18, .inl (cI, 680, .inl (fun _ => 0))), (q19, .inl (cI, 34, .inl (fun _ => 0))), (q20, .inl (cI, 9, .inl (fun _ => 0))), (q21, .inl (cI, 6, .inl (fun _ => 0))), (q22, .inl (cI, 6, .inl (fun _ => 0)))] H := ⟨hP, hD⟩
  have hP := hPD.1
  have hD := hPD.2
  clear hPD
  refine va_putF (D := (dC, dI)) (ci := 11) (v := .ref q22) (ty := .array .int) (C := RX11) (T := TX11) (N := 46) hx hb hts hi_X11 tyX11 tyX11_ok nmX11 hown hK hP hD hS 0 rfl rfl 39 (by decide) (hts (.fieldLink RX11 77 "LeftQuillsModel" "wornPages" "[I") (wmx 27 rfl)) (fun _ h9 => h9) rfl hin rfl (by decide +kernel) rfl rfl (Nat.le_of_ble_eq_true rfl) dX11_init_177 (fun H locs hP hD hS => ?_)
  have hPD : pdW (dC, dI) vwCl A [(h0, .inr (11, (.int 0 :: .int 0 :: .int 0 :: .ref q1 :: .ref q2 :: .ref q3 :: .int 0 :: .ref q4 :: .ref q5 :: .ref q6 :: .ref q7 :: .int 0 :: .ref q8 :: .int 0 :: .int (-1) :: .int 0 :: .int 0 :: .int 0 :: .ref q9 :: .int 0 :: .ref q10 :: .ref q11 :: .ref q12 :: .ref q13 :: .ref q14 :: .int 0 :: .ref q15 :: .ref q16 :: .ref q17 :: .int 0 :: .ref q18 :: .int 0 :: .int 0 :: .ref q19 :: .int 0 :: .int 0 :: .ref q20 :: .int 0 :: .ref q21 :: .ref q22 :: .null :: .int 0 :: .null :: .null :: .null :: .null :: []))), (q1, .inl (cI, 8, .inl (fun _ => 0))), (q2, .inl (cI, 8, .inl (fun _ => 0))), (q3, .inl (cI, 8, .inl (fun _ => 0))), (q4, .inl (cI, 4, .inl (fun _ => 0))), (q5, .inl (cI, 4, .inl (fun _ => 0))), (q6, .inl (cI, 4, .inl (fun _ => 0))), (q7, .inl (cI, 34, .inl (fun _ => 0))), (q8, .inl (cI, 220, .inl (fun _ => 0))), (q9, .inl (cI, 2, .inl (fun _ => 0))), (q10, .inl (cI, 8, .inl (fun _ => 0))), (q11, .inl (cI, 8, .inl (fun _ => 0))), (q12, .inl (cI, 8, .inl (fun _ => 0))), (q13, .inl (cI, 8, .inl (fun _ => 0))), (q14, .inl (cI, 8, .inl (fun _ => 0))), (q15, .inl (cI, 4, .inl (fun _ => 0))), (q16, .inl (cI, 4, .inl (fun _ => 0))), (q17, .inl (cI, 4, .inl (fun _ => 0))), (q18, .inl (cI, 680, .inl (fun _ => 0))), (q19, .inl (cI, 34, .inl (fun _ => 0))), (q20, .inl (cI, 9, .inl (fun _ => 0))), (q21, .inl (cI, 6, .inl (fun _ => 0))), (q22, .inl (cI, 6, .inl (fun _ => 0)))] H := ⟨hP, hD⟩
  have hP := hPD.1
  have hD := hPD.2
  clear hPD
  refine lv_aload_n hx hb dX11_init_180 rfl (lv_at hl 0 rfl) ?_
  refine lv_bipush (v := 6) hx hb dX11_init_181 (by decide) ?_
  refine va_newa (atype := .int) (ty := .int) (n := 6) (a0 := (6, .inl (fun _ => 0))) (N' := 6) hx hb (hts (.arrayClass .int) (wmx 4 rfl)) rfl hK hP hD hS hA (fun _ => rfl) (by decide) (by decide) (by decide) (Nat.le_of_ble_eq_true rfl) (Nat.le_of_ble_eq_true rfl) dX11_init_183 (fun q23 cA H hKn hP hD hS => ?_)
  have ecA := xcI hKn
  subst ecA
  clear hKn
  refine W.widen (k := 23) (n := 1085) (Nat.le_of_ble_eq_true rfl) (Nat.le_of_ble_eq_true rfl) ?_
  have hPD : pdW (dC, dI) vwCl A [(h0, .inr (11, (.int 0 :: .int 0 :: .int 0 :: .ref q1 :: .ref q2 :: .ref q3 :: .int 0 :: .ref q4 :: .ref q5 :: .ref q6 :: .ref q7 :: .int 0 :: .ref q8 :: .int 0 :: .int (-1) :: .int 0 :: .int 0 :: .int 0 :: .ref q9 :: .int 0 :: .ref q10 :: .ref q11 :: .ref q12 :: .ref q13 :: .ref q14 :: .int 0 :: .ref q15 :: .ref q16 :: .ref q17 :: .int 0 :: .ref q18 :: .int 0 :: .int 0 :: .ref q19 :: .int 0 :: .int 0 :: .ref q20 :: .int 0 :: .ref q21 :: .ref q22 :: .null :: .int 0 :: .null :: .null :: .null :: .null :: []))), (q1, .inl (cI, 8, .inl (fun _ => 0))), (q2, .inl (cI, 8, .inl (fun _ => 0))), (q3, .inl (cI, 8, .inl (fun _ => 0))), (q4, .inl (cI, 4, .inl (fun _ => 0))), (q5, .inl (cI, 4, .inl (fun _ => 0))), (q6, .inl (cI, 4, .inl (fun _ => 0))), (q7, .inl (cI, 34, .inl (fun _ => 0))), (q8, .inl (cI, 220, .inl (fun _ => 0))), (q9, .inl (cI, 2, .inl (fun _ => 0))), (q10, .inl (cI, 8, .inl (fun _ => 0))), (q11, .inl (cI, 8, .inl (fun _ => 0))), (q12, .inl (cI, 8, .inl (fun _ => 0))), (q13, .inl (cI, 8, .inl (fun _ => 0))), (q14, .inl (cI, 8, .inl (fun _ => 0))), (q15, .inl (cI, 4, .inl (fun _ => 0))), (q16, .inl (cI, 4, .inl (fun _ => 0))), (q17, .inl (cI, 4, .inl (fun _ => 0))), (q18, .inl (cI, 680, .inl (fun _ => 0))), (q19, .inl (cI, 34, .inl (fun _ => 0))), (q20, .inl (cI, 9, .inl (fun _ => 0))), (q21, .inl (cI, 6, .inl (fun _ => 0))), (q22, .inl (cI, 6, .inl (fun _ => 0))), (q23, .inl (cI, 6, .inl (fun _ => 0)))] H := ⟨hP, hD⟩
  have hP := hPD.1
  have hD := hPD.2
  clear hPD
  refine va_putF (D := (dC, dI)) (ci := 11) (v := .ref q23) (ty := .array .int) (C := RX11) (T := TX11) (N := 46) hx hb hts hi_X11 tyX11 tyX11_ok nmX11 hown hK hP hD hS 0 rfl rfl 40 (by decide) (hts (.fieldLink RX11 80 "LeftQuillsModel" "wornSoft" "[I") (wmx 28 rfl)) (fun _ h9 => h9) rfl hin rfl (by decide +kernel) rfl rfl (Nat.le_of_ble_eq_true rfl) dX11_init_185 (fun H locs hP hD hS => ?_)
  have hPD : pdW (dC, dI) vwCl A [(h0, .inr (11, (.int 0 :: .int 0 :: .int 0 :: .ref q1 :: .ref q2 :: .ref q3 :: .int 0 :: .ref q4 :: .ref q5 :: .ref q6 :: .ref q7 :: .int 0 :: .ref q8 :: .int 0 :: .int (-1) :: .int 0 :: .int 0 :: .int 0 :: .ref q9 :: .int 0 :: .ref q10 :: .ref q11 :: .ref q12 :: .ref q13 :: .ref q14 :: .int 0 :: .ref q15 :: .ref q16 :: .ref q17 :: .int 0 :: .ref q18 :: .int 0 :: .int 0 :: .ref q19 :: .int 0 :: .int 0 :: .ref q20 :: .int 0 :: .ref q21 :: .ref q22 :: .ref q23 :: .int 0 :: .null :: .null :: .null :: .null :: []))), (q1, .inl (cI, 8, .inl (fun _ => 0))), (q2, .inl (cI, 8, .inl (fun _ => 0))), (q3, .inl (cI, 8, .inl (fun _ => 0))), (q4, .inl (cI, 4, .inl (fun _ => 0))), (q5, .inl (cI, 4, .inl (fun _ => 0))), (q6, .inl (cI, 4, .inl (fun _ => 0))), (q7, .inl (cI, 34, .inl (fun _ => 0))), (q8, .inl (cI, 220, .inl (fun _ => 0))), (q9, .inl (cI, 2, .inl (fun _ => 0))), (q10, .inl (cI, 8, .inl (fun _ => 0))), (q11, .inl (cI, 8, .inl (fun _ => 0))), (q12, .inl (cI, 8, .inl (fun _ => 0))), (q13, .inl (cI, 8, .inl (fun _ => 0))), (q14, .inl (cI, 8, .inl (fun _ => 0))), (q15, .inl (cI, 4, .inl (fun _ => 0))), (q16, .inl (cI, 4, .inl (fun _ => 0))), (q17, .inl (cI, 4, .inl (fun _ => 0))), (q18, .inl (cI, 680, .inl (fun _ => 0))), (q19, .inl (cI, 34, .inl (fun _ => 0))), (q20, .inl (cI, 9, .inl (fun _ => 0))), (q21, .inl (cI, 6, .inl (fun _ => 0))), (q22, .inl (cI, 6, .inl (fun _ => 0))), (q23, .inl (cI, 6, .inl (fun _ => 0)))] H := ⟨hP, hD⟩
  have hP := hPD.1
  have hD := hPD.2
  clear hPD
  refine lv_aload_n hx hb dX11_init_188 rfl (lv_at hl 0 rfl) ?_
  refine lv_bipush (v := 15) hx hb dX11_init_189 (by decide) ?_
  refine va_newa (atype := .int) (ty := .int) (n := 15) (a0 := (15, .inl (fun _ => 0))) (N' := 15) hx hb (hts (.arrayClass .int) (wmx 4 rfl)) rfl hK hP hD hS hA (fun _ => rfl) (by decide) (by decide) (by decide) (Nat.le_of_ble_eq_true rfl) (Nat.le_of_ble_eq_true rfl) dX11_init_191 (fun q24 cA H hKn hP hD hS => ?_)
  have ecA := xcI hKn
  subst ecA
  clear hKn
  refine W.widen (k := 24) (n := 1100) (Nat.le_of_ble_eq_true rfl) (Nat.le_of_ble_eq_true rfl) ?_
  have hPD : pdW (dC, dI) vwCl A [(h0, .inr (11, (.int 0 :: .int 0 :: .int 0 :: .ref q1 :: .ref q2 :: .ref q3 :: .int 0 :: .ref q4 :: .ref q5 :: .ref q6 :: .ref q7 :: .int 0 :: .ref q8 :: .int 0 :: .int (-1) :: .int 0 :: .int 0 :: .int 0 :: .ref q9 :: .int 0 :: .ref q10 :: .ref q11 :: .ref q12 :: .ref q13 :: .ref q14 :: .int 0 :: .ref q15 :: .ref q16 :: .ref q17 :: .int 0 :: .ref q18 :: .int 0 :: .int 0 :: .ref q19 :: .int 0 :: .int 0 :: .ref q20 :: .int 0 :: .ref q21 :: .ref q22 :: .ref q23 :: .int 0 :: .null :: .null :: .null :: .null :: []))), (q1, .inl (cI, 8, .inl (fun _ => 0))), (q2, .inl (cI, 8, .inl (fun _ => 0))), (q3, .inl (cI, 8, .inl (fun _ => 0))), (q4, .inl (cI, 4, .inl (fun _ => 0))), (q5, .inl (cI, 4, .inl (fun _ => 0))), (q6, .inl (cI, 4, .inl (fun _ => 0))), (q7, .inl (cI, 34, .inl (fun _ => 0))), (q8, .inl (cI, 220, .inl (fun _ => 0))), (q9, .inl (cI, 2, .inl (fun _ => 0))), (q10, .inl (cI, 8, .inl (fun _ => 0))), (q11, .inl (cI, 8, .inl (fun _ => 0))), (q12, .inl (cI, 8, .inl (fun _ => 0))), (q13, .inl (cI, 8, .inl (fun _ => 0))), (q14, .inl (cI, 8, .inl (fun _ => 0))), (q15, .inl (cI, 4, .inl (fun _ => 0))), (q16, .inl (cI, 4, .inl (fun _ => 0))), (q17, .inl (cI, 4, .inl (fun _ => 0))), (q18, .inl (cI, 680, .inl (fun _ => 0))), (q19, .inl (cI, 34, .inl (fun _ => 0))), (q20, .inl (cI, 9, .inl (fun _ => 0))), (q21, .inl (cI, 6, .inl (fun _ => 0))), (q22, .inl (cI, 6, .inl (fun _ => 0))), (q23, .inl (cI, 6, .inl (fun _ => 0))), (q24, .inl (cI, 15, .inl (fun _ => 0)))] H := ⟨hP, hD⟩
  have hP := hPD.1
  have hD := hPD.2
  clear hPD
  refine va_putF (D := (dC, dI)) (ci := 11) (v := .ref q24) (ty := .array .int) (C := RX11) (T := TX11) (N := 46) hx hb hts hi_X11 tyX11 tyX11_ok nmX11 hown hK hP hD hS 0 rfl rfl 42 (by decide) (hts (.fieldLink RX11 83 "LeftQuillsModel" "bookQuill" "[I") (wmx 29 rfl)) (fun _ h9 => h9) rfl hin rfl (by decide +kernel) rfl rfl (Nat.le_of_ble_eq_true rfl) dX11_init_193 (fun H locs hP hD hS => ?_)
  have hPD : pdW (dC, dI) vwCl A [(h0, .inr (11, (.int 0 :: .int 0 :: .int 0 :: .ref q1 :: .ref q2 :: .ref q3 :: .int 0 :: .ref q4 :: .ref q5 :: .ref q6 :: .ref q7 :: .int 0 :: .ref q8 :: .int 0 :: .int (-1) :: .int 0 :: .int 0 :: .int 0 :: .ref q9 :: .int 0 :: .ref q10 :: .ref q11 :: .ref q12 :: .ref q13 :: .ref q14 :: .int 0 :: .ref q15 :: .ref q16 :: .ref q17 :: .int 0 :: .ref q18 :: .int 0 :: .int 0 :: .ref q19 :: .int 0 :: .int 0 :: .ref q20 :: .int 0 :: .ref q21 :: .ref q22 :: .ref q23 :: .int 0 :: .ref q24 :: .null :: .null :: .null :: []))), (q1, .inl (cI, 8, .inl (fun _ => 0))), (q2, .inl (cI, 8, .inl (fun _ => 0))), (q3, .inl (cI, 8, .inl (fun _ => 0))), (q4, .inl (cI, 4, .inl (fun _ => 0))), (q5, .inl (cI, 4, .inl (fun _ => 0))), (q6, .inl (cI, 4, .inl (fun _ => 0))), (q7, .inl (cI, 34, .inl (fun _ => 0))), (q8, .inl (cI, 220, .inl (fun _ => 0))), (q9, .inl (cI, 2, .inl (fun _ => 0))), (q10, .inl (cI, 8, .inl (fun _ => 0))), (q11, .inl (cI, 8, .inl (fun _ => 0))), (q12, .inl (cI, 8, .inl (fun _ => 0))), (q13, .inl (cI, 8, .inl (fun _ => 0))), (q14, .inl (cI, 8, .inl (fun _ => 0))), (q15, .inl (cI, 4, .inl (fun _ => 0))), (q16, .inl (cI, 4, .inl (fun _ => 0))), (q17, .inl (cI, 4, .inl (fun _ => 0))), (q18, .inl (cI, 680, .inl (fun _ => 0))), (q19, .inl (cI, 34, .inl (fun _ => 0))), (q20, .inl (cI, 9, .inl (fun _ => 0))), (q21, .inl (cI, 6, .inl (fun _ => 0))), (q22, .inl (cI, 6, .inl (fun _ => 0))), (q23, .inl (cI, 6, .inl (fun _ => 0))), (q24, .inl (cI, 15, .inl (fun _ => 0)))] H := ⟨hP, hD⟩
  have hP := hPD.1
  have hD := hPD.2
  clear hPD
  refine lv_aload_n hx hb dX11_init_196 rfl (lv_at hl 0 rfl) ?_
  refine lv_bipush (v := 15) hx hb dX11_init_197 (by decide) ?_
  refine va_newa (atype := .int) (ty := .int) (n := 15) (a0 := (15, .inl (fun _ => 0))) (N' := 15) hx hb (hts (.arrayClass .int) (wmx 4 rfl)) rfl hK hP hD hS hA (fun _ => rfl) (by decide) (by decide) (by decide) (Nat.le_of_ble_eq_true rfl) (Nat.le_of_ble_eq_true rfl) dX11_init_199 (fun q25 cA H hKn hP hD hS => ?_)
  have ecA := xcI hKn
  subst ecA
  clear hKn
  refine W.widen (k := 25) (n := 1115) (Nat.le_of_ble_eq_true rfl) (Nat.le_of_ble_eq_true rfl) ?_
  have hPD : pdW (dC, dI) vwCl A [(h0, .inr (11, (.int 0 :: .int 0 :: .int 0 :: .ref q1 :: .ref q2 :: .ref q3 :: .int 0 :: .ref q4 :: .ref q5 :: .ref q6 :: .ref q7 :: .int 0 :: .ref q8 :: .int 0 :: .int (-1) :: .int 0 :: .int 0 :: .int 0 :: .ref q9 :: .int 0 :: .ref q10 :: .ref q11 :: .ref q12 :: .ref q13 :: .ref q14 :: .int 0 :: .ref q15 :: .ref q16 :: .ref q17 :: .int 0 :: .ref q18 :: .int 0 :: .int 0 :: .ref q19 :: .int 0 :: .int 0 :: .ref q20 :: .int 0 :: .ref q21 :: .ref q22 :: .ref q23 :: .int 0 :: .ref q24 :: .null :: .null :: .null :: []))), (q1, .inl (cI, 8, .inl (fun _ => 0))), (q2, .inl (cI, 8, .inl (fun _ => 0))), (q3, .inl (cI, 8, .inl (fun _ => 0))), (q4, .inl (cI, 4, .inl (fun _ => 0))), (q5, .inl (cI, 4, .inl (fun _ => 0))), (q6, .inl (cI, 4, .inl (fun _ => 0))), (q7, .inl (cI, 34, .inl (fun _ => 0))), (q8, .inl (cI, 220, .inl (fun _ => 0))), (q9, .inl (cI, 2, .inl (fun _ => 0))), (q10, .inl (cI, 8, .inl (fun _ => 0))), (q11, .inl (cI, 8, .inl (fun _ => 0))), (q12, .inl (cI, 8, .inl (fun _ => 0))), (q13, .inl (cI, 8, .inl (fun _ => 0))), (q14, .inl (cI, 8, .inl (fun _ => 0))), (q15, .inl (cI, 4, .inl (fun _ => 0))), (q16, .inl (cI, 4, .inl (fun _ => 0))), (q17, .inl (cI, 4, .inl (fun _ => 0))), (q18, .inl (cI, 680, .inl (fun _ => 0))), (q19, .inl (cI, 34, .inl (fun _ => 0))), (q20, .inl (cI, 9, .inl (fun _ => 0))), (q21, .inl (cI, 6, .inl (fun _ => 0))), (q22, .inl (cI, 6, .inl (fun _ => 0))), (q23, .inl (cI, 6, .inl (fun _ => 0))), (q24, .inl (cI, 15, .inl (fun _ => 0))), (q25, .inl (cI, 15, .inl (fun _ => 0)))] H := ⟨hP, hD⟩
  have hP := hPD.1
  have hD := hPD.2
  clear hPD
  refine va_putF (D := (dC, dI)) (ci := 11) (v := .ref q25) (ty := .array .int) (C := RX11) (T := TX11) (N := 46) hx hb hts hi_X11 tyX11 tyX11_ok nmX11 hown hK hP hD hS 0 rfl rfl 43 (by decide) (hts (.fieldLink RX11 86 "LeftQuillsModel" "bookSoft" "[I") (wmx 30 rfl)) (fun _ h9 => h9) rfl hin rfl (by decide +kernel) rfl rfl (Nat.le_of_ble_eq_true rfl) dX11_init_201 (fun H locs hP hD hS => ?_)
  have hPD : pdW (dC, dI) vwCl A [(h0, .inr (11, (.int 0 :: .int 0 :: .int 0 :: .ref q1 :: .ref q2 :: .ref q3 :: .int 0 :: .ref q4 :: .ref q5 :: .ref q6 :: .ref q7 :: .int 0 :: .ref q8 :: .int 0 :: .int (-1) :: .int 0 :: .int 0 :: .int 0 :: .ref q9 :: .int 0 :: .ref q10 :: .ref q11 :: .ref q12 :: .ref q13 :: .ref q14 :: .int 0 :: .ref q15 :: .ref q16 :: .ref q17 :: .int 0 :: .ref q18 :: .int 0 :: .int 0 :: .ref q19 :: .int 0 :: .int 0 :: .ref q20 :: .int 0 :: .ref q21 :: .ref q22 :: .ref q23 :: .int 0 :: .ref q24 :: .ref q25 :: .null :: .null :: []))), (q1, .inl (cI, 8, .inl (fun _ => 0))), (q2, .inl (cI, 8, .inl (fun _ => 0))), (q3, .inl (cI, 8, .inl (fun _ => 0))), (q4, .inl (cI, 4, .inl (fun _ => 0))), (q5, .inl (cI, 4, .inl (fun _ => 0))), (q6, .inl (cI, 4, .inl (fun _ => 0))), (q7, .inl (cI, 34, .inl (fun _ => 0))), (q8, .inl (cI, 220, .inl (fun _ => 0))), (q9, .inl (cI, 2, .inl (fun _ => 0))), (q10, .inl (cI, 8, .inl (fun _ => 0))), (q11, .inl (cI, 8, .inl (fun _ => 0))), (q12, .inl (cI, 8, .inl (fun _ => 0))), (q13, .inl (cI, 8, .inl (fun _ => 0))), (q14, .inl (cI, 8, .inl (fun _ => 0))), (q15, .inl (cI, 4, .inl (fun _ => 0))), (q16, .inl (cI, 4, .inl (fun _ => 0))), (q17, .inl (cI, 4, .inl (fun _ => 0))), (q18, .inl (cI, 680, .inl (fun _ => 0))), (q19, .inl (cI, 34, .inl (fun _ => 0))), (q20, .inl (cI, 9, .inl (fun _ => 0))), (q21, .inl (cI, 6, .inl (fun _ => 0))), (q22, .inl (cI, 6, .inl (fun _ => 0))), (q23, .inl (cI, 6, .inl (fun _ => 0))), (q24, .inl (cI, 15, .inl (fun _ => 0))), (q25, .inl (cI, 15, .inl (fun _ => 0)))] H := ⟨hP, hD⟩
  have hP := hPD.1
  have hD := hPD.2
  clear hPD
  refine lv_aload_n hx hb dX11_init_204 rfl (lv_at hl 0 rfl) ?_
  refine lv_bipush (v := 70) hx hb dX11_init_205 (by decide) ?_
  refine va_newa (atype := .int) (ty := .int) (n := 70) (a0 := (70, .inl (fun _ => 0))) (N' := 70) hx hb (hts (.arrayClass .int) (wmx 4 rfl)) rfl hK hP hD hS hA (fun _ => rfl) (by decide) (by decide) (by decide) (Nat.le_of_ble_eq_true rfl) (Nat.le_of_ble_eq_true rfl) dX11_init_207 (fun q26 cA H hKn hP hD hS => ?_)
  have ecA := xcI hKn
  subst ecA
  clear hKn
  refine W.widen (k := 26) (n := 1185) (Nat.le_of_ble_eq_true rfl) (Nat.le_of_ble_eq_true rfl) ?_
  have hPD : pdW (dC, dI) vwCl A [(h0, .inr (11, (.int 0 :: .int 0 :: .int 0 :: .ref q1 :: .ref q2 :: .ref q3 :: .int 0 :: .ref q4 :: .ref q5 :: .ref q6 :: .ref q7 :: .int 0 :: .ref q8 :: .int 0 :: .int (-1) :: .int 0 :: .int 0 :: .int 0 :: .ref q9 :: .int 0 :: .ref q10 :: .ref q11 :: .ref q12 :: .ref q13 :: .ref q14 :: .int 0 :: .ref q15 :: .ref q16 :: .ref q17 :: .int 0 :: .ref q18 :: .int 0 :: .int 0 :: .ref q19 :: .int 0 :: .int 0 :: .ref q20 :: .int 0 :: .ref q21 :: .ref q22 :: .ref q23 :: .int 0 :: .ref q24 :: .ref q25 :: .null :: .null :: []))), (q1, .inl (cI, 8, .inl (fun _ => 0))), (q2, .inl (cI, 8, .inl (fun _ => 0))), (q3, .inl (cI, 8, .inl (fun _ => 0))), (q4, .inl (cI, 4, .inl (fun _ => 0))), (q5, .inl (cI, 4, .inl (fun _ => 0))), (q6, .inl (cI, 4, .inl (fun _ => 0))), (q7, .inl (cI, 34, .inl (fun _ => 0))), (q8, .inl (cI, 220, .inl (fun _ => 0))), (q9, .inl (cI, 2, .inl (fun _ => 0))), (q10, .inl (cI, 8, .inl (fun _ => 0))), (q11, .inl (cI, 8, .inl (fun _ => 0))), (q12, .inl (cI, 8, .inl (fun _ => 0))), (q13, .inl (cI, 8, .inl (fun _ => 0))), (q14, .inl (cI, 8, .inl (fun _ => 0))), (q15, .inl (cI, 4, .inl (fun _ => 0))), (q16, .inl (cI, 4, .inl (fun _ => 0))), (q17, .inl (cI, 4, .inl (fun _ => 0))), (q18, .inl (cI, 680, .inl (fun _ => 0))), (q19, .inl (cI, 34, .inl (fun _ => 0))), (q20, .inl (cI, 9, .inl (fun _ => 0))), (q21, .inl (cI, 6, .inl (fun _ => 0))), (q22, .inl (cI, 6, .inl (fun _ => 0))), (q23, .inl (cI, 6, .inl (fun _ => 0))), (q24, .inl (cI, 15, .inl (fun _ => 0))), (q25, .inl (cI, 15, .inl (fun _ => 0))), (q26, .inl (cI, 70, .inl (fun _ => 0)))] H := ⟨hP, hD⟩
  have hP := hPD.1
  have hD := hPD.2
  clear hPD
  refine va_putF (D := (dC, dI)) (ci := 11) (v := .ref q26) (ty := .array .int) (C := RX11) (T := TX11) (N := 46) hx hb hts hi_X11 tyX11 tyX11_ok nmX11 hown hK hP hD hS 0 rfl rfl 44 (by decide) (hts (.fieldLink RX11 89 "LeftQuillsModel" "images" "[I") (wmx 31 rfl)) (fun _ h9 => h9) rfl hin rfl (by decide +kernel) rfl rfl (Nat.le_of_ble_eq_true rfl) dX11_init_209 (fun H locs hP hD hS => ?_)
  have hPD : pdW (dC, dI) vwCl A [(h0, .inr (11, (.int 0 :: .int 0 :: .int 0 :: .ref q1 :: .ref q2 :: .ref q3 :: .int 0 :: .ref q4 :: .ref q5 :: .ref q6 :: .ref q7 :: .int 0 :: .ref q8 :: .int 0 :: .int (-1) :: .int 0 :: .int 0 :: .int 0 :: .ref q9 :: .int 0 :: .ref q10 :: .ref q11 :: .ref q12 :: .ref q13 :: .ref q14 :: .int 0 :: .ref q15 :: .ref q16 :: .ref q17 :: .int 0 :: .ref q18 :: .int 0 :: .int 0 :: .ref q19 :: .int 0 :: .int 0 :: .ref q20 :: .int 0 :: .ref q21 :: .ref q22 :: .ref q23 :: .int 0 :: .ref q24 :: .ref q25 :: .ref q26 :: .null :: []))), (q1, .inl (cI, 8, .inl (fun _ => 0))), (q2, .inl (cI, 8, .inl (fun _ => 0))), (q3, .inl (cI, 8, .inl (fun _ => 0))), (q4, .inl (cI, 4, .inl (fun _ => 0))), (q5, .inl (cI, 4, .inl (fun _ => 0))), (q6, .inl (cI, 4, .inl (fun _ => 0))), (q7, .inl (cI, 34, .inl (fun _ => 0))), (q8, .inl (cI, 220, .inl (fun _ => 0))), (q9, .inl (cI, 2, .inl (fun _ => 0))), (q10, .inl (cI, 8, .inl (fun _ => 0))), (q11, .inl (cI, 8, .inl (fun _ => 0))), (q12, .inl (cI, 8, .inl (fun _ => 0))), (q13, .inl (cI, 8, .inl (fun _ => 0))), (q14, .inl (cI, 8, .inl (fun _ => 0))), (q15, .inl (cI, 4, .inl (fun _ => 0))), (q16, .inl (cI, 4, .inl (fun _ => 0))), (q17, .inl (cI, 4, .inl (fun _ => 0))), (q18, .inl (cI, 680, .inl (fun _ => 0))), (q19, .inl (cI, 34, .inl (fun _ => 0))), (q20, .inl (cI, 9, .inl (fun _ => 0))), (q21, .inl (cI, 6, .inl (fun _ => 0))), (q22, .inl (cI, 6, .inl (fun _ => 0))), (q23, .inl (cI, 6, .inl (fun _ => 0))), (q24, .inl (cI, 15, .inl (fun _ => 0))), (q25, .inl (cI, 15, .inl (fun _ => 0))), (q26, .inl (cI, 70, .inl (fun _ => 0)))] H := ⟨hP, hD⟩
  have hP := hPD.1
  have hD := hPD.2
  clear hPD
  refine lv_aload_n hx hb dX11_init_212 rfl (lv_at hl 0 rfl) ?_
  refine lv_iconst (v := 2) hx hb dX11_init_213 (by decide) ?_
  refine va_newa (atype := .boolean) (ty := .boolean) (n := 2) (a0 := (2, .inl (fun _ => 0))) (N' := 2) hx hb (hts (.arrayClass .boolean) (wmx 32 rfl)) rfl hK hP hD hS hA (fun _ => rfl) (by decide) (by decide) (by decide) (Nat.le_of_ble_eq_true rfl) (Nat.le_of_ble_eq_true rfl) dX11_init_214 (fun q27 cA H hKn hP hD hS => ?_)
  have ecA := xcZ hKn
  subst ecA
  clear hKn
  refine W.widen (k := 27) (n := 1187) (Nat.le_of_ble_eq_true rfl) (Nat.le_of_ble_eq_true rfl) ?_
  have hPD : pdW (dC, dI) vwCl A [(h0, .inr (11, (.int 0 :: .int 0 :: .int 0 :: .ref q1 :: .ref q2 :: .ref q3 :: .int 0 :: .ref q4 :: .ref q5 :: .ref q6 :: .ref q7 :: .int 0 :: .ref q8 :: .int 0 :: .int (-1) :: .int 0 :: .int 0 :: .int 0 :: .ref q9 :: .int 0 :: .ref q10 :: .ref q11 :: .ref q12 :: .ref q13 :: .ref q14 :: .int 0 :: .ref q15 :: .ref q16 :: .ref q17 :: .int 0 :: .ref q18 :: .int 0 :: .int 0 :: .ref q19 :: .int 0 :: .int 0 :: .ref q20 :: .int 0 :: .ref q21 :: .ref q22 :: .ref q23 :: .int 0 :: .ref q24 :: .ref q25 :: .ref q26 :: .null :: []))), (q1, .inl (cI, 8, .inl (fun _ => 0))), (q2, .inl (cI, 8, .inl (fun _ => 0))), (q3, .inl (cI, 8, .inl (fun _ => 0))), (q4, .inl (cI, 4, .inl (fun _ => 0))), (q5, .inl (cI, 4, .inl (fun _ => 0))), (q6, .inl (cI, 4, .inl (fun _ => 0))), (q7, .inl (cI, 34, .inl (fun _ => 0))), (q8, .inl (cI, 220, .inl (fun _ => 0))), (q9, .inl (cI, 2, .inl (fun _ => 0))), (q10, .inl (cI, 8, .inl (fun _ => 0))), (q11, .inl (cI, 8, .inl (fun _ => 0))), (q12, .inl (cI, 8, .inl (fun _ => 0))), (q13, .inl (cI, 8, .inl (fun _ => 0))), (q14, .inl (cI, 8, .inl (fun _ => 0))), (q15, .inl (cI, 4, .inl (fun _ => 0))), (q16, .inl (cI, 4, .inl (fun _ => 0))), (q17, .inl (cI, 4, .inl (fun _ => 0))), (q18, .inl (cI, 680, .inl (fun _ => 0))), (q19, .inl (cI, 34, .inl (fun _ => 0))), (q20, .inl (cI, 9, .inl (fun _ => 0))), (q21, .inl (cI, 6, .inl (fun _ => 0))), (q22, .inl (cI, 6, .inl (fun _ => 0))), (q23, .inl (cI, 6, .inl (fun _ => 0))), (q24, .inl (cI, 15, .inl (fun _ => 0))), (q25, .inl (cI, 15, .inl (fun _ => 0))), (q26, .inl (cI, 70, .inl (fun _ => 0))), (q27, .inl (cZ, 2, .inl (fun _ => 0)))] H := ⟨hP, hD⟩
  have hP := hPD.1
  have hD := hPD.2
  clear hPD
  refine va_putF (D := (dC, dI)) (ci := 11) (v := .ref q27) (ty := .array .boolean) (C := RX11) (T := TX11) (N := 46) hx hb hts hi_X11 tyX11 tyX11_ok nmX11 hown hK hP hD hS 0 rfl rfl 45 (by decide) (hts (.fieldLink RX11 92 "LeftQuillsModel" "isKept" "[Z") (wmx 33 rfl)) (fun _ h9 => h9) rfl hin rfl (by decide +kernel) rfl rfl (Nat.le_of_ble_eq_true rfl) dX11_init_216 (fun H locs hP hD hS => ?_)
  have hPD : pdW (dC, dI) vwCl A [(h0, .inr (11, (.int 0 :: .int 0 :: .int 0 :: .ref q1 :: .ref q2 :: .ref q3 :: .int 0 :: .ref q4 :: .ref q5 :: .ref q6 :: .ref q7 :: .int 0 :: .ref q8 :: .int 0 :: .int (-1) :: .int 0 :: .int 0 :: .int 0 :: .ref q9 :: .int 0 :: .ref q10 :: .ref q11 :: .ref q12 :: .ref q13 :: .ref q14 :: .int 0 :: .ref q15 :: .ref q16 :: .ref q17 :: .int 0 :: .ref q18 :: .int 0 :: .int 0 :: .ref q19 :: .int 0 :: .int 0 :: .ref q20 :: .int 0 :: .ref q21 :: .ref q22 :: .ref q23 :: .int 0 :: .ref q24 :: .ref q25 :: .ref q26 :: .ref q27 :: []))), (q1, .inl (cI, 8, .inl (fun _ => 0))), (q2, .inl (cI, 8, .inl (fun _ => 0))), (q3, .inl (cI, 8, .inl (fun _ => 0))), (q4, .inl (cI, 4, .inl (fun _ => 0))), (q5, .inl (cI, 4, .inl (fun _ => 0))), (q6, .inl (cI, 4, .inl (fun _ => 0))), (q7, .inl (cI, 34, .inl (fun _ => 0))), (q8, .inl (cI, 220, .inl (fun _ => 0))), (q9, .inl (cI, 2, .inl (fun _ => 0))), (q10, .inl (cI, 8, .inl (fun _ => 0))), (q11, .inl (cI, 8, .inl (fun _ => 0))), (q12, .inl (cI, 8, .inl (fun _ => 0))), (q13, .inl (cI, 8, .inl (fun _ => 0))), (q14, .inl (cI, 8, .inl (fun _ => 0))), (q15, .inl (cI, 4, .inl (fun _ => 0))), (q16, .inl (cI, 4, .inl (fun _ => 0))), (q17, .inl (cI, 4, .inl (fun _ => 0))), (q18, .inl (cI, 680, .inl (fun _ => 0))), (q19, .inl (cI, 34, .inl (fun _ => 0))), (q20, .inl (cI, 9, .inl (fun _ => 0))), (q21, .inl (cI, 6, .inl (fun _ => 0))), (q22, .inl (cI, 6, .inl (fun _ => 0))), (q23, .inl (cI, 6, .inl (fun _ => 0))), (q24, .inl (cI, 15, .inl (fun _ => 0))), (q25, .inl (cI, 15, .inl (fun _ => 0))), (q26, .inl (cI, 70, .inl (fun _ => 0))), (q27, .inl (cZ, 2, .inl (fun _ => 0)))] H := ⟨hP, hD⟩
  have hP := hPD.1
  have hD := hPD.2
  clear hPD
  refine lv_aload_n hx hb dX11_init_219 rfl (lv_at hl 0 rfl) ?_
  refine lv_iconst (v := 0) hx hb dX11_init_220 (by decide) ?_
  refine va_put (D := (dC, dI)) (ci := 11) (v := .int 0) (ty := .int) (C := RX11) (T := TX11) (N := 46) hx hb hts hi_X11 tyX11 tyX11_ok nmX11 hown hK hP hD hS 0 rfl rfl 0 (by decide) (hts (.fieldLink RX11 96 "LeftQuillsModel" "blunt" "I") (wmx 34 rfl)) (fun _ h9 => h9) rfl (by decide +kernel) rfl rfl (Nat.le_of_ble_eq_true rfl) dX11_init_221 (fun H locs hP hD hS => ?_)
  have hPD : pdW (dC, dI) vwCl A [(h0, .inr (11, (.int 0 :: .int 0 :: .int 0 :: .ref q1 :: .ref q2 :: .ref q3 :: .int 0 :: .ref q4 :: .ref q5 :: .ref q6 :: .ref q7 :: .int 0 :: .ref q8 :: .int 0 :: .int (-1) :: .int 0 :: .int 0 :: .int 0 :: .ref q9 :: .int 0 :: .ref q10 :: .ref q11 :: .ref q12 :: .ref q13 :: .ref q14 :: .int 0 :: .ref q15 :: .ref q16 :: .ref q17 :: .int 0 :: .ref q18 :: .int 0 :: .int 0 :: .ref q19 :: .int 0 :: .int 0 :: .ref q20 :: .int 0 :: .ref q21 :: .ref q22 :: .ref q23 :: .int 0 :: .ref q24 :: .ref q25 :: .ref q26 :: .ref q27 :: []))), (q1, .inl (cI, 8, .inl (fun _ => 0))), (q2, .inl (cI, 8, .inl (fun _ => 0))), (q3, .inl (cI, 8, .inl (fun _ => 0))), (q4, .inl (cI, 4, .inl (fun _ => 0))), (q5, .inl (cI, 4, .inl (fun _ => 0))), (q6, .inl (cI, 4, .inl (fun _ => 0))), (q7, .inl (cI, 34, .inl (fun _ => 0))), (q8, .inl (cI, 220, .inl (fun _ => 0))), (q9, .inl (cI, 2, .inl (fun _ => 0))), (q10, .inl (cI, 8, .inl (fun _ => 0))), (q11, .inl (cI, 8, .inl (fun _ => 0))), (q12, .inl (cI, 8, .inl (fun _ => 0))), (q13, .inl (cI, 8, .inl (fun _ => 0))), (q14, .inl (cI, 8, .inl (fun _ => 0))), (q15, .inl (cI, 4, .inl (fun _ => 0))), (q16, .inl (cI, 4, .inl (fun _ => 0))), (q17, .inl (cI, 4, .inl (fun _ => 0))), (q18, .inl (cI, 680, .inl (fun _ => 0))), (q19, .inl (cI, 34, .inl (fun _ => 0))), (q20, .inl (cI, 9, .inl (fun _ => 0))), (q21, .inl (cI, 6, .inl (fun _ => 0))), (q22, .inl (cI, 6, .inl (fun _ => 0))), (q23, .inl (cI, 6, .inl (fun _ => 0))), (q24, .inl (cI, 15, .inl (fun _ => 0))), (q25, .inl (cI, 15, .inl (fun _ => 0))), (q26, .inl (cI, 70, .inl (fun _ => 0))), (q27, .inl (cZ, 2, .inl (fun _ => 0)))] H := ⟨hP, hD⟩
  have hP := hPD.1
  have hD := hPD.2
  clear hPD
  have hP9 := hP.sub (ws' := [(h0, .inr (11, (.int 0 :: .int 0 :: .int 0 :: .ref q1 :: .ref q2 :: .ref q3 :: .int 0 :: .ref q4 :: .ref q5 :: .ref q6 :: .ref q7 :: .int 0 :: .ref q8 :: .int 0 :: .int (-1) :: .int 0 :: .int 0 :: .int 0 :: .ref q9 :: .int 0 :: .ref q10 :: .ref q11 :: .ref q12 :: .ref q13 :: .ref q14 :: .int 0 :: .ref q15 :: .ref q16 :: .ref q17 :: .int 0 :: .ref q18 :: .int 0 :: .int 0 :: .ref q19 :: .int 0 :: .int 0 :: .ref q20 :: .int 0 :: .ref q21 :: .ref q22 :: .ref q23 :: .int 0 :: .ref q24 :: .ref q25 :: .ref q26 :: .ref q27 :: []))), (q1, .inl (cI, 8, .inl (fun _ => 0))), (q2, .inl (cI, 8, .inl (fun _ => 0))), (q3, .inl (cI, 8, .inl (fun _ => 0))), (q4, .inl (cI, 4, .inl (fun _ => 0))), (q5, .inl (cI, 4, .inl (fun _ => 0))), (q6, .inl (cI, 4, .inl (fun _ => 0))), (q7, .inl (cI, 34, .inl (fun _ => 0))), (q8, .inl (cI, 220, .inl (fun _ => 0))), (q9, .inl (cI, 2, .inl (fun _ => 0))), (q10, .inl (cI, 8, .inl (fun _ => 0))), (q11, .inl (cI, 8, .inl (fun _ => 0))), (q12, .inl (cI, 8, .inl (fun _ => 0))), (q13, .inl (cI, 8, .inl (fun _ => 0))), (q14, .inl (cI, 8, .inl (fun _ => 0))), (q15, .inl (cI, 4, .inl (fun _ => 0))), (q16, .inl (cI, 4, .inl (fun _ => 0))), (q17, .inl (cI, 4, .inl (fun _ => 0))), (q18, .inl (cI, 680, .inl (fun _ => 0))), (q19, .inl (cI, 34, .inl (fun _ => 0))), (q20, .inl (cI, 9, .inl (fun _ => 0))), (q21, .inl (cI, 6, .inl (fun _ => 0))), (q22, .inl (cI, 6, .inl (fun _ => 0))), (q23, .inl (cI, 6, .inl (fun _ => 0))), (q24, .inl (cI, 15, .inl (fun _ => 0))), (q25, .inl (cI, 15, .inl (fun _ => 0))), (q26, .inl (cI, 70, .inl (fun _ => 0))), (q27, .inl (cZ, 2, .inl (fun _ => 0)))]) [0, 1, 2, 3, 4, 5, 6, 7, 8, 9, 10, 11, 12, 13, 14, 15, 16, 17, 18, 19, 20, 21, 22, 23, 24, 25, 26, 27] rfl
  have hD9 := hD.sub (ws' := [(h0, .inr (11, (.int 0 :: .int 0 :: .int 0 :: .ref q1 :: .ref q2 :: .ref q3 :: .int 0 :: .ref q4 :: .ref q5 :: .ref q6 :: .ref q7 :: .int 0 :: .ref q8 :: .int 0 :: .int (-1) :: .int 0 :: .int 0 :: .int 0 :: .ref q9 :: .int 0 :: .ref q10 :: .ref q11 :: .ref q12 :: .ref q13 :: .ref q14 :: .int 0 :: .ref q15 :: .ref q16 :: .ref q17 :: .int 0 :: .ref q18 :: .int 0 :: .int 0 :: .ref q19 :: .int 0 :: .int 0 :: .ref q20 :: .int 0 :: .ref q21 :: .ref q22 :: .ref q23 :: .int 0 :: .ref q24 :: .ref q25 :: .ref q26 :: .ref q27 :: []))), (q1, .inl (cI, 8, .inl (fun _ => 0))), (q2, .inl (cI, 8, .inl (fun _ => 0))), (q3, .inl (cI, 8, .inl (fun _ => 0))), (q4, .inl (cI, 4, .inl (fun _ => 0))), (q5, .inl (cI, 4, .inl (fun _ => 0))), (q6, .inl (cI, 4, .inl (fun _ => 0))), (q7, .inl (cI, 34, .inl (fun _ => 0))), (q8, .inl (cI, 220, .inl (fun _ => 0))), (q9, .inl (cI, 2, .inl (fun _ => 0))), (q10, .inl (cI, 8, .inl (fun _ => 0))), (q11, .inl (cI, 8, .inl (fun _ => 0))), (q12, .inl (cI, 8, .inl (fun _ => 0))), (q13, .inl (cI, 8, .inl (fun _ => 0))), (q14, .inl (cI, 8, .inl (fun _ => 0))), (q15, .inl (cI, 4, .inl (fun _ => 0))), (q16, .inl (cI, 4, .inl (fun _ => 0))), (q17, .inl (cI, 4, .inl (fun _ => 0))), (q18, .inl (cI, 680, .inl (fun _ => 0))), (q19, .inl (cI, 34, .inl (fun _ => 0))), (q20, .inl (cI, 9, .inl (fun _ => 0))), (q21, .inl (cI, 6, .inl (fun _ => 0))), (q22, .inl (cI, 6, .inl (fun _ => 0))), (q23, .inl (cI, 6, .inl (fun _ => 0))), (q24, .inl (cI, 15, .inl (fun _ => 0))), (q25, .inl (cI, 15, .inl (fun _ => 0))), (q26, .inl (cI, 70, .inl (fun _ => 0))), (q27, .inl (cZ, 2, .inl (fun _ => 0)))]) [0, 1, 2, 3, 4, 5, 6, 7, 8, 9, 10, 11, 12, 13, 14, 15, 16, 17, 18, 19, 20, 21, 22, 23, 24, 25, 26, 27] (by decide +kernel) rfl
  refine W.widen (k := 27) (n := 1187) (Nat.le_of_ble_eq_true rfl) (Nat.le_of_ble_eq_true rfl) ?_
  exact W.vret hx hb hr (fun t ht hW => ⟨⟨(vn [q1, q2, q3, q4, q5, q6, q7, q8, q9, q10, q11, q12, q13, q14, q15, q16, q17, q18, q19, q20, q21, q22, q23, q24, q25, q26, q27]), rfl, by first | trivial | rfl | (simp_all; done), ⟨va_hq ht hP9, hD9⟩⟩, hS.F ht⟩) hS.2.2 dX11_init_224
