set_option maxHeartbeats 4000000 in
set_option maxRecDepth 100000 in
theorem c_X0_init (l : Launch) (dC : Nat → ClassId) (dI : Nat → Nat → Nat) (cI cZ cQ : ClassId) (h0 : Nat) (sz : Nat)  : Met l yX0_init wsX0_init ({ frames := 1, cells := 2, slots := 30, locals := 40 }) (va_Pc [.ref h0] (fun U => U.heap.size = sz ∧ va_P (dC, dI) vwCl [(h0, .inr (0, [.int 0, .null, .null]))] U.heap ∧ va_K (dC, dI) vwCl (tys0 cI cZ cQ) U ∧ va_D (fun _ => True) [(h0, .inr (0, [.int 0, .null, .null]))])) (va_Qv (fun (u : Nat → Nat) => True) (fun (u : Nat → Nat) (t : State) => va_P (dC, dI) vwCl [(h0, .inr (0, [.int 0, .ref (u 0), .ref (u 1)]))] t.heap ∧ va_D (va_A [(h0, .inr (0, [.int 0, .null, .null]))] sz) [(h0, .inr (0, [.int 0, .ref (u 0), .ref (u 1)]))]) (va_A [(h0, .inr (0, [.int 0, .null, .null]))] sz)) 2 30 (va_A [(h0, .inr (0, [.int 0, .null, .null]))] sz) := by
  refine Met.ofW (cc := cX0_init) (maxL := 1) (ret := none) (by decide) rfl ?_
  intro p e s m args below meth c s₁ B hml hv
  obtain ⟨rfl, hsz, hP, hK, hD0⟩ := hv
  have hx := B.exec
  have hb := B.bytes
  have hr := B.returns
  have hts := atoms_spec (ws := wsX0_init) B.pre
  have hown : s.vm.findClass RX0 = some m.cls := findClass_of_methodNamed B.named
  have hlocks := B.notSynchronized
  have hin : meth.name = "<init>" := (name_of_methodNamed B.named B.method).1
  have hi_X0 : ∀ w ∈ u_ws RX0 TX0 3, w ∈ wsX0_init := by decide +kernel
  subst hsz
  have hD := hD0.self (sz := s.heap.size)
  generalize hAe : va_A [(h0, .inr (0, [.int 0, .null, .null]))] s.heap.size = A at hD ⊢
  have hA : ∀ q : Nat, s.heap.size ≤ q → A q := fun q h => by rw [← hAe]; exact Or.inr h
  have hS : va_S A s.heap s.heap [] := va_S.rf
  have hl := lv_entry ([.ref h0]) (n := 1) (Nat.le_of_ble_eq_true rfl)
  rw [lg_entry_eq]
  generalize (lg_sl ([.ref h0]) ++ List.replicate (1 - (lg_sl ([.ref h0])).length) Slot.unset).toArray = ls at hl ⊢
  have hl : lv_has ls 1 [(0, .ref h0)] := hl
  refine lv_aload_n hx hb dX0_init_0 rfl (lv_at hl 0 rfl) ?_
  refine W.objInit hx hb hown (hts (.methodLink RX0 3 objectInit) (by decide +kernel)) (hts (.instanceMethod objectInit) (by decide +kernel)) (hts (.code objectInit ⟨#[0xb1]⟩ 1 none) (by decide +kernel)) rfl (by rw [hml]; exact hl.1) rfl dX0_init_1 (Nat.le_of_ble_eq_true rfl) (Nat.le_of_ble_eq_true rfl) ?_
  refine W.eq (g2 := F0 m 4 ls []) rfl ?_
  refine lv_aload_n hx hb dX0_init_4 rfl (lv_at hl 0 rfl) ?_
  refine lv_iconst (v := 0) hx hb dX0_init_5 (by decide) ?_
  refine va_put (D := (dC, dI)) (ci := 0) (v := .int 0) (ty := .int) (C := RX0) (T := TX0) (N := 3) hx hb hts hi_X0 tyX0 tyX0_ok nmX0 hown hK hP hD hS 0 rfl rfl 0 (by decide) (hts (.fieldLink RX0 9 "LeftQuills$Book" "count" "I") (by decide +kernel)) (fun _ h9 => h9) rfl (by decide +kernel) rfl rfl (Nat.le_of_ble_eq_true rfl) dX0_init_6 (fun H locs hP hD hS => ?_)
  have hP : va_P (dC, dI) vwCl [(h0, .inr (0, [.int 0, .null, .null]))] H := hP
  have hD : va_D A [(h0, .inr (0, [.int 0, .null, .null]))] := hD
  refine lv_aload_n hx hb dX0_init_9 rfl (lv_at hl 0 rfl) ?_
  refine lv_bipush (v := 15) hx hb dX0_init_10 (by decide) ?_
  refine va_newa (atype := .int) (ty := .int) (n := 15) (a0 := (15, .inl (fun _ => 0))) (N' := 15) hx hb (hts (.arrayClass .int) (by decide +kernel)) rfl hK hP hD hS hA (fun _ => rfl) (by decide) (by decide) (by decide) (Nat.le_of_ble_eq_true rfl) (Nat.le_of_ble_eq_true rfl) dX0_init_12 (fun q1 cA H hKn hP hD hS => ?_)
  have ecA := xcI hKn
  subst ecA
  clear hKn
  refine W.widen (k := 1) (n := 15) (Nat.le_of_ble_eq_true rfl) (Nat.le_of_ble_eq_true rfl) ?_
  have hP : va_P (dC, dI) vwCl [(h0, .inr (0, [.int 0, .null, .null])), (q1, .inl (cI, 15, .inl (fun _ => 0)))] H := hP
  have hD : va_D A [(h0, .inr (0, [.int 0, .null, .null])), (q1, .inl (cI, 15, .inl (fun _ => 0)))] := hD
  refine va_putF (D := (dC, dI)) (ci := 0) (v := .ref q1) (ty := .array .int) (C := RX0) (T := TX0) (N := 3) hx hb hts hi_X0 tyX0 tyX0_ok nmX0 hown hK hP hD hS 0 rfl rfl 1 (by decide) (hts (.fieldLink RX0 15 "LeftQuills$Book" "quill" "[I") (by decide +kernel)) (fun _ h9 => h9) rfl hin rfl (by decide +kernel) rfl rfl (Nat.le_of_ble_eq_true rfl) dX0_init_14 (fun H locs hP hD hS => ?_)
  have hP : va_P (dC, dI) vwCl [(h0, .inr (0, [.int 0, .ref q1, .null])), (q1, .inl (cI, 15, .inl (fun _ => 0)))] H := hP
  have hD : va_D A [(h0, .inr (0, [.int 0, .ref q1, .null])), (q1, .inl (cI, 15, .inl (fun _ => 0)))] := hD
  refine lv_aload_n hx hb dX0_init_17 rfl (lv_at hl 0 rfl) ?_
  refine lv_bipush (v := 15) hx hb dX0_init_18 (by decide) ?_
  refine va_newa (atype := .int) (ty := .int) (n := 15) (a0 := (15, .inl (fun _ => 0))) (N' := 15) hx hb (hts (.arrayClass .int) (by decide +kernel)) rfl hK hP hD hS hA (fun _ => rfl) (by decide) (by decide) (by decide) (Nat.le_of_ble_eq_true rfl) (Nat.le_of_ble_eq_true rfl) dX0_init_20 (fun q2 cA H hKn hP hD hS => ?_)
  have ecA := xcI hKn
  subst ecA
  clear hKn
  refine W.widen (k := 2) (n := 30) (Nat.le_of_ble_eq_true rfl) (Nat.le_of_ble_eq_true rfl) ?_
  have hP : va_P (dC, dI) vwCl [(h0, .inr (0, [.int 0, .ref q1, .null])), (q1, .inl (cI, 15, .inl (fun _ => 0))), (q2, .inl (cI, 15, .inl (fun _ => 0)))] H := hP
  have hD : va_D A [(h0, .inr (0, [.int 0, .ref q1, .null])), (q1, .inl (cI, 15, .inl (fun _ => 0))), (q2, .inl (cI, 15, .inl (fun _ => 0)))] := hD
  refine va_putF (D := (dC, dI)) (ci := 0) (v := .ref q2) (ty := .array .int) (C := RX0) (T := TX0) (N := 3) hx hb hts hi_X0 tyX0 tyX0_ok nmX0 hown hK hP hD hS 0 rfl rfl 2 (by decide) (hts (.fieldLink RX0 19 "LeftQuills$Book" "softness" "[I") (by decide +kernel)) (fun _ h9 => h9) rfl hin rfl (by decide +kernel) rfl rfl (Nat.le_of_ble_eq_true rfl) dX0_init_22 (fun H locs hP hD hS => ?_)
  have hP : va_P (dC, dI) vwCl [(h0, .inr (0, [.int 0, .ref q1, .ref q2])), (q1, .inl (cI, 15, .inl (fun _ => 0))), (q2, .inl (cI, 15, .inl (fun _ => 0)))] H := hP
  have hD : va_D A [(h0, .inr (0, [.int 0, .ref q1, .ref q2])), (q1, .inl (cI, 15, .inl (fun _ => 0))), (q2, .inl (cI, 15, .inl (fun _ => 0)))] := hD
  have hP9 := hP.sub (ws' := [(h0, .inr (0, [.int 0, .ref q1, .ref q2]))]) [0] rfl
  have hD9 := hD.sub (ws' := [(h0, .inr (0, [.int 0, .ref q1, .ref q2]))]) [0] (by decide) rfl
  refine W.widen (k := 2) (n := 30) (Nat.le_of_ble_eq_true rfl) (Nat.le_of_ble_eq_true rfl) ?_
  exact W.vret hx hb hr (fun t ht hW => ⟨⟨(vn [q1, q2]), rfl, by first | trivial | rfl | (simp_all; done), ⟨by rw [ht]; exact hP9, hD9⟩⟩, hS.F ht⟩) hS.2.2 dX0_init_25
set_option maxHeartbeats 4000000 in
set_option maxRecDepth 100000 in
theorem c_X5_init (l : Launch) (dC : Nat → ClassId) (dI : Nat → Nat → Nat) (cI cZ cQ : ClassId) (h0 : Nat) (sz : Nat)  : Met l yX5_init wsX5_init ({ frames := 1, cells := 8, slots := 52, locals := 40 }) (va_Pc [.ref h0] (fun U => U.heap.size = sz ∧ va_P (dC, dI) vwCl [(h0, .inr (5, [.int 0, .int 0, .int 0, .int 0, .int 0, .null, .null, .null, .null, .null, .null, .null, .null]))] U.heap ∧ va_K (dC, dI) vwCl (tys0 cI cZ cQ) U ∧ va_D (fun _ => True) [(h0, .inr (5, [.int 0, .int 0, .int 0, .int 0, .int 0, .null, .null, .null, .null, .null, .null, .null, .null]))])) (va_Qv (fun (u : Nat → Nat) => True) (fun (u : Nat → Nat) (t : State) => va_P (dC, dI) vwCl [(h0, .inr (5, [.int 0, .int 0, .int 0, .int 0, .int 0, .ref (u 0), .ref (u 1), .ref (u 2), .ref (u 3), .ref (u 4), .ref (u 5), .ref (u 6), .ref (u 7)])), ((u 0), .inl (cI, 8, .inl (fun _ => 0))), ((u 1), .inl (cI, 8, .inl (fun _ => 0))), ((u 2), .inl (cI, 8, .inl (fun _ => 0))), ((u 3), .inl (cI, 8, .inl (fun _ => 0))), ((u 4), .inl (cI, 8, .inl (fun _ => 0))), ((u 5), .inl (cI, 4, .inl (fun _ => 0))), ((u 6), .inl (cI, 4, .inl (fun _ => 0))), ((u 7), .inl (cI, 4, .inl (fun _ => 0)))] t.heap ∧ va_D (va_A [(h0, .inr (5, [.int 0, .int 0, .int 0, .int 0, .int 0, .null, .null, .null, .null, .null, .null, .null, .null]))] sz) [(h0, .inr (5, [.int 0, .int 0, .int 0, .int 0, .int 0, .ref (u 0), .ref (u 1), .ref (u 2), .ref (u 3), .ref (u 4), .ref (u 5), .ref (u 6), .ref (u 7)])), ((u 0), .inl (cI, 8, .inl (fun _ => 0))), ((u 1), .inl (cI, 8, .inl (fun _ => 0))), ((u 2), .inl (cI, 8, .inl (fun _ => 0))), ((u 3), .inl (cI, 8, .inl (fun _ => 0))), ((u 4), .inl (cI, 8, .inl (fun _ => 0))), ((u 5), .inl (cI, 4, .inl (fun _ => 0))), ((u 6), .inl (cI, 4, .inl (fun _ => 0))), ((u 7), .inl (cI, 4, .inl (fun _ => 0)))]) (va_A [(h0, .inr (5, [.int 0, .int 0, .int 0, .int 0, .int 0, .null, .null, .null, .null, .null, .null, .null, .null]))] sz)) 8 52 (va_A [(h0, .inr (5, [.int 0, .int 0, .int 0, .int 0, .int 0, .null, .null, .null, .null, .null, .null, .null, .null]))] sz) := by
  refine Met.ofW (cc := cX5_init) (maxL := 1) (ret := none) (by decide) rfl ?_
  intro p e s m args below meth c s₁ B hml hv
  obtain ⟨rfl, hsz, hP, hK, hD0⟩ := hv
  have hx := B.exec
  have hb := B.bytes
  have hr := B.returns
  have hts := atoms_spec (ws := wsX5_init) B.pre
  have hown : s.vm.findClass RX5 = some m.cls := findClass_of_methodNamed B.named
  have hlocks := B.notSynchronized
  have hin : meth.name = "<init>" := (name_of_methodNamed B.named B.method).1
  have hi_X5 : ∀ w ∈ u_ws RX5 TX5 13, w ∈ wsX5_init := by decide +kernel
  subst hsz
  have hD := hD0.self (sz := s.heap.size)
  generalize hAe : va_A [(h0, .inr (5, [.int 0, .int 0, .int 0, .int 0, .int 0, .null, .null, .null, .null, .null, .null, .null, .null]))] s.heap.size = A at hD ⊢
  have hA : ∀ q : Nat, s.heap.size ≤ q → A q := fun q h => by rw [← hAe]; exact Or.inr h
  have hS : va_S A s.heap s.heap [] := va_S.rf
  have hl := lv_entry ([.ref h0]) (n := 1) (Nat.le_of_ble_eq_true rfl)
  rw [lg_entry_eq]
  generalize (lg_sl ([.ref h0]) ++ List.replicate (1 - (lg_sl ([.ref h0])).length) Slot.unset).toArray = ls at hl ⊢
  have hl : lv_has ls 1 [(0, .ref h0)] := hl
  refine lv_aload_n hx hb dX5_init_0 rfl (lv_at hl 0 rfl) ?_
  refine W.objInit hx hb hown (hts (.methodLink RX5 3 objectInit) (by decide +kernel)) (hts (.instanceMethod objectInit) (by decide +kernel)) (hts (.code objectInit ⟨#[0xb1]⟩ 1 none) (by decide +kernel)) rfl (by rw [hml]; exact hl.1) rfl dX5_init_1 (Nat.le_of_ble_eq_true rfl) (Nat.le_of_ble_eq_true rfl) ?_
  refine W.eq (g2 := F0 m 4 ls []) rfl ?_
  refine lv_aload_n hx hb dX5_init_4 rfl (lv_at hl 0 rfl) ?_
  refine lv_iconst (v := 0) hx hb dX5_init_5 (by decide) ?_
  refine va_put (D := (dC, dI)) (ci := 5) (v := .int 0) (ty := .boolean) (C := RX5) (T := TX5) (N := 13) hx hb hts hi_X5 tyX5 tyX5_ok nmX5 hown hK hP hD hS 0 rfl rfl 0 (by decide) (hts (.fieldLink RX5 9 "LeftQuills$Office" "stands" "Z") (by decide +kernel)) (fun _ h9 => h9) rfl (by decide +kernel) rfl rfl (Nat.le_of_ble_eq_true rfl) dX5_init_6 (fun H locs hP hD hS => ?_)
  have hP : va_P (dC, dI) vwCl [(h0, .inr (5, [.int 0, .int 0, .int 0, .int 0, .int 0, .null, .null, .null, .null, .null, .null, .null, .null]))] H := hP
  have hD : va_D A [(h0, .inr (5, [.int 0, .int 0, .int 0, .int 0, .int 0, .null, .null, .null, .null, .null, .null, .null, .null]))] := hD
  refine lv_aload_n hx hb dX5_init_9 rfl (lv_at hl 0 rfl) ?_
  refine lv_iconst (v := 0) hx hb dX5_init_10 (by decide) ?_
  refine va_put (D := (dC, dI)) (ci := 5) (v := .int 0) (ty := .int) (C := RX5) (T := TX5) (N := 13) hx hb hts hi_X5 tyX5 tyX5_ok nmX5 hown hK hP hD hS 0 rfl rfl 1 (by decide) (hts (.fieldLink RX5 15 "LeftQuills$Office" "bluntBehind" "I") (by decide +kernel)) (fun _ h9 => h9) rfl (by decide +kernel) rfl rfl (Nat.le_of_ble_eq_true rfl) dX5_init_11 (fun H locs hP hD hS => ?_)
  have hP : va_P (dC, dI) vwCl [(h0, .inr (5, [.int 0, .int 0, .int 0, .int 0, .int 0, .null, .null, .null, .null, .null, .null, .null, .null]))] H := hP
  have hD : va_D A [(h0, .inr (5, [.int 0, .int 0, .int 0, .int 0, .int 0, .null, .null, .null, .null, .null, .null, .null, .null]))] := hD
  refine lv_aload_n hx hb dX5_init_14 rfl (lv_at hl 0 rfl) ?_
  refine lv_iconst (v := 0) hx hb dX5_init_15 (by decide) ?_
  refine va_put (D := (dC, dI)) (ci := 5) (v := .int 0) (ty := .int) (C := RX5) (T := TX5) (N := 13) hx hb hts hi_X5 tyX5 tyX5_ok nmX5 hown hK hP hD hS 0 rfl rfl 2 (by decide) (hts (.fieldLink RX5 19 "LeftQuills$Office" "mendMinutes" "I") (by decide +kernel)) (fun _ h9 => h9) rfl (by decide +kernel) rfl rfl (Nat.le_of_ble_eq_true rfl) dX5_init_16 (fun H locs hP hD hS => ?_)
  have hP : va_P (dC, dI) vwCl [(h0, .inr (5, [.int 0, .int 0, .int 0, .int 0, .int 0, .null, .null, .null, .null, .null, .null, .null, .null]))] H := hP
  have hD : va_D A [(h0, .inr (5, [.int 0, .int 0, .int 0, .int 0, .int 0, .null, .null, .null, .null, .null, .null, .null, .null]))] := hD
  refine lv_aload_n hx hb dX5_init_19 rfl (lv_at hl 0 rfl) ?_
  refine lv_iconst (v := 0) hx hb dX5_init_20 (by decide) ?_
  refine va_put (D := (dC, dI)) (ci := 5) (v := .int 0) (ty := .int) (C := RX5) (T := TX5) (N := 13) hx hb hts hi_X5 tyX5 tyX5_ok nmX5 hown hK hP hD hS 0 rfl rfl 3 (by decide) (hts (.fieldLink RX5 22 "LeftQuills$Office" "quills" "I") (by decide +kernel)) (fun _ h9 => h9) rfl (by decide +kernel) rfl rfl (Nat.le_of_ble_eq_true rfl) dX5_init_21 (fun H locs hP hD hS => ?_)
  have hP : va_P (dC, dI) vwCl [(h0, .inr (5, [.int 0, .int 0, .int 0, .int 0, .int 0, .null, .null, .null, .null, .null, .null, .null, .null]))] H := hP
  have hD : va_D A [(h0, .inr (5, [.int 0, .int 0, .int 0, .int 0, .int 0, .null, .null, .null, .null, .null, .null, .null, .null]))] := hD
  refine lv_aload_n hx hb dX5_init_24 rfl (lv_at hl 0 rfl) ?_
  refine lv_iconst (v := 0) hx hb dX5_init_25 (by decide) ?_
  refine va_put (D := (dC, dI)) (ci := 5) (v := .int 0) (ty := .int) (C := RX5) (T := TX5) (N := 13) hx hb hts hi_X5 tyX5 tyX5_ok nmX5 hown hK hP hD hS 0 rfl rfl 4 (by decide) (hts (.fieldLink RX5 25 "LeftQuills$Office" "hands" "I") (by decide +kernel)) (fun _ h9 => h9) rfl (by decide +kernel) rfl rfl (Nat.le_of_ble_eq_true rfl) dX5_init_26 (fun H locs hP hD hS => ?_)
  have hP : va_P (dC, dI) vwCl [(h0, .inr (5, [.int 0, .int 0, .int 0, .int 0, .int 0, .null, .null, .null, .null, .null, .null, .null, .null]))] H := hP
  have hD : va_D A [(h0, .inr (5, [.int 0, .int 0, .int 0, .int 0, .int 0, .null, .null, .null, .null, .null, .null, .null, .null]))] := hD
  refine lv_aload_n hx hb dX5_init_29 rfl (lv_at hl 0 rfl) ?_
  refine lv_bipush (v := 8) hx hb dX5_init_30 (by decide) ?_
  refine va_newa (atype := .int) (ty := .int) (n := 8) (a0 := (8, .inl (fun _ => 0))) (N' := 8) hx hb (hts (.arrayClass .int) (by decide +kernel)) rfl hK hP hD hS hA (fun _ => rfl) (by decide) (by decide) (by decide) (Nat.le_of_ble_eq_true rfl) (Nat.le_of_ble_eq_true rfl) dX5_init_32 (fun q1 cA H hKn hP hD hS => ?_)
  have ecA := xcI hKn
  subst ecA
  clear hKn
  refine W.widen (k := 1) (n := 8) (Nat.le_of_ble_eq_true rfl) (Nat.le_of_ble_eq_true rfl) ?_
  have hP : va_P (dC, dI) vwCl [(h0, .inr (5, [.int 0, .int 0, .int 0, .int 0, .int 0, .null, .null, .null, .null, .null, .null, .null, .null])), (q1, .inl (cI, 8, .inl (fun _ => 0)))] H := hP
  have hD : va_D A [(h0, .inr (5, [.int 0, .int 0, .int 0, .int 0, .int 0, .null, .null, .null, .null, .null, .null, .null, .null])), (q1, .inl (cI, 8, .inl (fun _ => 0)))] := hD
  refine va_putF (D := (dC, dI)) (ci := 5) (v := .ref q1) (ty := .array .int) (C := RX5) (T := TX5) (N := 13) hx hb hts hi_X5 tyX5 tyX5_ok nmX5 hown hK hP hD hS 0 rfl rfl 5 (by decide) (hts (.fieldLink RX5 28 "LeftQuills$Office" "wing" "[I") (by decide +kernel)) (fun _ h9 => h9) rfl hin rfl (by decide +kernel) rfl rfl (Nat.le_of_ble_eq_true rfl) dX5_init_34 (fun H locs hP hD hS => ?_)
  have hP : va_P (dC, dI) vwCl [(h0, .inr (5, [.int 0, .int 0, .int 0, .int 0, .int 0, .ref q1, .null, .null, .null, .null, .null, .null, .null])), (q1, .inl (cI, 8, .inl (fun _ => 0)))] H := hP
  have hD : va_D A [(h0, .inr (5, [.int 0, .int 0, .int 0, .int 0, .int 0, .ref q1, .null, .null, .null, .null, .null, .null, .null])), (q1, .inl (cI, 8, .inl (fun _ => 0)))] := hD
  refine lv_aload_n hx hb dX5_init_37 rfl (lv_at hl 0 rfl) ?_
  refine lv_bipush (v := 8) hx hb dX5_init_38 (by decide) ?_
  refine va_newa (atype := .int) (ty := .int) (n := 8) (a0 := (8, .inl (fun _ => 0))) (N' := 8) hx hb (hts (.arrayClass .int) (by decide +kernel)) rfl hK hP hD hS hA (fun _ => rfl) (by decide) (by decide) (by decide) (Nat.le_of_ble_eq_true rfl) (Nat.le_of_ble_eq_true rfl) dX5_init_40 (fun q2 cA H hKn hP hD hS => ?_)
  have ecA := xcI hKn
  subst ecA
  clear hKn
  refine W.widen (k := 2) (n := 16) (Nat.le_of_ble_eq_true rfl) (Nat.le_of_ble_eq_true rfl) ?_
  have hP : va_P (dC, dI) vwCl [(h0, .inr (5, [.int 0, .int 0, .int 0, .int 0, .int 0, .ref q1, .null, .null, .null, .null, .null, .null, .null])), (q1, .inl (cI, 8, .inl (fun _ => 0))), (q2, .inl (cI, 8, .inl (fun _ => 0)))] H := hP
  have hD : va_D A [(h0, .inr (5, [.int 0, .int 0, .int 0, .int 0, .int 0, .ref q1, .null, .null, .null, .null, .null, .null, .null])), (q1, .inl (cI, 8, .inl (fun _ => 0))), (q2, .inl (cI, 8, .inl (fun _ => 0)))] := hD
  refine va_putF (D := (dC, dI)) (ci := 5) (v := .ref q2) (ty := .array .int) (C := RX5) (T := TX5) (N := 13) hx hb hts hi_X5 tyX5 tyX5_ok nmX5 hown hK hP hD hS 0 rfl rfl 6 (by decide) (hts (.fieldLink RX5 32 "LeftQuills$Office" "place" "[I") (by decide +kernel)) (fun _ h9 => h9) rfl hin rfl (by decide +kernel) rfl rfl (Nat.le_of_ble_eq_true rfl) dX5_init_42 (fun H locs hP hD hS => ?_)
  have hP : va_P (dC, dI) vwCl [(h0, .inr (5, [.int 0, .int 0, .int 0, .int 0, .int 0, .ref q1, .ref q2, .null, .null, .null, .null, .null, .null])), (q1, .inl (cI, 8, .inl (fun _ => 0))), (q2, .inl (cI, 8, .inl (fun _ => 0)))] H := hP
  have hD : va_D A [(h0, .inr (5, [.int 0, .int 0, .int 0, .int 0, .int 0, .ref q1, .ref q2, .null, .null, .null, .null, .null, .null])), (q1, .inl (cI, 8, .inl (fun _ => 0))), (q2, .inl (cI, 8, .inl (fun _ => 0)))] := hD
  refine lv_aload_n hx hb dX5_init_45 rfl (lv_at hl 0 rfl) ?_
  refine lv_bipush (v := 8) hx hb dX5_init_46 (by decide) ?_
  refine va_newa (atype := .int) (ty := .int) (n := 8) (a0 := (8, .inl (fun _ => 0))) (N' := 8) hx hb (hts (.arrayClass .int) (by decide +kernel)) rfl hK hP hD hS hA (fun _ => rfl) (by decide) (by decide) (by decide) (Nat.le_of_ble_eq_true rfl) (Nat.le_of_ble_eq_true rfl) dX5_init_48 (fun q3 cA H hKn hP hD hS => ?_)
  have ecA := xcI hKn
  subst ecA
  clear hKn
  refine W.widen (k := 3) (n := 24) (Nat.le_of_ble_eq_true rfl) (Nat.le_of_ble_eq_true rfl) ?_
  have hP : va_P (dC, dI) vwCl [(h0, .inr (5, [.int 0, .int 0, .int 0, .int 0, .int 0, .ref q1, .ref q2, .null, .null, .null, .null, .null, .null])), (q1, .inl (cI, 8, .inl (fun _ => 0))), (q2, .inl (cI, 8, .inl (fun _ => 0))), (q3, .inl (cI, 8, .inl (fun _ => 0)))] H := hP
  have hD : va_D A [(h0, .inr (5, [.int 0, .int 0, .int 0, .int 0, .int 0, .ref q1, .ref q2, .null, .null, .null, .null, .null, .null])), (q1, .inl (cI, 8, .inl (fun _ => 0))), (q2, .inl (cI, 8, .inl (fun _ => 0))), (q3, .inl (cI, 8, .inl (fun _ => 0)))] := hD
  refine va_putF (D := (dC, dI)) (ci := 5) (v := .ref q3) (ty := .array .int) (C := RX5) (T := TX5) (N := 13) hx hb hts hi_X5 tyX5 tyX5_ok nmX5 hown hK hP hD hS 0 rfl rfl 7 (by decide) (hts (.fieldLink RX5 35 "LeftQuills$Office" "cooked" "[I") (by decide +kernel)) (fun _ h9 => h9) rfl hin rfl (by decide +kernel) rfl rfl (Nat.le_of_ble_eq_true rfl) dX5_init_50 (fun H locs hP hD hS => ?_)
  have hP : va_P (dC, dI) vwCl [(h0, .inr (5, [.int 0, .int 0, .int 0, .int 0, .int 0, .ref q1, .ref q2, .ref q3, .null, .null, .null, .null, .null])), (q1, .inl (cI, 8, .inl (fun _ => 0))), (q2, .inl (cI, 8, .inl (fun _ => 0))), (q3, .inl (cI, 8, .inl (fun _ => 0)))] H := hP
  have hD : va_D A [(h0, .inr (5, [.int 0, .int 0, .int 0, .int 0, .int 0, .ref q1, .ref q2, .ref q3, .null, .null, .null, .null, .null])), (q1, .inl (cI, 8, .inl (fun _ => 0))), (q2, .inl (cI, 8, .inl (fun _ => 0))), (q3, .inl (cI, 8, .inl (fun _ => 0)))] := hD
  refine lv_aload_n hx hb dX5_init_53 rfl (lv_at hl 0 rfl) ?_
  refine lv_bipush (v := 8) hx hb dX5_init_54 (by decide) ?_
  refine va_newa (atype := .int) (ty := .int) (n := 8) (a0 := (8, .inl (fun _ => 0))) (N' := 8) hx hb (hts (.arrayClass .int) (by decide +kernel)) rfl hK hP hD hS hA (fun _ => rfl) (by decide) (by decide) (by decide) (Nat.le_of_ble_eq_true rfl) (Nat.le_of_ble_eq_true rfl) dX5_init_56 (fun q4 cA H hKn hP hD hS => ?_)
  have ecA := xcI hKn
  subst ecA
  clear hKn
  refine W.widen (k := 4) (n := 32) (Nat.le_of_ble_eq_true rfl) (Nat.le_of_ble_eq_true rfl) ?_
  have hP : va_P (dC, dI) vwCl [(h0, .inr (5, [.int 0, .int 0, .int 0, .int 0, .int 0, .ref q1, .ref q2, .ref q3, .null, .null, .null, .null, .null])), (q1, .inl (cI, 8, .inl (fun _ => 0))), (q2, .inl (cI, 8, .inl (fun _ => 0))), (q3, .inl (cI, 8, .inl (fun _ => 0))), (q4, .inl (cI, 8, .inl (fun _ => 0)))] H := hP
  have hD : va_D A [(h0, .inr (5, [.int 0, .int 0, .int 0, .int 0, .int 0, .ref q1, .ref q2, .ref q3, .null, .null, .null, .null, .null])), (q1, .inl (cI, 8, .inl (fun _ => 0))), (q2, .inl (cI, 8, .inl (fun _ => 0))), (q3, .inl (cI, 8, .inl (fun _ => 0))), (q4, .inl (cI, 8, .inl (fun _ => 0)))] := hD
  refine va_putF (D := (dC, dI)) (ci := 5) (v := .ref q4) (ty := .array .int) (C := RX5) (T := TX5) (N := 13) hx hb hts hi_X5 tyX5 tyX5_ok nmX5 hown hK hP hD hS 0 rfl rfl 8 (by decide) (hts (.fieldLink RX5 38 "LeftQuills$Office" "toldLength" "[I") (by decide +kernel)) (fun _ h9 => h9) rfl hin rfl (by decide +kernel) rfl rfl (Nat.le_of_ble_eq_true rfl) dX5_init_58 (fun H locs hP hD hS => ?_)
  have hP : va_P (dC, dI) vwCl [(h0, .inr (5, [.int 0, .int 0, .int 0, .int 0, .int 0, .ref q1, .ref q2, .ref q3, .ref q4, .null, .null, .null, .null])), (q1, .inl (cI, 8, .inl (fun _ => 0))), (q2, .inl (cI, 8, .inl (fun _ => 0))), (q3, .inl (cI, 8, .inl (fun _ => 0))), (q4, .inl (cI, 8, .inl (fun _ => 0)))] H := hP
  have hD : va_D A [(h0, .inr (5, [.int 0, .int 0, .int 0, .int 0, .int 0, .ref q1, .ref q2, .ref q3, .ref q4, .null, .null, .null, .null])), (q1, .inl (cI, 8, .inl (fun _ => 0))), (q2, .inl (cI, 8, .inl (fun _ => 0))), (q3, .inl (cI, 8, .inl (fun _ => 0))), (q4, .inl (cI, 8, .inl (fun _ => 0)))] := hD
  refine lv_aload_n hx hb dX5_init_61 rfl (lv_at hl 0 rfl) ?_
  refine lv_bipush (v := 8) hx hb dX5_init_62 (by decide) ?_
  refine va_newa (atype := .int) (ty := .int) (n := 8) (a0 := (8, .inl (fun _ => 0))) (N' := 8) hx hb (hts (.arrayClass .int) (by decide +kernel)) rfl hK hP hD hS hA (fun _ => rfl) (by decide) (by decide) (by decide) (Nat.le_of_ble_eq_true rfl) (Nat.le_of_ble_eq_true rfl) dX5_init_64 (fun q5 cA H hKn hP hD hS => ?_)
  have ecA := xcI hKn
  subst ecA
  clear hKn
  refine W.widen (k := 5) (n := 40) (Nat.le_of_ble_eq_true rfl) (Nat.le_of_ble_eq_true rfl) ?_
  have hP : va_P (dC, dI) vwCl [(h0, .inr (5, [.int 0, .int 0, .int 0, .int 0, .int 0, .ref q1, .ref q2, .ref q3, .ref q4, .null, .null, .null, .null])), (q1, .inl (cI, 8, .inl (fun _ => 0))), (q2, .inl (cI, 8, .inl (fun _ => 0))), (q3, .inl (cI, 8, .inl (fun _ => 0))), (q4, .inl (cI, 8, .inl (fun _ => 0))), (q5, .inl (cI, 8, .inl (fun _ => 0)))] H := hP
  have hD : va_D A [(h0, .inr (5, [.int 0, .int 0, .int 0, .int 0, .int 0, .ref q1, .ref q2, .ref q3, .ref q4, .null, .null, .null, .null])), (q1, .inl (cI, 8, .inl (fun _ => 0))), (q2, .inl (cI, 8, .inl (fun _ => 0))), (q3, .inl (cI, 8, .inl (fun _ => 0))), (q4, .inl (cI, 8, .inl (fun _ => 0))), (q5, .inl (cI, 8, .inl (fun _ => 0)))] := hD
  refine va_putF (D := (dC, dI)) (ci := 5) (v := .ref q5) (ty := .array .int) (C := RX5) (T := TX5) (N := 13) hx hb hts hi_X5 tyX5 tyX5_ok nmX5 hown hK hP hD hS 0 rfl rfl 9 (by decide) (hts (.fieldLink RX5 41 "LeftQuills$Office" "toldNib" "[I") (by decide +kernel)) (fun _ h9 => h9) rfl hin rfl (by decide +kernel) rfl rfl (Nat.le_of_ble_eq_true rfl) dX5_init_66 (fun H locs hP hD hS => ?_)
  have hP : va_P (dC, dI) vwCl [(h0, .inr (5, [.int 0, .int 0, .int 0, .int 0, .int 0, .ref q1, .ref q2, .ref q3, .ref q4, .ref q5, .null, .null, .null])), (q1, .inl (cI, 8, .inl (fun _ => 0))), (q2, .inl (cI, 8, .inl (fun _ => 0))), (q3, .inl (cI, 8, .inl (fun _ => 0))), (q4, .inl (cI, 8, .inl (fun _ => 0))), (q5, .inl (cI, 8, .inl (fun _ => 0)))] H := hP
  have hD : va_D A [(h0, .inr (5, [.int 0, .int 0, .int 0, .int 0, .int 0, .ref q1, .ref q2, .ref q3, .ref q4, .ref q5, .null, .null, .null])), (q1, .inl (cI, 8, .inl (fun _ => 0))), (q2, .inl (cI, 8, .inl (fun _ => 0))), (q3, .inl (cI, 8, .inl (fun _ => 0))), (q4, .inl (cI, 8, .inl (fun _ => 0))), (q5, .inl (cI, 8, .inl (fun _ => 0)))] := hD
  refine lv_aload_n hx hb dX5_init_69 rfl (lv_at hl 0 rfl) ?_
  refine lv_iconst (v := 4) hx hb dX5_init_70 (by decide) ?_
  refine va_newa (atype := .int) (ty := .int) (n := 4) (a0 := (4, .inl (fun _ => 0))) (N' := 4) hx hb (hts (.arrayClass .int) (by decide +kernel)) rfl hK hP hD hS hA (fun _ => rfl) (by decide) (by decide) (by decide) (Nat.le_of_ble_eq_true rfl) (Nat.le_of_ble_eq_true rfl) dX5_init_71 (fun q6 cA H hKn hP hD hS => ?_)
  have ecA := xcI hKn
  subst ecA
  clear hKn
  refine W.widen (k := 6) (n := 44) (Nat.le_of_ble_eq_true rfl) (Nat.le_of_ble_eq_true rfl) ?_
  have hP : va_P (dC, dI) vwCl [(h0, .inr (5, [.int 0, .int 0, .int 0, .int 0, .int 0, .ref q1, .ref q2, .ref q3, .ref q4, .ref q5, .null, .null, .null])), (q1, .inl (cI, 8, .inl (fun _ => 0))), (q2, .inl (cI, 8, .inl (fun _ => 0))), (q3, .inl (cI, 8, .inl (fun _ => 0))), (q4, .inl (cI, 8, .inl (fun _ => 0))), (q5, .inl (cI, 8, .inl (fun _ => 0))), (q6, .inl (cI, 4, .inl (fun _ => 0)))] H := hP
  have hD : va_D A [(h0, .inr (5, [.int 0, .int 0, .int 0, .int 0, .int 0, .ref q1, .ref q2, .ref q3, .ref q4, .ref q5, .null, .null, .null])), (q1, .inl (cI, 8, .inl (fun _ => 0))), (q2, .inl (cI, 8, .inl (fun _ => 0))), (q3, .inl (cI, 8, .inl (fun _ => 0))), (q4, .inl (cI, 8, .inl (fun _ => 0))), (q5, .inl (cI, 8, .inl (fun _ => 0))), (q6, .inl (cI, 4, .inl (fun _ => 0)))] := hD
  refine va_putF (D := (dC, dI)) (ci := 5) (v := .ref q6) (ty := .array .int) (C := RX5) (T := TX5) (N := 13) hx hb hts hi_X5 tyX5 tyX5_ok nmX5 hown hK hP hD hS 0 rfl rfl 10 (by decide) (hts (.fieldLink RX5 44 "LeftQuills$Office" "side" "[I") (by decide +kernel)) (fun _ h9 => h9) rfl hin rfl (by decide +kernel) rfl rfl (Nat.le_of_ble_eq_true rfl) dX5_init_73 (fun H locs hP hD hS => ?_)
  have hP : va_P (dC, dI) vwCl [(h0, .inr (5, [.int 0, .int 0, .int 0, .int 0, .int 0, .ref q1, .ref q2, .ref q3, .ref q4, .ref q5, .ref q6, .null, .null])), (q1, .inl (cI, 8, .inl (fun _ => 0))), (q2, .inl (cI, 8, .inl (fun _ => 0))), (q3, .inl (cI, 8, .inl (fun _ => 0))), (q4, .inl (cI, 8, .inl (fun _ => 0))), (q5, .inl (cI, 8, .inl (fun _ => 0))), (q6, .inl (cI, 4, .inl (fun _ => 0)))] H := hP
  have hD : va_D A [(h0, .inr (5, [.int 0, .int 0, .int 0, .int 0, .int 0, .ref q1, .ref q2, .ref q3, .ref q4, .ref q5, .ref q6, .null, .null])), (q1, .inl (cI, 8, .inl (fun _ => 0))), (q2, .inl (cI, 8, .inl (fun _ => 0))), (q3, .inl (cI, 8, .inl (fun _ => 0))), (q4, .inl (cI, 8, .inl (fun _ => 0))), (q5, .inl (cI, 8, .inl (fun _ => 0))), (q6, .inl (cI, 4, .inl (fun _ => 0)))] := hD
  refine lv_aload_n hx hb dX5_init_76 rfl (lv_at hl 0 rfl) ?_
  refine lv_iconst (v := 4) hx hb dX5_init_77 (by decide) ?_
  refine va_newa (atype := .int) (ty := .int) (n := 4) (a0 := (4, .inl (fun _ => 0))) (N' := 4) hx hb (hts (.arrayClass .int) (by decide +kernel)) rfl hK hP hD hS hA (fun _ => rfl) (by decide) (by decide) (by decide) (Nat.le_of_ble_eq_true rfl) (Nat.le_of_ble_eq_true rfl) dX5_init_78 (fun q7 cA H hKn hP hD hS => ?_)
  have ecA := xcI hKn
  subst ecA
  clear hKn
  refine W.widen (k := 7) (n := 48) (Nat.le_of_ble_eq_true rfl) (Nat.le_of_ble_eq_true rfl) ?_
  have hP : va_P (dC, dI) vwCl [(h0, .inr (5, [.int 0, .int 0, .int 0, .int 0, .int 0, .ref q1, .ref q2, .ref q3, .ref q4, .ref q5, .ref q6, .null, .null])), (q1, .inl (cI, 8, .inl (fun _ => 0))), (q2, .inl (cI, 8, .inl (fun _ => 0))), (q3, .inl (cI, 8, .inl (fun _ => 0))), (q4, .inl (cI, 8, .inl (fun _ => 0))), (q5, .inl (cI, 8, .inl (fun _ => 0))), (q6, .inl (cI, 4, .inl (fun _ => 0))), (q7, .inl (cI, 4, .inl (fun _ => 0)))] H := hP
  have hD : va_D A [(h0, .inr (5, [.int 0, .int 0, .int 0, .int 0, .int 0, .ref q1, .ref q2, .ref q3, .ref q4, .ref q5, .ref q6, .null, .null])), (q1, .inl (cI, 8, .inl (fun _ => 0))), (q2, .inl (cI, 8, .inl (fun _ => 0))), (q3, .inl (cI, 8, .inl (fun _ => 0))), (q4, .inl (cI, 8, .inl (fun _ => 0))), (q5, .inl (cI, 8, .inl (fun _ => 0))), (q6, .inl (cI, 4, .inl (fun _ => 0))), (q7, .inl (cI, 4, .inl (fun _ => 0)))] := hD
  refine va_putF (D := (dC, dI)) (ci := 5) (v := .ref q7) (ty := .array .int) (C := RX5) (T := TX5) (N := 13) hx hb hts hi_X5 tyX5 tyX5_ok nmX5 hown hK hP hD hS 0 rfl rfl 11 (by decide) (hts (.fieldLink RX5 47 "LeftQuills$Office" "presses" "[I") (by decide +kernel)) (fun _ h9 => h9) rfl hin rfl (by decide +kernel) rfl rfl (Nat.le_of_ble_eq_true rfl) dX5_init_80 (fun H locs hP hD hS => ?_)
  have hP : va_P (dC, dI) vwCl [(h0, .inr (5, [.int 0, .int 0, .int 0, .int 0, .int 0, .ref q1, .ref q2, .ref q3, .ref q4, .ref q5, .ref q6, .ref q7, .null])), (q1, .inl (cI, 8, .inl (fun _ => 0))), (q2, .inl (cI, 8, .inl (fun _ => 0))), (q3, .inl (cI, 8, .inl (fun _ => 0))), (q4, .inl (cI, 8, .inl (fun _ => 0))), (q5, .inl (cI, 8, .inl (fun _ => 0))), (q6, .inl (cI, 4, .inl (fun _ => 0))), (q7, .inl (cI, 4, .inl (fun _ => 0)))] H := hP
  have hD : va_D A [(h0, .inr (5, [.int 0, .int 0, .int 0, .int 0, .int 0, .ref q1, .ref q2, .ref q3, .ref q4, .ref q5, .ref q6, .ref q7, .null])), (q1, .inl (cI, 8, .inl (fun _ => 0))), (q2, .inl (cI, 8, .inl (fun _ => 0))), (q3, .inl (cI, 8, .inl (fun _ => 0))), (q4, .inl (cI, 8, .inl (fun _ => 0))), (q5, .inl (cI, 8, .inl (fun _ => 0))), (q6, .inl (cI, 4, .inl (fun _ => 0))), (q7, .inl (cI, 4, .inl (fun _ => 0)))] := hD
  refine lv_aload_n hx hb dX5_init_83 rfl (lv_at hl 0 rfl) ?_
  refine lv_iconst (v := 4) hx hb dX5_init_84 (by decide) ?_
  refine va_newa (atype := .int) (ty := .int) (n := 4) (a0 := (4, .inl (fun _ => 0))) (N' := 4) hx hb (hts (.arrayClass .int) (by decide +kernel)) rfl hK hP hD hS hA (fun _ => rfl) (by decide) (by decide) (by decide) (Nat.le_of_ble_eq_true rfl) (Nat.le_of_ble_eq_true rfl) dX5_init_85 (fun q8 cA H hKn hP hD hS => ?_)
  have ecA := xcI hKn
  subst ecA
  clear hKn
  refine W.widen (k := 8) (n := 52) (Nat.le_of_ble_eq_true rfl) (Nat.le_of_ble_eq_true rfl) ?_
  have hP : va_P (dC, dI) vwCl [(h0, .inr (5, [.int 0, .int 0, .int 0, .int 0, .int 0, .ref q1, .ref q2, .ref q3, .ref q4, .ref q5, .ref q6, .ref q7, .null])), (q1, .inl (cI, 8, .inl (fun _ => 0))), (q2, .inl (cI, 8, .inl (fun _ => 0))), (q3, .inl (cI, 8, .inl (fun _ => 0))), (q4, .inl (cI, 8, .inl (fun _ => 0))), (q5, .inl (cI, 8, .inl (fun _ => 0))), (q6, .inl (cI, 4, .inl (fun _ => 0))), (q7, .inl (cI, 4, .inl (fun _ => 0))), (q8, .inl (cI, 4, .inl (fun _ => 0)))] H := hP
  have hD : va_D A [(h0, .inr (5, [.int 0, .int 0, .int 0, .int 0, .int 0, .ref q1, .ref q2, .ref q3, .ref q4, .ref q5, .ref q6, .ref q7, .null])), (q1, .inl (cI, 8, .inl (fun _ => 0))), (q2, .inl (cI, 8, .inl (fun _ => 0))), (q3, .inl (cI, 8, .inl (fun _ => 0))), (q4, .inl (cI, 8, .inl (fun _ => 0))), (q5, .inl (cI, 8, .inl (fun _ => 0))), (q6, .inl (cI, 4, .inl (fun _ => 0))), (q7, .inl (cI, 4, .inl (fun _ => 0))), (q8, .inl (cI, 4, .inl (fun _ => 0)))] := hD
  refine va_putF (D := (dC, dI)) (ci := 5) (v := .ref q8) (ty := .array .int) (C := RX5) (T := TX5) (N := 13) hx hb hts hi_X5 tyX5 tyX5_ok nmX5 hown hK hP hD hS 0 rfl rfl 12 (by decide) (hts (.fieldLink RX5 50 "LeftQuills$Office" "wants" "[I") (by decide +kernel)) (fun _ h9 => h9) rfl hin rfl (by decide +kernel) rfl rfl (Nat.le_of_ble_eq_true rfl) dX5_init_87 (fun H locs hP hD hS => ?_)
  have hP : va_P (dC, dI) vwCl [(h0, .inr (5, [.int 0, .int 0, .int 0, .int 0, .int 0, .ref q1, .ref q2, .ref q3, .ref q4, .ref q5, .ref q6, .ref q7, .ref q8])), (q1, .inl (cI, 8, .inl (fun _ => 0))), (q2, .inl (cI, 8, .inl (fun _ => 0))), (q3, .inl (cI, 8, .inl (fun _ => 0))), (q4, .inl (cI, 8, .inl (fun _ => 0))), (q5, .inl (cI, 8, .inl (fun _ => 0))), (q6, .inl (cI, 4, .inl (fun _ => 0))), (q7, .inl (cI, 4, .inl (fun _ => 0))), (q8, .inl (cI, 4, .inl (fun _ => 0)))] H := hP
  have hD : va_D A [(h0, .inr (5, [.int 0, .int 0, .int 0, .int 0, .int 0, .ref q1, .ref q2, .ref q3, .ref q4, .ref q5, .ref q6, .ref q7, .ref q8])), (q1, .inl (cI, 8, .inl (fun _ => 0))), (q2, .inl (cI, 8, .inl (fun _ => 0))), (q3, .inl (cI, 8, .inl (fun _ => 0))), (q4, .inl (cI, 8, .inl (fun _ => 0))), (q5, .inl (cI, 8, .inl (fun _ => 0))), (q6, .inl (cI, 4, .inl (fun _ => 0))), (q7, .inl (cI, 4, .inl (fun _ => 0))), (q8, .inl (cI, 4, .inl (fun _ => 0)))] := hD
  have hP9 := hP.sub (ws' := [(h0, .inr (5, [.int 0, .int 0, .int 0, .int 0, .int 0, .ref q1, .ref q2, .ref q3, .ref q4, .ref q5, .ref q6, .ref q7, .ref q8])), (q1, .inl (cI, 8, .inl (fun _ => 0))), (q2, .inl (cI, 8, .inl (fun _ => 0))), (q3, .inl (cI, 8, .inl (fun _ => 0))), (q4, .inl (cI, 8, .inl (fun _ => 0))), (q5, .inl (cI, 8, .inl (fun _ => 0))), (q6, .inl (cI, 4, .inl (fun _ => 0))), (q7, .inl (cI, 4, .inl (fun _ => 0))), (q8, .inl (cI, 4, .inl (fun _ => 0)))]) [0, 1, 2, 3, 4, 5, 6, 7, 8] rfl
  have hD9 := hD.sub (ws' := [(h0, .inr (5, [.int 0, .int 0, .int 0, .int 0, .int 0, .ref q1, .ref q2, .ref q3, .ref q4, .ref q5, .ref q6, .ref q7, .ref q8])), (q1, .inl (cI, 8, .inl (fun _ => 0))), (q2, .inl (cI, 8, .inl (fun _ => 0))), (q3, .inl (cI, 8, .inl (fun _ => 0))), (q4, .inl (cI, 8, .inl (fun _ => 0))), (q5, .inl (cI, 8, .inl (fun _ => 0))), (q6, .inl (cI, 4, .inl (fun _ => 0))), (q7, .inl (cI, 4, .inl (fun _ => 0))), (q8, .inl (cI, 4, .inl (fun _ => 0)))]) [0, 1, 2, 3, 4, 5, 6, 7, 8] (by decide) rfl
  refine W.widen (k := 8) (n := 52) (Nat.le_of_ble_eq_true rfl) (Nat.le_of_ble_eq_true rfl) ?_
  exact W.vret hx hb hr (fun t ht hW => ⟨⟨(vn [q1, q2, q3, q4, q5, q6, q7, q8]), rfl, by first | trivial | rfl | (simp_all; done), ⟨by rw [ht]; exact hP9, hD9⟩⟩, hS.F ht⟩) hS.2.2 dX5_init_90
set_option maxHeartbeats 4000000 in
set_option maxRecDepth 100000 in
theorem c_X1_init (l : Launch) (dC : Nat → ClassId) (dI : Nat → Nat → Nat) (cI cZ cQ : ClassId) (h0 : Nat) (ho : Nat) (sz : Nat)  : Met l yX1_init wsX1_init ({ frames := 1, cells := 5, slots := 32, locals := 40 }) (va_Pc [.ref h0, .ref ho] (fun U => U.heap.size = sz ∧ va_P (dC, dI) vwCl [(h0, .inr (1, [.int 0, .int 0, .null, .null, .null, .null, .null, .null]))] U.heap ∧ va_K (dC, dI) vwCl (tys0 cI cZ cQ) U ∧ va_D (fun _ => True) [(h0, .inr (1, [.int 0, .int 0, .null, .null, .null, .null, .null, .null]))])) (va_Qv (fun (u : Nat → Nat) => True) (fun (u : Nat → Nat) (t : State) => va_P (dC, dI) vwCl [(h0, .inr (1, [.int 0, .int 0, .ref (u 0), .ref (u 1), .ref (u 2), .ref (u 3), .ref (u 4), .ref ho])), ((u 0), .inl (cI, 8, .inl (fun _ => 0))), ((u 1), .inl (cI, 8, .inl (fun _ => 0))), ((u 2), .inl (cI, 8, .inl (fun _ => 0))), ((u 3), .inl (cI, 4, .inl (fun _ => 0))), ((u 4), .inl (cI, 4, .inl (fun _ => 0)))] t.heap ∧ va_D (va_A [(h0, .inr (1, [.int 0, .int 0, .null, .null, .null, .null, .null, .null]))] sz) [(h0, .inr (1, [.int 0, .int 0, .ref (u 0), .ref (u 1), .ref (u 2), .ref (u 3), .ref (u 4), .ref ho])), ((u 0), .inl (cI, 8, .inl (fun _ => 0))), ((u 1), .inl (cI, 8, .inl (fun _ => 0))), ((u 2), .inl (cI, 8, .inl (fun _ => 0))), ((u 3), .inl (cI, 4, .inl (fun _ => 0))), ((u 4), .inl (cI, 4, .inl (fun _ => 0)))]) (va_A [(h0, .inr (1, [.int 0, .int 0, .null, .null, .null, .null, .null, .null]))] sz)) 5 32 (va_A [(h0, .inr (1, [.int 0, .int 0, .null, .null, .null, .null, .null, .null]))] sz) := by
  refine Met.ofW (cc := cX1_init) (maxL := 2) (ret := none) (by decide) rfl ?_
  intro p e s m args below meth c s₁ B hml hv
  obtain ⟨rfl, hsz, hP, hK, hD0⟩ := hv
  have hx := B.exec
  have hb := B.bytes
  have hr := B.returns
  have hts := atoms_spec (ws := wsX1_init) B.pre
  have hown : s.vm.findClass RX1 = some m.cls := findClass_of_methodNamed B.named
  have hlocks := B.notSynchronized
  have hin : meth.name = "<init>" := (name_of_methodNamed B.named B.method).1
  have hi_X1 : ∀ w ∈ u_ws RX1 TX1 8, w ∈ wsX1_init := by decide +kernel
  subst hsz
  have hD := hD0.self (sz := s.heap.size)
  generalize hAe : va_A [(h0, .inr (1, [.int 0, .int 0, .null, .null, .null, .null, .null, .null]))] s.heap.size = A at hD ⊢
  have hA : ∀ q : Nat, s.heap.size ≤ q → A q := fun q h => by rw [← hAe]; exact Or.inr h
  have hS : va_S A s.heap s.heap [] := va_S.rf
  have hl := lv_entry ([.ref h0, .ref ho]) (n := 2) (Nat.le_of_ble_eq_true rfl)
  rw [lg_entry_eq]
  generalize (lg_sl ([.ref h0, .ref ho]) ++ List.replicate (2 - (lg_sl ([.ref h0, .ref ho])).length) Slot.unset).toArray = ls at hl ⊢
  have hl : lv_has ls 2 [(0, .ref h0), (1, .ref ho)] := hl
  refine lv_aload_n hx hb dX1_init_0 rfl (lv_at hl 0 rfl) ?_
  refine W.objInit hx hb hown (hts (.methodLink RX1 3 objectInit) (by decide +kernel)) (hts (.instanceMethod objectInit) (by decide +kernel)) (hts (.code objectInit ⟨#[0xb1]⟩ 1 none) (by decide +kernel)) rfl (by rw [hml]; exact hl.1) rfl dX1_init_1 (Nat.le_of_ble_eq_true rfl) (Nat.le_of_ble_eq_true rfl) ?_
  refine W.eq (g2 := F0 m 4 ls []) rfl ?_
  refine lv_aload_n hx hb dX1_init_4 rfl (lv_at hl 0 rfl) ?_
  refine lv_iconst (v := 0) hx hb dX1_init_5 (by decide) ?_
  refine va_put (D := (dC, dI)) (ci := 1) (v := .int 0) (ty := .int) (C := RX1) (T := TX1) (N := 8) hx hb hts hi_X1 tyX1 tyX1_ok nmX1 hown hK hP hD hS 0 rfl rfl 0 (by decide) (hts (.fieldLink RX1 9 "LeftQuills$Desk" "minutes" "I") (by decide +kernel)) (fun _ h9 => h9) rfl (by decide +kernel) rfl rfl (Nat.le_of_ble_eq_true rfl) dX1_init_6 (fun H locs hP hD hS => ?_)
  have hP : va_P (dC, dI) vwCl [(h0, .inr (1, [.int 0, .int 0, .null, .null, .null, .null, .null, .null]))] H := hP
  have hD : va_D A [(h0, .inr (1, [.int 0, .int 0, .null, .null, .null, .null, .null, .null]))] := hD
  refine lv_aload_n hx hb dX1_init_9 rfl (lv_at hl 0 rfl) ?_
  refine lv_iconst (v := 0) hx hb dX1_init_10 (by decide) ?_
  refine va_put (D := (dC, dI)) (ci := 1) (v := .int 0) (ty := .int) (C := RX1) (T := TX1) (N := 8) hx hb hts hi_X1 tyX1 tyX1_ok nmX1 hown hK hP hD hS 0 rfl rfl 1 (by decide) (hts (.fieldLink RX1 15 "LeftQuills$Desk" "cuts" "I") (by decide +kernel)) (fun _ h9 => h9) rfl (by decide +kernel) rfl rfl (Nat.le_of_ble_eq_true rfl) dX1_init_11 (fun H locs hP hD hS => ?_)
  have hP : va_P (dC, dI) vwCl [(h0, .inr (1, [.int 0, .int 0, .null, .null, .null, .null, .null, .null]))] H := hP
  have hD : va_D A [(h0, .inr (1, [.int 0, .int 0, .null, .null, .null, .null, .null, .null]))] := hD
  refine lv_aload_n hx hb dX1_init_14 rfl (lv_at hl 0 rfl) ?_
  refine lv_bipush (v := 8) hx hb dX1_init_15 (by decide) ?_
  refine va_newa (atype := .int) (ty := .int) (n := 8) (a0 := (8, .inl (fun _ => 0))) (N' := 8) hx hb (hts (.arrayClass .int) (by decide +kernel)) rfl hK hP hD hS hA (fun _ => rfl) (by decide) (by decide) (by decide) (Nat.le_of_ble_eq_true rfl) (Nat.le_of_ble_eq_true rfl) dX1_init_17 (fun q1 cA H hKn hP hD hS => ?_)
  have ecA := xcI hKn
  subst ecA
  clear hKn
  refine W.widen (k := 1) (n := 8) (Nat.le_of_ble_eq_true rfl) (Nat.le_of_ble_eq_true rfl) ?_
  have hP : va_P (dC, dI) vwCl [(h0, .inr (1, [.int 0, .int 0, .null, .null, .null, .null, .null, .null])), (q1, .inl (cI, 8, .inl (fun _ => 0)))] H := hP
  have hD : va_D A [(h0, .inr (1, [.int 0, .int 0, .null, .null, .null, .null, .null, .null])), (q1, .inl (cI, 8, .inl (fun _ => 0)))] := hD
  refine va_putF (D := (dC, dI)) (ci := 1) (v := .ref q1) (ty := .array .int) (C := RX1) (T := TX1) (N := 8) hx hb hts hi_X1 tyX1 tyX1_ok nmX1 hown hK hP hD hS 0 rfl rfl 2 (by decide) (hts (.fieldLink RX1 18 "LeftQuills$Desk" "length" "[I") (by decide +kernel)) (fun _ h9 => h9) rfl hin rfl (by decide +kernel) rfl rfl (Nat.le_of_ble_eq_true rfl) dX1_init_19 (fun H locs hP hD hS => ?_)
  have hP : va_P (dC, dI) vwCl [(h0, .inr (1, [.int 0, .int 0, .ref q1, .null, .null, .null, .null, .null])), (q1, .inl (cI, 8, .inl (fun _ => 0)))] H := hP
  have hD : va_D A [(h0, .inr (1, [.int 0, .int 0, .ref q1, .null, .null, .null, .null, .null])), (q1, .inl (cI, 8, .inl (fun _ => 0)))] := hD
  refine lv_aload_n hx hb dX1_init_22 rfl (lv_at hl 0 rfl) ?_
  refine lv_bipush (v := 8) hx hb dX1_init_23 (by decide) ?_
  refine va_newa (atype := .int) (ty := .int) (n := 8) (a0 := (8, .inl (fun _ => 0))) (N' := 8) hx hb (hts (.arrayClass .int) (by decide +kernel)) rfl hK hP hD hS hA (fun _ => rfl) (by decide) (by decide) (by decide) (Nat.le_of_ble_eq_true rfl) (Nat.le_of_ble_eq_true rfl) dX1_init_25 (fun q2 cA H hKn hP hD hS => ?_)
  have ecA := xcI hKn
  subst ecA
  clear hKn
  refine W.widen (k := 2) (n := 16) (Nat.le_of_ble_eq_true rfl) (Nat.le_of_ble_eq_true rfl) ?_
  have hP : va_P (dC, dI) vwCl [(h0, .inr (1, [.int 0, .int 0, .ref q1, .null, .null, .null, .null, .null])), (q1, .inl (cI, 8, .inl (fun _ => 0))), (q2, .inl (cI, 8, .inl (fun _ => 0)))] H := hP
  have hD : va_D A [(h0, .inr (1, [.int 0, .int 0, .ref q1, .null, .null, .null, .null, .null])), (q1, .inl (cI, 8, .inl (fun _ => 0))), (q2, .inl (cI, 8, .inl (fun _ => 0)))] := hD
  refine va_putF (D := (dC, dI)) (ci := 1) (v := .ref q2) (ty := .array .int) (C := RX1) (T := TX1) (N := 8) hx hb hts hi_X1 tyX1 tyX1_ok nmX1 hown hK hP hD hS 0 rfl rfl 3 (by decide) (hts (.fieldLink RX1 22 "LeftQuills$Desk" "nib" "[I") (by decide +kernel)) (fun _ h9 => h9) rfl hin rfl (by decide +kernel) rfl rfl (Nat.le_of_ble_eq_true rfl) dX1_init_27 (fun H locs hP hD hS => ?_)
  have hP : va_P (dC, dI) vwCl [(h0, .inr (1, [.int 0, .int 0, .ref q1, .ref q2, .null, .null, .null, .null])), (q1, .inl (cI, 8, .inl (fun _ => 0))), (q2, .inl (cI, 8, .inl (fun _ => 0)))] H := hP
  have hD : va_D A [(h0, .inr (1, [.int 0, .int 0, .ref q1, .ref q2, .null, .null, .null, .null])), (q1, .inl (cI, 8, .inl (fun _ => 0))), (q2, .inl (cI, 8, .inl (fun _ => 0)))] := hD
  refine lv_aload_n hx hb dX1_init_30 rfl (lv_at hl 0 rfl) ?_
  refine lv_bipush (v := 8) hx hb dX1_init_31 (by decide) ?_
  refine va_newa (atype := .int) (ty := .int) (n := 8) (a0 := (8, .inl (fun _ => 0))) (N' := 8) hx hb (hts (.arrayClass .int) (by decide +kernel)) rfl hK hP hD hS hA (fun _ => rfl) (by decide) (by decide) (by decide) (Nat.le_of_ble_eq_true rfl) (Nat.le_of_ble_eq_true rfl) dX1_init_33 (fun q3 cA H hKn hP hD hS => ?_)
  have ecA := xcI hKn
  subst ecA
  clear hKn
  refine W.widen (k := 3) (n := 24) (Nat.le_of_ble_eq_true rfl) (Nat.le_of_ble_eq_true rfl) ?_
  have hP : va_P (dC, dI) vwCl [(h0, .inr (1, [.int 0, .int 0, .ref q1, .ref q2, .null, .null, .null, .null])), (q1, .inl (cI, 8, .inl (fun _ => 0))), (q2, .inl (cI, 8, .inl (fun _ => 0))), (q3, .inl (cI, 8, .inl (fun _ => 0)))] H := hP
  have hD : va_D A [(h0, .inr (1, [.int 0, .int 0, .ref q1, .ref q2, .null, .null, .null, .null])), (q1, .inl (cI, 8, .inl (fun _ => 0))), (q2, .inl (cI, 8, .inl (fun _ => 0))), (q3, .inl (cI, 8, .inl (fun _ => 0)))] := hD
  refine va_putF (D := (dC, dI)) (ci := 1) (v := .ref q3) (ty := .array .int) (C := RX1) (T := TX1) (N := 8) hx hb hts hi_X1 tyX1 tyX1_ok nmX1 hown hK hP hD hS 0 rfl rfl 4 (by decide) (hts (.fieldLink RX1 25 "LeftQuills$Desk" "softness" "[I") (by decide +kernel)) (fun _ h9 => h9) rfl hin rfl (by decide +kernel) rfl rfl (Nat.le_of_ble_eq_true rfl) dX1_init_35 (fun H locs hP hD hS => ?_)
  have hP : va_P (dC, dI) vwCl [(h0, .inr (1, [.int 0, .int 0, .ref q1, .ref q2, .ref q3, .null, .null, .null])), (q1, .inl (cI, 8, .inl (fun _ => 0))), (q2, .inl (cI, 8, .inl (fun _ => 0))), (q3, .inl (cI, 8, .inl (fun _ => 0)))] H := hP
  have hD : va_D A [(h0, .inr (1, [.int 0, .int 0, .ref q1, .ref q2, .ref q3, .null, .null, .null])), (q1, .inl (cI, 8, .inl (fun _ => 0))), (q2, .inl (cI, 8, .inl (fun _ => 0))), (q3, .inl (cI, 8, .inl (fun _ => 0)))] := hD
  refine lv_aload_n hx hb dX1_init_38 rfl (lv_at hl 0 rfl) ?_
  refine lv_iconst (v := 4) hx hb dX1_init_39 (by decide) ?_
  refine va_newa (atype := .int) (ty := .int) (n := 4) (a0 := (4, .inl (fun _ => 0))) (N' := 4) hx hb (hts (.arrayClass .int) (by decide +kernel)) rfl hK hP hD hS hA (fun _ => rfl) (by decide) (by decide) (by decide) (Nat.le_of_ble_eq_true rfl) (Nat.le_of_ble_eq_true rfl) dX1_init_40 (fun q4 cA H hKn hP hD hS => ?_)
  have ecA := xcI hKn
  subst ecA
  clear hKn
  refine W.widen (k := 4) (n := 28) (Nat.le_of_ble_eq_true rfl) (Nat.le_of_ble_eq_true rfl) ?_
  have hP : va_P (dC, dI) vwCl [(h0, .inr (1, [.int 0, .int 0, .ref q1, .ref q2, .ref q3, .null, .null, .null])), (q1, .inl (cI, 8, .inl (fun _ => 0))), (q2, .inl (cI, 8, .inl (fun _ => 0))), (q3, .inl (cI, 8, .inl (fun _ => 0))), (q4, .inl (cI, 4, .inl (fun _ => 0)))] H := hP
  have hD : va_D A [(h0, .inr (1, [.int 0, .int 0, .ref q1, .ref q2, .ref q3, .null, .null, .null])), (q1, .inl (cI, 8, .inl (fun _ => 0))), (q2, .inl (cI, 8, .inl (fun _ => 0))), (q3, .inl (cI, 8, .inl (fun _ => 0))), (q4, .inl (cI, 4, .inl (fun _ => 0)))] := hD
  refine va_putF (D := (dC, dI)) (ci := 1) (v := .ref q4) (ty := .array .int) (C := RX1) (T := TX1) (N := 8) hx hb hts hi_X1 tyX1 tyX1_ok nmX1 hown hK hP hD hS 0 rfl rfl 5 (by decide) (hts (.fieldLink RX1 28 "LeftQuills$Desk" "pages" "[I") (by decide +kernel)) (fun _ h9 => h9) rfl hin rfl (by decide +kernel) rfl rfl (Nat.le_of_ble_eq_true rfl) dX1_init_42 (fun H locs hP hD hS => ?_)
  have hP : va_P (dC, dI) vwCl [(h0, .inr (1, [.int 0, .int 0, .ref q1, .ref q2, .ref q3, .ref q4, .null, .null])), (q1, .inl (cI, 8, .inl (fun _ => 0))), (q2, .inl (cI, 8, .inl (fun _ => 0))), (q3, .inl (cI, 8, .inl (fun _ => 0))), (q4, .inl (cI, 4, .inl (fun _ => 0)))] H := hP
  have hD : va_D A [(h0, .inr (1, [.int 0, .int 0, .ref q1, .ref q2, .ref q3, .ref q4, .null, .null])), (q1, .inl (cI, 8, .inl (fun _ => 0))), (q2, .inl (cI, 8, .inl (fun _ => 0))), (q3, .inl (cI, 8, .inl (fun _ => 0))), (q4, .inl (cI, 4, .inl (fun _ => 0)))] := hD
  refine lv_aload_n hx hb dX1_init_45 rfl (lv_at hl 0 rfl) ?_
  refine lv_iconst (v := 4) hx hb dX1_init_46 (by decide) ?_
  refine va_newa (atype := .int) (ty := .int) (n := 4) (a0 := (4, .inl (fun _ => 0))) (N' := 4) hx hb (hts (.arrayClass .int) (by decide +kernel)) rfl hK hP hD hS hA (fun _ => rfl) (by decide) (by decide) (by decide) (Nat.le_of_ble_eq_true rfl) (Nat.le_of_ble_eq_true rfl) dX1_init_47 (fun q5 cA H hKn hP hD hS => ?_)
  have ecA := xcI hKn
  subst ecA
  clear hKn
  refine W.widen (k := 5) (n := 32) (Nat.le_of_ble_eq_true rfl) (Nat.le_of_ble_eq_true rfl) ?_
  have hP : va_P (dC, dI) vwCl [(h0, .inr (1, [.int 0, .int 0, .ref q1, .ref q2, .ref q3, .ref q4, .null, .null])), (q1, .inl (cI, 8, .inl (fun _ => 0))), (q2, .inl (cI, 8, .inl (fun _ => 0))), (q3, .inl (cI, 8, .inl (fun _ => 0))), (q4, .inl (cI, 4, .inl (fun _ => 0))), (q5, .inl (cI, 4, .inl (fun _ => 0)))] H := hP
  have hD : va_D A [(h0, .inr (1, [.int 0, .int 0, .ref q1, .ref q2, .ref q3, .ref q4, .null, .null])), (q1, .inl (cI, 8, .inl (fun _ => 0))), (q2, .inl (cI, 8, .inl (fun _ => 0))), (q3, .inl (cI, 8, .inl (fun _ => 0))), (q4, .inl (cI, 4, .inl (fun _ => 0))), (q5, .inl (cI, 4, .inl (fun _ => 0)))] := hD
  refine va_putF (D := (dC, dI)) (ci := 1) (v := .ref q5) (ty := .array .int) (C := RX1) (T := TX1) (N := 8) hx hb hts hi_X1 tyX1 tyX1_ok nmX1 hown hK hP hD hS 0 rfl rfl 6 (by decide) (hts (.fieldLink RX1 31 "LeftQuills$Desk" "good" "[I") (by decide +kernel)) (fun _ h9 => h9) rfl hin rfl (by decide +kernel) rfl rfl (Nat.le_of_ble_eq_true rfl) dX1_init_49 (fun H locs hP hD hS => ?_)
  have hP : va_P (dC, dI) vwCl [(h0, .inr (1, [.int 0, .int 0, .ref q1, .ref q2, .ref q3, .ref q4, .ref q5, .null])), (q1, .inl (cI, 8, .inl (fun _ => 0))), (q2, .inl (cI, 8, .inl (fun _ => 0))), (q3, .inl (cI, 8, .inl (fun _ => 0))), (q4, .inl (cI, 4, .inl (fun _ => 0))), (q5, .inl (cI, 4, .inl (fun _ => 0)))] H := hP
  have hD : va_D A [(h0, .inr (1, [.int 0, .int 0, .ref q1, .ref q2, .ref q3, .ref q4, .ref q5, .null])), (q1, .inl (cI, 8, .inl (fun _ => 0))), (q2, .inl (cI, 8, .inl (fun _ => 0))), (q3, .inl (cI, 8, .inl (fun _ => 0))), (q4, .inl (cI, 4, .inl (fun _ => 0))), (q5, .inl (cI, 4, .inl (fun _ => 0)))] := hD
  refine lv_aload_n hx hb dX1_init_52 rfl (lv_at hl 0 rfl) ?_
  refine lv_aload_n hx hb dX1_init_53 rfl (lv_at hl 1 rfl) ?_
  refine va_putF (D := (dC, dI)) (ci := 1) (v := .ref ho) (ty := .object "LeftQuills$Office") (C := RX1) (T := TX1) (N := 8) hx hb hts hi_X1 tyX1 tyX1_ok nmX1 hown hK hP hD hS 0 rfl rfl 7 (by decide) (hts (.fieldLink RX1 34 "LeftQuills$Desk" "office" "LLeftQuills$Office;") (by decide +kernel)) (fun _ h9 => h9) rfl hin rfl (by decide +kernel) rfl rfl (Nat.le_of_ble_eq_true rfl) dX1_init_54 (fun H locs hP hD hS => ?_)
  have hP : va_P (dC, dI) vwCl [(h0, .inr (1, [.int 0, .int 0, .ref q1, .ref q2, .ref q3, .ref q4, .ref q5, .ref ho])), (q1, .inl (cI, 8, .inl (fun _ => 0))), (q2, .inl (cI, 8, .inl (fun _ => 0))), (q3, .inl (cI, 8, .inl (fun _ => 0))), (q4, .inl (cI, 4, .inl (fun _ => 0))), (q5, .inl (cI, 4, .inl (fun _ => 0)))] H := hP
  have hD : va_D A [(h0, .inr (1, [.int 0, .int 0, .ref q1, .ref q2, .ref q3, .ref q4, .ref q5, .ref ho])), (q1, .inl (cI, 8, .inl (fun _ => 0))), (q2, .inl (cI, 8, .inl (fun _ => 0))), (q3, .inl (cI, 8, .inl (fun _ => 0))), (q4, .inl (cI, 4, .inl (fun _ => 0))), (q5, .inl (cI, 4, .inl (fun _ => 0)))] := hD
  have hP9 := hP.sub (ws' := [(h0, .inr (1, [.int 0, .int 0, .ref q1, .ref q2, .ref q3, .ref q4, .ref q5, .ref ho])), (q1, .inl (cI, 8, .inl (fun _ => 0))), (q2, .inl (cI, 8, .inl (fun _ => 0))), (q3, .inl (cI, 8, .inl (fun _ => 0))), (q4, .inl (cI, 4, .inl (fun _ => 0))), (q5, .inl (cI, 4, .inl (fun _ => 0)))]) [0, 1, 2, 3, 4, 5] rfl
  have hD9 := hD.sub (ws' := [(h0, .inr (1, [.int 0, .int 0, .ref q1, .ref q2, .ref q3, .ref q4, .ref q5, .ref ho])), (q1, .inl (cI, 8, .inl (fun _ => 0))), (q2, .inl (cI, 8, .inl (fun _ => 0))), (q3, .inl (cI, 8, .inl (fun _ => 0))), (q4, .inl (cI, 4, .inl (fun _ => 0))), (q5, .inl (cI, 4, .inl (fun _ => 0)))]) [0, 1, 2, 3, 4, 5] (by decide) rfl
  refine W.widen (k := 5) (n := 32) (Nat.le_of_ble_eq_true rfl) (Nat.le_of_ble_eq_true rfl) ?_
  exact W.vret hx hb hr (fun t ht hW => ⟨⟨(vn [q1, q2, q3, q4, q5]), rfl, by first | trivial | rfl | (simp_all; done), ⟨by rw [ht]; exact hP9, hD9⟩⟩, hS.F ht⟩) hS.2.2 dX1_init_57
set_option maxHeartbeats 4000000 in
set_option maxRecDepth 100000 in
theorem c_X2_init (l : Launch) (dC : Nat → ClassId) (dI : Nat → Nat → Nat) (cI cZ cQ : ClassId) (h0 : Nat) (ho : Nat) (sz : Nat)  : Met l yX2_init wsX2_init ({ frames := 1, cells := 3, slots := 18, locals := 40 }) (va_Pc [.ref h0, .ref ho] (fun U => U.heap.size = sz ∧ va_P (dC, dI) vwCl [(h0, .inr (2, [.int 0, .null, .null, .null, .null]))] U.heap ∧ va_K (dC, dI) vwCl (tys0 cI cZ cQ) U ∧ va_D (fun _ => True) [(h0, .inr (2, [.int 0, .null, .null, .null, .null]))])) (va_Qv (fun (u : Nat → Nat) => True) (fun (u : Nat → Nat) (t : State) => va_P (dC, dI) vwCl [(h0, .inr (2, [.int 0, .ref ho, .ref (u 0), .ref (u 1), .ref (u 2)]))] t.heap ∧ va_D (va_A [(h0, .inr (2, [.int 0, .null, .null, .null, .null]))] sz) [(h0, .inr (2, [.int 0, .ref ho, .ref (u 0), .ref (u 1), .ref (u 2)]))]) (va_A [(h0, .inr (2, [.int 0, .null, .null, .null, .null]))] sz)) 3 18 (va_A [(h0, .inr (2, [.int 0, .null, .null, .null, .null]))] sz) := by
  refine Met.ofW (cc := cX2_init) (maxL := 2) (ret := none) (by decide) rfl ?_
  intro p e s m args below meth c s₁ B hml hv
  obtain ⟨rfl, hsz, hP, hK, hD0⟩ := hv
  have hx := B.exec
  have hb := B.bytes
  have hr := B.returns
  have hts := atoms_spec (ws := wsX2_init) B.pre
  have hown : s.vm.findClass RX2 = some m.cls := findClass_of_methodNamed B.named
  have hlocks := B.notSynchronized
  have hin : meth.name = "<init>" := (name_of_methodNamed B.named B.method).1
  have hi_X2 : ∀ w ∈ u_ws RX2 TX2 5, w ∈ wsX2_init := by decide +kernel
  subst hsz
  have hD := hD0.self (sz := s.heap.size)
  generalize hAe : va_A [(h0, .inr (2, [.int 0, .null, .null, .null, .null]))] s.heap.size = A at hD ⊢
  have hA : ∀ q : Nat, s.heap.size ≤ q → A q := fun q h => by rw [← hAe]; exact Or.inr h
  have hS : va_S A s.heap s.heap [] := va_S.rf
  have hl := lv_entry ([.ref h0, .ref ho]) (n := 2) (Nat.le_of_ble_eq_true rfl)
  rw [lg_entry_eq]
  generalize (lg_sl ([.ref h0, .ref ho]) ++ List.replicate (2 - (lg_sl ([.ref h0, .ref ho])).length) Slot.unset).toArray = ls at hl ⊢
  have hl : lv_has ls 2 [(0, .ref h0), (1, .ref ho)] := hl
  refine lv_aload_n hx hb dX2_init_0 rfl (lv_at hl 0 rfl) ?_
  refine W.objInit hx hb hown (hts (.methodLink RX2 3 objectInit) (by decide +kernel)) (hts (.instanceMethod objectInit) (by decide +kernel)) (hts (.code objectInit ⟨#[0xb1]⟩ 1 none) (by decide +kernel)) rfl (by rw [hml]; exact hl.1) rfl dX2_init_1 (Nat.le_of_ble_eq_true rfl) (Nat.le_of_ble_eq_true rfl) ?_
  refine W.eq (g2 := F0 m 4 ls []) rfl ?_
  refine lv_aload_n hx hb dX2_init_4 rfl (lv_at hl 0 rfl) ?_
  refine lv_iconst (v := 0) hx hb dX2_init_5 (by decide) ?_
  refine va_put (D := (dC, dI)) (ci := 2) (v := .int 0) (ty := .int) (C := RX2) (T := TX2) (N := 5) hx hb hts hi_X2 tyX2 tyX2_ok nmX2 hown hK hP hD hS 0 rfl rfl 0 (by decide) (hts (.fieldLink RX2 9 "LeftQuills$Evidence" "count" "I") (by decide +kernel)) (fun _ h9 => h9) rfl (by decide +kernel) rfl rfl (Nat.le_of_ble_eq_true rfl) dX2_init_6 (fun H locs hP hD hS => ?_)
  have hP : va_P (dC, dI) vwCl [(h0, .inr (2, [.int 0, .null, .null, .null, .null]))] H := hP
  have hD : va_D A [(h0, .inr (2, [.int 0, .null, .null, .null, .null]))] := hD
  refine lv_aload_n hx hb dX2_init_9 rfl (lv_at hl 0 rfl) ?_
  refine lv_bipush (v := 6) hx hb dX2_init_10 (by decide) ?_
  refine va_newa (atype := .int) (ty := .int) (n := 6) (a0 := (6, .inl (fun _ => 0))) (N' := 6) hx hb (hts (.arrayClass .int) (by decide +kernel)) rfl hK hP hD hS hA (fun _ => rfl) (by decide) (by decide) (by decide) (Nat.le_of_ble_eq_true rfl) (Nat.le_of_ble_eq_true rfl) dX2_init_12 (fun q1 cA H hKn hP hD hS => ?_)
  have ecA := xcI hKn
  subst ecA
  clear hKn
  refine W.widen (k := 1) (n := 6) (Nat.le_of_ble_eq_true rfl) (Nat.le_of_ble_eq_true rfl) ?_
  have hP : va_P (dC, dI) vwCl [(h0, .inr (2, [.int 0, .null, .null, .null, .null])), (q1, .inl (cI, 6, .inl (fun _ => 0)))] H := hP
  have hD : va_D A [(h0, .inr (2, [.int 0, .null, .null, .null, .null])), (q1, .inl (cI, 6, .inl (fun _ => 0)))] := hD
  refine va_putF (D := (dC, dI)) (ci := 2) (v := .ref q1) (ty := .array .int) (C := RX2) (T := TX2) (N := 5) hx hb hts hi_X2 tyX2 tyX2_ok nmX2 hown hK hP hD hS 0 rfl rfl 2 (by decide) (hts (.fieldLink RX2 15 "LeftQuills$Evidence" "quill" "[I") (by decide +kernel)) (fun _ h9 => h9) rfl hin rfl (by decide +kernel) rfl rfl (Nat.le_of_ble_eq_true rfl) dX2_init_14 (fun H locs hP hD hS => ?_)
  have hP : va_P (dC, dI) vwCl [(h0, .inr (2, [.int 0, .null, .ref q1, .null, .null])), (q1, .inl (cI, 6, .inl (fun _ => 0)))] H := hP
  have hD : va_D A [(h0, .inr (2, [.int 0, .null, .ref q1, .null, .null])), (q1, .inl (cI, 6, .inl (fun _ => 0)))] := hD
  refine lv_aload_n hx hb dX2_init_17 rfl (lv_at hl 0 rfl) ?_
  refine lv_bipush (v := 6) hx hb dX2_init_18 (by decide) ?_
  refine va_newa (atype := .int) (ty := .int) (n := 6) (a0 := (6, .inl (fun _ => 0))) (N' := 6) hx hb (hts (.arrayClass .int) (by decide +kernel)) rfl hK hP hD hS hA (fun _ => rfl) (by decide) (by decide) (by decide) (Nat.le_of_ble_eq_true rfl) (Nat.le_of_ble_eq_true rfl) dX2_init_20 (fun q2 cA H hKn hP hD hS => ?_)
  have ecA := xcI hKn
  subst ecA
  clear hKn
  refine W.widen (k := 2) (n := 12) (Nat.le_of_ble_eq_true rfl) (Nat.le_of_ble_eq_true rfl) ?_
  have hP : va_P (dC, dI) vwCl [(h0, .inr (2, [.int 0, .null, .ref q1, .null, .null])), (q1, .inl (cI, 6, .inl (fun _ => 0))), (q2, .inl (cI, 6, .inl (fun _ => 0)))] H := hP
  have hD : va_D A [(h0, .inr (2, [.int 0, .null, .ref q1, .null, .null])), (q1, .inl (cI, 6, .inl (fun _ => 0))), (q2, .inl (cI, 6, .inl (fun _ => 0)))] := hD
  refine va_putF (D := (dC, dI)) (ci := 2) (v := .ref q2) (ty := .array .int) (C := RX2) (T := TX2) (N := 5) hx hb hts hi_X2 tyX2 tyX2_ok nmX2 hown hK hP hD hS 0 rfl rfl 3 (by decide) (hts (.fieldLink RX2 19 "LeftQuills$Evidence" "pages" "[I") (by decide +kernel)) (fun _ h9 => h9) rfl hin rfl (by decide +kernel) rfl rfl (Nat.le_of_ble_eq_true rfl) dX2_init_22 (fun H locs hP hD hS => ?_)
  have hP : va_P (dC, dI) vwCl [(h0, .inr (2, [.int 0, .null, .ref q1, .ref q2, .null])), (q1, .inl (cI, 6, .inl (fun _ => 0))), (q2, .inl (cI, 6, .inl (fun _ => 0)))] H := hP
  have hD : va_D A [(h0, .inr (2, [.int 0, .null, .ref q1, .ref q2, .null])), (q1, .inl (cI, 6, .inl (fun _ => 0))), (q2, .inl (cI, 6, .inl (fun _ => 0)))] := hD
  refine lv_aload_n hx hb dX2_init_25 rfl (lv_at hl 0 rfl) ?_
  refine lv_bipush (v := 6) hx hb dX2_init_26 (by decide) ?_
  refine va_newa (atype := .int) (ty := .int) (n := 6) (a0 := (6, .inl (fun _ => 0))) (N' := 6) hx hb (hts (.arrayClass .int) (by decide +kernel)) rfl hK hP hD hS hA (fun _ => rfl) (by decide) (by decide) (by decide) (Nat.le_of_ble_eq_true rfl) (Nat.le_of_ble_eq_true rfl) dX2_init_28 (fun q3 cA H hKn hP hD hS => ?_)
  have ecA := xcI hKn
  subst ecA
  clear hKn
  refine W.widen (k := 3) (n := 18) (Nat.le_of_ble_eq_true rfl) (Nat.le_of_ble_eq_true rfl) ?_
  have hP : va_P (dC, dI) vwCl [(h0, .inr (2, [.int 0, .null, .ref q1, .ref q2, .null])), (q1, .inl (cI, 6, .inl (fun _ => 0))), (q2, .inl (cI, 6, .inl (fun _ => 0))), (q3, .inl (cI, 6, .inl (fun _ => 0)))] H := hP
  have hD : va_D A [(h0, .inr (2, [.int 0, .null, .ref q1, .ref q2, .null])), (q1, .inl (cI, 6, .inl (fun _ => 0))), (q2, .inl (cI, 6, .inl (fun _ => 0))), (q3, .inl (cI, 6, .inl (fun _ => 0)))] := hD
  refine va_putF (D := (dC, dI)) (ci := 2) (v := .ref q3) (ty := .array .int) (C := RX2) (T := TX2) (N := 5) hx hb hts hi_X2 tyX2 tyX2_ok nmX2 hown hK hP hD hS 0 rfl rfl 4 (by decide) (hts (.fieldLink RX2 22 "LeftQuills$Evidence" "softness" "[I") (by decide +kernel)) (fun _ h9 => h9) rfl hin rfl (by decide +kernel) rfl rfl (Nat.le_of_ble_eq_true rfl) dX2_init_30 (fun H locs hP hD hS => ?_)
  have hP : va_P (dC, dI) vwCl [(h0, .inr (2, [.int 0, .null, .ref q1, .ref q2, .ref q3])), (q1, .inl (cI, 6, .inl (fun _ => 0))), (q2, .inl (cI, 6, .inl (fun _ => 0))), (q3, .inl (cI, 6, .inl (fun _ => 0)))] H := hP
  have hD : va_D A [(h0, .inr (2, [.int 0, .null, .ref q1, .ref q2, .ref q3])), (q1, .inl (cI, 6, .inl (fun _ => 0))), (q2, .inl (cI, 6, .inl (fun _ => 0))), (q3, .inl (cI, 6, .inl (fun _ => 0)))] := hD
  refine lv_aload_n hx hb dX2_init_33 rfl (lv_at hl 0 rfl) ?_
  refine lv_aload_n hx hb dX2_init_34 rfl (lv_at hl 1 rfl) ?_
  refine va_putF (D := (dC, dI)) (ci := 2) (v := .ref ho) (ty := .object "LeftQuills$Office") (C := RX2) (T := TX2) (N := 5) hx hb hts hi_X2 tyX2 tyX2_ok nmX2 hown hK hP hD hS 0 rfl rfl 1 (by decide) (hts (.fieldLink RX2 25 "LeftQuills$Evidence" "office" "LLeftQuills$Office;") (by decide +kernel)) (fun _ h9 => h9) rfl hin rfl (by decide +kernel) rfl rfl (Nat.le_of_ble_eq_true rfl) dX2_init_35 (fun H locs hP hD hS => ?_)
  have hP : va_P (dC, dI) vwCl [(h0, .inr (2, [.int 0, .ref ho, .ref q1, .ref q2, .ref q3])), (q1, .inl (cI, 6, .inl (fun _ => 0))), (q2, .inl (cI, 6, .inl (fun _ => 0))), (q3, .inl (cI, 6, .inl (fun _ => 0)))] H := hP
  have hD : va_D A [(h0, .inr (2, [.int 0, .ref ho, .ref q1, .ref q2, .ref q3])), (q1, .inl (cI, 6, .inl (fun _ => 0))), (q2, .inl (cI, 6, .inl (fun _ => 0))), (q3, .inl (cI, 6, .inl (fun _ => 0)))] := hD
  have hP9 := hP.sub (ws' := [(h0, .inr (2, [.int 0, .ref ho, .ref q1, .ref q2, .ref q3]))]) [0] rfl
  have hD9 := hD.sub (ws' := [(h0, .inr (2, [.int 0, .ref ho, .ref q1, .ref q2, .ref q3]))]) [0] (by decide) rfl
  refine W.widen (k := 3) (n := 18) (Nat.le_of_ble_eq_true rfl) (Nat.le_of_ble_eq_true rfl) ?_
  exact W.vret hx hb hr (fun t ht hW => ⟨⟨(vn [q1, q2, q3]), rfl, by first | trivial | rfl | (simp_all; done), ⟨by rw [ht]; exact hP9, hD9⟩⟩, hS.F ht⟩) hS.2.2 dX2_init_38
set_option maxHeartbeats 4000000 in
set_option maxRecDepth 100000 in
theorem c_X9_init (l : Launch) (dC : Nat → ClassId) (dI : Nat → Nat → Nat) (cI cZ cQ : ClassId) (h0 : Nat) (ho : Nat) (hd : Nat) (sz : Nat)  : Met l yX9_init wsX9_init ({ frames := 1, cells := 1, slots := 9, locals := 40 }) (va_Pc [.ref h0, .ref ho, .ref hd] (fun U => U.heap.size = sz ∧ va_P (dC, dI) vwCl [(h0, .inr (9, [.null, .null, .null]))] U.heap ∧ va_K (dC, dI) vwCl (tys0 cI cZ cQ) U ∧ va_D (fun _ => True) [(h0, .inr (9, [.null, .null, .null]))])) (va_Qv (fun (u : Nat → Nat) => True) (fun (u : Nat → Nat) (t : State) => va_P (dC, dI) vwCl [(h0, .inr (9, [.ref ho, .ref hd, .ref (u 0)]))] t.heap ∧ va_D (va_A [(h0, .inr (9, [.null, .null, .null]))] sz) [(h0, .inr (9, [.ref ho, .ref hd, .ref (u 0)]))]) (va_A [(h0, .inr (9, [.null, .null, .null]))] sz)) 1 9 (va_A [(h0, .inr (9, [.null, .null, .null]))] sz) := by
  refine Met.ofW (cc := cX9_init) (maxL := 3) (ret := none) (by decide) rfl ?_
  intro p e s m args below meth c s₁ B hml hv
  obtain ⟨rfl, hsz, hP, hK, hD0⟩ := hv
  have hx := B.exec
  have hb := B.bytes
  have hr := B.returns
  have hts := atoms_spec (ws := wsX9_init) B.pre
  have hown : s.vm.findClass RX9 = some m.cls := findClass_of_methodNamed B.named
  have hlocks := B.notSynchronized
  have hin : meth.name = "<init>" := (name_of_methodNamed B.named B.method).1
  have hi_X9 : ∀ w ∈ u_ws RX9 TX9 3, w ∈ wsX9_init := by decide +kernel
  subst hsz
  have hD := hD0.self (sz := s.heap.size)
  generalize hAe : va_A [(h0, .inr (9, [.null, .null, .null]))] s.heap.size = A at hD ⊢
  have hA : ∀ q : Nat, s.heap.size ≤ q → A q := fun q h => by rw [← hAe]; exact Or.inr h
  have hS : va_S A s.heap s.heap [] := va_S.rf
  have hl := lv_entry ([.ref h0, .ref ho, .ref hd]) (n := 3) (Nat.le_of_ble_eq_true rfl)
  rw [lg_entry_eq]
  generalize (lg_sl ([.ref h0, .ref ho, .ref hd]) ++ List.replicate (3 - (lg_sl ([.ref h0, .ref ho, .ref hd])).length) Slot.unset).toArray = ls at hl ⊢
  have hl : lv_has ls 3 [(0, .ref h0), (1, .ref ho), (2, .ref hd)] := hl
  refine lv_aload_n hx hb dX9_init_0 rfl (lv_at hl 0 rfl) ?_
  refine W.objInit hx hb hown (hts (.methodLink RX9 3 objectInit) (by decide +kernel)) (hts (.instanceMethod objectInit) (by decide +kernel)) (hts (.code objectInit ⟨#[0xb1]⟩ 1 none) (by decide +kernel)) rfl (by rw [hml]; exact hl.1) rfl dX9_init_1 (Nat.le_of_ble_eq_true rfl) (Nat.le_of_ble_eq_true rfl) ?_
  refine W.eq (g2 := F0 m 4 ls []) rfl ?_
  refine lv_aload_n hx hb dX9_init_4 rfl (lv_at hl 0 rfl) ?_
  refine lv_bipush (v := 9) hx hb dX9_init_5 (by decide) ?_
  refine va_newa (atype := .int) (ty := .int) (n := 9) (a0 := (9, .inl (fun _ => 0))) (N' := 9) hx hb (hts (.arrayClass .int) (by decide +kernel)) rfl hK hP hD hS hA (fun _ => rfl) (by decide) (by decide) (by decide) (Nat.le_of_ble_eq_true rfl) (Nat.le_of_ble_eq_true rfl) dX9_init_7 (fun q1 cA H hKn hP hD hS => ?_)
  have ecA := xcI hKn
  subst ecA
  clear hKn
  refine W.widen (k := 1) (n := 9) (Nat.le_of_ble_eq_true rfl) (Nat.le_of_ble_eq_true rfl) ?_
  have hP : va_P (dC, dI) vwCl [(h0, .inr (9, [.null, .null, .null])), (q1, .inl (cI, 9, .inl (fun _ => 0)))] H := hP
  have hD : va_D A [(h0, .inr (9, [.null, .null, .null])), (q1, .inl (cI, 9, .inl (fun _ => 0)))] := hD
  refine va_putF (D := (dC, dI)) (ci := 9) (v := .ref q1) (ty := .array .int) (C := RX9) (T := TX9) (N := 3) hx hb hts hi_X9 tyX9 tyX9_ok nmX9 hown hK hP hD hS 0 rfl rfl 2 (by decide) (hts (.fieldLink RX9 11 "LeftQuills$Trials" "turnSoftness" "[I") (by decide +kernel)) (fun _ h9 => h9) rfl hin rfl (by decide +kernel) rfl rfl (Nat.le_of_ble_eq_true rfl) dX9_init_9 (fun H locs hP hD hS => ?_)
  have hP : va_P (dC, dI) vwCl [(h0, .inr (9, [.null, .null, .ref q1])), (q1, .inl (cI, 9, .inl (fun _ => 0)))] H := hP
  have hD : va_D A [(h0, .inr (9, [.null, .null, .ref q1])), (q1, .inl (cI, 9, .inl (fun _ => 0)))] := hD
  refine lv_aload_n hx hb dX9_init_12 rfl (lv_at hl 0 rfl) ?_
  refine lv_aload_n hx hb dX9_init_13 rfl (lv_at hl 1 rfl) ?_
  refine va_putF (D := (dC, dI)) (ci := 9) (v := .ref ho) (ty := .object "LeftQuills$Office") (C := RX9) (T := TX9) (N := 3) hx hb hts hi_X9 tyX9 tyX9_ok nmX9 hown hK hP hD hS 0 rfl rfl 0 (by decide) (hts (.fieldLink RX9 15 "LeftQuills$Trials" "office" "LLeftQuills$Office;") (by decide +kernel)) (fun _ h9 => h9) rfl hin rfl (by decide +kernel) rfl rfl (Nat.le_of_ble_eq_true rfl) dX9_init_14 (fun H locs hP hD hS => ?_)
  have hP : va_P (dC, dI) vwCl [(h0, .inr (9, [.ref ho, .null, .ref q1])), (q1, .inl (cI, 9, .inl (fun _ => 0)))] H := hP
  have hD : va_D A [(h0, .inr (9, [.ref ho, .null, .ref q1])), (q1, .inl (cI, 9, .inl (fun _ => 0)))] := hD
  refine lv_aload_n hx hb dX9_init_17 rfl (lv_at hl 0 rfl) ?_
  refine lv_aload_n hx hb dX9_init_18 rfl (lv_at hl 2 rfl) ?_
  refine va_putF (D := (dC, dI)) (ci := 9) (v := .ref hd) (ty := .object "LeftQuills$Desk") (C := RX9) (T := TX9) (N := 3) hx hb hts hi_X9 tyX9 tyX9_ok nmX9 hown hK hP hD hS 0 rfl rfl 1 (by decide) (hts (.fieldLink RX9 19 "LeftQuills$Trials" "desk" "LLeftQuills$Desk;") (by decide +kernel)) (fun _ h9 => h9) rfl hin rfl (by decide +kernel) rfl rfl (Nat.le_of_ble_eq_true rfl) dX9_init_19 (fun H locs hP hD hS => ?_)
  have hP : va_P (dC, dI) vwCl [(h0, .inr (9, [.ref ho, .ref hd, .ref q1])), (q1, .inl (cI, 9, .inl (fun _ => 0)))] H := hP
  have hD : va_D A [(h0, .inr (9, [.ref ho, .ref hd, .ref q1])), (q1, .inl (cI, 9, .inl (fun _ => 0)))] := hD
  have hP9 := hP.sub (ws' := [(h0, .inr (9, [.ref ho, .ref hd, .ref q1]))]) [0] rfl
  have hD9 := hD.sub (ws' := [(h0, .inr (9, [.ref ho, .ref hd, .ref q1]))]) [0] (by decide) rfl
  refine W.widen (k := 1) (n := 9) (Nat.le_of_ble_eq_true rfl) (Nat.le_of_ble_eq_true rfl) ?_
  exact W.vret hx hb hr (fun t ht hW => ⟨⟨(vn [q1]), rfl, by first | trivial | rfl | (simp_all; done), ⟨by rw [ht]; exact hP9, hD9⟩⟩, hS.F ht⟩) hS.2.2 dX9_init_22
set_option maxHeartbeats 4000000 in
set_option maxRecDepth 100000 in
theorem c_X8_init (l : Launch) (dC : Nat → ClassId) (dI : Nat → Nat → Nat) (cI cZ cQ : ClassId) (h0 : Nat) (ho : Nat) (ht : Nat) (sz : Nat)  : Met l yX8_init wsX8_init ({ frames := 1, cells := 3, slots := 40, locals := 40 }) (va_Pc [.ref h0, .ref ho, .ref ht] (fun U => U.heap.size = sz ∧ va_P (dC, dI) vwCl [(h0, .inr (8, [.int 0, .null, .null, .null, .null, .null]))] U.heap ∧ va_K (dC, dI) vwCl (tys0 cI cZ cQ) U ∧ va_D (fun _ => True) [(h0, .inr (8, [.int 0, .null, .null, .null, .null, .null]))])) (va_Qv (fun (u : Nat → Nat) => True) (fun (u : Nat → Nat) (t : State) => va_P (dC, dI) vwCl [(h0, .inr (8, [.int (-1), .ref (u 0), .ref ho, .ref ht, .ref (u 1), .ref (u 2)])), ((u 0), .inl (cI, 4, .inl (fun _ => 0))), ((u 1), .inl (cI, 4, .inl (fun _ => 0)))] t.heap ∧ va_D (va_A [(h0, .inr (8, [.int 0, .null, .null, .null, .null, .null]))] sz) [(h0, .inr (8, [.int (-1), .ref (u 0), .ref ho, .ref ht, .ref (u 1), .ref (u 2)])), ((u 0), .inl (cI, 4, .inl (fun _ => 0))), ((u 1), .inl (cI, 4, .inl (fun _ => 0)))]) (va_A [(h0, .inr (8, [.int 0, .null, .null, .null, .null, .null]))] sz)) 3 40 (va_A [(h0, .inr (8, [.int 0, .null, .null, .null, .null, .null]))] sz) := by
  refine Met.ofW (cc := cX8_init) (maxL := 3) (ret := none) (by decide) rfl ?_
  intro p e s m args below meth c s₁ B hml hv
  obtain ⟨rfl, hsz, hP, hK, hD0⟩ := hv
  have hx := B.exec
  have hb := B.bytes
  have hr := B.returns
  have hts := atoms_spec (ws := wsX8_init) B.pre
  have hown : s.vm.findClass RX8 = some m.cls := findClass_of_methodNamed B.named
  have hlocks := B.notSynchronized
  have hin : meth.name = "<init>" := (name_of_methodNamed B.named B.method).1
  have hi_X8 : ∀ w ∈ u_ws RX8 TX8 6, w ∈ wsX8_init := by decide +kernel
  subst hsz
  have hD := hD0.self (sz := s.heap.size)
  generalize hAe : va_A [(h0, .inr (8, [.int 0, .null, .null, .null, .null, .null]))] s.heap.size = A at hD ⊢
  have hA : ∀ q : Nat, s.heap.size ≤ q → A q := fun q h => by rw [← hAe]; exact Or.inr h
  have hS : va_S A s.heap s.heap [] := va_S.rf
  have hl := lv_entry ([.ref h0, .ref ho, .ref ht]) (n := 3) (Nat.le_of_ble_eq_true rfl)
  rw [lg_entry_eq]
  generalize (lg_sl ([.ref h0, .ref ho, .ref ht]) ++ List.replicate (3 - (lg_sl ([.ref h0, .ref ho, .ref ht])).length) Slot.unset).toArray = ls at hl ⊢
  have hl : lv_has ls 3 [(0, .ref h0), (1, .ref ho), (2, .ref ht)] := hl
  refine lv_aload_n hx hb dX8_init_0 rfl (lv_at hl 0 rfl) ?_
  refine W.objInit hx hb hown (hts (.methodLink RX8 3 objectInit) (by decide +kernel)) (hts (.instanceMethod objectInit) (by decide +kernel)) (hts (.code objectInit ⟨#[0xb1]⟩ 1 none) (by decide +kernel)) rfl (by rw [hml]; exact hl.1) rfl dX8_init_1 (Nat.le_of_ble_eq_true rfl) (Nat.le_of_ble_eq_true rfl) ?_
  refine W.eq (g2 := F0 m 4 ls []) rfl ?_
  refine lv_aload_n hx hb dX8_init_4 rfl (lv_at hl 0 rfl) ?_
  refine lv_iconst (v := (-1)) hx hb dX8_init_5 (by decide) ?_
  refine va_put (D := (dC, dI)) (ci := 8) (v := .int (-1)) (ty := .int) (C := RX8) (T := TX8) (N := 6) hx hb hts hi_X8 tyX8 tyX8_ok nmX8 hown hK hP hD hS 0 rfl rfl 0 (by decide) (hts (.fieldLink RX8 9 "LeftQuills$Sharing" "best" "I") (by decide +kernel)) (fun _ h9 => h9) rfl (by decide +kernel) rfl rfl (Nat.le_of_ble_eq_true rfl) dX8_init_6 (fun H locs hP hD hS => ?_)
  have hP : va_P (dC, dI) vwCl [(h0, .inr (8, [.int (-1), .null, .null, .null, .null, .null]))] H := hP
  have hD : va_D A [(h0, .inr (8, [.int (-1), .null, .null, .null, .null, .null]))] := hD
  refine lv_aload_n hx hb dX8_init_9 rfl (lv_at hl 0 rfl) ?_
  refine lv_iconst (v := 4) hx hb dX8_init_10 (by decide) ?_
  refine va_newa (atype := .int) (ty := .int) (n := 4) (a0 := (4, .inl (fun _ => 0))) (N' := 4) hx hb (hts (.arrayClass .int) (by decide +kernel)) rfl hK hP hD hS hA (fun _ => rfl) (by decide) (by decide) (by decide) (Nat.le_of_ble_eq_true rfl) (Nat.le_of_ble_eq_true rfl) dX8_init_11 (fun q1 cA H hKn hP hD hS => ?_)
  have ecA := xcI hKn
  subst ecA
  clear hKn
  refine W.widen (k := 1) (n := 4) (Nat.le_of_ble_eq_true rfl) (Nat.le_of_ble_eq_true rfl) ?_
  have hP : va_P (dC, dI) vwCl [(h0, .inr (8, [.int (-1), .null, .null, .null, .null, .null])), (q1, .inl (cI, 4, .inl (fun _ => 0)))] H := hP
  have hD : va_D A [(h0, .inr (8, [.int (-1), .null, .null, .null, .null, .null])), (q1, .inl (cI, 4, .inl (fun _ => 0)))] := hD
  refine va_putF (D := (dC, dI)) (ci := 8) (v := .ref q1) (ty := .array .int) (C := RX8) (T := TX8) (N := 6) hx hb hts hi_X8 tyX8 tyX8_ok nmX8 hown hK hP hD hS 0 rfl rfl 1 (by decide) (hts (.fieldLink RX8 15 "LeftQuills$Sharing" "bestQuill" "[I") (by decide +kernel)) (fun _ h9 => h9) rfl hin rfl (by decide +kernel) rfl rfl (Nat.le_of_ble_eq_true rfl) dX8_init_13 (fun H locs hP hD hS => ?_)
  have hP : va_P (dC, dI) vwCl [(h0, .inr (8, [.int (-1), .ref q1, .null, .null, .null, .null])), (q1, .inl (cI, 4, .inl (fun _ => 0)))] H := hP
  have hD : va_D A [(h0, .inr (8, [.int (-1), .ref q1, .null, .null, .null, .null])), (q1, .inl (cI, 4, .inl (fun _ => 0)))] := hD
  refine lv_aload_n hx hb dX8_init_16 rfl (lv_at hl 0 rfl) ?_
  refine lv_iconst (v := 4) hx hb dX8_init_17 (by decide) ?_
  refine va_newa (atype := .int) (ty := .int) (n := 4) (a0 := (4, .inl (fun _ => 0))) (N' := 4) hx hb (hts (.arrayClass .int) (by decide +kernel)) rfl hK hP hD hS hA (fun _ => rfl) (by decide) (by decide) (by decide) (Nat.le_of_ble_eq_true rfl) (Nat.le_of_ble_eq_true rfl) dX8_init_18 (fun q2 cA H hKn hP hD hS => ?_)
  have ecA := xcI hKn
  subst ecA
  clear hKn
  refine W.widen (k := 2) (n := 8) (Nat.le_of_ble_eq_true rfl) (Nat.le_of_ble_eq_true rfl) ?_
  have hP : va_P (dC, dI) vwCl [(h0, .inr (8, [.int (-1), .ref q1, .null, .null, .null, .null])), (q1, .inl (cI, 4, .inl (fun _ => 0))), (q2, .inl (cI, 4, .inl (fun _ => 0)))] H := hP
  have hD : va_D A [(h0, .inr (8, [.int (-1), .ref q1, .null, .null, .null, .null])), (q1, .inl (cI, 4, .inl (fun _ => 0))), (q2, .inl (cI, 4, .inl (fun _ => 0)))] := hD
  refine va_putF (D := (dC, dI)) (ci := 8) (v := .ref q2) (ty := .array .int) (C := RX8) (T := TX8) (N := 6) hx hb hts hi_X8 tyX8 tyX8_ok nmX8 hown hK hP hD hS 0 rfl rfl 4 (by decide) (hts (.fieldLink RX8 19 "LeftQuills$Sharing" "quillOf" "[I") (by decide +kernel)) (fun _ h9 => h9) rfl hin rfl (by decide +kernel) rfl rfl (Nat.le_of_ble_eq_true rfl) dX8_init_20 (fun H locs hP hD hS => ?_)
  have hP : va_P (dC, dI) vwCl [(h0, .inr (8, [.int (-1), .ref q1, .null, .null, .ref q2, .null])), (q1, .inl (cI, 4, .inl (fun _ => 0))), (q2, .inl (cI, 4, .inl (fun _ => 0)))] H := hP
  have hD : va_D A [(h0, .inr (8, [.int (-1), .ref q1, .null, .null, .ref q2, .null])), (q1, .inl (cI, 4, .inl (fun _ => 0))), (q2, .inl (cI, 4, .inl (fun _ => 0)))] := hD
  refine lv_aload_n hx hb dX8_init_23 rfl (lv_at hl 0 rfl) ?_
  refine lv_bipush (v := 32) hx hb dX8_init_24 (by decide) ?_
  refine va_newa (atype := .int) (ty := .int) (n := 32) (a0 := (32, .inl (fun _ => 0))) (N' := 32) hx hb (hts (.arrayClass .int) (by decide +kernel)) rfl hK hP hD hS hA (fun _ => rfl) (by decide) (by decide) (by decide) (Nat.le_of_ble_eq_true rfl) (Nat.le_of_ble_eq_true rfl) dX8_init_26 (fun q3 cA H hKn hP hD hS => ?_)
  have ecA := xcI hKn
  subst ecA
  clear hKn
  refine W.widen (k := 3) (n := 40) (Nat.le_of_ble_eq_true rfl) (Nat.le_of_ble_eq_true rfl) ?_
  have hP : va_P (dC, dI) vwCl [(h0, .inr (8, [.int (-1), .ref q1, .null, .null, .ref q2, .null])), (q1, .inl (cI, 4, .inl (fun _ => 0))), (q2, .inl (cI, 4, .inl (fun _ => 0))), (q3, .inl (cI, 32, .inl (fun _ => 0)))] H := hP
  have hD : va_D A [(h0, .inr (8, [.int (-1), .ref q1, .null, .null, .ref q2, .null])), (q1, .inl (cI, 4, .inl (fun _ => 0))), (q2, .inl (cI, 4, .inl (fun _ => 0))), (q3, .inl (cI, 32, .inl (fun _ => 0)))] := hD
  refine va_putF (D := (dC, dI)) (ci := 8) (v := .ref q3) (ty := .array .int) (C := RX8) (T := TX8) (N := 6) hx hb hts hi_X8 tyX8 tyX8_ok nmX8 hown hK hP hD hS 0 rfl rfl 5 (by decide) (hts (.fieldLink RX8 22 "LeftQuills$Sharing" "good" "[I") (by decide +kernel)) (fun _ h9 => h9) rfl hin rfl (by decide +kernel) rfl rfl (Nat.le_of_ble_eq_true rfl) dX8_init_28 (fun H locs hP hD hS => ?_)
  have hP : va_P (dC, dI) vwCl [(h0, .inr (8, [.int (-1), .ref q1, .null, .null, .ref q2, .ref q3])), (q1, .inl (cI, 4, .inl (fun _ => 0))), (q2, .inl (cI, 4, .inl (fun _ => 0))), (q3, .inl (cI, 32, .inl (fun _ => 0)))] H := hP
  have hD : va_D A [(h0, .inr (8, [.int (-1), .ref q1, .null, .null, .ref q2, .ref q3])), (q1, .inl (cI, 4, .inl (fun _ => 0))), (q2, .inl (cI, 4, .inl (fun _ => 0))), (q3, .inl (cI, 32, .inl (fun _ => 0)))] := hD
  refine lv_aload_n hx hb dX8_init_31 rfl (lv_at hl 0 rfl) ?_
  refine lv_aload_n hx hb dX8_init_32 rfl (lv_at hl 1 rfl) ?_
  refine va_putF (D := (dC, dI)) (ci := 8) (v := .ref ho) (ty := .object "LeftQuills$Office") (C := RX8) (T := TX8) (N := 6) hx hb hts hi_X8 tyX8 tyX8_ok nmX8 hown hK hP hD hS 0 rfl rfl 2 (by decide) (hts (.fieldLink RX8 25 "LeftQuills$Sharing" "office" "LLeftQuills$Office;") (by decide +kernel)) (fun _ h9 => h9) rfl hin rfl (by decide +kernel) rfl rfl (Nat.le_of_ble_eq_true rfl) dX8_init_33 (fun H locs hP hD hS => ?_)
  have hP : va_P (dC, dI) vwCl [(h0, .inr (8, [.int (-1), .ref q1, .ref ho, .null, .ref q2, .ref q3])), (q1, .inl (cI, 4, .inl (fun _ => 0))), (q2, .inl (cI, 4, .inl (fun _ => 0))), (q3, .inl (cI, 32, .inl (fun _ => 0)))] H := hP
  have hD : va_D A [(h0, .inr (8, [.int (-1), .ref q1, .ref ho, .null, .ref q2, .ref q3])), (q1, .inl (cI, 4, .inl (fun _ => 0))), (q2, .inl (cI, 4, .inl (fun _ => 0))), (q3, .inl (cI, 32, .inl (fun _ => 0)))] := hD
  refine lv_aload_n hx hb dX8_init_36 rfl (lv_at hl 0 rfl) ?_
  refine lv_aload_n hx hb dX8_init_37 rfl (lv_at hl 2 rfl) ?_
  refine va_putF (D := (dC, dI)) (ci := 8) (v := .ref ht) (ty := .object "LeftQuills$Trials") (C := RX8) (T := TX8) (N := 6) hx hb hts hi_X8 tyX8 tyX8_ok nmX8 hown hK hP hD hS 0 rfl rfl 3 (by decide) (hts (.fieldLink RX8 29 "LeftQuills$Sharing" "trials" "LLeftQuills$Trials;") (by decide +kernel)) (fun _ h9 => h9) rfl hin rfl (by decide +kernel) rfl rfl (Nat.le_of_ble_eq_true rfl) dX8_init_38 (fun H locs hP hD hS => ?_)
  have hP : va_P (dC, dI) vwCl [(h0, .inr (8, [.int (-1), .ref q1, .ref ho, .ref ht, .ref q2, .ref q3])), (q1, .inl (cI, 4, .inl (fun _ => 0))), (q2, .inl (cI, 4, .inl (fun _ => 0))), (q3, .inl (cI, 32, .inl (fun _ => 0)))] H := hP
  have hD : va_D A [(h0, .inr (8, [.int (-1), .ref q1, .ref ho, .ref ht, .ref q2, .ref q3])), (q1, .inl (cI, 4, .inl (fun _ => 0))), (q2, .inl (cI, 4, .inl (fun _ => 0))), (q3, .inl (cI, 32, .inl (fun _ => 0)))] := hD
  have hP9 := hP.sub (ws' := [(h0, .inr (8, [.int (-1), .ref q1, .ref ho, .ref ht, .ref q2, .ref q3])), (q1, .inl (cI, 4, .inl (fun _ => 0))), (q2, .inl (cI, 4, .inl (fun _ => 0)))]) [0, 1, 2] rfl
  have hD9 := hD.sub (ws' := [(h0, .inr (8, [.int (-1), .ref q1, .ref ho, .ref ht, .ref q2, .ref q3])), (q1, .inl (cI, 4, .inl (fun _ => 0))), (q2, .inl (cI, 4, .inl (fun _ => 0)))]) [0, 1, 2] (by decide) rfl
  refine W.widen (k := 3) (n := 40) (Nat.le_of_ble_eq_true rfl) (Nat.le_of_ble_eq_true rfl) ?_
  exact W.vret hx hb hr (fun t ht hW => ⟨⟨(vn [q1, q2, q3]), rfl, by first | trivial | rfl | (simp_all; done), ⟨by rw [ht]; exact hP9, hD9⟩⟩, hS.F ht⟩) hS.2.2 dX8_init_41
set_option maxHeartbeats 4000000 in
set_option maxRecDepth 100000 in
theorem c_X6_init (l : Launch) (dC : Nat → ClassId) (dI : Nat → Nat → Nat) (cI cZ cQ : ClassId) (h0 : Nat) (ho : Nat) (sz : Nat)  : Met l yX6_init wsX6_init ({ frames := 2, cells := 8, slots := 48, locals := 61 }) (va_Pc [.ref h0, .ref ho] (fun U => U.heap.size = sz ∧ va_P (dC, dI) vwCl [(h0, .inr (6, [.int 0, .null, .null, .null, .null, .int 0, .int 0]))] U.heap ∧ va_K (dC, dI) vwCl (tys0 cI cZ cQ) U ∧ va_D (fun _ => True) [(h0, .inr (6, [.int 0, .null, .null, .null, .null, .int 0, .int 0]))])) (va_Qv (fun (u : Nat → Nat) => True) (fun (u : Nat → Nat) (t : State) => va_P (dC, dI) vwCl [(h0, .inr (6, [.int 1000000, .ref (u 0), .ref (u 1), .ref ho, .ref (u 2), .int 0, .int 0]))] t.heap ∧ va_D (va_A [(h0, .inr (6, [.int 0, .null, .null, .null, .null, .int 0, .int 0]))] sz) [(h0, .inr (6, [.int 1000000, .ref (u 0), .ref (u 1), .ref ho, .ref (u 2), .int 0, .int 0]))]) (va_A [(h0, .inr (6, [.int 0, .null, .null, .null, .null, .int 0, .int 0]))] sz)) 8 48 (va_A [(h0, .inr (6, [.int 0, .null, .null, .null, .null, .int 0, .int 0]))] sz) := by
  refine Met.ofW (cc := cX6_init) (maxL := 2) (ret := none) (by decide) rfl ?_
  intro p e s m args below meth c s₁ B hml hv
  obtain ⟨rfl, hsz, hP, hK, hD0⟩ := hv
  have hx := B.exec
  have hb := B.bytes
  have hr := B.returns
  have hts := atoms_spec (ws := wsX6_init) B.pre
  have hown : s.vm.findClass RX6 = some m.cls := findClass_of_methodNamed B.named
  have hlocks := B.notSynchronized
  have hin : meth.name = "<init>" := (name_of_methodNamed B.named B.method).1
  have hi_X1 : ∀ w ∈ u_ws RX1 TX1 8, w ∈ wsX6_init := by decide +kernel
  have hi_X6 : ∀ w ∈ u_ws RX6 TX6 7, w ∈ wsX6_init := by decide +kernel
  subst hsz
  have hD := hD0.self (sz := s.heap.size)
  generalize hAe : va_A [(h0, .inr (6, [.int 0, .null, .null, .null, .null, .int 0, .int 0]))] s.heap.size = A at hD ⊢
  have hA : ∀ q : Nat, s.heap.size ≤ q → A q := fun q h => by rw [← hAe]; exact Or.inr h
  have hS : va_S A s.heap s.heap [] := va_S.rf
  have hl := lv_entry ([.ref h0, .ref ho]) (n := 2) (Nat.le_of_ble_eq_true rfl)
  rw [lg_entry_eq]
  generalize (lg_sl ([.ref h0, .ref ho]) ++ List.replicate (2 - (lg_sl ([.ref h0, .ref ho])).length) Slot.unset).toArray = ls at hl ⊢
  have hl : lv_has ls 2 [(0, .ref h0), (1, .ref ho)] := hl
  refine lv_aload_n hx hb dX6_init_0 rfl (lv_at hl 0 rfl) ?_
  refine W.objInit hx hb hown (hts (.methodLink RX6 3 objectInit) (by decide +kernel)) (hts (.instanceMethod objectInit) (by decide +kernel)) (hts (.code objectInit ⟨#[0xb1]⟩ 1 none) (by decide +kernel)) rfl (by rw [hml]; exact hl.1) rfl dX6_init_1 (Nat.le_of_ble_eq_true rfl) (Nat.le_of_ble_eq_true rfl) ?_
  refine W.eq (g2 := F0 m 4 ls []) rfl ?_
  refine lv_aload_n hx hb dX6_init_4 rfl (lv_at hl 0 rfl) ?_
  refine lv_ldc (v := 1000000) hx hb hown (hts (.constant RX6 11 1000000) (by decide +kernel)) dX6_init_5 ?_
  refine va_put (D := (dC, dI)) (ci := 6) (v := .int 1000000) (ty := .int) (C := RX6) (T := TX6) (N := 7) hx hb hts hi_X6 tyX6 tyX6_ok nmX6 hown hK hP hD hS 0 rfl rfl 0 (by decide) (hts (.fieldLink RX6 12 "LeftQuills$Race" "best" "I") (by decide +kernel)) (fun _ h9 => h9) rfl (by decide +kernel) rfl rfl (Nat.le_of_ble_eq_true rfl) dX6_init_7 (fun H locs hP hD hS => ?_)
  have hP : va_P (dC, dI) vwCl [(h0, .inr (6, [.int 1000000, .null, .null, .null, .null, .int 0, .int 0]))] H := hP
  have hD : va_D A [(h0, .inr (6, [.int 1000000, .null, .null, .null, .null, .int 0, .int 0]))] := hD
  refine lv_aload_n hx hb dX6_init_10 rfl (lv_at hl 0 rfl) ?_
  refine lv_iconst (v := 4) hx hb dX6_init_11 (by decide) ?_
  refine va_newa (atype := .int) (ty := .int) (n := 4) (a0 := (4, .inl (fun _ => 0))) (N' := 4) hx hb (hts (.arrayClass .int) (by decide +kernel)) rfl hK hP hD hS hA (fun _ => rfl) (by decide) (by decide) (by decide) (Nat.le_of_ble_eq_true rfl) (Nat.le_of_ble_eq_true rfl) dX6_init_12 (fun q1 cA H hKn hP hD hS => ?_)
  have ecA := xcI hKn
  subst ecA
  clear hKn
  refine W.widen (k := 1) (n := 4) (Nat.le_of_ble_eq_true rfl) (Nat.le_of_ble_eq_true rfl) ?_
  have hP : va_P (dC, dI) vwCl [(h0, .inr (6, [.int 1000000, .null, .null, .null, .null, .int 0, .int 0])), (q1, .inl (cI, 4, .inl (fun _ => 0)))] H := hP
  have hD : va_D A [(h0, .inr (6, [.int 1000000, .null, .null, .null, .null, .int 0, .int 0])), (q1, .inl (cI, 4, .inl (fun _ => 0)))] := hD
  refine va_putF (D := (dC, dI)) (ci := 6) (v := .ref q1) (ty := .array .int) (C := RX6) (T := TX6) (N := 7) hx hb hts hi_X6 tyX6 tyX6_ok nmX6 hown hK hP hD hS 0 rfl rfl 1 (by decide) (hts (.fieldLink RX6 16 "LeftQuills$Race" "bestChoice" "[I") (by decide +kernel)) (fun _ h9 => h9) rfl hin rfl (by decide +kernel) rfl rfl (Nat.le_of_ble_eq_true rfl) dX6_init_14 (fun H locs hP hD hS => ?_)
  have hP : va_P (dC, dI) vwCl [(h0, .inr (6, [.int 1000000, .ref q1, .null, .null, .null, .int 0, .int 0])), (q1, .inl (cI, 4, .inl (fun _ => 0)))] H := hP
  have hD : va_D A [(h0, .inr (6, [.int 1000000, .ref q1, .null, .null, .null, .int 0, .int 0])), (q1, .inl (cI, 4, .inl (fun _ => 0)))] := hD
  refine lv_aload_n hx hb dX6_init_17 rfl (lv_at hl 0 rfl) ?_
  refine lv_iconst (v := 4) hx hb dX6_init_18 (by decide) ?_
  refine va_newa (atype := .int) (ty := .int) (n := 4) (a0 := (4, .inl (fun _ => 0))) (N' := 4) hx hb (hts (.arrayClass .int) (by decide +kernel)) rfl hK hP hD hS hA (fun _ => rfl) (by decide) (by decide) (by decide) (Nat.le_of_ble_eq_true rfl) (Nat.le_of_ble_eq_true rfl) dX6_init_19 (fun q2 cA H hKn hP hD hS => ?_)
  have ecA := xcI hKn
  subst ecA
  clear hKn
  refine W.widen (k := 2) (n := 8) (Nat.le_of_ble_eq_true rfl) (Nat.le_of_ble_eq_true rfl) ?_
  have hP : va_P (dC, dI) vwCl [(h0, .inr (6, [.int 1000000, .ref q1, .null, .null, .null, .int 0, .int 0])), (q1, .inl (cI, 4, .inl (fun _ => 0))), (q2, .inl (cI, 4, .inl (fun _ => 0)))] H := hP
  have hD : va_D A [(h0, .inr (6, [.int 1000000, .ref q1, .null, .null, .null, .int 0, .int 0])), (q1, .inl (cI, 4, .inl (fun _ => 0))), (q2, .inl (cI, 4, .inl (fun _ => 0)))] := hD
  refine va_putF (D := (dC, dI)) (ci := 6) (v := .ref q2) (ty := .array .int) (C := RX6) (T := TX6) (N := 7) hx hb hts hi_X6 tyX6 tyX6_ok nmX6 hown hK hP hD hS 0 rfl rfl 2 (by decide) (hts (.fieldLink RX6 20 "LeftQuills$Race" "choice" "[I") (by decide +kernel)) (fun _ h9 => h9) rfl hin rfl (by decide +kernel) rfl rfl (Nat.le_of_ble_eq_true rfl) dX6_init_21 (fun H locs hP hD hS => ?_)
  have hP : va_P (dC, dI) vwCl [(h0, .inr (6, [.int 1000000, .ref q1, .ref q2, .null, .null, .int 0, .int 0])), (q1, .inl (cI, 4, .inl (fun _ => 0))), (q2, .inl (cI, 4, .inl (fun _ => 0)))] H := hP
  have hD : va_D A [(h0, .inr (6, [.int 1000000, .ref q1, .ref q2, .null, .null, .int 0, .int 0])), (q1, .inl (cI, 4, .inl (fun _ => 0))), (q2, .inl (cI, 4, .inl (fun _ => 0)))] := hD
  refine lv_aload_n hx hb dX6_init_24 rfl (lv_at hl 0 rfl) ?_
  refine lv_iconst (v := 0) hx hb dX6_init_25 (by decide) ?_
  refine va_put (D := (dC, dI)) (ci := 6) (v := .int 0) (ty := .int) (C := RX6) (T := TX6) (N := 7) hx hb hts hi_X6 tyX6 tyX6_ok nmX6 hown hK hP hD hS 0 rfl rfl 5 (by decide) (hts (.fieldLink RX6 23 "LeftQuills$Race" "hand" "I") (by decide +kernel)) (fun _ h9 => h9) rfl (by decide +kernel) rfl rfl (Nat.le_of_ble_eq_true rfl) dX6_init_26 (fun H locs hP hD hS => ?_)
  have hP : va_P (dC, dI) vwCl [(h0, .inr (6, [.int 1000000, .ref q1, .ref q2, .null, .null, .int 0, .int 0])), (q1, .inl (cI, 4, .inl (fun _ => 0))), (q2, .inl (cI, 4, .inl (fun _ => 0)))] H := hP
  have hD : va_D A [(h0, .inr (6, [.int 1000000, .ref q1, .ref q2, .null, .null, .int 0, .int 0])), (q1, .inl (cI, 4, .inl (fun _ => 0))), (q2, .inl (cI, 4, .inl (fun _ => 0)))] := hD
  refine lv_aload_n hx hb dX6_init_29 rfl (lv_at hl 0 rfl) ?_
  refine lv_iconst (v := 0) hx hb dX6_init_30 (by decide) ?_
  refine va_put (D := (dC, dI)) (ci := 6) (v := .int 0) (ty := .int) (C := RX6) (T := TX6) (N := 7) hx hb hts hi_X6 tyX6 tyX6_ok nmX6 hown hK hP hD hS 0 rfl rfl 6 (by decide) (hts (.fieldLink RX6 26 "LeftQuills$Race" "pages" "I") (by decide +kernel)) (fun _ h9 => h9) rfl (by decide +kernel) rfl rfl (Nat.le_of_ble_eq_true rfl) dX6_init_31 (fun H locs hP hD hS => ?_)
  have hP : va_P (dC, dI) vwCl [(h0, .inr (6, [.int 1000000, .ref q1, .ref q2, .null, .null, .int 0, .int 0])), (q1, .inl (cI, 4, .inl (fun _ => 0))), (q2, .inl (cI, 4, .inl (fun _ => 0)))] H := hP
  have hD : va_D A [(h0, .inr (6, [.int 1000000, .ref q1, .ref q2, .null, .null, .int 0, .int 0])), (q1, .inl (cI, 4, .inl (fun _ => 0))), (q2, .inl (cI, 4, .inl (fun _ => 0)))] := hD
  refine lv_aload_n hx hb dX6_init_34 rfl (lv_at hl 0 rfl) ?_
  refine lv_aload_n hx hb dX6_init_35 rfl (lv_at hl 1 rfl) ?_
  refine va_putF (D := (dC, dI)) (ci := 6) (v := .ref ho) (ty := .object "LeftQuills$Office") (C := RX6) (T := TX6) (N := 7) hx hb hts hi_X6 tyX6 tyX6_ok nmX6 hown hK hP hD hS 0 rfl rfl 3 (by decide) (hts (.fieldLink RX6 29 "LeftQuills$Race" "office" "LLeftQuills$Office;") (by decide +kernel)) (fun _ h9 => h9) rfl hin rfl (by decide +kernel) rfl rfl (Nat.le_of_ble_eq_true rfl) dX6_init_36 (fun H locs hP hD hS => ?_)
  have hP : va_P (dC, dI) vwCl [(h0, .inr (6, [.int 1000000, .ref q1, .ref q2, .ref ho, .null, .int 0, .int 0])), (q1, .inl (cI, 4, .inl (fun _ => 0))), (q2, .inl (cI, 4, .inl (fun _ => 0)))] H := hP
  have hD : va_D A [(h0, .inr (6, [.int 1000000, .ref q1, .ref q2, .ref ho, .null, .int 0, .int 0])), (q1, .inl (cI, 4, .inl (fun _ => 0))), (q2, .inl (cI, 4, .inl (fun _ => 0)))] := hD
  refine lv_aload_n hx hb dX6_init_39 rfl (lv_at hl 0 rfl) ?_
  refine va_new (ci := 1) (fs := [.int 0, .int 0, .null, .null, .null, .null, .null, .null]) (C := RX1) (T := TX1) (N := 8) hx hb hts hi_X1 tyX1 tyX1_ok hown (hts (.classLink RX6 33 RX1) (by decide +kernel)) (hts (.instantiable RX1 8) (by decide +kernel)) (hts (.initialized RX1) (by decide +kernel)) hK hP hD hS hA rfl (fun j hj => by rcases (show j = 0 ∨ j = 1 ∨ j = 2 ∨ j = 3 ∨ j = 4 ∨ j = 5 ∨ j = 6 ∨ j = 7 by omega) with rfl | rfl | rfl | rfl | rfl | rfl | rfl | rfl <;> rfl) (Nat.le_of_ble_eq_true rfl) (Nat.le_of_ble_eq_true rfl) dX6_init_40 (fun q3 H hP hD hS => ?_)
  refine W.widen (k := 3) (n := 16) (Nat.le_of_ble_eq_true rfl) (Nat.le_of_ble_eq_true rfl) ?_
  have hP : va_P (dC, dI) vwCl [(h0, .inr (6, [.int 1000000, .ref q1, .ref q2, .ref ho, .null, .int 0, .int 0])), (q1, .inl (cI, 4, .inl (fun _ => 0))), (q2, .inl (cI, 4, .inl (fun _ => 0))), (q3, .inr (1, [.int 0, .int 0, .null, .null, .null, .null, .null, .null]))] H := hP
  have hD : va_D A [(h0, .inr (6, [.int 1000000, .ref q1, .ref q2, .ref ho, .null, .int 0, .int 0])), (q1, .inl (cI, 4, .inl (fun _ => 0))), (q2, .inl (cI, 4, .inl (fun _ => 0))), (q3, .inr (1, [.int 0, .int 0, .null, .null, .null, .null, .null, .null]))] := hD
  refine lv_dup hx hb dX6_init_43 rfl ?_
  refine lv_aload_n hx hb dX6_init_44 rfl (lv_at hl 1 rfl) ?_
  have hPc := hP.sub (ws' := [(q3, .inr (1, [.int 0, .int 0, .null, .null, .null, .null, .null, .null]))]) [3] rfl
  have hDc := hD.sub (ws' := [(q3, .inr (1, [.int 0, .int 0, .null, .null, .null, .null, .null, .null]))]) [3] (by decide) rfl
  have hFc := va_free (wc := [(q3, .inr (1, [.int 0, .int 0, .null, .null, .null, .null, .null, .null]))]) hD hS hA [3] rfl
  refine va_callv (va_runI (As := [.ref ho]) (rest := [.ref q3, .ref h0]) ⟨hx, hb, hml, hown, hts⟩ (c_X1_init l dC dI cI cZ cQ q3 ho H.size ) (cwI 1 hts gX6_init_X1_init rfl rfl rfl (hts (.initialized RX1) (by decide +kernel)) (hts (.methodLink RX6 35 yX1_init) (by decide +kernel)) (hts (.instanceMethod yX1_init) (by decide +kernel)) rfl (by decide +kernel) ⟨Nat.le_of_ble_eq_true rfl, Nat.le_of_ble_eq_true rfl⟩) ⟨fun a U g mk q => by obtain ⟨q0, q1, qP, qK, qD⟩ := q; exact ⟨q0, q1, qP, va_K.moved (u := U) (U := U.calling g mk a) (Vm.Alike.refl U.vm) qK, qD⟩, fun U hU hW => ⟨rfl, by rw [hU], by rw [hU]; exact hPc, va_K.moved hW.alike hK, hDc.weaken (fun _ _ _ _ => trivial)⟩⟩ rfl rfl hl.1 rfl (lv_room (Nat.le_of_ble_eq_true rfl)) dX6_init_45 ⟨Nat.le_of_ble_eq_true rfl, Nat.le_of_ble_eq_true rfl⟩) hS (fun q _ h => hFc q h) hFc (fun u5 t H1 locs ht hvm hw6 hB hz1 hk1 hS => ?_)
  obtain ⟨hP1, hD1⟩ := hB
  rw [ht] at hP1
  obtain ⟨hP, hD⟩ := va_join (wr := [(h0, .inr (6, [.int 1000000, .ref q1, .ref q2, .ref ho, .null, .int 0, .int 0])), (q1, .inl (cI, 4, .inl (fun _ => 0))), (q2, .inl (cI, 4, .inl (fun _ => 0)))]) (w1 := [(q3, .inr (1, [.int 0, .int 0, .ref (u5 0), .ref (u5 1), .ref (u5 2), .ref (u5 3), .ref (u5 4), .ref ho])), ((u5 0), .inl (cI, 8, .inl (fun _ => 0))), ((u5 1), .inl (cI, 8, .inl (fun _ => 0))), ((u5 2), .inl (cI, 8, .inl (fun _ => 0))), ((u5 3), .inl (cI, 4, .inl (fun _ => 0))), ((u5 4), .inl (cI, 4, .inl (fun _ => 0)))]) hP hD [3] [0, 1, 2] rfl rfl (by decide) (by decide) hk1 hFc hP1 hD1
  clear hP1 hD1
  clear hz1 hk1 hPc hDc hFc
  generalize H1 = H at hP hS ht ⊢
  have hP : va_P (dC, dI) vwCl [(h0, .inr (6, [.int 1000000, .ref q1, .ref q2, .ref ho, .null, .int 0, .int 0])), (q1, .inl (cI, 4, .inl (fun _ => 0))), (q2, .inl (cI, 4, .inl (fun _ => 0))), (q3, .inr (1, [.int 0, .int 0, .ref (u5 0), .ref (u5 1), .ref (u5 2), .ref (u5 3), .ref (u5 4), .ref ho])), ((u5 0), .inl (cI, 8, .inl (fun _ => 0))), ((u5 1), .inl (cI, 8, .inl (fun _ => 0))), ((u5 2), .inl (cI, 8, .inl (fun _ => 0))), ((u5 3), .inl (cI, 4, .inl (fun _ => 0))), ((u5 4), .inl (cI, 4, .inl (fun _ => 0)))] H := hP
  have hD : va_D A [(h0, .inr (6, [.int 1000000, .ref q1, .ref q2, .ref ho, .null, .int 0, .int 0])), (q1, .inl (cI, 4, .inl (fun _ => 0))), (q2, .inl (cI, 4, .inl (fun _ => 0))), (q3, .inr (1, [.int 0, .int 0, .ref (u5 0), .ref (u5 1), .ref (u5 2), .ref (u5 3), .ref (u5 4), .ref ho])), ((u5 0), .inl (cI, 8, .inl (fun _ => 0))), ((u5 1), .inl (cI, 8, .inl (fun _ => 0))), ((u5 2), .inl (cI, 8, .inl (fun _ => 0))), ((u5 3), .inl (cI, 4, .inl (fun _ => 0))), ((u5 4), .inl (cI, 4, .inl (fun _ => 0)))] := hD
  refine W.widen (k := 8) (n := 48) (Nat.le_of_ble_eq_true rfl) (Nat.le_of_ble_eq_true rfl) ?_
  try dsimp only at hw6
  refine va_putF (D := (dC, dI)) (ci := 6) (v := .ref q3) (ty := .object "LeftQuills$Desk") (C := RX6) (T := TX6) (N := 7) hx hb hts hi_X6 tyX6 tyX6_ok nmX6 hown hK hP hD hS 0 rfl rfl 4 (by decide) (hts (.fieldLink RX6 38 "LeftQuills$Race" "trial" "LLeftQuills$Desk;") (by decide +kernel)) (fun _ h9 => h9) rfl hin rfl (by decide +kernel) rfl rfl (Nat.le_of_ble_eq_true rfl) dX6_init_48 (fun H locs hP hD hS => ?_)
  have hP : va_P (dC, dI) vwCl [(h0, .inr (6, [.int 1000000, .ref q1, .ref q2, .ref ho, .ref q3, .int 0, .int 0])), (q1, .inl (cI, 4, .inl (fun _ => 0))), (q2, .inl (cI, 4, .inl (fun _ => 0))), (q3, .inr (1, [.int 0, .int 0, .ref (u5 0), .ref (u5 1), .ref (u5 2), .ref (u5 3), .ref (u5 4), .ref ho])), ((u5 0), .inl (cI, 8, .inl (fun _ => 0))), ((u5 1), .inl (cI, 8, .inl (fun _ => 0))), ((u5 2), .inl (cI, 8, .inl (fun _ => 0))), ((u5 3), .inl (cI, 4, .inl (fun _ => 0))), ((u5 4), .inl (cI, 4, .inl (fun _ => 0)))] H := hP
  have hD : va_D A [(h0, .inr (6, [.int 1000000, .ref q1, .ref q2, .ref ho, .ref q3, .int 0, .int 0])), (q1, .inl (cI, 4, .inl (fun _ => 0))), (q2, .inl (cI, 4, .inl (fun _ => 0))), (q3, .inr (1, [.int 0, .int 0, .ref (u5 0), .ref (u5 1), .ref (u5 2), .ref (u5 3), .ref (u5 4), .ref ho])), ((u5 0), .inl (cI, 8, .inl (fun _ => 0))), ((u5 1), .inl (cI, 8, .inl (fun _ => 0))), ((u5 2), .inl (cI, 8, .inl (fun _ => 0))), ((u5 3), .inl (cI, 4, .inl (fun _ => 0))), ((u5 4), .inl (cI, 4, .inl (fun _ => 0)))] := hD
  have hP9 := hP.sub (ws' := [(h0, .inr (6, [.int 1000000, .ref q1, .ref q2, .ref ho, .ref q3, .int 0, .int 0]))]) [0] rfl
  have hD9 := hD.sub (ws' := [(h0, .inr (6, [.int 1000000, .ref q1, .ref q2, .ref ho, .ref q3, .int 0, .int 0]))]) [0] (by decide) rfl
  refine W.widen (k := 8) (n := 48) (Nat.le_of_ble_eq_true rfl) (Nat.le_of_ble_eq_true rfl) ?_
  exact W.vret hx hb hr (fun t ht hW => ⟨⟨(vn [q1, q2, q3]), rfl, by first | trivial | rfl | (simp_all; done), ⟨by rw [ht]; exact hP9, hD9⟩⟩, hS.F ht⟩) hS.2.2 dX6_init_51
set_option maxHeartbeats 4000000 in
set_option maxRecDepth 100000 in
theorem c_X7_init (l : Launch) (dC : Nat → ClassId) (dI : Nat → Nat → Nat) (cI cZ cQ : ClassId) (h0 : Nat) (sz : Nat)  : Met l yX7_init wsX7_init ({ frames := 2, cells := 11, slots := 290, locals := 60 }) (va_Pc [.ref h0] (fun U => U.heap.size = sz ∧ va_P (dC, dI) vwCl [(h0, .inr (7, [.null, .int 0, .null, .null, .int 0, .int 0, .int 0]))] U.heap ∧ va_K (dC, dI) vwCl (tys0 cI cZ cQ) U ∧ va_D (fun _ => True) [(h0, .inr (7, [.null, .int 0, .null, .null, .int 0, .int 0, .int 0]))] ∧ xN U)) (va_Qv (fun (u : Nat → Nat) => True) (fun (u : Nat → Nat) (t : State) => va_P (dC, dI) vwCl [(h0, .inr (7, [.ref (u 0), .int (-1), .ref (u 1), .ref (u 2), .int 0, .int 0, .int 0])), ((u 2), .inl (cI, 220, .inl (fun _ => 0))), ((u 0), .inr (5, [.int 0, .int 0, .int 0, .int 0, .int 0, .ref (u 3), .ref (u 4), .ref (u 5), .ref (u 6), .ref (u 7), .ref (u 8), .ref (u 9), .ref (u 10)])), ((u 3), .inl (cI, 8, .inl (fun _ => 0))), ((u 4), .inl (cI, 8, .inl (fun _ => 0))), ((u 5), .inl (cI, 8, .inl (fun _ => 0))), ((u 6), .inl (cI, 8, .inl (fun _ => 0))), ((u 7), .inl (cI, 8, .inl (fun _ => 0))), ((u 8), .inl (cI, 4, .inl (fun _ => 0))), ((u 9), .inl (cI, 4, .inl (fun _ => 0))), ((u 10), .inl (cI, 4, .inl (fun _ => 0)))] t.heap ∧ va_D (va_A [(h0, .inr (7, [.null, .int 0, .null, .null, .int 0, .int 0, .int 0]))] sz) [(h0, .inr (7, [.ref (u 0), .int (-1), .ref (u 1), .ref (u 2), .int 0, .int 0, .int 0])), ((u 2), .inl (cI, 220, .inl (fun _ => 0))), ((u 0), .inr (5, [.int 0, .int 0, .int 0, .int 0, .int 0, .ref (u 3), .ref (u 4), .ref (u 5), .ref (u 6), .ref (u 7), .ref (u 8), .ref (u 9), .ref (u 10)])), ((u 3), .inl (cI, 8, .inl (fun _ => 0))), ((u 4), .inl (cI, 8, .inl (fun _ => 0))), ((u 5), .inl (cI, 8, .inl (fun _ => 0))), ((u 6), .inl (cI, 8, .inl (fun _ => 0))), ((u 7), .inl (cI, 8, .inl (fun _ => 0))), ((u 8), .inl (cI, 4, .inl (fun _ => 0))), ((u 9), .inl (cI, 4, .inl (fun _ => 0))), ((u 10), .inl (cI, 4, .inl (fun _ => 0)))]) (va_A [(h0, .inr (7, [.null, .int 0, .null, .null, .int 0, .int 0, .int 0]))] sz)) 11 290 (va_A [(h0, .inr (7, [.null, .int 0, .null, .null, .int 0, .int 0, .int 0]))] sz) := by
  refine Met.ofW (cc := cX7_init) (maxL := 1) (ret := none) (by decide) rfl ?_
  intro p e s m args below meth c s₁ B hml hv
  obtain ⟨rfl, hsz, hP, hK, hD0, hN⟩ := hv
  have hx := B.exec
  have hb := B.bytes
  have hr := B.returns
  have hts := atoms_spec (ws := wsX7_init) B.pre
  have hown : s.vm.findClass RX7 = some m.cls := findClass_of_methodNamed B.named
  have hlocks := B.notSynchronized
  have hin : meth.name = "<init>" := (name_of_methodNamed B.named B.method).1
  have hi_X5 : ∀ w ∈ u_ws RX5 TX5 13, w ∈ wsX7_init := by decide +kernel
  have hi_X7 : ∀ w ∈ u_ws RX7 TX7 7, w ∈ wsX7_init := by decide +kernel
  subst hsz
  have hD := hD0.self (sz := s.heap.size)
  generalize hAe : va_A [(h0, .inr (7, [.null, .int 0, .null, .null, .int 0, .int 0, .int 0]))] s.heap.size = A at hD ⊢
  have hA : ∀ q : Nat, s.heap.size ≤ q → A q := fun q h => by rw [← hAe]; exact Or.inr h
  have hS : va_S A s.heap s.heap [] := va_S.rf
  have hl := lv_entry ([.ref h0]) (n := 1) (Nat.le_of_ble_eq_true rfl)
  rw [lg_entry_eq]
  generalize (lg_sl ([.ref h0]) ++ List.replicate (1 - (lg_sl ([.ref h0])).length) Slot.unset).toArray = ls at hl ⊢
  have hl : lv_has ls 1 [(0, .ref h0)] := hl
  refine lv_aload_n hx hb dX7_init_0 rfl (lv_at hl 0 rfl) ?_
  refine W.objInit hx hb hown (hts (.methodLink RX7 3 objectInit) (by decide +kernel)) (hts (.instanceMethod objectInit) (by decide +kernel)) (hts (.code objectInit ⟨#[0xb1]⟩ 1 none) (by decide +kernel)) rfl (by rw [hml]; exact hl.1) rfl dX7_init_1 (Nat.le_of_ble_eq_true rfl) (Nat.le_of_ble_eq_true rfl) ?_
  refine W.eq (g2 := F0 m 4 ls []) rfl ?_
  refine lv_aload_n hx hb dX7_init_4 rfl (lv_at hl 0 rfl) ?_
  refine va_new (ci := 5) (fs := [.int 0, .int 0, .int 0, .int 0, .int 0, .null, .null, .null, .null, .null, .null, .null, .null]) (C := RX5) (T := TX5) (N := 13) hx hb hts hi_X5 tyX5 tyX5_ok hown (hts (.classLink RX7 9 RX5) (by decide +kernel)) (hts (.instantiable RX5 13) (by decide +kernel)) (hts (.initialized RX5) (by decide +kernel)) hK hP hD hS hA rfl (fun j hj => by rcases (show j = 0 ∨ j = 1 ∨ j = 2 ∨ j = 3 ∨ j = 4 ∨ j = 5 ∨ j = 6 ∨ j = 7 ∨ j = 8 ∨ j = 9 ∨ j = 10 ∨ j = 11 ∨ j = 12 by omega) with rfl | rfl | rfl | rfl | rfl | rfl | rfl | rfl | rfl | rfl | rfl | rfl | rfl <;> rfl) (Nat.le_of_ble_eq_true rfl) (Nat.le_of_ble_eq_true rfl) dX7_init_5 (fun q1 H hP hD hS => ?_)
  refine W.widen (k := 1) (n := 13) (Nat.le_of_ble_eq_true rfl) (Nat.le_of_ble_eq_true rfl) ?_
  have hP : va_P (dC, dI) vwCl [(h0, .inr (7, [.null, .int 0, .null, .null, .int 0, .int 0, .int 0])), (q1, .inr (5, [.int 0, .int 0, .int 0, .int 0, .int 0, .null, .null, .null, .null, .null, .null, .null, .null]))] H := hP
  have hD : va_D A [(h0, .inr (7, [.null, .int 0, .null, .null, .int 0, .int 0, .int 0])), (q1, .inr (5, [.int 0, .int 0, .int 0, .int 0, .int 0, .null, .null, .null, .null, .null, .null, .null, .null]))] := hD
  refine lv_dup hx hb dX7_init_8 rfl ?_
  have hPc := hP.sub (ws' := [(q1, .inr (5, [.int 0, .int 0, .int 0, .int 0, .int 0, .null, .null, .null, .null, .null, .null, .null, .null]))]) [1] rfl
  have hDc := hD.sub (ws' := [(q1, .inr (5, [.int 0, .int 0, .int 0, .int 0, .int 0, .null, .null, .null, .null, .null, .null, .null, .null]))]) [1] (by decide) rfl
  have hFc := va_free (wc := [(q1, .inr (5, [.int 0, .int 0, .int 0, .int 0, .int 0, .null, .null, .null, .null, .null, .null, .null, .null]))]) hD hS hA [1] rfl
  refine va_callv (va_runIN (As := []) (rest := [.ref q1, .ref h0]) ⟨hx, hb, hml, hown, hts⟩ (c_X5_init l dC dI cI cZ cQ q1 H.size ) ⟨va_cnB 0 hts gX7_init_X5_init_n11 rfl rfl rfl (hN.n_X7_11) (hts (.initialized RX5) (by decide +kernel)) (by decide +kernel) ⟨Nat.le_of_ble_eq_true rfl, Nat.le_of_ble_eq_true rfl⟩, rfl, hts (.instanceMethod yX5_init) (by decide +kernel)⟩ ⟨fun a U g mk q => by obtain ⟨q0, q1, qP, qK, qD⟩ := q; exact ⟨q0, q1, qP, va_K.moved (u := U) (U := U.calling g mk a) (Vm.Alike.refl U.vm) qK, qD⟩, fun U hU hW => ⟨rfl, by rw [hU], by rw [hU]; exact hPc, va_K.moved hW.alike hK, hDc.weaken (fun _ _ _ _ => trivial)⟩⟩ rfl rfl hl.1 rfl (lv_room (Nat.le_of_ble_eq_true rfl)) dX7_init_9 ⟨Nat.le_of_ble_eq_true rfl, Nat.le_of_ble_eq_true rfl⟩) hS (fun q _ h => hFc q h) hFc (fun u3 t H1 locs ht hvm hw4 hB hz1 hk1 hS => ?_)
  obtain ⟨hP1, hD1⟩ := hB
  rw [ht] at hP1
  obtain ⟨hP, hD⟩ := va_join (wr := [(h0, .inr (7, [.null, .int 0, .null, .null, .int 0, .int 0, .int 0]))]) (w1 := [(q1, .inr (5, [.int 0, .int 0, .int 0, .int 0, .int 0, .ref (u3 0), .ref (u3 1), .ref (u3 2), .ref (u3 3), .ref (u3 4), .ref (u3 5), .ref (u3 6), .ref (u3 7)])), ((u3 0), .inl (cI, 8, .inl (fun _ => 0))), ((u3 1), .inl (cI, 8, .inl (fun _ => 0))), ((u3 2), .inl (cI, 8, .inl (fun _ => 0))), ((u3 3), .inl (cI, 8, .inl (fun _ => 0))), ((u3 4), .inl (cI, 8, .inl (fun _ => 0))), ((u3 5), .inl (cI, 4, .inl (fun _ => 0))), ((u3 6), .inl (cI, 4, .inl (fun _ => 0))), ((u3 7), .inl (cI, 4, .inl (fun _ => 0)))]) hP hD [1] [0] rfl rfl (by decide) (by decide) hk1 hFc hP1 hD1
  clear hP1 hD1
  clear hz1 hk1 hPc hDc hFc
  generalize H1 = H at hP hS ht ⊢
  have hP : va_P (dC, dI) vwCl [(h0, .inr (7, [.null, .int 0, .null, .null, .int 0, .int 0, .int 0])), (q1, .inr (5, [.int 0, .int 0, .int 0, .int 0, .int 0, .ref (u3 0), .ref (u3 1), .ref (u3 2), .ref (u3 3), .ref (u3 4), .ref (u3 5), .ref (u3 6), .ref (u3 7)])), ((u3 0), .inl (cI, 8, .inl (fun _ => 0))), ((u3 1), .inl (cI, 8, .inl (fun _ => 0))), ((u3 2), .inl (cI, 8, .inl (fun _ => 0))), ((u3 3), .inl (cI, 8, .inl (fun _ => 0))), ((u3 4), .inl (cI, 8, .inl (fun _ => 0))), ((u3 5), .inl (cI, 4, .inl (fun _ => 0))), ((u3 6), .inl (cI, 4, .inl (fun _ => 0))), ((u3 7), .inl (cI, 4, .inl (fun _ => 0)))] H := hP
  have hD : va_D A [(h0, .inr (7, [.null, .int 0, .null, .null, .int 0, .int 0, .int 0])), (q1, .inr (5, [.int 0, .int 0, .int 0, .int 0, .int 0, .ref (u3 0), .ref (u3 1), .ref (u3 2), .ref (u3 3), .ref (u3 4), .ref (u3 5), .ref (u3 6), .ref (u3 7)])), ((u3 0), .inl (cI, 8, .inl (fun _ => 0))), ((u3 1), .inl (cI, 8, .inl (fun _ => 0))), ((u3 2), .inl (cI, 8, .inl (fun _ => 0))), ((u3 3), .inl (cI, 8, .inl (fun _ => 0))), ((u3 4), .inl (cI, 8, .inl (fun _ => 0))), ((u3 5), .inl (cI, 4, .inl (fun _ => 0))), ((u3 6), .inl (cI, 4, .inl (fun _ => 0))), ((u3 7), .inl (cI, 4, .inl (fun _ => 0)))] := hD
  refine W.widen (k := 9) (n := 65) (Nat.le_of_ble_eq_true rfl) (Nat.le_of_ble_eq_true rfl) ?_
  try dsimp only at hw4
  refine va_putF (D := (dC, dI)) (ci := 7) (v := .ref q1) (ty := .object "LeftQuills$Office") (C := RX7) (T := TX7) (N := 7) hx hb hts hi_X7 tyX7 tyX7_ok nmX7 hown hK hP hD hS 0 rfl rfl 0 (by decide) (hts (.fieldLink RX7 12 "LeftQuills$Reader" "draft" "LLeftQuills$Office;") (by decide +kernel)) (fun _ h9 => h9) rfl hin rfl (by decide +kernel) rfl rfl (Nat.le_of_ble_eq_true rfl) dX7_init_12 (fun H locs hP hD hS => ?_)
  have hP : va_P (dC, dI) vwCl [(h0, .inr (7, [.ref q1, .int 0, .null, .null, .int 0, .int 0, .int 0])), (q1, .inr (5, [.int 0, .int 0, .int 0, .int 0, .int 0, .ref (u3 0), .ref (u3 1), .ref (u3 2), .ref (u3 3), .ref (u3 4), .ref (u3 5), .ref (u3 6), .ref (u3 7)])), ((u3 0), .inl (cI, 8, .inl (fun _ => 0))), ((u3 1), .inl (cI, 8, .inl (fun _ => 0))), ((u3 2), .inl (cI, 8, .inl (fun _ => 0))), ((u3 3), .inl (cI, 8, .inl (fun _ => 0))), ((u3 4), .inl (cI, 8, .inl (fun _ => 0))), ((u3 5), .inl (cI, 4, .inl (fun _ => 0))), ((u3 6), .inl (cI, 4, .inl (fun _ => 0))), ((u3 7), .inl (cI, 4, .inl (fun _ => 0)))] H := hP
  have hD : va_D A [(h0, .inr (7, [.ref q1, .int 0, .null, .null, .int 0, .int 0, .int 0])), (q1, .inr (5, [.int 0, .int 0, .int 0, .int 0, .int 0, .ref (u3 0), .ref (u3 1), .ref (u3 2), .ref (u3 3), .ref (u3 4), .ref (u3 5), .ref (u3 6), .ref (u3 7)])), ((u3 0), .inl (cI, 8, .inl (fun _ => 0))), ((u3 1), .inl (cI, 8, .inl (fun _ => 0))), ((u3 2), .inl (cI, 8, .inl (fun _ => 0))), ((u3 3), .inl (cI, 8, .inl (fun _ => 0))), ((u3 4), .inl (cI, 8, .inl (fun _ => 0))), ((u3 5), .inl (cI, 4, .inl (fun _ => 0))), ((u3 6), .inl (cI, 4, .inl (fun _ => 0))), ((u3 7), .inl (cI, 4, .inl (fun _ => 0)))] := hD
  refine lv_aload_n hx hb dX7_init_15 rfl (lv_at hl 0 rfl) ?_
  refine lv_iconst (v := (-1)) hx hb dX7_init_16 (by decide) ?_
  refine va_put (D := (dC, dI)) (ci := 7) (v := .int (-1)) (ty := .int) (C := RX7) (T := TX7) (N := 7) hx hb hts hi_X7 tyX7 tyX7_ok nmX7 hown hK hP hD hS 0 rfl rfl 1 (by decide) (hts (.fieldLink RX7 18 "LeftQuills$Reader" "faultAt" "I") (by decide +kernel)) (fun _ h9 => h9) rfl (by decide +kernel) rfl rfl (Nat.le_of_ble_eq_true rfl) dX7_init_17 (fun H locs hP hD hS => ?_)
  have hP : va_P (dC, dI) vwCl [(h0, .inr (7, [.ref q1, .int (-1), .null, .null, .int 0, .int 0, .int 0])), (q1, .inr (5, [.int 0, .int 0, .int 0, .int 0, .int 0, .ref (u3 0), .ref (u3 1), .ref (u3 2), .ref (u3 3), .ref (u3 4), .ref (u3 5), .ref (u3 6), .ref (u3 7)])), ((u3 0), .inl (cI, 8, .inl (fun _ => 0))), ((u3 1), .inl (cI, 8, .inl (fun _ => 0))), ((u3 2), .inl (cI, 8, .inl (fun _ => 0))), ((u3 3), .inl (cI, 8, .inl (fun _ => 0))), ((u3 4), .inl (cI, 8, .inl (fun _ => 0))), ((u3 5), .inl (cI, 4, .inl (fun _ => 0))), ((u3 6), .inl (cI, 4, .inl (fun _ => 0))), ((u3 7), .inl (cI, 4, .inl (fun _ => 0)))] H := hP
  have hD : va_D A [(h0, .inr (7, [.ref q1, .int (-1), .null, .null, .int 0, .int 0, .int 0])), (q1, .inr (5, [.int 0, .int 0, .int 0, .int 0, .int 0, .ref (u3 0), .ref (u3 1), .ref (u3 2), .ref (u3 3), .ref (u3 4), .ref (u3 5), .ref (u3 6), .ref (u3 7)])), ((u3 0), .inl (cI, 8, .inl (fun _ => 0))), ((u3 1), .inl (cI, 8, .inl (fun _ => 0))), ((u3 2), .inl (cI, 8, .inl (fun _ => 0))), ((u3 3), .inl (cI, 8, .inl (fun _ => 0))), ((u3 4), .inl (cI, 8, .inl (fun _ => 0))), ((u3 5), .inl (cI, 4, .inl (fun _ => 0))), ((u3 6), .inl (cI, 4, .inl (fun _ => 0))), ((u3 7), .inl (cI, 4, .inl (fun _ => 0)))] := hD
  refine lv_aload_n hx hb dX7_init_20 rfl (lv_at hl 0 rfl) ?_
  refine lv_iconst (v := 5) hx hb dX7_init_21 (by decide) ?_
  refine va_newa (atype := .int) (ty := .int) (n := 5) (a0 := (5, .inl (fun _ => 0))) (N' := 5) hx hb (hts (.arrayClass .int) (by decide +kernel)) rfl hK hP hD hS hA (fun _ => rfl) (by decide) (by decide) (by decide) (Nat.le_of_ble_eq_true rfl) (Nat.le_of_ble_eq_true rfl) dX7_init_22 (fun q5 cA H hKn hP hD hS => ?_)
  have ecA := xcI hKn
  subst ecA
  clear hKn
  refine W.widen (k := 10) (n := 70) (Nat.le_of_ble_eq_true rfl) (Nat.le_of_ble_eq_true rfl) ?_
  have hP : va_P (dC, dI) vwCl [(h0, .inr (7, [.ref q1, .int (-1), .null, .null, .int 0, .int 0, .int 0])), (q1, .inr (5, [.int 0, .int 0, .int 0, .int 0, .int 0, .ref (u3 0), .ref (u3 1), .ref (u3 2), .ref (u3 3), .ref (u3 4), .ref (u3 5), .ref (u3 6), .ref (u3 7)])), ((u3 0), .inl (cI, 8, .inl (fun _ => 0))), ((u3 1), .inl (cI, 8, .inl (fun _ => 0))), ((u3 2), .inl (cI, 8, .inl (fun _ => 0))), ((u3 3), .inl (cI, 8, .inl (fun _ => 0))), ((u3 4), .inl (cI, 8, .inl (fun _ => 0))), ((u3 5), .inl (cI, 4, .inl (fun _ => 0))), ((u3 6), .inl (cI, 4, .inl (fun _ => 0))), ((u3 7), .inl (cI, 4, .inl (fun _ => 0))), (q5, .inl (cI, 5, .inl (fun _ => 0)))] H := hP
  have hD : va_D A [(h0, .inr (7, [.ref q1, .int (-1), .null, .null, .int 0, .int 0, .int 0])), (q1, .inr (5, [.int 0, .int 0, .int 0, .int 0, .int 0, .ref (u3 0), .ref (u3 1), .ref (u3 2), .ref (u3 3), .ref (u3 4), .ref (u3 5), .ref (u3 6), .ref (u3 7)])), ((u3 0), .inl (cI, 8, .inl (fun _ => 0))), ((u3 1), .inl (cI, 8, .inl (fun _ => 0))), ((u3 2), .inl (cI, 8, .inl (fun _ => 0))), ((u3 3), .inl (cI, 8, .inl (fun _ => 0))), ((u3 4), .inl (cI, 8, .inl (fun _ => 0))), ((u3 5), .inl (cI, 4, .inl (fun _ => 0))), ((u3 6), .inl (cI, 4, .inl (fun _ => 0))), ((u3 7), .inl (cI, 4, .inl (fun _ => 0))), (q5, .inl (cI, 5, .inl (fun _ => 0)))] := hD
  refine va_putF (D := (dC, dI)) (ci := 7) (v := .ref q5) (ty := .array .int) (C := RX7) (T := TX7) (N := 7) hx hb hts hi_X7 tyX7 tyX7_ok nmX7 hown hK hP hD hS 0 rfl rfl 2 (by decide) (hts (.fieldLink RX7 22 "LeftQuills$Reader" "numbers" "[I") (by decide +kernel)) (fun _ h9 => h9) rfl hin rfl (by decide +kernel) rfl rfl (Nat.le_of_ble_eq_true rfl) dX7_init_24 (fun H locs hP hD hS => ?_)
  have hP : va_P (dC, dI) vwCl [(h0, .inr (7, [.ref q1, .int (-1), .ref q5, .null, .int 0, .int 0, .int 0])), (q1, .inr (5, [.int 0, .int 0, .int 0, .int 0, .int 0, .ref (u3 0), .ref (u3 1), .ref (u3 2), .ref (u3 3), .ref (u3 4), .ref (u3 5), .ref (u3 6), .ref (u3 7)])), ((u3 0), .inl (cI, 8, .inl (fun _ => 0))), ((u3 1), .inl (cI, 8, .inl (fun _ => 0))), ((u3 2), .inl (cI, 8, .inl (fun _ => 0))), ((u3 3), .inl (cI, 8, .inl (fun _ => 0))), ((u3 4), .inl (cI, 8, .inl (fun _ => 0))), ((u3 5), .inl (cI, 4, .inl (fun _ => 0))), ((u3 6), .inl (cI, 4, .inl (fun _ => 0))), ((u3 7), .inl (cI, 4, .inl (fun _ => 0))), (q5, .inl (cI, 5, .inl (fun _ => 0)))] H := hP
  have hD : va_D A [(h0, .inr (7, [.ref q1, .int (-1), .ref q5, .null, .int 0, .int 0, .int 0])), (q1, .inr (5, [.int 0, .int 0, .int 0, .int 0, .int 0, .ref (u3 0), .ref (u3 1), .ref (u3 2), .ref (u3 3), .ref (u3 4), .ref (u3 5), .ref (u3 6), .ref (u3 7)])), ((u3 0), .inl (cI, 8, .inl (fun _ => 0))), ((u3 1), .inl (cI, 8, .inl (fun _ => 0))), ((u3 2), .inl (cI, 8, .inl (fun _ => 0))), ((u3 3), .inl (cI, 8, .inl (fun _ => 0))), ((u3 4), .inl (cI, 8, .inl (fun _ => 0))), ((u3 5), .inl (cI, 4, .inl (fun _ => 0))), ((u3 6), .inl (cI, 4, .inl (fun _ => 0))), ((u3 7), .inl (cI, 4, .inl (fun _ => 0))), (q5, .inl (cI, 5, .inl (fun _ => 0)))] := hD
  refine lv_aload_n hx hb dX7_init_27 rfl (lv_at hl 0 rfl) ?_
  refine lv_sipush (v := 220) hx hb dX7_init_28 (by decide) ?_
  refine va_newa (atype := .int) (ty := .int) (n := 220) (a0 := (220, .inl (fun _ => 0))) (N' := 220) hx hb (hts (.arrayClass .int) (by decide +kernel)) rfl hK hP hD hS hA (fun _ => rfl) (by decide) (by decide) (by decide) (Nat.le_of_ble_eq_true rfl) (Nat.le_of_ble_eq_true rfl) dX7_init_31 (fun q6 cA H hKn hP hD hS => ?_)
  have ecA := xcI hKn
  subst ecA
  clear hKn
  refine W.widen (k := 11) (n := 290) (Nat.le_of_ble_eq_true rfl) (Nat.le_of_ble_eq_true rfl) ?_
  have hP : va_P (dC, dI) vwCl [(h0, .inr (7, [.ref q1, .int (-1), .ref q5, .null, .int 0, .int 0, .int 0])), (q1, .inr (5, [.int 0, .int 0, .int 0, .int 0, .int 0, .ref (u3 0), .ref (u3 1), .ref (u3 2), .ref (u3 3), .ref (u3 4), .ref (u3 5), .ref (u3 6), .ref (u3 7)])), ((u3 0), .inl (cI, 8, .inl (fun _ => 0))), ((u3 1), .inl (cI, 8, .inl (fun _ => 0))), ((u3 2), .inl (cI, 8, .inl (fun _ => 0))), ((u3 3), .inl (cI, 8, .inl (fun _ => 0))), ((u3 4), .inl (cI, 8, .inl (fun _ => 0))), ((u3 5), .inl (cI, 4, .inl (fun _ => 0))), ((u3 6), .inl (cI, 4, .inl (fun _ => 0))), ((u3 7), .inl (cI, 4, .inl (fun _ => 0))), (q5, .inl (cI, 5, .inl (fun _ => 0))), (q6, .inl (cI, 220, .inl (fun _ => 0)))] H := hP
  have hD : va_D A [(h0, .inr (7, [.ref q1, .int (-1), .ref q5, .null, .int 0, .int 0, .int 0])), (q1, .inr (5, [.int 0, .int 0, .int 0, .int 0, .int 0, .ref (u3 0), .ref (u3 1), .ref (u3 2), .ref (u3 3), .ref (u3 4), .ref (u3 5), .ref (u3 6), .ref (u3 7)])), ((u3 0), .inl (cI, 8, .inl (fun _ => 0))), ((u3 1), .inl (cI, 8, .inl (fun _ => 0))), ((u3 2), .inl (cI, 8, .inl (fun _ => 0))), ((u3 3), .inl (cI, 8, .inl (fun _ => 0))), ((u3 4), .inl (cI, 8, .inl (fun _ => 0))), ((u3 5), .inl (cI, 4, .inl (fun _ => 0))), ((u3 6), .inl (cI, 4, .inl (fun _ => 0))), ((u3 7), .inl (cI, 4, .inl (fun _ => 0))), (q5, .inl (cI, 5, .inl (fun _ => 0))), (q6, .inl (cI, 220, .inl (fun _ => 0)))] := hD
  refine va_putF (D := (dC, dI)) (ci := 7) (v := .ref q6) (ty := .array .int) (C := RX7) (T := TX7) (N := 7) hx hb hts hi_X7 tyX7 tyX7_ok nmX7 hown hK hP hD hS 0 rfl rfl 3 (by decide) (hts (.fieldLink RX7 26 "LeftQuills$Reader" "letters" "[I") (by decide +kernel)) (fun _ h9 => h9) rfl hin rfl (by decide +kernel) rfl rfl (Nat.le_of_ble_eq_true rfl) dX7_init_33 (fun H locs hP hD hS => ?_)
  have hP : va_P (dC, dI) vwCl [(h0, .inr (7, [.ref q1, .int (-1), .ref q5, .ref q6, .int 0, .int 0, .int 0])), (q1, .inr (5, [.int 0, .int 0, .int 0, .int 0, .int 0, .ref (u3 0), .ref (u3 1), .ref (u3 2), .ref (u3 3), .ref (u3 4), .ref (u3 5), .ref (u3 6), .ref (u3 7)])), ((u3 0), .inl (cI, 8, .inl (fun _ => 0))), ((u3 1), .inl (cI, 8, .inl (fun _ => 0))), ((u3 2), .inl (cI, 8, .inl (fun _ => 0))), ((u3 3), .inl (cI, 8, .inl (fun _ => 0))), ((u3 4), .inl (cI, 8, .inl (fun _ => 0))), ((u3 5), .inl (cI, 4, .inl (fun _ => 0))), ((u3 6), .inl (cI, 4, .inl (fun _ => 0))), ((u3 7), .inl (cI, 4, .inl (fun _ => 0))), (q5, .inl (cI, 5, .inl (fun _ => 0))), (q6, .inl (cI, 220, .inl (fun _ => 0)))] H := hP
  have hD : va_D A [(h0, .inr (7, [.ref q1, .int (-1), .ref q5, .ref q6, .int 0, .int 0, .int 0])), (q1, .inr (5, [.int 0, .int 0, .int 0, .int 0, .int 0, .ref (u3 0), .ref (u3 1), .ref (u3 2), .ref (u3 3), .ref (u3 4), .ref (u3 5), .ref (u3 6), .ref (u3 7)])), ((u3 0), .inl (cI, 8, .inl (fun _ => 0))), ((u3 1), .inl (cI, 8, .inl (fun _ => 0))), ((u3 2), .inl (cI, 8, .inl (fun _ => 0))), ((u3 3), .inl (cI, 8, .inl (fun _ => 0))), ((u3 4), .inl (cI, 8, .inl (fun _ => 0))), ((u3 5), .inl (cI, 4, .inl (fun _ => 0))), ((u3 6), .inl (cI, 4, .inl (fun _ => 0))), ((u3 7), .inl (cI, 4, .inl (fun _ => 0))), (q5, .inl (cI, 5, .inl (fun _ => 0))), (q6, .inl (cI, 220, .inl (fun _ => 0)))] := hD
  refine lv_aload_n hx hb dX7_init_36 rfl (lv_at hl 0 rfl) ?_
  refine lv_iconst (v := 0) hx hb dX7_init_37 (by decide) ?_
  refine va_put (D := (dC, dI)) (ci := 7) (v := .int 0) (ty := .int) (C := RX7) (T := TX7) (N := 7) hx hb hts hi_X7 tyX7 tyX7_ok nmX7 hown hK hP hD hS 0 rfl rfl 4 (by decide) (hts (.fieldLink RX7 29 "LeftQuills$Reader" "length" "I") (by decide +kernel)) (fun _ h9 => h9) rfl (by decide +kernel) rfl rfl (Nat.le_of_ble_eq_true rfl) dX7_init_38 (fun H locs hP hD hS => ?_)
  have hP : va_P (dC, dI) vwCl [(h0, .inr (7, [.ref q1, .int (-1), .ref q5, .ref q6, .int 0, .int 0, .int 0])), (q1, .inr (5, [.int 0, .int 0, .int 0, .int 0, .int 0, .ref (u3 0), .ref (u3 1), .ref (u3 2), .ref (u3 3), .ref (u3 4), .ref (u3 5), .ref (u3 6), .ref (u3 7)])), ((u3 0), .inl (cI, 8, .inl (fun _ => 0))), ((u3 1), .inl (cI, 8, .inl (fun _ => 0))), ((u3 2), .inl (cI, 8, .inl (fun _ => 0))), ((u3 3), .inl (cI, 8, .inl (fun _ => 0))), ((u3 4), .inl (cI, 8, .inl (fun _ => 0))), ((u3 5), .inl (cI, 4, .inl (fun _ => 0))), ((u3 6), .inl (cI, 4, .inl (fun _ => 0))), ((u3 7), .inl (cI, 4, .inl (fun _ => 0))), (q5, .inl (cI, 5, .inl (fun _ => 0))), (q6, .inl (cI, 220, .inl (fun _ => 0)))] H := hP
  have hD : va_D A [(h0, .inr (7, [.ref q1, .int (-1), .ref q5, .ref q6, .int 0, .int 0, .int 0])), (q1, .inr (5, [.int 0, .int 0, .int 0, .int 0, .int 0, .ref (u3 0), .ref (u3 1), .ref (u3 2), .ref (u3 3), .ref (u3 4), .ref (u3 5), .ref (u3 6), .ref (u3 7)])), ((u3 0), .inl (cI, 8, .inl (fun _ => 0))), ((u3 1), .inl (cI, 8, .inl (fun _ => 0))), ((u3 2), .inl (cI, 8, .inl (fun _ => 0))), ((u3 3), .inl (cI, 8, .inl (fun _ => 0))), ((u3 4), .inl (cI, 8, .inl (fun _ => 0))), ((u3 5), .inl (cI, 4, .inl (fun _ => 0))), ((u3 6), .inl (cI, 4, .inl (fun _ => 0))), ((u3 7), .inl (cI, 4, .inl (fun _ => 0))), (q5, .inl (cI, 5, .inl (fun _ => 0))), (q6, .inl (cI, 220, .inl (fun _ => 0)))] := hD
  refine lv_aload_n hx hb dX7_init_41 rfl (lv_at hl 0 rfl) ?_
  refine lv_iconst (v := 0) hx hb dX7_init_42 (by decide) ?_
  refine va_put (D := (dC, dI)) (ci := 7) (v := .int 0) (ty := .int) (C := RX7) (T := TX7) (N := 7) hx hb hts hi_X7 tyX7 tyX7_ok nmX7 hown hK hP hD hS 0 rfl rfl 5 (by decide) (hts (.fieldLink RX7 32 "LeftQuills$Reader" "at" "I") (by decide +kernel)) (fun _ h9 => h9) rfl (by decide +kernel) rfl rfl (Nat.le_of_ble_eq_true rfl) dX7_init_43 (fun H locs hP hD hS => ?_)
  have hP : va_P (dC, dI) vwCl [(h0, .inr (7, [.ref q1, .int (-1), .ref q5, .ref q6, .int 0, .int 0, .int 0])), (q1, .inr (5, [.int 0, .int 0, .int 0, .int 0, .int 0, .ref (u3 0), .ref (u3 1), .ref (u3 2), .ref (u3 3), .ref (u3 4), .ref (u3 5), .ref (u3 6), .ref (u3 7)])), ((u3 0), .inl (cI, 8, .inl (fun _ => 0))), ((u3 1), .inl (cI, 8, .inl (fun _ => 0))), ((u3 2), .inl (cI, 8, .inl (fun _ => 0))), ((u3 3), .inl (cI, 8, .inl (fun _ => 0))), ((u3 4), .inl (cI, 8, .inl (fun _ => 0))), ((u3 5), .inl (cI, 4, .inl (fun _ => 0))), ((u3 6), .inl (cI, 4, .inl (fun _ => 0))), ((u3 7), .inl (cI, 4, .inl (fun _ => 0))), (q5, .inl (cI, 5, .inl (fun _ => 0))), (q6, .inl (cI, 220, .inl (fun _ => 0)))] H := hP
  have hD : va_D A [(h0, .inr (7, [.ref q1, .int (-1), .ref q5, .ref q6, .int 0, .int 0, .int 0])), (q1, .inr (5, [.int 0, .int 0, .int 0, .int 0, .int 0, .ref (u3 0), .ref (u3 1), .ref (u3 2), .ref (u3 3), .ref (u3 4), .ref (u3 5), .ref (u3 6), .ref (u3 7)])), ((u3 0), .inl (cI, 8, .inl (fun _ => 0))), ((u3 1), .inl (cI, 8, .inl (fun _ => 0))), ((u3 2), .inl (cI, 8, .inl (fun _ => 0))), ((u3 3), .inl (cI, 8, .inl (fun _ => 0))), ((u3 4), .inl (cI, 8, .inl (fun _ => 0))), ((u3 5), .inl (cI, 4, .inl (fun _ => 0))), ((u3 6), .inl (cI, 4, .inl (fun _ => 0))), ((u3 7), .inl (cI, 4, .inl (fun _ => 0))), (q5, .inl (cI, 5, .inl (fun _ => 0))), (q6, .inl (cI, 220, .inl (fun _ => 0)))] := hD
  refine lv_aload_n hx hb dX7_init_46 rfl (lv_at hl 0 rfl) ?_
  refine lv_iconst (v := 0) hx hb dX7_init_47 (by decide) ?_
  refine va_put (D := (dC, dI)) (ci := 7) (v := .int 0) (ty := .int) (C := RX7) (T := TX7) (N := 7) hx hb hts hi_X7 tyX7 tyX7_ok nmX7 hown hK hP hD hS 0 rfl rfl 6 (by decide) (hts (.fieldLink RX7 35 "LeftQuills$Reader" "fault" "I") (by decide +kernel)) (fun _ h9 => h9) rfl (by decide +kernel) rfl rfl (Nat.le_of_ble_eq_true rfl) dX7_init_48 (fun H locs hP hD hS => ?_)
  have hP : va_P (dC, dI) vwCl [(h0, .inr (7, [.ref q1, .int (-1), .ref q5, .ref q6, .int 0, .int 0, .int 0])), (q1, .inr (5, [.int 0, .int 0, .int 0, .int 0, .int 0, .ref (u3 0), .ref (u3 1), .ref (u3 2), .ref (u3 3), .ref (u3 4), .ref (u3 5), .ref (u3 6), .ref (u3 7)])), ((u3 0), .inl (cI, 8, .inl (fun _ => 0))), ((u3 1), .inl (cI, 8, .inl (fun _ => 0))), ((u3 2), .inl (cI, 8, .inl (fun _ => 0))), ((u3 3), .inl (cI, 8, .inl (fun _ => 0))), ((u3 4), .inl (cI, 8, .inl (fun _ => 0))), ((u3 5), .inl (cI, 4, .inl (fun _ => 0))), ((u3 6), .inl (cI, 4, .inl (fun _ => 0))), ((u3 7), .inl (cI, 4, .inl (fun _ => 0))), (q5, .inl (cI, 5, .inl (fun _ => 0))), (q6, .inl (cI, 220, .inl (fun _ => 0)))] H := hP
  have hD : va_D A [(h0, .inr (7, [.ref q1, .int (-1), .ref q5, .ref q6, .int 0, .int 0, .int 0])), (q1, .inr (5, [.int 0, .int 0, .int 0, .int 0, .int 0, .ref (u3 0), .ref (u3 1), .ref (u3 2), .ref (u3 3), .ref (u3 4), .ref (u3 5), .ref (u3 6), .ref (u3 7)])), ((u3 0), .inl (cI, 8, .inl (fun _ => 0))), ((u3 1), .inl (cI, 8, .inl (fun _ => 0))), ((u3 2), .inl (cI, 8, .inl (fun _ => 0))), ((u3 3), .inl (cI, 8, .inl (fun _ => 0))), ((u3 4), .inl (cI, 8, .inl (fun _ => 0))), ((u3 5), .inl (cI, 4, .inl (fun _ => 0))), ((u3 6), .inl (cI, 4, .inl (fun _ => 0))), ((u3 7), .inl (cI, 4, .inl (fun _ => 0))), (q5, .inl (cI, 5, .inl (fun _ => 0))), (q6, .inl (cI, 220, .inl (fun _ => 0)))] := hD
  have hP9 := hP.sub (ws' := [(h0, .inr (7, [.ref q1, .int (-1), .ref q5, .ref q6, .int 0, .int 0, .int 0])), (q6, .inl (cI, 220, .inl (fun _ => 0))), (q1, .inr (5, [.int 0, .int 0, .int 0, .int 0, .int 0, .ref (u3 0), .ref (u3 1), .ref (u3 2), .ref (u3 3), .ref (u3 4), .ref (u3 5), .ref (u3 6), .ref (u3 7)])), ((u3 0), .inl (cI, 8, .inl (fun _ => 0))), ((u3 1), .inl (cI, 8, .inl (fun _ => 0))), ((u3 2), .inl (cI, 8, .inl (fun _ => 0))), ((u3 3), .inl (cI, 8, .inl (fun _ => 0))), ((u3 4), .inl (cI, 8, .inl (fun _ => 0))), ((u3 5), .inl (cI, 4, .inl (fun _ => 0))), ((u3 6), .inl (cI, 4, .inl (fun _ => 0))), ((u3 7), .inl (cI, 4, .inl (fun _ => 0)))]) [0, 11, 1, 2, 3, 4, 5, 6, 7, 8, 9] rfl
  have hD9 := hD.sub (ws' := [(h0, .inr (7, [.ref q1, .int (-1), .ref q5, .ref q6, .int 0, .int 0, .int 0])), (q6, .inl (cI, 220, .inl (fun _ => 0))), (q1, .inr (5, [.int 0, .int 0, .int 0, .int 0, .int 0, .ref (u3 0), .ref (u3 1), .ref (u3 2), .ref (u3 3), .ref (u3 4), .ref (u3 5), .ref (u3 6), .ref (u3 7)])), ((u3 0), .inl (cI, 8, .inl (fun _ => 0))), ((u3 1), .inl (cI, 8, .inl (fun _ => 0))), ((u3 2), .inl (cI, 8, .inl (fun _ => 0))), ((u3 3), .inl (cI, 8, .inl (fun _ => 0))), ((u3 4), .inl (cI, 8, .inl (fun _ => 0))), ((u3 5), .inl (cI, 4, .inl (fun _ => 0))), ((u3 6), .inl (cI, 4, .inl (fun _ => 0))), ((u3 7), .inl (cI, 4, .inl (fun _ => 0)))]) [0, 11, 1, 2, 3, 4, 5, 6, 7, 8, 9] (by decide) rfl
  refine W.widen (k := 11) (n := 290) (Nat.le_of_ble_eq_true rfl) (Nat.le_of_ble_eq_true rfl) ?_
  exact W.vret hx hb hr (fun t ht hW => ⟨⟨(vn [q1, q5, q6, (u3 0), (u3 1), (u3 2), (u3 3), (u3 4), (u3 5), (u3 6), (u3 7)]), rfl, by first | trivial | rfl | (simp_all; done), ⟨by rw [ht]; exact hP9, hD9⟩⟩, hS.F ht⟩) hS.2.2 dX7_init_51
set_option maxHeartbeats 4000000 in
set_option maxRecDepth 100000 in
theorem c_X3_init (l : Launch) (dC : Nat → ClassId) (dI : Nat → Nat → Nat) (cI cZ cQ : ClassId) (h0 : Nat) (ho : Nat) (sz : Nat)  : Met l yX3_init wsX3_init ({ frames := 2, cells := 121, slots := 820, locals := 61 }) (va_Pc [.ref h0, .ref ho] (fun U => U.heap.size = sz ∧ va_P (dC, dI) vwCl [(h0, .inr (3, [.null, .int 0, .int 0]))] U.heap ∧ va_K (dC, dI) vwCl (tys0 cI cZ cQ) U ∧ va_D (fun _ => True) [(h0, .inr (3, [.null, .int 0, .int 0]))] ∧ xN U)) (va_Qv (fun (u : Nat → Nat) => True) (fun (u : Nat → Nat) (t : State) => va_P (dC, dI) vwCl [(h0, .inr (3, [.ref (u 0), .int 0, .int 0]))] t.heap ∧ va_D (va_A [(h0, .inr (3, [.null, .int 0, .int 0]))] sz) [(h0, .inr (3, [.ref (u 0), .int 0, .int 0]))]) (va_A [(h0, .inr (3, [.null, .int 0, .int 0]))] sz)) 121 820 (va_A [(h0, .inr (3, [.null, .int 0, .int 0]))] sz) := by
  refine Met.ofW (cc := cX3_init) (maxL := 3) (ret := none) (by decide) rfl ?_
  intro p e s m args below meth c s₁ B hml hv
  obtain ⟨rfl, hsz, hP, hK, hD0, hN⟩ := hv
  have hx := B.exec
  have hb := B.bytes
  have hr := B.returns
  have hts := atoms_spec (ws := wsX3_init) B.pre
  have hown : s.vm.findClass RX3 = some m.cls := findClass_of_methodNamed B.named
  have hlocks := B.notSynchronized
  have hin : meth.name = "<init>" := (name_of_methodNamed B.named B.method).1
  have hi_X1 : ∀ w ∈ u_ws RX1 TX1 8, w ∈ wsX3_init := by decide +kernel
  have hi_X3 : ∀ w ∈ u_ws RX3 TX3 3, w ∈ wsX3_init := by decide +kernel
  subst hsz
  have hD := hD0.self (sz := s.heap.size)
  generalize hAe : va_A [(h0, .inr (3, [.null, .int 0, .int 0]))] s.heap.size = A at hD ⊢
  have hA : ∀ q : Nat, s.heap.size ≤ q → A q := fun q h => by rw [← hAe]; exact Or.inr h
  have hS : va_S A s.heap s.heap [] := va_S.rf
  have hl := lv_entry ([.ref h0, .ref ho]) (n := 3) (Nat.le_of_ble_eq_true rfl)
  rw [lg_entry_eq]
  generalize (lg_sl ([.ref h0, .ref ho]) ++ List.replicate (3 - (lg_sl ([.ref h0, .ref ho])).length) Slot.unset).toArray = ls at hl ⊢
  have hl : lv_has ls 3 [(0, .ref h0), (1, .ref ho)] := hl
  refine lv_aload_n hx hb dX3_init_0 rfl (lv_at hl 0 rfl) ?_
  refine W.objInit hx hb hown (hts (.methodLink RX3 1 objectInit) (by decide +kernel)) (hts (.instanceMethod objectInit) (by decide +kernel)) (hts (.code objectInit ⟨#[0xb1]⟩ 1 none) (by decide +kernel)) rfl (by rw [hml]; exact hl.1) rfl dX3_init_1 (Nat.le_of_ble_eq_true rfl) (Nat.le_of_ble_eq_true rfl) ?_
  refine W.eq (g2 := F0 m 4 ls []) rfl ?_
  refine lv_aload_n hx hb dX3_init_4 rfl (lv_at hl 0 rfl) ?_
  refine lv_bipush (v := 20) hx hb dX3_init_5 (by decide) ?_
  refine va_newq (N' := 20) hx hb hown (hts (.classLink RX3 9 RX1) (by decide +kernel)) hN.1 hK hP hD hS hA (by decide) (by decide) (by decide) (Nat.le_of_ble_eq_true rfl) (Nat.le_of_ble_eq_true rfl) dX3_init_7 (fun q1 cA H hKn hP hD hS => ?_)
  have ecA := xcQ hKn
  subst ecA
  clear hKn
  refine W.widen (k := 1) (n := 20) (Nat.le_of_ble_eq_true rfl) (Nat.le_of_ble_eq_true rfl) ?_
  have hP : va_P (dC, dI) vwCl [(h0, .inr (3, [.null, .int 0, .int 0])), (q1, .inl (cQ, 20, .inr (.inr (.inr (.inr (fun _ => none))))))] H := hP
  have hD : va_D A [(h0, .inr (3, [.null, .int 0, .int 0])), (q1, .inl (cQ, 20, .inr (.inr (.inr (.inr (fun _ => none))))))] := hD
  refine va_putF (D := (dC, dI)) (ci := 3) (v := .ref q1) (ty := .array (.object "LeftQuills$Desk")) (C := RX3) (T := TX3) (N := 3) hx hb hts hi_X3 tyX3 tyX3_ok nmX3 hown hK hP hD hS 0 rfl rfl 0 (by decide) (hts (.fieldLink RX3 11 "LeftQuills$History" "desks" "[LLeftQuills$Desk;") (by decide +kernel)) (fun _ h9 => h9) rfl hin rfl (by decide +kernel) rfl rfl (Nat.le_of_ble_eq_true rfl) dX3_init_10 (fun H locs hP hD hS => ?_)
  have hP : va_P (dC, dI) vwCl [(h0, .inr (3, [.ref q1, .int 0, .int 0])), (q1, .inl (cQ, 20, .inr (.inr (.inr (.inr (fun _ => none))))))] H := hP
  have hD : va_D A [(h0, .inr (3, [.ref q1, .int 0, .int 0])), (q1, .inl (cQ, 20, .inr (.inr (.inr (.inr (fun _ => none))))))] := hD
  refine lv_aload_n hx hb dX3_init_13 rfl (lv_at hl 0 rfl) ?_
  refine lv_iconst (v := 0) hx hb dX3_init_14 (by decide) ?_
  refine va_put (D := (dC, dI)) (ci := 3) (v := .int 0) (ty := .int) (C := RX3) (T := TX3) (N := 3) hx hb hts hi_X3 tyX3 tyX3_ok nmX3 hown hK hP hD hS 0 rfl rfl 1 (by decide) (hts (.fieldLink RX3 15 "LeftQuills$History" "oldest" "I") (by decide +kernel)) (fun _ h9 => h9) rfl (by decide +kernel) rfl rfl (Nat.le_of_ble_eq_true rfl) dX3_init_15 (fun H locs hP hD hS => ?_)
  have hP : va_P (dC, dI) vwCl [(h0, .inr (3, [.ref q1, .int 0, .int 0])), (q1, .inl (cQ, 20, .inr (.inr (.inr (.inr (fun _ => none))))))] H := hP
  have hD : va_D A [(h0, .inr (3, [.ref q1, .int 0, .int 0])), (q1, .inl (cQ, 20, .inr (.inr (.inr (.inr (fun _ => none))))))] := hD
  refine lv_aload_n hx hb dX3_init_18 rfl (lv_at hl 0 rfl) ?_
  refine lv_iconst (v := 0) hx hb dX3_init_19 (by decide) ?_
  refine va_put (D := (dC, dI)) (ci := 3) (v := .int 0) (ty := .int) (C := RX3) (T := TX3) (N := 3) hx hb hts hi_X3 tyX3 tyX3_ok nmX3 hown hK hP hD hS 0 rfl rfl 2 (by decide) (hts (.fieldLink RX3 19 "LeftQuills$History" "count" "I") (by decide +kernel)) (fun _ h9 => h9) rfl (by decide +kernel) rfl rfl (Nat.le_of_ble_eq_true rfl) dX3_init_20 (fun H locs hP hD hS => ?_)
  have hP : va_P (dC, dI) vwCl [(h0, .inr (3, [.ref q1, .int 0, .int 0])), (q1, .inl (cQ, 20, .inr (.inr (.inr (.inr (fun _ => none))))))] H := hP
  have hD : va_D A [(h0, .inr (3, [.ref q1, .int 0, .int 0])), (q1, .inl (cQ, 20, .inr (.inr (.inr (.inr (fun _ => none))))))] := hD
  refine lv_iconst (v := 0) hx hb dX3_init_23 (by decide) ?_
  refine lv_istore_n (lv' := [(2, .int 0), (0, .ref h0), (1, .ref ho)]) hx hb dX3_init_24 rfl hl (by decide) rfl (fun ls hl => ?_)
  refine lv_iload_n hx hb dX3_init_25 rfl (lv_at hl 0 rfl) ?_
  refine lv_bipush (v := 20) hx hb dX3_init_26 (by decide) ?_
  refine lv_icmp_ge (tgt := 51) hx hb dX3_init_28 (by decide) (fun c2 => ?_) (fun c2 => ?_)
  · exact absurd c2 (by decide)
  clear c2
  refine lv_aload_n hx hb dX3_init_31 rfl (lv_at hl 1 rfl) ?_
  refine va_get (D := (dC, dI)) (ci := 3) (v := .ref q1) (C := RX3) (T := TX3) (N := 3) hx hb hts hi_X3 hown hK hP 0 rfl rfl 0 (by decide) (hts (.fieldLink RX3 11 "LeftQuills$History" "desks" "[LLeftQuills$Desk;") (by decide +kernel)) (fun _ h9 => h9) rfl dX3_init_32 ?_
  refine lv_iload_n hx hb dX3_init_35 rfl (lv_at hl 0 rfl) ?_
  refine va_new (ci := 1) (fs := [.int 0, .int 0, .null, .null, .null, .null, .null, .null]) (C := RX1) (T := TX1) (N := 8) hx hb hts hi_X1 tyX1 tyX1_ok hown (hts (.classLink RX3 9 RX1) (by decide +kernel)) (hts (.instantiable RX1 8) (by decide +kernel)) (hts (.initialized RX1) (by decide +kernel)) hK hP hD hS hA rfl (fun j hj => by rcases (show j = 0 ∨ j = 1 ∨ j = 2 ∨ j = 3 ∨ j = 4 ∨ j = 5 ∨ j = 6 ∨ j = 7 by omega) with rfl | rfl | rfl | rfl | rfl | rfl | rfl | rfl <;> rfl) (Nat.le_of_ble_eq_true rfl) (Nat.le_of_ble_eq_true rfl) dX3_init_36 (fun q3 H hP hD hS => ?_)
  refine W.widen (k := 2) (n := 28) (Nat.le_of_ble_eq_true rfl) (Nat.le_of_ble_eq_true rfl) ?_
  have hP : va_P (dC, dI) vwCl [(h0, .inr (3, [.ref q1, .int 0, .int 0])), (q1, .inl (cQ, 20, .inr (.inr (.inr (.inr (fun _ => none)))))), (q3, .inr (1, [.int 0, .int 0, .null, .null, .null, .null, .null, .null]))] H := hP
  have hD : va_D A [(h0, .inr (3, [.ref q1, .int 0, .int 0])), (q1, .inl (cQ, 20, .inr (.inr (.inr (.inr (fun _ => none)))))), (q3, .inr (1, [.int 0, .int 0, .null, .null, .null, .null, .null, .null]))] := hD
  refine lv_dup hx hb dX3_init_39 rfl ?_
  refine lv_aload_n hx hb dX3_init_40 rfl (lv_at hl 2 rfl) ?_
  have hPc := hP.sub (ws' := [(q3, .inr (1, [.int 0, .int 0, .null, .null, .null, .null, .null, .null]))]) [2] rfl
  have hDc := hD.sub (ws' := [(q3, .inr (1, [.int 0, .int 0, .null, .null, .null, .null, .null, .null]))]) [2] (by decide) rfl
  have hFc := va_free (wc := [(q3, .inr (1, [.int 0, .int 0, .null, .null, .null, .null, .null, .null]))]) hD hS hA [2] rfl
  refine va_callv (va_runI (As := [.ref ho]) (rest := [.ref q3, .int 0, .ref q1]) ⟨hx, hb, hml, hown, hts⟩ (c_X1_init l dC dI cI cZ cQ q3 ho H.size ) (cwI 1 hts gX3_init_X1_init rfl rfl rfl (hts (.initialized RX1) (by decide +kernel)) (hts (.methodLink RX3 22 yX1_init) (by decide +kernel)) (hts (.instanceMethod yX1_init) (by decide +kernel)) rfl (by decide +kernel) ⟨Nat.le_of_ble_eq_true rfl, Nat.le_of_ble_eq_true rfl⟩) ⟨fun a U g mk q => by obtain ⟨q0, q1, qP, qK, qD⟩ := q; exact ⟨q0, q1, qP, va_K.moved (u := U) (U := U.calling g mk a) (Vm.Alike.refl U.vm) qK, qD⟩, fun U hU hW => ⟨rfl, by rw [hU], by rw [hU]; exact hPc, va_K.moved hW.alike hK, hDc.weaken (fun _ _ _ _ => trivial)⟩⟩ rfl rfl hl.1 rfl (lv_room (Nat.le_of_ble_eq_true rfl)) dX3_init_41 ⟨Nat.le_of_ble_eq_true rfl, Nat.le_of_ble_eq_true rfl⟩) hS (fun q _ h => hFc q h) hFc (fun u5 t H1 locs ht hvm hw6 hB hz1 hk1 hS => ?_)
  obtain ⟨hP1, hD1⟩ := hB
  rw [ht] at hP1
  obtain ⟨hP, hD⟩ := va_join (wr := [(h0, .inr (3, [.ref q1, .int 0, .int 0])), (q1, .inl (cQ, 20, .inr (.inr (.inr (.inr (fun _ => none))))))]) (w1 := [(q3, .inr (1, [.int 0, .int 0, .ref (u5 0), .ref (u5 1), .ref (u5 2), .ref (u5 3), .ref (u5 4), .ref ho])), ((u5 0), .inl (cI, 8, .inl (fun _ => 0))), ((u5 1), .inl (cI, 8, .inl (fun _ => 0))), ((u5 2), .inl (cI, 8, .inl (fun _ => 0))), ((u5 3), .inl (cI, 4, .inl (fun _ => 0))), ((u5 4), .inl (cI, 4, .inl (fun _ => 0)))]) hP hD [2] [0, 1] rfl rfl (by decide) (by decide) hk1 hFc hP1 hD1
  clear hP1 hD1
  clear hz1 hk1 hPc hDc hFc
  generalize H1 = H at hP hS ht ⊢
  have hP : va_P (dC, dI) vwCl [(h0, .inr (3, [.ref q1, .int 0, .int 0])), (q1, .inl (cQ, 20, .inr (.inr (.inr (.inr (fun _ => none)))))), (q3, .inr (1, [.int 0, .int 0, .ref (u5 0), .ref (u5 1), .ref (u5 2), .ref (u5 3), .ref (u5 4), .ref ho])), ((u5 0), .inl (cI, 8, .inl (fun _ => 0))), ((u5 1), .inl (cI, 8, .inl (fun _ => 0))), ((u5 2), .inl (cI, 8, .inl (fun _ => 0))), ((u5 3), .inl (cI, 4, .inl (fun _ => 0))), ((u5 4), .inl (cI, 4, .inl (fun _ => 0)))] H := hP
  have hD : va_D A [(h0, .inr (3, [.ref q1, .int 0, .int 0])), (q1, .inl (cQ, 20, .inr (.inr (.inr (.inr (fun _ => none)))))), (q3, .inr (1, [.int 0, .int 0, .ref (u5 0), .ref (u5 1), .ref (u5 2), .ref (u5 3), .ref (u5 4), .ref ho])), ((u5 0), .inl (cI, 8, .inl (fun _ => 0))), ((u5 1), .inl (cI, 8, .inl (fun _ => 0))), ((u5 2), .inl (cI, 8, .inl (fun _ => 0))), ((u5 3), .inl (cI, 4, .inl (fun _ => 0))), ((u5 4), .inl (cI, 4, .inl (fun _ => 0)))] := hD
  refine W.widen (k := 7) (n := 60) (Nat.le_of_ble_eq_true rfl) (Nat.le_of_ble_eq_true rfl) ?_
  try dsimp only at hw6
  refine va_astq hx hb hK hP hD hS 1 2 2 1 rfl rfl rfl rfl (vp_in_iff.mpr ⟨by decide, by decide⟩) dX3_init_44 (fun H locs hP hD hS => ?_)
  generalize hgf7 : va_up _ _ _ = f7 at hP hD
  have hP : va_P (dC, dI) vwCl [(h0, .inr (3, [.ref q1, .int 0, .int 0])), (q1, .inl (cQ, 20, .inr (.inr (.inr (.inr f7))))), (q3, .inr (1, [.int 0, .int 0, .ref (u5 0), .ref (u5 1), .ref (u5 2), .ref (u5 3), .ref (u5 4), .ref ho])), ((u5 0), .inl (cI, 8, .inl (fun _ => 0))), ((u5 1), .inl (cI, 8, .inl (fun _ => 0))), ((u5 2), .inl (cI, 8, .inl (fun _ => 0))), ((u5 3), .inl (cI, 4, .inl (fun _ => 0))), ((u5 4), .inl (cI, 4, .inl (fun _ => 0)))] H := hP
  have hD : va_D A [(h0, .inr (3, [.ref q1, .int 0, .int 0])), (q1, .inl (cQ, 20, .inr (.inr (.inr (.inr f7))))), (q3, .inr (1, [.int 0, .int 0, .ref (u5 0), .ref (u5 1), .ref (u5 2), .ref (u5 3), .ref (u5 4), .ref ho])), ((u5 0), .inl (cI, 8, .inl (fun _ => 0))), ((u5 1), .inl (cI, 8, .inl (fun _ => 0))), ((u5 2), .inl (cI, 8, .inl (fun _ => 0))), ((u5 3), .inl (cI, 4, .inl (fun _ => 0))), ((u5 4), .inl (cI, 4, .inl (fun _ => 0)))] := hD
  have hP := hP.sub (ws' := [(h0, .inr (3, [.ref q1, .int 0, .int 0])), (q1, .inl (cQ, 20, .inr (.inr (.inr (.inr f7)))))]) [0, 1] rfl
  have hD := hD.sub (ws' := [(h0, .inr (3, [.ref q1, .int 0, .int 0])), (q1, .inl (cQ, 20, .inr (.inr (.inr (.inr f7)))))]) [0, 1] (by decide) rfl
  refine lv_iinc (v := 1) (lv' := [(2, .int 1), (0, .ref h0), (1, .ref ho)]) hx hb dX3_init_45 hl (k := 0) rfl (by decide) (by decide) rfl (fun ls hl => ?_)
  refine lv_goto (tgt := 25) hx hb dX3_init_48 (by decide) ?_
  refine lv_iload_n hx hb dX3_init_25 rfl (lv_at hl 0 rfl) ?_
  refine lv_bipush (v := 20) hx hb dX3_init_26 (by decide) ?_
  refine lv_icmp_ge (tgt := 51) hx hb dX3_init_28 (by decide) (fun c8 => ?_) (fun c8 => ?_)
  · exact absurd c8 (by decide)
  clear c8
  refine lv_aload_n hx hb dX3_init_31 rfl (lv_at hl 1 rfl) ?_
  refine va_get (D := (dC, dI)) (ci := 3) (v := .ref q1) (C := RX3) (T := TX3) (N := 3) hx hb hts hi_X3 hown hK hP 0 rfl rfl 0 (by decide) (hts (.fieldLink RX3 11 "LeftQuills$History" "desks" "[LLeftQuills$Desk;") (by decide +kernel)) (fun _ h9 => h9) rfl dX3_init_32 ?_
  refine lv_iload_n hx hb dX3_init_35 rfl (lv_at hl 0 rfl) ?_
  refine va_new (ci := 1) (fs := [.int 0, .int 0, .null, .null, .null, .null, .null, .null]) (C := RX1) (T := TX1) (N := 8) hx hb hts hi_X1 tyX1 tyX1_ok hown (hts (.classLink RX3 9 RX1) (by decide +kernel)) (hts (.instantiable RX1 8) (by decide +kernel)) (hts (.initialized RX1) (by decide +kernel)) hK hP hD hS hA rfl (fun j hj => by rcases (show j = 0 ∨ j = 1 ∨ j = 2 ∨ j = 3 ∨ j = 4 ∨ j = 5 ∨ j = 6 ∨ j = 7 by omega) with rfl | rfl | rfl | rfl | rfl | rfl | rfl | rfl <;> rfl) (Nat.le_of_ble_eq_true rfl) (Nat.le_of_ble_eq_true rfl) dX3_init_36 (fun q9 H hP hD hS => ?_)
  refine W.widen (k := 8) (n := 68) (Nat.le_of_ble_eq_true rfl) (Nat.le_of_ble_eq_true rfl) ?_
  have hP : va_P (dC, dI) vwCl [(h0, .inr (3, [.ref q1, .int 0, .int 0])), (q1, .inl (cQ, 20, .inr (.inr (.inr (.inr f7))))), (q9, .inr (1, [.int 0, .int 0, .null, .null, .null, .null, .null, .null]))] H := hP
  have hD : va_D A [(h0, .inr (3, [.ref q1, .int 0, .int 0])), (q1, .inl (cQ, 20, .inr (.inr (.inr (.inr f7))))), (q9, .inr (1, [.int 0, .int 0, .null, .null, .null, .null, .null, .null]))] := hD
  refine lv_dup hx hb dX3_init_39 rfl ?_
  refine lv_aload_n hx hb dX3_init_40 rfl (lv_at hl 2 rfl) ?_
  have hPc := hP.sub (ws' := [(q9, .inr (1, [.int 0, .int 0, .null, .null, .null, .null, .null, .null]))]) [2] rfl
  have hDc := hD.sub (ws' := [(q9, .inr (1, [.int 0, .int 0, .null, .null, .null, .null, .null, .null]))]) [2] (by decide) rfl
  have hFc := va_free (wc := [(q9, .inr (1, [.int 0, .int 0, .null, .null, .null, .null, .null, .null]))]) hD hS hA [2] rfl
  refine va_callv (va_runI (As := [.ref ho]) (rest := [.ref q9, .int 1, .ref q1]) ⟨hx, hb, hml, hown, hts⟩ (c_X1_init l dC dI cI cZ cQ q9 ho H.size ) (cwI 1 hts gX3_init_X1_init rfl rfl rfl (hts (.initialized RX1) (by decide +kernel)) (hts (.methodLink RX3 22 yX1_init) (by decide +kernel)) (hts (.instanceMethod yX1_init) (by decide +kernel)) rfl (by decide +kernel) ⟨Nat.le_of_ble_eq_true rfl, Nat.le_of_ble_eq_true rfl⟩) ⟨fun a U g mk q => by obtain ⟨q0, q1, qP, qK, qD⟩ := q; exact ⟨q0, q1, qP, va_K.moved (u := U) (U := U.calling g mk a) (Vm.Alike.refl U.vm) qK, qD⟩, fun U hU hW => ⟨rfl, by rw [hU], by rw [hU]; exact hPc, va_K.moved hW.alike hK, hDc.weaken (fun _ _ _ _ => trivial)⟩⟩ rfl rfl hl.1 rfl (lv_room (Nat.le_of_ble_eq_true rfl)) dX3_init_41 ⟨Nat.le_of_ble_eq_true rfl, Nat.le_of_ble_eq_true rfl⟩) hS (fun q _ h => hFc q h) hFc (fun u11 t H1 locs ht hvm hw12 hB hz1 hk1 hS => ?_)
  obtain ⟨hP1, hD1⟩ := hB
  rw [ht] at hP1
  obtain ⟨hP, hD⟩ := va_join (wr := [(h0, .inr (3, [.ref q1, .int 0, .int 0])), (q1, .inl (cQ, 20, .inr (.inr (.inr (.inr f7)))))]) (w1 := [(q9, .inr (1, [.int 0, .int 0, .ref (u11 0), .ref (u11 1), .ref (u11 2), .ref (u11 3), .ref (u11 4), .ref ho])), ((u11 0), .inl (cI, 8, .inl (fun _ => 0))), ((u11 1), .inl (cI, 8, .inl (fun _ => 0))), ((u11 2), .inl (cI, 8, .inl (fun _ => 0))), ((u11 3), .inl (cI, 4, .inl (fun _ => 0))), ((u11 4), .inl (cI, 4, .inl (fun _ => 0)))]) hP hD [2] [0, 1] rfl rfl (by decide) (by decide) hk1 hFc hP1 hD1
  clear hP1 hD1
  clear hz1 hk1 hPc hDc hFc
  generalize H1 = H at hP hS ht ⊢
  have hP : va_P (dC, dI) vwCl [(h0, .inr (3, [.ref q1, .int 0, .int 0])), (q1, .inl (cQ, 20, .inr (.inr (.inr (.inr f7))))), (q9, .inr (1, [.int 0, .int 0, .ref (u11 0), .ref (u11 1), .ref (u11 2), .ref (u11 3), .ref (u11 4), .ref ho])), ((u11 0), .inl (cI, 8, .inl (fun _ => 0))), ((u11 1), .inl (cI, 8, .inl (fun _ => 0))), ((u11 2), .inl (cI, 8, .inl (fun _ => 0))), ((u11 3), .inl (cI, 4, .inl (fun _ => 0))), ((u11 4), .inl (cI, 4, .inl (fun _ => 0)))] H := hP
  have hD : va_D A [(h0, .inr (3, [.ref q1, .int 0, .int 0])), (q1, .inl (cQ, 20, .inr (.inr (.inr (.inr f7))))), (q9, .inr (1, [.int 0, .int 0, .ref (u11 0), .ref (u11 1), .ref (u11 2), .ref (u11 3), .ref (u11 4), .ref ho])), ((u11 0), .inl (cI, 8, .inl (fun _ => 0))), ((u11 1), .inl (cI, 8, .inl (fun _ => 0))), ((u11 2), .inl (cI, 8, .inl (fun _ => 0))), ((u11 3), .inl (cI, 4, .inl (fun _ => 0))), ((u11 4), .inl (cI, 4, .inl (fun _ => 0)))] := hD
  refine W.widen (k := 13) (n := 100) (Nat.le_of_ble_eq_true rfl) (Nat.le_of_ble_eq_true rfl) ?_
  try dsimp only at hw12
  refine va_astq hx hb hK hP hD hS 1 2 2 1 rfl rfl rfl rfl (vp_in_iff.mpr ⟨by decide, by decide⟩) dX3_init_44 (fun H locs hP hD hS => ?_)
  generalize hgf13 : va_up _ _ _ = f13 at hP hD
  have hP : va_P (dC, dI) vwCl [(h0, .inr (3, [.ref q1, .int 0, .int 0])), (q1, .inl (cQ, 20, .inr (.inr (.inr (.inr f13))))), (q9, .inr (1, [.int 0, .int 0, .ref (u11 0), .ref (u11 1), .ref (u11 2), .ref (u11 3), .ref (u11 4), .ref ho])), ((u11 0), .inl (cI, 8, .inl (fun _ => 0))), ((u11 1), .inl (cI, 8, .inl (fun _ => 0))), ((u11 2), .inl (cI, 8, .inl (fun _ => 0))), ((u11 3), .inl (cI, 4, .inl (fun _ => 0))), ((u11 4), .inl (cI, 4, .inl (fun _ => 0)))] H := hP
  have hD : va_D A [(h0, .inr (3, [.ref q1, .int 0, .int 0])), (q1, .inl (cQ, 20, .inr (.inr (.inr (.inr f13))))), (q9, .inr (1, [.int 0, .int 0, .ref (u11 0), .ref (u11 1), .ref (u11 2), .ref (u11 3), .ref (u11 4), .ref ho])), ((u11 0), .inl (cI, 8, .inl (fun _ => 0))), ((u11 1), .inl (cI, 8, .inl (fun _ => 0))), ((u11 2), .inl (cI, 8, .inl (fun _ => 0))), ((u11 3), .inl (cI, 4, .inl (fun _ => 0))), ((u11 4), .inl (cI, 4, .inl (fun _ => 0)))] := hD
  have hP := hP.sub (ws' := [(h0, .inr (3, [.ref q1, .int 0, .int 0])), (q1, .inl (cQ, 20, .inr (.inr (.inr (.inr f13)))))]) [0, 1] rfl
  have hD := hD.sub (ws' := [(h0, .inr (3, [.ref q1, .int 0, .int 0])), (q1, .inl (cQ, 20, .inr (.inr (.inr (.inr f13)))))]) [0, 1] (by decide) rfl
  refine lv_iinc (v := 2) (lv' := [(2, .int 2), (0, .ref h0), (1, .ref ho)]) hx hb dX3_init_45 hl (k := 0) rfl (by decide) (by decide) rfl (fun ls hl => ?_)
  refine lv_goto (tgt := 25) hx hb dX3_init_48 (by decide) ?_
  refine lv_iload_n hx hb dX3_init_25 rfl (lv_at hl 0 rfl) ?_
  refine lv_bipush (v := 20) hx hb dX3_init_26 (by decide) ?_
  refine lv_icmp_ge (tgt := 51) hx hb dX3_init_28 (by decide) (fun c14 => ?_) (fun c14 => ?_)
  · exact absurd c14 (by decide)
  clear c14
  refine lv_aload_n hx hb dX3_init_31 rfl (lv_at hl 1 rfl) ?_
  refine va_get (D := (dC, dI)) (ci := 3) (v := .ref q1) (C := RX3) (T := TX3) (N := 3) hx hb hts hi_X3 hown hK hP 0 rfl rfl 0 (by decide) (hts (.fieldLink RX3 11 "LeftQuills$History" "desks" "[LLeftQuills$Desk;") (by decide +kernel)) (fun _ h9 => h9) rfl dX3_init_32 ?_
  refine lv_iload_n hx hb dX3_init_35 rfl (lv_at hl 0 rfl) ?_
  refine va_new (ci := 1) (fs := [.int 0, .int 0, .null, .null, .null, .null, .null, .null]) (C := RX1) (T := TX1) (N := 8) hx hb hts hi_X1 tyX1 tyX1_ok hown (hts (.classLink RX3 9 RX1) (by decide +kernel)) (hts (.instantiable RX1 8) (by decide +kernel)) (hts (.initialized RX1) (by decide +kernel)) hK hP hD hS hA rfl (fun j hj => by rcases (show j = 0 ∨ j = 1 ∨ j = 2 ∨ j = 3 ∨ j = 4 ∨ j = 5 ∨ j = 6 ∨ j = 7 by omega) with rfl | rfl | rfl | rfl | rfl | rfl | rfl | rfl <;> rfl) (Nat.le_of_ble_eq_true rfl) (Nat.le_of_ble_eq_true rfl) dX3_init_36 (fun q15 H hP hD hS => ?_)
  refine W.widen (k := 14) (n := 108) (Nat.le_of_ble_eq_true rfl) (Nat.le_of_ble_eq_true rfl) ?_
  have hP : va_P (dC, dI) vwCl [(h0, .inr (3, [.ref q1, .int 0, .int 0])), (q1, .inl (cQ, 20, .inr (.inr (.inr (.inr f13))))), (q15, .inr (1, [.int 0, .int 0, .null, .null, .null, .null, .null, .null]))] H := hP
  have hD : va_D A [(h0, .inr (3, [.ref q1, .int 0, .int 0])), (q1, .inl (cQ, 20, .inr (.inr (.inr (.inr f13))))), (q15, .inr (1, [.int 0, .int 0, .null, .null, .null, .null, .null, .null]))] := hD
  refine lv_dup hx hb dX3_init_39 rfl ?_
  refine lv_aload_n hx hb dX3_init_40 rfl (lv_at hl 2 rfl) ?_
  have hPc := hP.sub (ws' := [(q15, .inr (1, [.int 0, .int 0, .null, .null, .null, .null, .null, .null]))]) [2] rfl
  have hDc := hD.sub (ws' := [(q15, .inr (1, [.int 0, .int 0, .null, .null, .null, .null, .null, .null]))]) [2] (by decide) rfl
  have hFc := va_free (wc := [(q15, .inr (1, [.int 0, .int 0, .null, .null, .null, .null, .null, .null]))]) hD hS hA [2] rfl
  refine va_callv (va_runI (As := [.ref ho]) (rest := [.ref q15, .int 2, .ref q1]) ⟨hx, hb, hml, hown, hts⟩ (c_X1_init l dC dI cI cZ cQ q15 ho H.size ) (cwI 1 hts gX3_init_X1_init rfl rfl rfl (hts (.initialized RX1) (by decide +kernel)) (hts (.methodLink RX3 22 yX1_init) (by decide +kernel)) (hts (.instanceMethod yX1_init) (by decide +kernel)) rfl (by decide +kernel) ⟨Nat.le_of_ble_eq_true rfl, Nat.le_of_ble_eq_true rfl⟩) ⟨fun a U g mk q => by obtain ⟨q0, q1, qP, qK, qD⟩ := q; exact ⟨q0, q1, qP, va_K.moved (u := U) (U := U.calling g mk a) (Vm.Alike.refl U.vm) qK, qD⟩, fun U hU hW => ⟨rfl, by rw [hU], by rw [hU]; exact hPc, va_K.moved hW.alike hK, hDc.weaken (fun _ _ _ _ => trivial)⟩⟩ rfl rfl hl.1 rfl (lv_room (Nat.le_of_ble_eq_true rfl)) dX3_init_41 ⟨Nat.le_of_ble_eq_true rfl, Nat.le_of_ble_eq_true rfl⟩) hS (fun q _ h => hFc q h) hFc (fun u17 t H1 locs ht hvm hw18 hB hz1 hk1 hS => ?_)
  obtain ⟨hP1, hD1⟩ := hB
  rw [ht] at hP1
  obtain ⟨hP, hD⟩ := va_join (wr := [(h0, .inr (3, [.ref q1, .int 0, .int 0])), (q1, .inl (cQ, 20, .inr (.inr (.inr (.inr f13)))))]) (w1 := [(q15, .inr (1, [.int 0, .int 0, .ref (u17 0), .ref (u17 1), .ref (u17 2), .ref (u17 3), .ref (u17 4), .ref ho])), ((u17 0), .inl (cI, 8, .inl (fun _ => 0))), ((u17 1), .inl (cI, 8, .inl (fun _ => 0))), ((u17 2), .inl (cI, 8, .inl (fun _ => 0))), ((u17 3), .inl (cI, 4, .inl (fun _ => 0))), ((u17 4), .inl (cI, 4, .inl (fun _ => 0)))]) hP hD [2] [0, 1] rfl rfl (by decide) (by decide) hk1 hFc hP1 hD1
  clear hP1 hD1
  clear hz1 hk1 hPc hDc hFc
  generalize H1 = H at hP hS ht ⊢
  have hP : va_P (dC, dI) vwCl [(h0, .inr (3, [.ref q1, .int 0, .int 0])), (q1, .inl (cQ, 20, .inr (.inr (.inr (.inr f13))))), (q15, .inr (1, [.int 0, .int 0, .ref (u17 0), .ref (u17 1), .ref (u17 2), .ref (u17 3), .ref (u17 4), .ref ho])), ((u17 0), .inl (cI, 8, .inl (fun _ => 0))), ((u17 1), .inl (cI, 8, .inl (fun _ => 0))), ((u17 2), .inl (cI, 8, .inl (fun _ => 0))), ((u17 3), .inl (cI, 4, .inl (fun _ => 0))), ((u17 4), .inl (cI, 4, .inl (fun _ => 0)))] H := hP
  have hD : va_D A [(h0, .inr (3, [.ref q1, .int 0, .int 0])), (q1, .inl (cQ, 20, .inr (.inr (.inr (.inr f13))))), (q15, .inr (1, [.int 0, .int 0, .ref (u17 0), .ref (u17 1), .ref (u17 2), .ref (u17 3), .ref (u17 4), .ref ho])), ((u17 0), .inl (cI, 8, .inl (fun _ => 0))), ((u17 1), .inl (cI, 8, .inl (fun _ => 0))), ((u17 2), .inl (cI, 8, .inl (fun _ => 0))), ((u17 3), .inl (cI, 4, .inl (fun _ => 0))), ((u17 4), .inl (cI, 4, .inl (fun _ => 0)))] := hD
  refine W.widen (k := 19) (n := 140) (Nat.le_of_ble_eq_true rfl) (Nat.le_of_ble_eq_true rfl) ?_
  try dsimp only at hw18
  refine va_astq hx hb hK hP hD hS 1 2 2 1 rfl rfl rfl rfl (vp_in_iff.mpr ⟨by decide, by decide⟩) dX3_init_44 (fun H locs hP hD hS => ?_)
  generalize hgf19 : va_up _ _ _ = f19 at hP hD
  have hP : va_P (dC, dI) vwCl [(h0, .inr (3, [.ref q1, .int 0, .int 0])), (q1, .inl (cQ, 20, .inr (.inr (.inr (.inr f19))))), (q15, .inr (1, [.int 0, .int 0, .ref (u17 0), .ref (u17 1), .ref (u17 2), .ref (u17 3), .ref (u17 4), .ref ho])), ((u17 0), .inl (cI, 8, .inl (fun _ => 0))), ((u17 1), .inl (cI, 8, .inl (fun _ => 0))), ((u17 2), .inl (cI, 8, .inl (fun _ => 0))), ((u17 3), .inl (cI, 4, .inl (fun _ => 0))), ((u17 4), .inl (cI, 4, .inl (fun _ => 0)))] H := hP
  have hD : va_D A [(h0, .inr (3, [.ref q1, .int 0, .int 0])), (q1, .inl (cQ, 20, .inr (.inr (.inr (.inr f19))))), (q15, .inr (1, [.int 0, .int 0, .ref (u17 0), .ref (u17 1), .ref (u17 2), .ref (u17 3), .ref (u17 4), .ref ho])), ((u17 0), .inl (cI, 8, .inl (fun _ => 0))), ((u17 1), .inl (cI, 8, .inl (fun _ => 0))), ((u17 2), .inl (cI, 8, .inl (fun _ => 0))), ((u17 3), .inl (cI, 4, .inl (fun _ => 0))), ((u17 4), .inl (cI, 4, .inl (fun _ => 0)))] := hD
  have hP := hP.sub (ws' := [(h0, .inr (3, [.ref q1, .int 0, .int 0])), (q1, .inl (cQ, 20, .inr (.inr (.inr (.inr f19)))))]) [0, 1] rfl
  have hD := hD.sub (ws' := [(h0, .inr (3, [.ref q1, .int 0, .int 0])), (q1, .inl (cQ, 20, .inr (.inr (.inr (.inr f19)))))]) [0, 1] (by decide) rfl
  refine lv_iinc (v := 3) (lv' := [(2, .int 3), (0, .ref h0), (1, .ref ho)]) hx hb dX3_init_45 hl (k := 0) rfl (by decide) (by decide) rfl (fun ls hl => ?_)
  refine lv_goto (tgt := 25) hx hb dX3_init_48 (by decide) ?_
  refine lv_iload_n hx hb dX3_init_25 rfl (lv_at hl 0 rfl) ?_
  refine lv_bipush (v := 20) hx hb dX3_init_26 (by decide) ?_
  refine lv_icmp_ge (tgt := 51) hx hb dX3_init_28 (by decide) (fun c20 => ?_) (fun c20 => ?_)
  · exact absurd c20 (by decide)
  clear c20
  refine lv_aload_n hx hb dX3_init_31 rfl (lv_at hl 1 rfl) ?_
  refine va_get (D := (dC, dI)) (ci := 3) (v := .ref q1) (C := RX3) (T := TX3) (N := 3) hx hb hts hi_X3 hown hK hP 0 rfl rfl 0 (by decide) (hts (.fieldLink RX3 11 "LeftQuills$History" "desks" "[LLeftQuills$Desk;") (by decide +kernel)) (fun _ h9 => h9) rfl dX3_init_32 ?_
  refine lv_iload_n hx hb dX3_init_35 rfl (lv_at hl 0 rfl) ?_
  refine va_new (ci := 1) (fs := [.int 0, .int 0, .null, .null, .null, .null, .null, .null]) (C := RX1) (T := TX1) (N := 8) hx hb hts hi_X1 tyX1 tyX1_ok hown (hts (.classLink RX3 9 RX1) (by decide +kernel)) (hts (.instantiable RX1 8) (by decide +kernel)) (hts (.initialized RX1) (by decide +kernel)) hK hP hD hS hA rfl (fun j hj => by rcases (show j = 0 ∨ j = 1 ∨ j = 2 ∨ j = 3 ∨ j = 4 ∨ j = 5 ∨ j = 6 ∨ j = 7 by omega) with rfl | rfl | rfl | rfl | rfl | rfl | rfl | rfl <;> rfl) (Nat.le_of_ble_eq_true rfl) (Nat.le_of_ble_eq_true rfl) dX3_init_36 (fun q21 H hP hD hS => ?_)
  refine W.widen (k := 20) (n := 148) (Nat.le_of_ble_eq_true rfl) (Nat.le_of_ble_eq_true rfl) ?_
  have hP : va_P (dC, dI) vwCl [(h0, .inr (3, [.ref q1, .int 0, .int 0])), (q1, .inl (cQ, 20, .inr (.inr (.inr (.inr f19))))), (q21, .inr (1, [.int 0, .int 0, .null, .null, .null, .null, .null, .null]))] H := hP
  have hD : va_D A [(h0, .inr (3, [.ref q1, .int 0, .int 0])), (q1, .inl (cQ, 20, .inr (.inr (.inr (.inr f19))))), (q21, .inr (1, [.int 0, .int 0, .null, .null, .null, .null, .null, .null]))] := hD
  refine lv_dup hx hb dX3_init_39 rfl ?_
  refine lv_aload_n hx hb dX3_init_40 rfl (lv_at hl 2 rfl) ?_
  have hPc := hP.sub (ws' := [(q21, .inr (1, [.int 0, .int 0, .null, .null, .null, .null, .null, .null]))]) [2] rfl
  have hDc := hD.sub (ws' := [(q21, .inr (1, [.int 0, .int 0, .null, .null, .null, .null, .null, .null]))]) [2] (by decide) rfl
  have hFc := va_free (wc := [(q21, .inr (1, [.int 0, .int 0, .null, .null, .null, .null, .null, .null]))]) hD hS hA [2] rfl
  refine va_callv (va_runI (As := [.ref ho]) (rest := [.ref q21, .int 3, .ref q1]) ⟨hx, hb, hml, hown, hts⟩ (c_X1_init l dC dI cI cZ cQ q21 ho H.size ) (cwI 1 hts gX3_init_X1_init rfl rfl rfl (hts (.initialized RX1) (by decide +kernel)) (hts (.methodLink RX3 22 yX1_init) (by decide +kernel)) (hts (.instanceMethod yX1_init) (by decide +kernel)) rfl (by decide +kernel) ⟨Nat.le_of_ble_eq_true rfl, Nat.le_of_ble_eq_true rfl⟩) ⟨fun a U g mk q => by obtain ⟨q0, q1, qP, qK, qD⟩ := q; exact ⟨q0, q1, qP, va_K.moved (u := U) (U := U.calling g mk a) (Vm.Alike.refl U.vm) qK, qD⟩, fun U hU hW => ⟨rfl, by rw [hU], by rw [hU]; exact hPc, va_K.moved hW.alike hK, hDc.weaken (fun _ _ _ _ => trivial)⟩⟩ rfl rfl hl.1 rfl (lv_room (Nat.le_of_ble_eq_true rfl)) dX3_init_41 ⟨Nat.le_of_ble_eq_true rfl, Nat.le_of_ble_eq_true rfl⟩) hS (fun q _ h => hFc q h) hFc (fun u23 t H1 locs ht hvm hw24 hB hz1 hk1 hS => ?_)
  obtain ⟨hP1, hD1⟩ := hB
  rw [ht] at hP1
  obtain ⟨hP, hD⟩ := va_join (wr := [(h0, .inr (3, [.ref q1, .int 0, .int 0])), (q1, .inl (cQ, 20, .inr (.inr (.inr (.inr f19)))))]) (w1 := [(q21, .inr (1, [.int 0, .int 0, .ref (u23 0), .ref (u23 1), .ref (u23 2), .ref (u23 3), .ref (u23 4), .ref ho])), ((u23 0), .inl (cI, 8, .inl (fun _ => 0))), ((u23 1), .inl (cI, 8, .inl (fun _ => 0))), ((u23 2), .inl (cI, 8, .inl (fun _ => 0))), ((u23 3), .inl (cI, 4, .inl (fun _ => 0))), ((u23 4), .inl (cI, 4, .inl (fun _ => 0)))]) hP hD [2] [0, 1] rfl rfl (by decide) (by decide) hk1 hFc hP1 hD1
  clear hP1 hD1
  clear hz1 hk1 hPc hDc hFc
  generalize H1 = H at hP hS ht ⊢
  have hP : va_P (dC, dI) vwCl [(h0, .inr (3, [.ref q1, .int 0, .int 0])), (q1, .inl (cQ, 20, .inr (.inr (.inr (.inr f19))))), (q21, .inr (1, [.int 0, .int 0, .ref (u23 0), .ref (u23 1), .ref (u23 2), .ref (u23 3), .ref (u23 4), .ref ho])), ((u23 0), .inl (cI, 8, .inl (fun _ => 0))), ((u23 1), .inl (cI, 8, .inl (fun _ => 0))), ((u23 2), .inl (cI, 8, .inl (fun _ => 0))), ((u23 3), .inl (cI, 4, .inl (fun _ => 0))), ((u23 4), .inl (cI, 4, .inl (fun _ => 0)))] H := hP
  have hD : va_D A [(h0, .inr (3, [.ref q1, .int 0, .int 0])), (q1, .inl (cQ, 20, .inr (.inr (.inr (.inr f19))))), (q21, .inr (1, [.int 0, .int 0, .ref (u23 0), .ref (u23 1), .ref (u23 2), .ref (u23 3), .ref (u23 4), .ref ho])), ((u23 0), .inl (cI, 8, .inl (fun _ => 0))), ((u23 1), .inl (cI, 8, .inl (fun _ => 0))), ((u23 2), .inl (cI, 8, .inl (fun _ => 0))), ((u23 3), .inl (cI, 4, .inl (fun _ => 0))), ((u23 4), .inl (cI, 4, .inl (fun _ => 0)))] := hD
  refine W.widen (k := 25) (n := 180) (Nat.le_of_ble_eq_true rfl) (Nat.le_of_ble_eq_true rfl) ?_
  try dsimp only at hw24
  refine va_astq hx hb hK hP hD hS 1 2 2 1 rfl rfl rfl rfl (vp_in_iff.mpr ⟨by decide, by decide⟩) dX3_init_44 (fun H locs hP hD hS => ?_)
  generalize hgf25 : va_up _ _ _ = f25 at hP hD
  have hP : va_P (dC, dI) vwCl [(h0, .inr (3, [.ref q1, .int 0, .int 0])), (q1, .inl (cQ, 20, .inr (.inr (.inr (.inr f25))))), (q21, .inr (1, [.int 0, .int 0, .ref (u23 0), .ref (u23 1), .ref (u23 2), .ref (u23 3), .ref (u23 4), .ref ho])), ((u23 0), .inl (cI, 8, .inl (fun _ => 0))), ((u23 1), .inl (cI, 8, .inl (fun _ => 0))), ((u23 2), .inl (cI, 8, .inl (fun _ => 0))), ((u23 3), .inl (cI, 4, .inl (fun _ => 0))), ((u23 4), .inl (cI, 4, .inl (fun _ => 0)))] H := hP
  have hD : va_D A [(h0, .inr (3, [.ref q1, .int 0, .int 0])), (q1, .inl (cQ, 20, .inr (.inr (.inr (.inr f25))))), (q21, .inr (1, [.int 0, .int 0, .ref (u23 0), .ref (u23 1), .ref (u23 2), .ref (u23 3), .ref (u23 4), .ref ho])), ((u23 0), .inl (cI, 8, .inl (fun _ => 0))), ((u23 1), .inl (cI, 8, .inl (fun _ => 0))), ((u23 2), .inl (cI, 8, .inl (fun _ => 0))), ((u23 3), .inl (cI, 4, .inl (fun _ => 0))), ((u23 4), .inl (cI, 4, .inl (fun _ => 0)))] := hD
  have hP := hP.sub (ws' := [(h0, .inr (3, [.ref q1, .int 0, .int 0])), (q1, .inl (cQ, 20, .inr (.inr (.inr (.inr f25)))))]) [0, 1] rfl
  have hD := hD.sub (ws' := [(h0, .inr (3, [.ref q1, .int 0, .int 0])), (q1, .inl (cQ, 20, .inr (.inr (.inr (.inr f25)))))]) [0, 1] (by decide) rfl
  refine lv_iinc (v := 4) (lv' := [(2, .int 4), (0, .ref h0), (1, .ref ho)]) hx hb dX3_init_45 hl (k := 0) rfl (by decide) (by decide) rfl (fun ls hl => ?_)
  refine lv_goto (tgt := 25) hx hb dX3_init_48 (by decide) ?_
  refine lv_iload_n hx hb dX3_init_25 rfl (lv_at hl 0 rfl) ?_
  refine lv_bipush (v := 20) hx hb dX3_init_26 (by decide) ?_
  refine lv_icmp_ge (tgt := 51) hx hb dX3_init_28 (by decide) (fun c26 => ?_) (fun c26 => ?_)
  · exact absurd c26 (by decide)
  clear c26
  refine lv_aload_n hx hb dX3_init_31 rfl (lv_at hl 1 rfl) ?_
  refine va_get (D := (dC, dI)) (ci := 3) (v := .ref q1) (C := RX3) (T := TX3) (N := 3) hx hb hts hi_X3 hown hK hP 0 rfl rfl 0 (by decide) (hts (.fieldLink RX3 11 "LeftQuills$History" "desks" "[LLeftQuills$Desk;") (by decide +kernel)) (fun _ h9 => h9) rfl dX3_init_32 ?_
  refine lv_iload_n hx hb dX3_init_35 rfl (lv_at hl 0 rfl) ?_
  refine va_new (ci := 1) (fs := [.int 0, .int 0, .null, .null, .null, .null, .null, .null]) (C := RX1) (T := TX1) (N := 8) hx hb hts hi_X1 tyX1 tyX1_ok hown (hts (.classLink RX3 9 RX1) (by decide +kernel)) (hts (.instantiable RX1 8) (by decide +kernel)) (hts (.initialized RX1) (by decide +kernel)) hK hP hD hS hA rfl (fun j hj => by rcases (show j = 0 ∨ j = 1 ∨ j = 2 ∨ j = 3 ∨ j = 4 ∨ j = 5 ∨ j = 6 ∨ j = 7 by omega) with rfl | rfl | rfl | rfl | rfl | rfl | rfl | rfl <;> rfl) (Nat.le_of_ble_eq_true rfl) (Nat.le_of_ble_eq_true rfl) dX3_init_36 (fun q27 H hP hD hS => ?_)
  refine W.widen (k := 26) (n := 188) (Nat.le_of_ble_eq_true rfl) (Nat.le_of_ble_eq_true rfl) ?_
  have hP : va_P (dC, dI) vwCl [(h0, .inr (3, [.ref q1, .int 0, .int 0])), (q1, .inl (cQ, 20, .inr (.inr (.inr (.inr f25))))), (q27, .inr (1, [.int 0, .int 0, .null, .null, .null, .null, .null, .null]))] H := hP
  have hD : va_D A [(h0, .inr (3, [.ref q1, .int 0, .int 0])), (q1, .inl (cQ, 20, .inr (.inr (.inr (.inr f25))))), (q27, .inr (1, [.int 0, .int 0, .null, .null, .null, .null, .null, .null]))] := hD
  refine lv_dup hx hb dX3_init_39 rfl ?_
  refine lv_aload_n hx hb dX3_init_40 rfl (lv_at hl 2 rfl) ?_
  have hPc := hP.sub (ws' := [(q27, .inr (1, [.int 0, .int 0, .null, .null, .null, .null, .null, .null]))]) [2] rfl
  have hDc := hD.sub (ws' := [(q27, .inr (1, [.int 0, .int 0, .null, .null, .null, .null, .null, .null]))]) [2] (by decide) rfl
  have hFc := va_free (wc := [(q27, .inr (1, [.int 0, .int 0, .null, .null, .null, .null, .null, .null]))]) hD hS hA [2] rfl
  refine va_callv (va_runI (As := [.ref ho]) (rest := [.ref q27, .int 4, .ref q1]) ⟨hx, hb, hml, hown, hts⟩ (c_X1_init l dC dI cI cZ cQ q27 ho H.size ) (cwI 1 hts gX3_init_X1_init rfl rfl rfl (hts (.initialized RX1) (by decide +kernel)) (hts (.methodLink RX3 22 yX1_init) (by decide +kernel)) (hts (.instanceMethod yX1_init) (by decide +kernel)) rfl (by decide +kernel) ⟨Nat.le_of_ble_eq_true rfl, Nat.le_of_ble_eq_true rfl⟩) ⟨fun a U g mk q => by obtain ⟨q0, q1, qP, qK, qD⟩ := q; exact ⟨q0, q1, qP, va_K.moved (u := U) (U := U.calling g mk a) (Vm.Alike.refl U.vm) qK, qD⟩, fun U hU hW => ⟨rfl, by rw [hU], by rw [hU]; exact hPc, va_K.moved hW.alike hK, hDc.weaken (fun _ _ _ _ => trivial)⟩⟩ rfl rfl hl.1 rfl (lv_room (Nat.le_of_ble_eq_true rfl)) dX3_init_41 ⟨Nat.le_of_ble_eq_true rfl, Nat.le_of_ble_eq_true rfl⟩) hS (fun q _ h => hFc q h) hFc (fun u29 t H1 locs ht hvm hw30 hB hz1 hk1 hS => ?_)
  obtain ⟨hP1, hD1⟩ := hB
  rw [ht] at hP1
  obtain ⟨hP, hD⟩ := va_join (wr := [(h0, .inr (3, [.ref q1, .int 0, .int 0])), (q1, .inl (cQ, 20, .inr (.inr (.inr (.inr f25)))))]) (w1 := [(q27, .inr (1, [.int 0, .int 0, .ref (u29 0), .ref (u29 1), .ref (u29 2), .ref (u29 3), .ref (u29 4), .ref ho])), ((u29 0), .inl (cI, 8, .inl (fun _ => 0))), ((u29 1), .inl (cI, 8, .inl (fun _ => 0))), ((u29 2), .inl (cI, 8, .inl (fun _ => 0))), ((u29 3), .inl (cI, 4, .inl (fun _ => 0))), ((u29 4), .inl (cI, 4, .inl (fun _ => 0)))]) hP hD [2] [0, 1] rfl rfl (by decide) (by decide) hk1 hFc hP1 hD1
  clear hP1 hD1
  clear hz1 hk1 hPc hDc hFc
  generalize H1 = H at hP hS ht ⊢
  have hP : va_P (dC, dI) vwCl [(h0, .inr (3, [.ref q1, .int 0, .int 0])), (q1, .inl (cQ, 20, .inr (.inr (.inr (.inr f25))))), (q27, .inr (1, [.int 0, .int 0, .ref (u29 0), .ref (u29 1), .ref (u29 2), .ref (u29 3), .ref (u29 4), .ref ho])), ((u29 0), .inl (cI, 8, .inl (fun _ => 0))), ((u29 1), .inl (cI, 8, .inl (fun _ => 0))), ((u29 2), .inl (cI, 8, .inl (fun _ => 0))), ((u29 3), .inl (cI, 4, .inl (fun _ => 0))), ((u29 4), .inl (cI, 4, .inl (fun _ => 0)))] H := hP
  have hD : va_D A [(h0, .inr (3, [.ref q1, .int 0, .int 0])), (q1, .inl (cQ, 20, .inr (.inr (.inr (.inr f25))))), (q27, .inr (1, [.int 0, .int 0, .ref (u29 0), .ref (u29 1), .ref (u29 2), .ref (u29 3), .ref (u29 4), .ref ho])), ((u29 0), .inl (cI, 8, .inl (fun _ => 0))), ((u29 1), .inl (cI, 8, .inl (fun _ => 0))), ((u29 2), .inl (cI, 8, .inl (fun _ => 0))), ((u29 3), .inl (cI, 4, .inl (fun _ => 0))), ((u29 4), .inl (cI, 4, .inl (fun _ => 0)))] := hD
  refine W.widen (k := 31) (n := 220) (Nat.le_of_ble_eq_true rfl) (Nat.le_of_ble_eq_true rfl) ?_
  try dsimp only at hw30
  refine va_astq hx hb hK hP hD hS 1 2 2 1 rfl rfl rfl rfl (vp_in_iff.mpr ⟨by decide, by decide⟩) dX3_init_44 (fun H locs hP hD hS => ?_)
  generalize hgf31 : va_up _ _ _ = f31 at hP hD
  have hP : va_P (dC, dI) vwCl [(h0, .inr (3, [.ref q1, .int 0, .int 0])), (q1, .inl (cQ, 20, .inr (.inr (.inr (.inr f31))))), (q27, .inr (1, [.int 0, .int 0, .ref (u29 0), .ref (u29 1), .ref (u29 2), .ref (u29 3), .ref (u29 4), .ref ho])), ((u29 0), .inl (cI, 8, .inl (fun _ => 0))), ((u29 1), .inl (cI, 8, .inl (fun _ => 0))), ((u29 2), .inl (cI, 8, .inl (fun _ => 0))), ((u29 3), .inl (cI, 4, .inl (fun _ => 0))), ((u29 4), .inl (cI, 4, .inl (fun _ => 0)))] H := hP
  have hD : va_D A [(h0, .inr (3, [.ref q1, .int 0, .int 0])), (q1, .inl (cQ, 20, .inr (.inr (.inr (.inr f31))))), (q27, .inr (1, [.int 0, .int 0, .ref (u29 0), .ref (u29 1), .ref (u29 2), .ref (u29 3), .ref (u29 4), .ref ho])), ((u29 0), .inl (cI, 8, .inl (fun _ => 0))), ((u29 1), .inl (cI, 8, .inl (fun _ => 0))), ((u29 2), .inl (cI, 8, .inl (fun _ => 0))), ((u29 3), .inl (cI, 4, .inl (fun _ => 0))), ((u29 4), .inl (cI, 4, .inl (fun _ => 0)))] := hD
  have hP := hP.sub (ws' := [(h0, .inr (3, [.ref q1, .int 0, .int 0])), (q1, .inl (cQ, 20, .inr (.inr (.inr (.inr f31)))))]) [0, 1] rfl
  have hD := hD.sub (ws' := [(h0, .inr (3, [.ref q1, .int 0, .int 0])), (q1, .inl (cQ, 20, .inr (.inr (.inr (.inr f31)))))]) [0, 1] (by decide) rfl
  refine lv_iinc (v := 5) (lv' := [(2, .int 5), (0, .ref h0), (1, .ref ho)]) hx hb dX3_init_45 hl (k := 0) rfl (by decide) (by decide) rfl (fun ls hl => ?_)
  refine lv_goto (tgt := 25) hx hb dX3_init_48 (by decide) ?_
  refine lv_iload_n hx hb dX3_init_25 rfl (lv_at hl 0 rfl) ?_
  refine lv_bipush (v := 20) hx hb dX3_init_26 (by decide) ?_
  refine lv_icmp_ge (tgt := 51) hx hb dX3_init_28 (by decide) (fun c32 => ?_) (fun c32 => ?_)
  · exact absurd c32 (by decide)
  clear c32
  refine lv_aload_n hx hb dX3_init_31 rfl (lv_at hl 1 rfl) ?_
  refine va_get (D := (dC, dI)) (ci := 3) (v := .ref q1) (C := RX3) (T := TX3) (N := 3) hx hb hts hi_X3 hown hK hP 0 rfl rfl 0 (by decide) (hts (.fieldLink RX3 11 "LeftQuills$History" "desks" "[LLeftQuills$Desk;") (by decide +kernel)) (fun _ h9 => h9) rfl dX3_init_32 ?_
  refine lv_iload_n hx hb dX3_init_35 rfl (lv_at hl 0 rfl) ?_
  refine va_new (ci := 1) (fs := [.int 0, .int 0, .null, .null, .null, .null, .null, .null]) (C := RX1) (T := TX1) (N := 8) hx hb hts hi_X1 tyX1 tyX1_ok hown (hts (.classLink RX3 9 RX1) (by decide +kernel)) (hts (.instantiable RX1 8) (by decide +kernel)) (hts (.initialized RX1) (by decide +kernel)) hK hP hD hS hA rfl (fun j hj => by rcases (show j = 0 ∨ j = 1 ∨ j = 2 ∨ j = 3 ∨ j = 4 ∨ j = 5 ∨ j = 6 ∨ j = 7 by omega) with rfl | rfl | rfl | rfl | rfl | rfl | rfl | rfl <;> rfl) (Nat.le_of_ble_eq_true rfl) (Nat.le_of_ble_eq_true rfl) dX3_init_36 (fun q33 H hP hD hS => ?_)
  refine W.widen (k := 32) (n := 228) (Nat.le_of_ble_eq_true rfl) (Nat.le_of_ble_eq_true rfl) ?_
  have hP : va_P (dC, dI) vwCl [(h0, .inr (3, [.ref q1, .int 0, .int 0])), (q1, .inl (cQ, 20, .inr (.inr (.inr (.inr f31))))), (q33, .inr (1, [.int 0, .int 0, .null, .null, .null, .null, .null, .null]))] H := hP
  have hD : va_D A [(h0, .inr (3, [.ref q1, .int 0, .int 0])), (q1, .inl (cQ, 20, .inr (.inr (.inr (.inr f31))))), (q33, .inr (1, [.int 0, .int 0, .null, .null, .null, .null, .null, .null]))] := hD
  refine lv_dup hx hb dX3_init_39 rfl ?_
  refine lv_aload_n hx hb dX3_init_40 rfl (lv_at hl 2 rfl) ?_
  have hPc := hP.sub (ws' := [(q33, .inr (1, [.int 0, .int 0, .null, .null, .null, .null, .null, .null]))]) [2] rfl
  have hDc := hD.sub (ws' := [(q33, .inr (1, [.int 0, .int 0, .null, .null, .null, .null, .null, .null]))]) [2] (by decide) rfl
  have hFc := va_free (wc := [(q33, .inr (1, [.int 0, .int 0, .null, .null, .null, .null, .null, .null]))]) hD hS hA [2] rfl
  refine va_callv (va_runI (As := [.ref ho]) (rest := [.ref q33, .int 5, .ref q1]) ⟨hx, hb, hml, hown, hts⟩ (c_X1_init l dC dI cI cZ cQ q33 ho H.size ) (cwI 1 hts gX3_init_X1_init rfl rfl rfl (hts (.initialized RX1) (by decide +kernel)) (hts (.methodLink RX3 22 yX1_init) (by decide +kernel)) (hts (.instanceMethod yX1_init) (by decide +kernel)) rfl (by decide +kernel) ⟨Nat.le_of_ble_eq_true rfl, Nat.le_of_ble_eq_true rfl⟩) ⟨fun a U g mk q => by obtain ⟨q0, q1, qP, qK, qD⟩ := q; exact ⟨q0, q1, qP, va_K.moved (u := U) (U := U.calling g mk a) (Vm.Alike.refl U.vm) qK, qD⟩, fun U hU hW => ⟨rfl, by rw [hU], by rw [hU]; exact hPc, va_K.moved hW.alike hK, hDc.weaken (fun _ _ _ _ => trivial)⟩⟩ rfl rfl hl.1 rfl (lv_room (Nat.le_of_ble_eq_true rfl)) dX3_init_41 ⟨Nat.le_of_ble_eq_true rfl, Nat.le_of_ble_eq_true rfl⟩) hS (fun q _ h => hFc q h) hFc (fun u35 t H1 locs ht hvm hw36 hB hz1 hk1 hS => ?_)
  obtain ⟨hP1, hD1⟩ := hB
  rw [ht] at hP1
  obtain ⟨hP, hD⟩ := va_join (wr := [(h0, .inr (3, [.ref q1, .int 0, .int 0])), (q1, .inl (cQ, 20, .inr (.inr (.inr (.inr f31)))))]) (w1 := [(q33, .inr (1, [.int 0, .int 0, .ref (u35 0), .ref (u35 1), .ref (u35 2), .ref (u35 3), .ref (u35 4), .ref ho])), ((u35 0), .inl (cI, 8, .inl (fun _ => 0))), ((u35 1), .inl (cI, 8, .inl (fun _ => 0))), ((u35 2), .inl (cI, 8, .inl (fun _ => 0))), ((u35 3), .inl (cI, 4, .inl (fun _ => 0))), ((u35 4), .inl (cI, 4, .inl (fun _ => 0)))]) hP hD [2] [0, 1] rfl rfl (by decide) (by decide) hk1 hFc hP1 hD1
  clear hP1 hD1
  clear hz1 hk1 hPc hDc hFc
  generalize H1 = H at hP hS ht ⊢
  have hP : va_P (dC, dI) vwCl [(h0, .inr (3, [.ref q1, .int 0, .int 0])), (q1, .inl (cQ, 20, .inr (.inr (.inr (.inr f31))))), (q33, .inr (1, [.int 0, .int 0, .ref (u35 0), .ref (u35 1), .ref (u35 2), .ref (u35 3), .ref (u35 4), .ref ho])), ((u35 0), .inl (cI, 8, .inl (fun _ => 0))), ((u35 1), .inl (cI, 8, .inl (fun _ => 0))), ((u35 2), .inl (cI, 8, .inl (fun _ => 0))), ((u35 3), .inl (cI, 4, .inl (fun _ => 0))), ((u35 4), .inl (cI, 4, .inl (fun _ => 0)))] H := hP
  have hD : va_D A [(h0, .inr (3, [.ref q1, .int 0, .int 0])), (q1, .inl (cQ, 20, .inr (.inr (.inr (.inr f31))))), (q33, .inr (1, [.int 0, .int 0, .ref (u35 0), .ref (u35 1), .ref (u35 2), .ref (u35 3), .ref (u35 4), .ref ho])), ((u35 0), .inl (cI, 8, .inl (fun _ => 0))), ((u35 1), .inl (cI, 8, .inl (fun _ => 0))), ((u35 2), .inl (cI, 8, .inl (fun _ => 0))), ((u35 3), .inl (cI, 4, .inl (fun _ => 0))), ((u35 4), .inl (cI, 4, .inl (fun _ => 0)))] := hD
  refine W.widen (k := 37) (n := 260) (Nat.le_of_ble_eq_true rfl) (Nat.le_of_ble_eq_true rfl) ?_
  try dsimp only at hw36
  refine va_astq hx hb hK hP hD hS 1 2 2 1 rfl rfl rfl rfl (vp_in_iff.mpr ⟨by decide, by decide⟩) dX3_init_44 (fun H locs hP hD hS => ?_)
  generalize hgf37 : va_up _ _ _ = f37 at hP hD
  have hP : va_P (dC, dI) vwCl [(h0, .inr (3, [.ref q1, .int 0, .int 0])), (q1, .inl (cQ, 20, .inr (.inr (.inr (.inr f37))))), (q33, .inr (1, [.int 0, .int 0, .ref (u35 0), .ref (u35 1), .ref (u35 2), .ref (u35 3), .ref (u35 4), .ref ho])), ((u35 0), .inl (cI, 8, .inl (fun _ => 0))), ((u35 1), .inl (cI, 8, .inl (fun _ => 0))), ((u35 2), .inl (cI, 8, .inl (fun _ => 0))), ((u35 3), .inl (cI, 4, .inl (fun _ => 0))), ((u35 4), .inl (cI, 4, .inl (fun _ => 0)))] H := hP
  have hD : va_D A [(h0, .inr (3, [.ref q1, .int 0, .int 0])), (q1, .inl (cQ, 20, .inr (.inr (.inr (.inr f37))))), (q33, .inr (1, [.int 0, .int 0, .ref (u35 0), .ref (u35 1), .ref (u35 2), .ref (u35 3), .ref (u35 4), .ref ho])), ((u35 0), .inl (cI, 8, .inl (fun _ => 0))), ((u35 1), .inl (cI, 8, .inl (fun _ => 0))), ((u35 2), .inl (cI, 8, .inl (fun _ => 0))), ((u35 3), .inl (cI, 4, .inl (fun _ => 0))), ((u35 4), .inl (cI, 4, .inl (fun _ => 0)))] := hD
  have hP := hP.sub (ws' := [(h0, .inr (3, [.ref q1, .int 0, .int 0])), (q1, .inl (cQ, 20, .inr (.inr (.inr (.inr f37)))))]) [0, 1] rfl
  have hD := hD.sub (ws' := [(h0, .inr (3, [.ref q1, .int 0, .int 0])), (q1, .inl (cQ, 20, .inr (.inr (.inr (.inr f37)))))]) [0, 1] (by decide) rfl
  refine lv_iinc (v := 6) (lv' := [(2, .int 6), (0, .ref h0), (1, .ref ho)]) hx hb dX3_init_45 hl (k := 0) rfl (by decide) (by decide) rfl (fun ls hl => ?_)
  refine lv_goto (tgt := 25) hx hb dX3_init_48 (by decide) ?_
  refine lv_iload_n hx hb dX3_init_25 rfl (lv_at hl 0 rfl) ?_
  refine lv_bipush (v := 20) hx hb dX3_init_26 (by decide) ?_
  refine lv_icmp_ge (tgt := 51) hx hb dX3_init_28 (by decide) (fun c38 => ?_) (fun c38 => ?_)
  · exact absurd c38 (by decide)
  clear c38
  refine lv_aload_n hx hb dX3_init_31 rfl (lv_at hl 1 rfl) ?_
  refine va_get (D := (dC, dI)) (ci := 3) (v := .ref q1) (C := RX3) (T := TX3) (N := 3) hx hb hts hi_X3 hown hK hP 0 rfl rfl 0 (by decide) (hts (.fieldLink RX3 11 "LeftQuills$History" "desks" "[LLeftQuills$Desk;") (by decide +kernel)) (fun _ h9 => h9) rfl dX3_init_32 ?_
  refine lv_iload_n hx hb dX3_init_35 rfl (lv_at hl 0 rfl) ?_
  refine va_new (ci := 1) (fs := [.int 0, .int 0, .null, .null, .null, .null, .null, .null]) (C := RX1) (T := TX1) (N := 8) hx hb hts hi_X1 tyX1 tyX1_ok hown (hts (.classLink RX3 9 RX1) (by decide +kernel)) (hts (.instantiable RX1 8) (by decide +kernel)) (hts (.initialized RX1) (by decide +kernel)) hK hP hD hS hA rfl (fun j hj => by rcases (show j = 0 ∨ j = 1 ∨ j = 2 ∨ j = 3 ∨ j = 4 ∨ j = 5 ∨ j = 6 ∨ j = 7 by omega) with rfl | rfl | rfl | rfl | rfl | rfl | rfl | rfl <;> rfl) (Nat.le_of_ble_eq_true rfl) (Nat.le_of_ble_eq_true rfl) dX3_init_36 (fun q39 H hP hD hS => ?_)
  refine W.widen (k := 38) (n := 268) (Nat.le_of_ble_eq_true rfl) (Nat.le_of_ble_eq_true rfl) ?_
  have hP : va_P (dC, dI) vwCl [(h0, .inr (3, [.ref q1, .int 0, .int 0])), (q1, .inl (cQ, 20, .inr (.inr (.inr (.inr f37))))), (q39, .inr (1, [.int 0, .int 0, .null, .null, .null, .null, .null, .null]))] H := hP
  have hD : va_D A [(h0, .inr (3, [.ref q1, .int 0, .int 0])), (q1, .inl (cQ, 20, .inr (.inr (.inr (.inr f37))))), (q39, .inr (1, [.int 0, .int 0, .null, .null, .null, .null, .null, .null]))] := hD
  refine lv_dup hx hb dX3_init_39 rfl ?_
  refine lv_aload_n hx hb dX3_init_40 rfl (lv_at hl 2 rfl) ?_
  have hPc := hP.sub (ws' := [(q39, .inr (1, [.int 0, .int 0, .null, .null, .null, .null, .null, .null]))]) [2] rfl
  have hDc := hD.sub (ws' := [(q39, .inr (1, [.int 0, .int 0, .null, .null, .null, .null, .null, .null]))]) [2] (by decide) rfl
  have hFc := va_free (wc := [(q39, .inr (1, [.int 0, .int 0, .null, .null, .null, .null, .null, .null]))]) hD hS hA [2] rfl
  refine va_callv (va_runI (As := [.ref ho]) (rest := [.ref q39, .int 6, .ref q1]) ⟨hx, hb, hml, hown, hts⟩ (c_X1_init l dC dI cI cZ cQ q39 ho H.size ) (cwI 1 hts gX3_init_X1_init rfl rfl rfl (hts (.initialized RX1) (by decide +kernel)) (hts (.methodLink RX3 22 yX1_init) (by decide +kernel)) (hts (.instanceMethod yX1_init) (by decide +kernel)) rfl (by decide +kernel) ⟨Nat.le_of_ble_eq_true rfl, Nat.le_of_ble_eq_true rfl⟩) ⟨fun a U g mk q => by obtain ⟨q0, q1, qP, qK, qD⟩ := q; exact ⟨q0, q1, qP, va_K.moved (u := U) (U := U.calling g mk a) (Vm.Alike.refl U.vm) qK, qD⟩, fun U hU hW => ⟨rfl, by rw [hU], by rw [hU]; exact hPc, va_K.moved hW.alike hK, hDc.weaken (fun _ _ _ _ => trivial)⟩⟩ rfl rfl hl.1 rfl (lv_room (Nat.le_of_ble_eq_true rfl)) dX3_init_41 ⟨Nat.le_of_ble_eq_true rfl, Nat.le_of_ble_eq_true rfl⟩) hS (fun q _ h => hFc q h) hFc (fun u41 t H1 locs ht hvm hw42 hB hz1 hk1 hS => ?_)
  obtain ⟨hP1, hD1⟩ := hB
  rw [ht] at hP1
  obtain ⟨hP, hD⟩ := va_join (wr := [(h0, .inr (3, [.ref q1, .int 0, .int 0])), (q1, .inl (cQ, 20, .inr (.inr (.inr (.inr f37)))))]) (w1 := [(q39, .inr (1, [.int 0, .int 0, .ref (u41 0), .ref (u41 1), .ref (u41 2), .ref (u41 3), .ref (u41 4), .ref ho])), ((u41 0), .inl (cI, 8, .inl (fun _ => 0))), ((u41 1), .inl (cI, 8, .inl (fun _ => 0))), ((u41 2), .inl (cI, 8, .inl (fun _ => 0))), ((u41 3), .inl (cI, 4, .inl (fun _ => 0))), ((u41 4), .inl (cI, 4, .inl (fun _ => 0)))]) hP hD [2] [0, 1] rfl rfl (by decide) (by decide) hk1 hFc hP1 hD1
  clear hP1 hD1
  clear hz1 hk1 hPc hDc hFc
  generalize H1 = H at hP hS ht ⊢
  have hP : va_P (dC, dI) vwCl [(h0, .inr (3, [.ref q1, .int 0, .int 0])), (q1, .inl (cQ, 20, .inr (.inr (.inr (.inr f37))))), (q39, .inr (1, [.int 0, .int 0, .ref (u41 0), .ref (u41 1), .ref (u41 2), .ref (u41 3), .ref (u41 4), .ref ho])), ((u41 0), .inl (cI, 8, .inl (fun _ => 0))), ((u41 1), .inl (cI, 8, .inl (fun _ => 0))), ((u41 2), .inl (cI, 8, .inl (fun _ => 0))), ((u41 3), .inl (cI, 4, .inl (fun _ => 0))), ((u41 4), .inl (cI, 4, .inl (fun _ => 0)))] H := hP
  have hD : va_D A [(h0, .inr (3, [.ref q1, .int 0, .int 0])), (q1, .inl (cQ, 20, .inr (.inr (.inr (.inr f37))))), (q39, .inr (1, [.int 0, .int 0, .ref (u41 0), .ref (u41 1), .ref (u41 2), .ref (u41 3), .ref (u41 4), .ref ho])), ((u41 0), .inl (cI, 8, .inl (fun _ => 0))), ((u41 1), .inl (cI, 8, .inl (fun _ => 0))), ((u41 2), .inl (cI, 8, .inl (fun _ => 0))), ((u41 3), .inl (cI, 4, .inl (fun _ => 0))), ((u41 4), .inl (cI, 4, .inl (fun _ => 0)))] := hD
  refine W.widen (k := 43) (n := 300) (Nat.le_of_ble_eq_true rfl) (Nat.le_of_ble_eq_true rfl) ?_
  try dsimp only at hw42
  refine va_astq hx hb hK hP hD hS 1 2 2 1 rfl rfl rfl rfl (vp_in_iff.mpr ⟨by decide, by decide⟩) dX3_init_44 (fun H locs hP hD hS => ?_)
  generalize hgf43 : va_up _ _ _ = f43 at hP hD
  have hP : va_P (dC, dI) vwCl [(h0, .inr (3, [.ref q1, .int 0, .int 0])), (q1, .inl (cQ, 20, .inr (.inr (.inr (.inr f43))))), (q39, .inr (1, [.int 0, .int 0, .ref (u41 0), .ref (u41 1), .ref (u41 2), .ref (u41 3), .ref (u41 4), .ref ho])), ((u41 0), .inl (cI, 8, .inl (fun _ => 0))), ((u41 1), .inl (cI, 8, .inl (fun _ => 0))), ((u41 2), .inl (cI, 8, .inl (fun _ => 0))), ((u41 3), .inl (cI, 4, .inl (fun _ => 0))), ((u41 4), .inl (cI, 4, .inl (fun _ => 0)))] H := hP
  have hD : va_D A [(h0, .inr (3, [.ref q1, .int 0, .int 0])), (q1, .inl (cQ, 20, .inr (.inr (.inr (.inr f43))))), (q39, .inr (1, [.int 0, .int 0, .ref (u41 0), .ref (u41 1), .ref (u41 2), .ref (u41 3), .ref (u41 4), .ref ho])), ((u41 0), .inl (cI, 8, .inl (fun _ => 0))), ((u41 1), .inl (cI, 8, .inl (fun _ => 0))), ((u41 2), .inl (cI, 8, .inl (fun _ => 0))), ((u41 3), .inl (cI, 4, .inl (fun _ => 0))), ((u41 4), .inl (cI, 4, .inl (fun _ => 0)))] := hD
  have hP := hP.sub (ws' := [(h0, .inr (3, [.ref q1, .int 0, .int 0])), (q1, .inl (cQ, 20, .inr (.inr (.inr (.inr f43)))))]) [0, 1] rfl
  have hD := hD.sub (ws' := [(h0, .inr (3, [.ref q1, .int 0, .int 0])), (q1, .inl (cQ, 20, .inr (.inr (.inr (.inr f43)))))]) [0, 1] (by decide) rfl
  refine lv_iinc (v := 7) (lv' := [(2, .int 7), (0, .ref h0), (1, .ref ho)]) hx hb dX3_init_45 hl (k := 0) rfl (by decide) (by decide) rfl (fun ls hl => ?_)
  refine lv_goto (tgt := 25) hx hb dX3_init_48 (by decide) ?_
  refine lv_iload_n hx hb dX3_init_25 rfl (lv_at hl 0 rfl) ?_
  refine lv_bipush (v := 20) hx hb dX3_init_26 (by decide) ?_
  refine lv_icmp_ge (tgt := 51) hx hb dX3_init_28 (by decide) (fun c44 => ?_) (fun c44 => ?_)
  · exact absurd c44 (by decide)
  clear c44
  refine lv_aload_n hx hb dX3_init_31 rfl (lv_at hl 1 rfl) ?_
  refine va_get (D := (dC, dI)) (ci := 3) (v := .ref q1) (C := RX3) (T := TX3) (N := 3) hx hb hts hi_X3 hown hK hP 0 rfl rfl 0 (by decide) (hts (.fieldLink RX3 11 "LeftQuills$History" "desks" "[LLeftQuills$Desk;") (by decide +kernel)) (fun _ h9 => h9) rfl dX3_init_32 ?_
  refine lv_iload_n hx hb dX3_init_35 rfl (lv_at hl 0 rfl) ?_
  refine va_new (ci := 1) (fs := [.int 0, .int 0, .null, .null, .null, .null, .null, .null]) (C := RX1) (T := TX1) (N := 8) hx hb hts hi_X1 tyX1 tyX1_ok hown (hts (.classLink RX3 9 RX1) (by decide +kernel)) (hts (.instantiable RX1 8) (by decide +kernel)) (hts (.initialized RX1) (by decide +kernel)) hK hP hD hS hA rfl (fun j hj => by rcases (show j = 0 ∨ j = 1 ∨ j = 2 ∨ j = 3 ∨ j = 4 ∨ j = 5 ∨ j = 6 ∨ j = 7 by omega) with rfl | rfl | rfl | rfl | rfl | rfl | rfl | rfl <;> rfl) (Nat.le_of_ble_eq_true rfl) (Nat.le_of_ble_eq_true rfl) dX3_init_36 (fun q45 H hP hD hS => ?_)
  refine W.widen (k := 44) (n := 308) (Nat.le_of_ble_eq_true rfl) (Nat.le_of_ble_eq_true rfl) ?_
  have hP : va_P (dC, dI) vwCl [(h0, .inr (3, [.ref q1, .int 0, .int 0])), (q1, .inl (cQ, 20, .inr (.inr (.inr (.inr f43))))), (q45, .inr (1, [.int 0, .int 0, .null, .null, .null, .null, .null, .null]))] H := hP
  have hD : va_D A [(h0, .inr (3, [.ref q1, .int 0, .int 0])), (q1, .inl (cQ, 20, .inr (.inr (.inr (.inr f43))))), (q45, .inr (1, [.int 0, .int 0, .null, .null, .null, .null, .null, .null]))] := hD
  refine lv_dup hx hb dX3_init_39 rfl ?_
  refine lv_aload_n hx hb dX3_init_40 rfl (lv_at hl 2 rfl) ?_
  have hPc := hP.sub (ws' := [(q45, .inr (1, [.int 0, .int 0, .null, .null, .null, .null, .null, .null]))]) [2] rfl
  have hDc := hD.sub (ws' := [(q45, .inr (1, [.int 0, .int 0, .null, .null, .null, .null, .null, .null]))]) [2] (by decide) rfl
  have hFc := va_free (wc := [(q45, .inr (1, [.int 0, .int 0, .null, .null, .null, .null, .null, .null]))]) hD hS hA [2] rfl
  refine va_callv (va_runI (As := [.ref ho]) (rest := [.ref q45, .int 7, .ref q1]) ⟨hx, hb, hml, hown, hts⟩ (c_X1_init l dC dI cI cZ cQ q45 ho H.size ) (cwI 1 hts gX3_init_X1_init rfl rfl rfl (hts (.initialized RX1) (by decide +kernel)) (hts (.methodLink RX3 22 yX1_init) (by decide +kernel)) (hts (.instanceMethod yX1_init) (by decide +kernel)) rfl (by decide +kernel) ⟨Nat.le_of_ble_eq_true rfl, Nat.le_of_ble_eq_true rfl⟩) ⟨fun a U g mk q => by obtain ⟨q0, q1, qP, qK, qD⟩ := q; exact ⟨q0, q1, qP, va_K.moved (u := U) (U := U.calling g mk a) (Vm.Alike.refl U.vm) qK, qD⟩, fun U hU hW => ⟨rfl, by rw [hU], by rw [hU]; exact hPc, va_K.moved hW.alike hK, hDc.weaken (fun _ _ _ _ => trivial)⟩⟩ rfl rfl hl.1 rfl (lv_room (Nat.le_of_ble_eq_true rfl)) dX3_init_41 ⟨Nat.le_of_ble_eq_true rfl, Nat.le_of_ble_eq_true rfl⟩) hS (fun q _ h => hFc q h) hFc (fun u47 t H1 locs ht hvm hw48 hB hz1 hk1 hS => ?_)
  obtain ⟨hP1, hD1⟩ := hB
  rw [ht] at hP1
  obtain ⟨hP, hD⟩ := va_join (wr := [(h0, .inr (3, [.ref q1, .int 0, .int 0])), (q1, .inl (cQ, 20, .inr (.inr (.inr (.inr f43)))))]) (w1 := [(q45, .inr (1, [.int 0, .int 0, .ref (u47 0), .ref (u47 1), .ref (u47 2), .ref (u47 3), .ref (u47 4), .ref ho])), ((u47 0), .inl (cI, 8, .inl (fun _ => 0))), ((u47 1), .inl (cI, 8, .inl (fun _ => 0))), ((u47 2), .inl (cI, 8, .inl (fun _ => 0))), ((u47 3), .inl (cI, 4, .inl (fun _ => 0))), ((u47 4), .inl (cI, 4, .inl (fun _ => 0)))]) hP hD [2] [0, 1] rfl rfl (by decide) (by decide) hk1 hFc hP1 hD1
  clear hP1 hD1
  clear hz1 hk1 hPc hDc hFc
  generalize H1 = H at hP hS ht ⊢
  have hP : va_P (dC, dI) vwCl [(h0, .inr (3, [.ref q1, .int 0, .int 0])), (q1, .inl (cQ, 20, .inr (.inr (.inr (.inr f43))))), (q45, .inr (1, [.int 0, .int 0, .ref (u47 0), .ref (u47 1), .ref (u47 2), .ref (u47 3), .ref (u47 4), .ref ho])), ((u47 0), .inl (cI, 8, .inl (fun _ => 0))), ((u47 1), .inl (cI, 8, .inl (fun _ => 0))), ((u47 2), .inl (cI, 8, .inl (fun _ => 0))), ((u47 3), .inl (cI, 4, .inl (fun _ => 0))), ((u47 4), .inl (cI, 4, .inl (fun _ => 0)))] H := hP
  have hD : va_D A [(h0, .inr (3, [.ref q1, .int 0, .int 0])), (q1, .inl (cQ, 20, .inr (.inr (.inr (.inr f43))))), (q45, .inr (1, [.int 0, .int 0, .ref (u47 0), .ref (u47 1), .ref (u47 2), .ref (u47 3), .ref (u47 4), .ref ho])), ((u47 0), .inl (cI, 8, .inl (fun _ => 0))), ((u47 1), .inl (cI, 8, .inl (fun _ => 0))), ((u47 2), .inl (cI, 8, .inl (fun _ => 0))), ((u47 3), .inl (cI, 4, .inl (fun _ => 0))), ((u47 4), .inl (cI, 4, .inl (fun _ => 0)))] := hD
  refine W.widen (k := 49) (n := 340) (Nat.le_of_ble_eq_true rfl) (Nat.le_of_ble_eq_true rfl) ?_
  try dsimp only at hw48
  refine va_astq hx hb hK hP hD hS 1 2 2 1 rfl rfl rfl rfl (vp_in_iff.mpr ⟨by decide, by decide⟩) dX3_init_44 (fun H locs hP hD hS => ?_)
  generalize hgf49 : va_up _ _ _ = f49 at hP hD
  have hP : va_P (dC, dI) vwCl [(h0, .inr (3, [.ref q1, .int 0, .int 0])), (q1, .inl (cQ, 20, .inr (.inr (.inr (.inr f49))))), (q45, .inr (1, [.int 0, .int 0, .ref (u47 0), .ref (u47 1), .ref (u47 2), .ref (u47 3), .ref (u47 4), .ref ho])), ((u47 0), .inl (cI, 8, .inl (fun _ => 0))), ((u47 1), .inl (cI, 8, .inl (fun _ => 0))), ((u47 2), .inl (cI, 8, .inl (fun _ => 0))), ((u47 3), .inl (cI, 4, .inl (fun _ => 0))), ((u47 4), .inl (cI, 4, .inl (fun _ => 0)))] H := hP
  have hD : va_D A [(h0, .inr (3, [.ref q1, .int 0, .int 0])), (q1, .inl (cQ, 20, .inr (.inr (.inr (.inr f49))))), (q45, .inr (1, [.int 0, .int 0, .ref (u47 0), .ref (u47 1), .ref (u47 2), .ref (u47 3), .ref (u47 4), .ref ho])), ((u47 0), .inl (cI, 8, .inl (fun _ => 0))), ((u47 1), .inl (cI, 8, .inl (fun _ => 0))), ((u47 2), .inl (cI, 8, .inl (fun _ => 0))), ((u47 3), .inl (cI, 4, .inl (fun _ => 0))), ((u47 4), .inl (cI, 4, .inl (fun _ => 0)))] := hD
  have hP := hP.sub (ws' := [(h0, .inr (3, [.ref q1, .int 0, .int 0])), (q1, .inl (cQ, 20, .inr (.inr (.inr (.inr f49)))))]) [0, 1] rfl
  have hD := hD.sub (ws' := [(h0, .inr (3, [.ref q1, .int 0, .int 0])), (q1, .inl (cQ, 20, .inr (.inr (.inr (.inr f49)))))]) [0, 1] (by decide) rfl
  refine lv_iinc (v := 8) (lv' := [(2, .int 8), (0, .ref h0), (1, .ref ho)]) hx hb dX3_init_45 hl (k := 0) rfl (by decide) (by decide) rfl (fun ls hl => ?_)
  refine lv_goto (tgt := 25) hx hb dX3_init_48 (by decide) ?_
  refine lv_iload_n hx hb dX3_init_25 rfl (lv_at hl 0 rfl) ?_
  refine lv_bipush (v := 20) hx hb dX3_init_26 (by decide) ?_
  refine lv_icmp_ge (tgt := 51) hx hb dX3_init_28 (by decide) (fun c50 => ?_) (fun c50 => ?_)
  · exact absurd c50 (by decide)
  clear c50
  refine lv_aload_n hx hb dX3_init_31 rfl (lv_at hl 1 rfl) ?_
  refine va_get (D := (dC, dI)) (ci := 3) (v := .ref q1) (C := RX3) (T := TX3) (N := 3) hx hb hts hi_X3 hown hK hP 0 rfl rfl 0 (by decide) (hts (.fieldLink RX3 11 "LeftQuills$History" "desks" "[LLeftQuills$Desk;") (by decide +kernel)) (fun _ h9 => h9) rfl dX3_init_32 ?_
  refine lv_iload_n hx hb dX3_init_35 rfl (lv_at hl 0 rfl) ?_
  refine va_new (ci := 1) (fs := [.int 0, .int 0, .null, .null, .null, .null, .null, .null]) (C := RX1) (T := TX1) (N := 8) hx hb hts hi_X1 tyX1 tyX1_ok hown (hts (.classLink RX3 9 RX1) (by decide +kernel)) (hts (.instantiable RX1 8) (by decide +kernel)) (hts (.initialized RX1) (by decide +kernel)) hK hP hD hS hA rfl (fun j hj => by rcases (show j = 0 ∨ j = 1 ∨ j = 2 ∨ j = 3 ∨ j = 4 ∨ j = 5 ∨ j = 6 ∨ j = 7 by omega) with rfl | rfl | rfl | rfl | rfl | rfl | rfl | rfl <;> rfl) (Nat.le_of_ble_eq_true rfl) (Nat.le_of_ble_eq_true rfl) dX3_init_36 (fun q51 H hP hD hS => ?_)
  refine W.widen (k := 50) (n := 348) (Nat.le_of_ble_eq_true rfl) (Nat.le_of_ble_eq_true rfl) ?_
  have hP : va_P (dC, dI) vwCl [(h0, .inr (3, [.ref q1, .int 0, .int 0])), (q1, .inl (cQ, 20, .inr (.inr (.inr (.inr f49))))), (q51, .inr (1, [.int 0, .int 0, .null, .null, .null, .null, .null, .null]))] H := hP
  have hD : va_D A [(h0, .inr (3, [.ref q1, .int 0, .int 0])), (q1, .inl (cQ, 20, .inr (.inr (.inr (.inr f49))))), (q51, .inr (1, [.int 0, .int 0, .null, .null, .null, .null, .null, .null]))] := hD
  refine lv_dup hx hb dX3_init_39 rfl ?_
  refine lv_aload_n hx hb dX3_init_40 rfl (lv_at hl 2 rfl) ?_
  have hPc := hP.sub (ws' := [(q51, .inr (1, [.int 0, .int 0, .null, .null, .null, .null, .null, .null]))]) [2] rfl
  have hDc := hD.sub (ws' := [(q51, .inr (1, [.int 0, .int 0, .null, .null, .null, .null, .null, .null]))]) [2] (by decide) rfl
  have hFc := va_free (wc := [(q51, .inr (1, [.int 0, .int 0, .null, .null, .null, .null, .null, .null]))]) hD hS hA [2] rfl
  refine va_callv (va_runI (As := [.ref ho]) (rest := [.ref q51, .int 8, .ref q1]) ⟨hx, hb, hml, hown, hts⟩ (c_X1_init l dC dI cI cZ cQ q51 ho H.size ) (cwI 1 hts gX3_init_X1_init rfl rfl rfl (hts (.initialized RX1) (by decide +kernel)) (hts (.methodLink RX3 22 yX1_init) (by decide +kernel)) (hts (.instanceMethod yX1_init) (by decide +kernel)) rfl (by decide +kernel) ⟨Nat.le_of_ble_eq_true rfl, Nat.le_of_ble_eq_true rfl⟩) ⟨fun a U g mk q => by obtain ⟨q0, q1, qP, qK, qD⟩ := q; exact ⟨q0, q1, qP, va_K.moved (u := U) (U := U.calling g mk a) (Vm.Alike.refl U.vm) qK, qD⟩, fun U hU hW => ⟨rfl, by rw [hU], by rw [hU]; exact hPc, va_K.moved hW.alike hK, hDc.weaken (fun _ _ _ _ => trivial)⟩⟩ rfl rfl hl.1 rfl (lv_room (Nat.le_of_ble_eq_true rfl)) dX3_init_41 ⟨Nat.le_of_ble_eq_true rfl, Nat.le_of_ble_eq_true rfl⟩) hS (fun q _ h => hFc q h) hFc (fun u53 t H1 locs ht hvm hw54 hB hz1 hk1 hS => ?_)
  obtain ⟨hP1, hD1⟩ := hB
  rw [ht] at hP1
  obtain ⟨hP, hD⟩ := va_join (wr := [(h0, .inr (3, [.ref q1, .int 0, .int 0])), (q1, .inl (cQ, 20, .inr (.inr (.inr (.inr f49)))))]) (w1 := [(q51, .inr (1, [.int 0, .int 0, .ref (u53 0), .ref (u53 1), .ref (u53 2), .ref (u53 3), .ref (u53 4), .ref ho])), ((u53 0), .inl (cI, 8, .inl (fun _ => 0))), ((u53 1), .inl (cI, 8, .inl (fun _ => 0))), ((u53 2), .inl (cI, 8, .inl (fun _ => 0))), ((u53 3), .inl (cI, 4, .inl (fun _ => 0))), ((u53 4), .inl (cI, 4, .inl (fun _ => 0)))]) hP hD [2] [0, 1] rfl rfl (by decide) (by decide) hk1 hFc hP1 hD1
  clear hP1 hD1
  clear hz1 hk1 hPc hDc hFc
  generalize H1 = H at hP hS ht ⊢
  have hP : va_P (dC, dI) vwCl [(h0, .inr (3, [.ref q1, .int 0, .int 0])), (q1, .inl (cQ, 20, .inr (.inr (.inr (.inr f49))))), (q51, .inr (1, [.int 0, .int 0, .ref (u53 0), .ref (u53 1), .ref (u53 2), .ref (u53 3), .ref (u53 4), .ref ho])), ((u53 0), .inl (cI, 8, .inl (fun _ => 0))), ((u53 1), .inl (cI, 8, .inl (fun _ => 0))), ((u53 2), .inl (cI, 8, .inl (fun _ => 0))), ((u53 3), .inl (cI, 4, .inl (fun _ => 0))), ((u53 4), .inl (cI, 4, .inl (fun _ => 0)))] H := hP
  have hD : va_D A [(h0, .inr (3, [.ref q1, .int 0, .int 0])), (q1, .inl (cQ, 20, .inr (.inr (.inr (.inr f49))))), (q51, .inr (1, [.int 0, .int 0, .ref (u53 0), .ref (u53 1), .ref (u53 2), .ref (u53 3), .ref (u53 4), .ref ho])), ((u53 0), .inl (cI, 8, .inl (fun _ => 0))), ((u53 1), .inl (cI, 8, .inl (fun _ => 0))), ((u53 2), .inl (cI, 8, .inl (fun _ => 0))), ((u53 3), .inl (cI, 4, .inl (fun _ => 0))), ((u53 4), .inl (cI, 4, .inl (fun _ => 0)))] := hD
  refine W.widen (k := 55) (n := 380) (Nat.le_of_ble_eq_true rfl) (Nat.le_of_ble_eq_true rfl) ?_
  try dsimp only at hw54
  refine va_astq hx hb hK hP hD hS 1 2 2 1 rfl rfl rfl rfl (vp_in_iff.mpr ⟨by decide, by decide⟩) dX3_init_44 (fun H locs hP hD hS => ?_)
  generalize hgf55 : va_up _ _ _ = f55 at hP hD
  have hP : va_P (dC, dI) vwCl [(h0, .inr (3, [.ref q1, .int 0, .int 0])), (q1, .inl (cQ, 20, .inr (.inr (.inr (.inr f55))))), (q51, .inr (1, [.int 0, .int 0, .ref (u53 0), .ref (u53 1), .ref (u53 2), .ref (u53 3), .ref (u53 4), .ref ho])), ((u53 0), .inl (cI, 8, .inl (fun _ => 0))), ((u53 1), .inl (cI, 8, .inl (fun _ => 0))), ((u53 2), .inl (cI, 8, .inl (fun _ => 0))), ((u53 3), .inl (cI, 4, .inl (fun _ => 0))), ((u53 4), .inl (cI, 4, .inl (fun _ => 0)))] H := hP
  have hD : va_D A [(h0, .inr (3, [.ref q1, .int 0, .int 0])), (q1, .inl (cQ, 20, .inr (.inr (.inr (.inr f55))))), (q51, .inr (1, [.int 0, .int 0, .ref (u53 0), .ref (u53 1), .ref (u53 2), .ref (u53 3), .ref (u53 4), .ref ho])), ((u53 0), .inl (cI, 8, .inl (fun _ => 0))), ((u53 1), .inl (cI, 8, .inl (fun _ => 0))), ((u53 2), .inl (cI, 8, .inl (fun _ => 0))), ((u53 3), .inl (cI, 4, .inl (fun _ => 0))), ((u53 4), .inl (cI, 4, .inl (fun _ => 0)))] := hD
  have hP := hP.sub (ws' := [(h0, .inr (3, [.ref q1, .int 0, .int 0])), (q1, .inl (cQ, 20, .inr (.inr (.inr (.inr f55)))))]) [0, 1] rfl
  have hD := hD.sub (ws' := [(h0, .inr (3, [.ref q1, .int 0, .int 0])), (q1, .inl (cQ, 20, .inr (.inr (.inr (.inr f55)))))]) [0, 1] (by decide) rfl
  refine lv_iinc (v := 9) (lv' := [(2, .int 9), (0, .ref h0), (1, .ref ho)]) hx hb dX3_init_45 hl (k := 0) rfl (by decide) (by decide) rfl (fun ls hl => ?_)
  refine lv_goto (tgt := 25) hx hb dX3_init_48 (by decide) ?_
  refine lv_iload_n hx hb dX3_init_25 rfl (lv_at hl 0 rfl) ?_
  refine lv_bipush (v := 20) hx hb dX3_init_26 (by decide) ?_
  refine lv_icmp_ge (tgt := 51) hx hb dX3_init_28 (by decide) (fun c56 => ?_) (fun c56 => ?_)
  · exact absurd c56 (by decide)
  clear c56
  refine lv_aload_n hx hb dX3_init_31 rfl (lv_at hl 1 rfl) ?_
  refine va_get (D := (dC, dI)) (ci := 3) (v := .ref q1) (C := RX3) (T := TX3) (N := 3) hx hb hts hi_X3 hown hK hP 0 rfl rfl 0 (by decide) (hts (.fieldLink RX3 11 "LeftQuills$History" "desks" "[LLeftQuills$Desk;") (by decide +kernel)) (fun _ h9 => h9) rfl dX3_init_32 ?_
  refine lv_iload_n hx hb dX3_init_35 rfl (lv_at hl 0 rfl) ?_
  refine va_new (ci := 1) (fs := [.int 0, .int 0, .null, .null, .null, .null, .null, .null]) (C := RX1) (T := TX1) (N := 8) hx hb hts hi_X1 tyX1 tyX1_ok hown (hts (.classLink RX3 9 RX1) (by decide +kernel)) (hts (.instantiable RX1 8) (by decide +kernel)) (hts (.initialized RX1) (by decide +kernel)) hK hP hD hS hA rfl (fun j hj => by rcases (show j = 0 ∨ j = 1 ∨ j = 2 ∨ j = 3 ∨ j = 4 ∨ j = 5 ∨ j = 6 ∨ j = 7 by omega) with rfl | rfl | rfl | rfl | rfl | rfl | rfl | rfl <;> rfl) (Nat.le_of_ble_eq_true rfl) (Nat.le_of_ble_eq_true rfl) dX3_init_36 (fun q57 H hP hD hS => ?_)
  refine W.widen (k := 56) (n := 388) (Nat.le_of_ble_eq_true rfl) (Nat.le_of_ble_eq_true rfl) ?_
  have hP : va_P (dC, dI) vwCl [(h0, .inr (3, [.ref q1, .int 0, .int 0])), (q1, .inl (cQ, 20, .inr (.inr (.inr (.inr f55))))), (q57, .inr (1, [.int 0, .int 0, .null, .null, .null, .null, .null, .null]))] H := hP
  have hD : va_D A [(h0, .inr (3, [.ref q1, .int 0, .int 0])), (q1, .inl (cQ, 20, .inr (.inr (.inr (.inr f55))))), (q57, .inr (1, [.int 0, .int 0, .null, .null, .null, .null, .null, .null]))] := hD
  refine lv_dup hx hb dX3_init_39 rfl ?_
  refine lv_aload_n hx hb dX3_init_40 rfl (lv_at hl 2 rfl) ?_
  have hPc := hP.sub (ws' := [(q57, .inr (1, [.int 0, .int 0, .null, .null, .null, .null, .null, .null]))]) [2] rfl
  have hDc := hD.sub (ws' := [(q57, .inr (1, [.int 0, .int 0, .null, .null, .null, .null, .null, .null]))]) [2] (by decide) rfl
  have hFc := va_free (wc := [(q57, .inr (1, [.int 0, .int 0, .null, .null, .null, .null, .null, .null]))]) hD hS hA [2] rfl
  refine va_callv (va_runI (As := [.ref ho]) (rest := [.ref q57, .int 9, .ref q1]) ⟨hx, hb, hml, hown, hts⟩ (c_X1_init l dC dI cI cZ cQ q57 ho H.size ) (cwI 1 hts gX3_init_X1_init rfl rfl rfl (hts (.initialized RX1) (by decide +kernel)) (hts (.methodLink RX3 22 yX1_init) (by decide +kernel)) (hts (.instanceMethod yX1_init) (by decide +kernel)) rfl (by decide +kernel) ⟨Nat.le_of_ble_eq_true rfl, Nat.le_of_ble_eq_true rfl⟩) ⟨fun a U g mk q => by obtain ⟨q0, q1, qP, qK, qD⟩ := q; exact ⟨q0, q1, qP, va_K.moved (u := U) (U := U.calling g mk a) (Vm.Alike.refl U.vm) qK, qD⟩, fun U hU hW => ⟨rfl, by rw [hU], by rw [hU]; exact hPc, va_K.moved hW.alike hK, hDc.weaken (fun _ _ _ _ => trivial)⟩⟩ rfl rfl hl.1 rfl (lv_room (Nat.le_of_ble_eq_true rfl)) dX3_init_41 ⟨Nat.le_of_ble_eq_true rfl, Nat.le_of_ble_eq_true rfl⟩) hS (fun q _ h => hFc q h) hFc (fun u59 t H1 locs ht hvm hw60 hB hz1 hk1 hS => ?_)
  obtain ⟨hP1, hD1⟩ := hB
  rw [ht] at hP1
  obtain ⟨hP, hD⟩ := va_join (wr := [(h0, .inr (3, [.ref q1, .int 0, .int 0])), (q1, .inl (cQ, 20, .inr (.inr (.inr (.inr f55)))))]) (w1 := [(q57, .inr (1, [.int 0, .int 0, .ref (u59 0), .ref (u59 1), .ref (u59 2), .ref (u59 3), .ref (u59 4), .ref ho])), ((u59 0), .inl (cI, 8, .inl (fun _ => 0))), ((u59 1), .inl (cI, 8, .inl (fun _ => 0))), ((u59 2), .inl (cI, 8, .inl (fun _ => 0))), ((u59 3), .inl (cI, 4, .inl (fun _ => 0))), ((u59 4), .inl (cI, 4, .inl (fun _ => 0)))]) hP hD [2] [0, 1] rfl rfl (by decide) (by decide) hk1 hFc hP1 hD1
  clear hP1 hD1
  clear hz1 hk1 hPc hDc hFc
  generalize H1 = H at hP hS ht ⊢
  have hP : va_P (dC, dI) vwCl [(h0, .inr (3, [.ref q1, .int 0, .int 0])), (q1, .inl (cQ, 20, .inr (.inr (.inr (.inr f55))))), (q57, .inr (1, [.int 0, .int 0, .ref (u59 0), .ref (u59 1), .ref (u59 2), .ref (u59 3), .ref (u59 4), .ref ho])), ((u59 0), .inl (cI, 8, .inl (fun _ => 0))), ((u59 1), .inl (cI, 8, .inl (fun _ => 0))), ((u59 2), .inl (cI, 8, .inl (fun _ => 0))), ((u59 3), .inl (cI, 4, .inl (fun _ => 0))), ((u59 4), .inl (cI, 4, .inl (fun _ => 0)))] H := hP
  have hD : va_D A [(h0, .inr (3, [.ref q1, .int 0, .int 0])), (q1, .inl (cQ, 20, .inr (.inr (.inr (.inr f55))))), (q57, .inr (1, [.int 0, .int 0, .ref (u59 0), .ref (u59 1), .ref (u59 2), .ref (u59 3), .ref (u59 4), .ref ho])), ((u59 0), .inl (cI, 8, .inl (fun _ => 0))), ((u59 1), .inl (cI, 8, .inl (fun _ => 0))), ((u59 2), .inl (cI, 8, .inl (fun _ => 0))), ((u59 3), .inl (cI, 4, .inl (fun _ => 0))), ((u59 4), .inl (cI, 4, .inl (fun _ => 0)))] := hD
  refine W.widen (k := 61) (n := 420) (Nat.le_of_ble_eq_true rfl) (Nat.le_of_ble_eq_true rfl) ?_
  try dsimp only at hw60
  refine va_astq hx hb hK hP hD hS 1 2 2 1 rfl rfl rfl rfl (vp_in_iff.mpr ⟨by decide, by decide⟩) dX3_init_44 (fun H locs hP hD hS => ?_)
  generalize hgf61 : va_up _ _ _ = f61 at hP hD
  have hP : va_P (dC, dI) vwCl [(h0, .inr (3, [.ref q1, .int 0, .int 0])), (q1, .inl (cQ, 20, .inr (.inr (.inr (.inr f61))))), (q57, .inr (1, [.int 0, .int 0, .ref (u59 0), .ref (u59 1), .ref (u59 2), .ref (u59 3), .ref (u59 4), .ref ho])), ((u59 0), .inl (cI, 8, .inl (fun _ => 0))), ((u59 1), .inl (cI, 8, .inl (fun _ => 0))), ((u59 2), .inl (cI, 8, .inl (fun _ => 0))), ((u59 3), .inl (cI, 4, .inl (fun _ => 0))), ((u59 4), .inl (cI, 4, .inl (fun _ => 0)))] H := hP
  have hD : va_D A [(h0, .inr (3, [.ref q1, .int 0, .int 0])), (q1, .inl (cQ, 20, .inr (.inr (.inr (.inr f61))))), (q57, .inr (1, [.int 0, .int 0, .ref (u59 0), .ref (u59 1), .ref (u59 2), .ref (u59 3), .ref (u59 4), .ref ho])), ((u59 0), .inl (cI, 8, .inl (fun _ => 0))), ((u59 1), .inl (cI, 8, .inl (fun _ => 0))), ((u59 2), .inl (cI, 8, .inl (fun _ => 0))), ((u59 3), .inl (cI, 4, .inl (fun _ => 0))), ((u59 4), .inl (cI, 4, .inl (fun _ => 0)))] := hD
  have hP := hP.sub (ws' := [(h0, .inr (3, [.ref q1, .int 0, .int 0])), (q1, .inl (cQ, 20, .inr (.inr (.inr (.inr f61)))))]) [0, 1] rfl
  have hD := hD.sub (ws' := [(h0, .inr (3, [.ref q1, .int 0, .int 0])), (q1, .inl (cQ, 20, .inr (.inr (.inr (.inr f61)))))]) [0, 1] (by decide) rfl
  refine lv_iinc (v := 10) (lv' := [(2, .int 10), (0, .ref h0), (1, .ref ho)]) hx hb dX3_init_45 hl (k := 0) rfl (by decide) (by decide) rfl (fun ls hl => ?_)
  refine lv_goto (tgt := 25) hx hb dX3_init_48 (by decide) ?_
  refine lv_iload_n hx hb dX3_init_25 rfl (lv_at hl 0 rfl) ?_
  refine lv_bipush (v := 20) hx hb dX3_init_26 (by decide) ?_
  refine lv_icmp_ge (tgt := 51) hx hb dX3_init_28 (by decide) (fun c62 => ?_) (fun c62 => ?_)
  · exact absurd c62 (by decide)
  clear c62
  refine lv_aload_n hx hb dX3_init_31 rfl (lv_at hl 1 rfl) ?_
  refine va_get (D := (dC, dI)) (ci := 3) (v := .ref q1) (C := RX3) (T := TX3) (N := 3) hx hb hts hi_X3 hown hK hP 0 rfl rfl 0 (by decide) (hts (.fieldLink RX3 11 "LeftQuills$History" "desks" "[LLeftQuills$Desk;") (by decide +kernel)) (fun _ h9 => h9) rfl dX3_init_32 ?_
  refine lv_iload_n hx hb dX3_init_35 rfl (lv_at hl 0 rfl) ?_
  refine va_new (ci := 1) (fs := [.int 0, .int 0, .null, .null, .null, .null, .null, .null]) (C := RX1) (T := TX1) (N := 8) hx hb hts hi_X1 tyX1 tyX1_ok hown (hts (.classLink RX3 9 RX1) (by decide +kernel)) (hts (.instantiable RX1 8) (by decide +kernel)) (hts (.initialized RX1) (by decide +kernel)) hK hP hD hS hA rfl (fun j hj => by rcases (show j = 0 ∨ j = 1 ∨ j = 2 ∨ j = 3 ∨ j = 4 ∨ j = 5 ∨ j = 6 ∨ j = 7 by omega) with rfl | rfl | rfl | rfl | rfl | rfl | rfl | rfl <;> rfl) (Nat.le_of_ble_eq_true rfl) (Nat.le_of_ble_eq_true rfl) dX3_init_36 (fun q63 H hP hD hS => ?_)
  refine W.widen (k := 62) (n := 428) (Nat.le_of_ble_eq_true rfl) (Nat.le_of_ble_eq_true rfl) ?_
  have hP : va_P (dC, dI) vwCl [(h0, .inr (3, [.ref q1, .int 0, .int 0])), (q1, .inl (cQ, 20, .inr (.inr (.inr (.inr f61))))), (q63, .inr (1, [.int 0, .int 0, .null, .null, .null, .null, .null, .null]))] H := hP
  have hD : va_D A [(h0, .inr (3, [.ref q1, .int 0, .int 0])), (q1, .inl (cQ, 20, .inr (.inr (.inr (.inr f61))))), (q63, .inr (1, [.int 0, .int 0, .null, .null, .null, .null, .null, .null]))] := hD
  refine lv_dup hx hb dX3_init_39 rfl ?_
  refine lv_aload_n hx hb dX3_init_40 rfl (lv_at hl 2 rfl) ?_
  have hPc := hP.sub (ws' := [(q63, .inr (1, [.int 0, .int 0, .null, .null, .null, .null, .null, .null]))]) [2] rfl
  have hDc := hD.sub (ws' := [(q63, .inr (1, [.int 0, .int 0, .null, .null, .null, .null, .null, .null]))]) [2] (by decide) rfl
  have hFc := va_free (wc := [(q63, .inr (1, [.int 0, .int 0, .null, .null, .null, .null, .null, .null]))]) hD hS hA [2] rfl
  refine va_callv (va_runI (As := [.ref ho]) (rest := [.ref q63, .int 10, .ref q1]) ⟨hx, hb, hml, hown, hts⟩ (c_X1_init l dC dI cI cZ cQ q63 ho H.size ) (cwI 1 hts gX3_init_X1_init rfl rfl rfl (hts (.initialized RX1) (by decide +kernel)) (hts (.methodLink RX3 22 yX1_init) (by decide +kernel)) (hts (.instanceMethod yX1_init) (by decide +kernel)) rfl (by decide +kernel) ⟨Nat.le_of_ble_eq_true rfl, Nat.le_of_ble_eq_true rfl⟩) ⟨fun a U g mk q => by obtain ⟨q0, q1, qP, qK, qD⟩ := q; exact ⟨q0, q1, qP, va_K.moved (u := U) (U := U.calling g mk a) (Vm.Alike.refl U.vm) qK, qD⟩, fun U hU hW => ⟨rfl, by rw [hU], by rw [hU]; exact hPc, va_K.moved hW.alike hK, hDc.weaken (fun _ _ _ _ => trivial)⟩⟩ rfl rfl hl.1 rfl (lv_room (Nat.le_of_ble_eq_true rfl)) dX3_init_41 ⟨Nat.le_of_ble_eq_true rfl, Nat.le_of_ble_eq_true rfl⟩) hS (fun q _ h => hFc q h) hFc (fun u65 t H1 locs ht hvm hw66 hB hz1 hk1 hS => ?_)
  obtain ⟨hP1, hD1⟩ := hB
  rw [ht] at hP1
  obtain ⟨hP, hD⟩ := va_join (wr := [(h0, .inr (3, [.ref q1, .int 0, .int 0])), (q1, .inl (cQ, 20, .inr (.inr (.inr (.inr f61)))))]) (w1 := [(q63, .inr (1, [.int 0, .int 0, .ref (u65 0), .ref (u65 1), .ref (u65 2), .ref (u65 3), .ref (u65 4), .ref ho])), ((u65 0), .inl (cI, 8, .inl (fun _ => 0))), ((u65 1), .inl (cI, 8, .inl (fun _ => 0))), ((u65 2), .inl (cI, 8, .inl (fun _ => 0))), ((u65 3), .inl (cI, 4, .inl (fun _ => 0))), ((u65 4), .inl (cI, 4, .inl (fun _ => 0)))]) hP hD [2] [0, 1] rfl rfl (by decide) (by decide) hk1 hFc hP1 hD1
  clear hP1 hD1
  clear hz1 hk1 hPc hDc hFc
  generalize H1 = H at hP hS ht ⊢
  have hP : va_P (dC, dI) vwCl [(h0, .inr (3, [.ref q1, .int 0, .int 0])), (q1, .inl (cQ, 20, .inr (.inr (.inr (.inr f61))))), (q63, .inr (1, [.int 0, .int 0, .ref (u65 0), .ref (u65 1), .ref (u65 2), .ref (u65 3), .ref (u65 4), .ref ho])), ((u65 0), .inl (cI, 8, .inl (fun _ => 0))), ((u65 1), .inl (cI, 8, .inl (fun _ => 0))), ((u65 2), .inl (cI, 8, .inl (fun _ => 0))), ((u65 3), .inl (cI, 4, .inl (fun _ => 0))), ((u65 4), .inl (cI, 4, .inl (fun _ => 0)))] H := hP
  have hD : va_D A [(h0, .inr (3, [.ref q1, .int 0, .int 0])), (q1, .inl (cQ, 20, .inr (.inr (.inr (.inr f61))))), (q63, .inr (1, [.int 0, .int 0, .ref (u65 0), .ref (u65 1), .ref (u65 2), .ref (u65 3), .ref (u65 4), .ref ho])), ((u65 0), .inl (cI, 8, .inl (fun _ => 0))), ((u65 1), .inl (cI, 8, .inl (fun _ => 0))), ((u65 2), .inl (cI, 8, .inl (fun _ => 0))), ((u65 3), .inl (cI, 4, .inl (fun _ => 0))), ((u65 4), .inl (cI, 4, .inl (fun _ => 0)))] := hD
  refine W.widen (k := 67) (n := 460) (Nat.le_of_ble_eq_true rfl) (Nat.le_of_ble_eq_true rfl) ?_
  try dsimp only at hw66
  refine va_astq hx hb hK hP hD hS 1 2 2 1 rfl rfl rfl rfl (vp_in_iff.mpr ⟨by decide, by decide⟩) dX3_init_44 (fun H locs hP hD hS => ?_)
  generalize hgf67 : va_up _ _ _ = f67 at hP hD
  have hP : va_P (dC, dI) vwCl [(h0, .inr (3, [.ref q1, .int 0, .int 0])), (q1, .inl (cQ, 20, .inr (.inr (.inr (.inr f67))))), (q63, .inr (1, [.int 0, .int 0, .ref (u65 0), .ref (u65 1), .ref (u65 2), .ref (u65 3), .ref (u65 4), .ref ho])), ((u65 0), .inl (cI, 8, .inl (fun _ => 0))), ((u65 1), .inl (cI, 8, .inl (fun _ => 0))), ((u65 2), .inl (cI, 8, .inl (fun _ => 0))), ((u65 3), .inl (cI, 4, .inl (fun _ => 0))), ((u65 4), .inl (cI, 4, .inl (fun _ => 0)))] H := hP
  have hD : va_D A [(h0, .inr (3, [.ref q1, .int 0, .int 0])), (q1, .inl (cQ, 20, .inr (.inr (.inr (.inr f67))))), (q63, .inr (1, [.int 0, .int 0, .ref (u65 0), .ref (u65 1), .ref (u65 2), .ref (u65 3), .ref (u65 4), .ref ho])), ((u65 0), .inl (cI, 8, .inl (fun _ => 0))), ((u65 1), .inl (cI, 8, .inl (fun _ => 0))), ((u65 2), .inl (cI, 8, .inl (fun _ => 0))), ((u65 3), .inl (cI, 4, .inl (fun _ => 0))), ((u65 4), .inl (cI, 4, .inl (fun _ => 0)))] := hD
  have hP := hP.sub (ws' := [(h0, .inr (3, [.ref q1, .int 0, .int 0])), (q1, .inl (cQ, 20, .inr (.inr (.inr (.inr f67)))))]) [0, 1] rfl
  have hD := hD.sub (ws' := [(h0, .inr (3, [.ref q1, .int 0, .int 0])), (q1, .inl (cQ, 20, .inr (.inr (.inr (.inr f67)))))]) [0, 1] (by decide) rfl
  refine lv_iinc (v := 11) (lv' := [(2, .int 11), (0, .ref h0), (1, .ref ho)]) hx hb dX3_init_45 hl (k := 0) rfl (by decide) (by decide) rfl (fun ls hl => ?_)
  refine lv_goto (tgt := 25) hx hb dX3_init_48 (by decide) ?_
  refine lv_iload_n hx hb dX3_init_25 rfl (lv_at hl 0 rfl) ?_
  refine lv_bipush (v := 20) hx hb dX3_init_26 (by decide) ?_
  refine lv_icmp_ge (tgt := 51) hx hb dX3_init_28 (by decide) (fun c68 => ?_) (fun c68 => ?_)
  · exact absurd c68 (by decide)
  clear c68
  refine lv_aload_n hx hb dX3_init_31 rfl (lv_at hl 1 rfl) ?_
  refine va_get (D := (dC, dI)) (ci := 3) (v := .ref q1) (C := RX3) (T := TX3) (N := 3) hx hb hts hi_X3 hown hK hP 0 rfl rfl 0 (by decide) (hts (.fieldLink RX3 11 "LeftQuills$History" "desks" "[LLeftQuills$Desk;") (by decide +kernel)) (fun _ h9 => h9) rfl dX3_init_32 ?_
  refine lv_iload_n hx hb dX3_init_35 rfl (lv_at hl 0 rfl) ?_
  refine va_new (ci := 1) (fs := [.int 0, .int 0, .null, .null, .null, .null, .null, .null]) (C := RX1) (T := TX1) (N := 8) hx hb hts hi_X1 tyX1 tyX1_ok hown (hts (.classLink RX3 9 RX1) (by decide +kernel)) (hts (.instantiable RX1 8) (by decide +kernel)) (hts (.initialized RX1) (by decide +kernel)) hK hP hD hS hA rfl (fun j hj => by rcases (show j = 0 ∨ j = 1 ∨ j = 2 ∨ j = 3 ∨ j = 4 ∨ j = 5 ∨ j = 6 ∨ j = 7 by omega) with rfl | rfl | rfl | rfl | rfl | rfl | rfl | rfl <;> rfl) (Nat.le_of_ble_eq_true rfl) (Nat.le_of_ble_eq_true rfl) dX3_init_36 (fun q69 H hP hD hS => ?_)
  refine W.widen (k := 68) (n := 468) (Nat.le_of_ble_eq_true rfl) (Nat.le_of_ble_eq_true rfl) ?_
  have hP : va_P (dC, dI) vwCl [(h0, .inr (3, [.ref q1, .int 0, .int 0])), (q1, .inl (cQ, 20, .inr (.inr (.inr (.inr f67))))), (q69, .inr (1, [.int 0, .int 0, .null, .null, .null, .null, .null, .null]))] H := hP
  have hD : va_D A [(h0, .inr (3, [.ref q1, .int 0, .int 0])), (q1, .inl (cQ, 20, .inr (.inr (.inr (.inr f67))))), (q69, .inr (1, [.int 0, .int 0, .null, .null, .null, .null, .null, .null]))] := hD
  refine lv_dup hx hb dX3_init_39 rfl ?_
  refine lv_aload_n hx hb dX3_init_40 rfl (lv_at hl 2 rfl) ?_
  have hPc := hP.sub (ws' := [(q69, .inr (1, [.int 0, .int 0, .null, .null, .null, .null, .null, .null]))]) [2] rfl
  have hDc := hD.sub (ws' := [(q69, .inr (1, [.int 0, .int 0, .null, .null, .null, .null, .null, .null]))]) [2] (by decide) rfl
  have hFc := va_free (wc := [(q69, .inr (1, [.int 0, .int 0, .null, .null, .null, .null, .null, .null]))]) hD hS hA [2] rfl
  refine va_callv (va_runI (As := [.ref ho]) (rest := [.ref q69, .int 11, .ref q1]) ⟨hx, hb, hml, hown, hts⟩ (c_X1_init l dC dI cI cZ cQ q69 ho H.size ) (cwI 1 hts gX3_init_X1_init rfl rfl rfl (hts (.initialized RX1) (by decide +kernel)) (hts (.methodLink RX3 22 yX1_init) (by decide +kernel)) (hts (.instanceMethod yX1_init) (by decide +kernel)) rfl (by decide +kernel) ⟨Nat.le_of_ble_eq_true rfl, Nat.le_of_ble_eq_true rfl⟩) ⟨fun a U g mk q => by obtain ⟨q0, q1, qP, qK, qD⟩ := q; exact ⟨q0, q1, qP, va_K.moved (u := U) (U := U.calling g mk a) (Vm.Alike.refl U.vm) qK, qD⟩, fun U hU hW => ⟨rfl, by rw [hU], by rw [hU]; exact hPc, va_K.moved hW.alike hK, hDc.weaken (fun _ _ _ _ => trivial)⟩⟩ rfl rfl hl.1 rfl (lv_room (Nat.le_of_ble_eq_true rfl)) dX3_init_41 ⟨Nat.le_of_ble_eq_true rfl, Nat.le_of_ble_eq_true rfl⟩) hS (fun q _ h => hFc q h) hFc (fun u71 t H1 locs ht hvm hw72 hB hz1 hk1 hS => ?_)
  obtain ⟨hP1, hD1⟩ := hB
  rw [ht] at hP1
  obtain ⟨hP, hD⟩ := va_join (wr := [(h0, .inr (3, [.ref q1, .int 0, .int 0])), (q1, .inl (cQ, 20, .inr (.inr (.inr (.inr f67)))))]) (w1 := [(q69, .inr (1, [.int 0, .int 0, .ref (u71 0), .ref (u71 1), .ref (u71 2), .ref (u71 3), .ref (u71 4), .ref ho])), ((u71 0), .inl (cI, 8, .inl (fun _ => 0))), ((u71 1), .inl (cI, 8, .inl (fun _ => 0))), ((u71 2), .inl (cI, 8, .inl (fun _ => 0))), ((u71 3), .inl (cI, 4, .inl (fun _ => 0))), ((u71 4), .inl (cI, 4, .inl (fun _ => 0)))]) hP hD [2] [0, 1] rfl rfl (by decide) (by decide) hk1 hFc hP1 hD1
  clear hP1 hD1
  clear hz1 hk1 hPc hDc hFc
  generalize H1 = H at hP hS ht ⊢
  have hP : va_P (dC, dI) vwCl [(h0, .inr (3, [.ref q1, .int 0, .int 0])), (q1, .inl (cQ, 20, .inr (.inr (.inr (.inr f67))))), (q69, .inr (1, [.int 0, .int 0, .ref (u71 0), .ref (u71 1), .ref (u71 2), .ref (u71 3), .ref (u71 4), .ref ho])), ((u71 0), .inl (cI, 8, .inl (fun _ => 0))), ((u71 1), .inl (cI, 8, .inl (fun _ => 0))), ((u71 2), .inl (cI, 8, .inl (fun _ => 0))), ((u71 3), .inl (cI, 4, .inl (fun _ => 0))), ((u71 4), .inl (cI, 4, .inl (fun _ => 0)))] H := hP
  have hD : va_D A [(h0, .inr (3, [.ref q1, .int 0, .int 0])), (q1, .inl (cQ, 20, .inr (.inr (.inr (.inr f67))))), (q69, .inr (1, [.int 0, .int 0, .ref (u71 0), .ref (u71 1), .ref (u71 2), .ref (u71 3), .ref (u71 4), .ref ho])), ((u71 0), .inl (cI, 8, .inl (fun _ => 0))), ((u71 1), .inl (cI, 8, .inl (fun _ => 0))), ((u71 2), .inl (cI, 8, .inl (fun _ => 0))), ((u71 3), .inl (cI, 4, .inl (fun _ => 0))), ((u71 4), .inl (cI, 4, .inl (fun _ => 0)))] := hD
  refine W.widen (k := 73) (n := 500) (Nat.le_of_ble_eq_true rfl) (Nat.le_of_ble_eq_true rfl) ?_
  try dsimp only at hw72
  refine va_astq hx hb hK hP hD hS 1 2 2 1 rfl rfl rfl rfl (vp_in_iff.mpr ⟨by decide, by decide⟩) dX3_init_44 (fun H locs hP hD hS => ?_)
  generalize hgf73 : va_up _ _ _ = f73 at hP hD
  have hP : va_P (dC, dI) vwCl [(h0, .inr (3, [.ref q1, .int 0, .int 0])), (q1, .inl (cQ, 20, .inr (.inr (.inr (.inr f73))))), (q69, .inr (1, [.int 0, .int 0, .ref (u71 0), .ref (u71 1), .ref (u71 2), .ref (u71 3), .ref (u71 4), .ref ho])), ((u71 0), .inl (cI, 8, .inl (fun _ => 0))), ((u71 1), .inl (cI, 8, .inl (fun _ => 0))), ((u71 2), .inl (cI, 8, .inl (fun _ => 0))), ((u71 3), .inl (cI, 4, .inl (fun _ => 0))), ((u71 4), .inl (cI, 4, .inl (fun _ => 0)))] H := hP
  have hD : va_D A [(h0, .inr (3, [.ref q1, .int 0, .int 0])), (q1, .inl (cQ, 20, .inr (.inr (.inr (.inr f73))))), (q69, .inr (1, [.int 0, .int 0, .ref (u71 0), .ref (u71 1), .ref (u71 2), .ref (u71 3), .ref (u71 4), .ref ho])), ((u71 0), .inl (cI, 8, .inl (fun _ => 0))), ((u71 1), .inl (cI, 8, .inl (fun _ => 0))), ((u71 2), .inl (cI, 8, .inl (fun _ => 0))), ((u71 3), .inl (cI, 4, .inl (fun _ => 0))), ((u71 4), .inl (cI, 4, .inl (fun _ => 0)))] := hD
  have hP := hP.sub (ws' := [(h0, .inr (3, [.ref q1, .int 0, .int 0])), (q1, .inl (cQ, 20, .inr (.inr (.inr (.inr f73)))))]) [0, 1] rfl
  have hD := hD.sub (ws' := [(h0, .inr (3, [.ref q1, .int 0, .int 0])), (q1, .inl (cQ, 20, .inr (.inr (.inr (.inr f73)))))]) [0, 1] (by decide) rfl
  refine lv_iinc (v := 12) (lv' := [(2, .int 12), (0, .ref h0), (1, .ref ho)]) hx hb dX3_init_45 hl (k := 0) rfl (by decide) (by decide) rfl (fun ls hl => ?_)
  refine lv_goto (tgt := 25) hx hb dX3_init_48 (by decide) ?_
  refine lv_iload_n hx hb dX3_init_25 rfl (lv_at hl 0 rfl) ?_
  refine lv_bipush (v := 20) hx hb dX3_init_26 (by decide) ?_
  refine lv_icmp_ge (tgt := 51) hx hb dX3_init_28 (by decide) (fun c74 => ?_) (fun c74 => ?_)
  · exact absurd c74 (by decide)
  clear c74
  refine lv_aload_n hx hb dX3_init_31 rfl (lv_at hl 1 rfl) ?_
  refine va_get (D := (dC, dI)) (ci := 3) (v := .ref q1) (C := RX3) (T := TX3) (N := 3) hx hb hts hi_X3 hown hK hP 0 rfl rfl 0 (by decide) (hts (.fieldLink RX3 11 "LeftQuills$History" "desks" "[LLeftQuills$Desk;") (by decide +kernel)) (fun _ h9 => h9) rfl dX3_init_32 ?_
  refine lv_iload_n hx hb dX3_init_35 rfl (lv_at hl 0 rfl) ?_
  refine va_new (ci := 1) (fs := [.int 0, .int 0, .null, .null, .null, .null, .null, .null]) (C := RX1) (T := TX1) (N := 8) hx hb hts hi_X1 tyX1 tyX1_ok hown (hts (.classLink RX3 9 RX1) (by decide +kernel)) (hts (.instantiable RX1 8) (by decide +kernel)) (hts (.initialized RX1) (by decide +kernel)) hK hP hD hS hA rfl (fun j hj => by rcases (show j = 0 ∨ j = 1 ∨ j = 2 ∨ j = 3 ∨ j = 4 ∨ j = 5 ∨ j = 6 ∨ j = 7 by omega) with rfl | rfl | rfl | rfl | rfl | rfl | rfl | rfl <;> rfl) (Nat.le_of_ble_eq_true rfl) (Nat.le_of_ble_eq_true rfl) dX3_init_36 (fun q75 H hP hD hS => ?_)
  refine W.widen (k := 74) (n := 508) (Nat.le_of_ble_eq_true rfl) (Nat.le_of_ble_eq_true rfl) ?_
  have hP : va_P (dC, dI) vwCl [(h0, .inr (3, [.ref q1, .int 0, .int 0])), (q1, .inl (cQ, 20, .inr (.inr (.inr (.inr f73))))), (q75, .inr (1, [.int 0, .int 0, .null, .null, .null, .null, .null, .null]))] H := hP
  have hD : va_D A [(h0, .inr (3, [.ref q1, .int 0, .int 0])), (q1, .inl (cQ, 20, .inr (.inr (.inr (.inr f73))))), (q75, .inr (1, [.int 0, .int 0, .null, .null, .null, .null, .null, .null]))] := hD
  refine lv_dup hx hb dX3_init_39 rfl ?_
  refine lv_aload_n hx hb dX3_init_40 rfl (lv_at hl 2 rfl) ?_
  have hPc := hP.sub (ws' := [(q75, .inr (1, [.int 0, .int 0, .null, .null, .null, .null, .null, .null]))]) [2] rfl
  have hDc := hD.sub (ws' := [(q75, .inr (1, [.int 0, .int 0, .null, .null, .null, .null, .null, .null]))]) [2] (by decide) rfl
  have hFc := va_free (wc := [(q75, .inr (1, [.int 0, .int 0, .null, .null, .null, .null, .null, .null]))]) hD hS hA [2] rfl
  refine va_callv (va_runI (As := [.ref ho]) (rest := [.ref q75, .int 12, .ref q1]) ⟨hx, hb, hml, hown, hts⟩ (c_X1_init l dC dI cI cZ cQ q75 ho H.size ) (cwI 1 hts gX3_init_X1_init rfl rfl rfl (hts (.initialized RX1) (by decide +kernel)) (hts (.methodLink RX3 22 yX1_init) (by decide +kernel)) (hts (.instanceMethod yX1_init) (by decide +kernel)) rfl (by decide +kernel) ⟨Nat.le_of_ble_eq_true rfl, Nat.le_of_ble_eq_true rfl⟩) ⟨fun a U g mk q => by obtain ⟨q0, q1, qP, qK, qD⟩ := q; exact ⟨q0, q1, qP, va_K.moved (u := U) (U := U.calling g mk a) (Vm.Alike.refl U.vm) qK, qD⟩, fun U hU hW => ⟨rfl, by rw [hU], by rw [hU]; exact hPc, va_K.moved hW.alike hK, hDc.weaken (fun _ _ _ _ => trivial)⟩⟩ rfl rfl hl.1 rfl (lv_room (Nat.le_of_ble_eq_true rfl)) dX3_init_41 ⟨Nat.le_of_ble_eq_true rfl, Nat.le_of_ble_eq_true rfl⟩) hS (fun q _ h => hFc q h) hFc (fun u77 t H1 locs ht hvm hw78 hB hz1 hk1 hS => ?_)
  obtain ⟨hP1, hD1⟩ := hB
  rw [ht] at hP1
  obtain ⟨hP, hD⟩ := va_join (wr := [(h0, .inr (3, [.ref q1, .int 0, .int 0])), (q1, .inl (cQ, 20, .inr (.inr (.inr (.inr f73)))))]) (w1 := [(q75, .inr (1, [.int 0, .int 0, .ref (u77 0), .ref (u77 1), .ref (u77 2), .ref (u77 3), .ref (u77 4), .ref ho])), ((u77 0), .inl (cI, 8, .inl (fun _ => 0))), ((u77 1), .inl (cI, 8, .inl (fun _ => 0))), ((u77 2), .inl (cI, 8, .inl (fun _ => 0))), ((u77 3), .inl (cI, 4, .inl (fun _ => 0))), ((u77 4), .inl (cI, 4, .inl (fun _ => 0)))]) hP hD [2] [0, 1] rfl rfl (by decide) (by decide) hk1 hFc hP1 hD1
  clear hP1 hD1
  clear hz1 hk1 hPc hDc hFc
  generalize H1 = H at hP hS ht ⊢
  have hP : va_P (dC, dI) vwCl [(h0, .inr (3, [.ref q1, .int 0, .int 0])), (q1, .inl (cQ, 20, .inr (.inr (.inr (.inr f73))))), (q75, .inr (1, [.int 0, .int 0, .ref (u77 0), .ref (u77 1), .ref (u77 2), .ref (u77 3), .ref (u77 4), .ref ho])), ((u77 0), .inl (cI, 8, .inl (fun _ => 0))), ((u77 1), .inl (cI, 8, .inl (fun _ => 0))), ((u77 2), .inl (cI, 8, .inl (fun _ => 0))), ((u77 3), .inl (cI, 4, .inl (fun _ => 0))), ((u77 4), .inl (cI, 4, .inl (fun _ => 0)))] H := hP
  have hD : va_D A [(h0, .inr (3, [.ref q1, .int 0, .int 0])), (q1, .inl (cQ, 20, .inr (.inr (.inr (.inr f73))))), (q75, .inr (1, [.int 0, .int 0, .ref (u77 0), .ref (u77 1), .ref (u77 2), .ref (u77 3), .ref (u77 4), .ref ho])), ((u77 0), .inl (cI, 8, .inl (fun _ => 0))), ((u77 1), .inl (cI, 8, .inl (fun _ => 0))), ((u77 2), .inl (cI, 8, .inl (fun _ => 0))), ((u77 3), .inl (cI, 4, .inl (fun _ => 0))), ((u77 4), .inl (cI, 4, .inl (fun _ => 0)))] := hD
  refine W.widen (k := 79) (n := 540) (Nat.le_of_ble_eq_true rfl) (Nat.le_of_ble_eq_true rfl) ?_
  try dsimp only at hw78
  refine va_astq hx hb hK hP hD hS 1 2 2 1 rfl rfl rfl rfl (vp_in_iff.mpr ⟨by decide, by decide⟩) dX3_init_44 (fun H locs hP hD hS => ?_)
  generalize hgf79 : va_up _ _ _ = f79 at hP hD
  have hP : va_P (dC, dI) vwCl [(h0, .inr (3, [.ref q1, .int 0, .int 0])), (q1, .inl (cQ, 20, .inr (.inr (.inr (.inr f79))))), (q75, .inr (1, [.int 0, .int 0, .ref (u77 0), .ref (u77 1), .ref (u77 2), .ref (u77 3), .ref (u77 4), .ref ho])), ((u77 0), .inl (cI, 8, .inl (fun _ => 0))), ((u77 1), .inl (cI, 8, .inl (fun _ => 0))), ((u77 2), .inl (cI, 8, .inl (fun _ => 0))), ((u77 3), .inl (cI, 4, .inl (fun _ => 0))), ((u77 4), .inl (cI, 4, .inl (fun _ => 0)))] H := hP
  have hD : va_D A [(h0, .inr (3, [.ref q1, .int 0, .int 0])), (q1, .inl (cQ, 20, .inr (.inr (.inr (.inr f79))))), (q75, .inr (1, [.int 0, .int 0, .ref (u77 0), .ref (u77 1), .ref (u77 2), .ref (u77 3), .ref (u77 4), .ref ho])), ((u77 0), .inl (cI, 8, .inl (fun _ => 0))), ((u77 1), .inl (cI, 8, .inl (fun _ => 0))), ((u77 2), .inl (cI, 8, .inl (fun _ => 0))), ((u77 3), .inl (cI, 4, .inl (fun _ => 0))), ((u77 4), .inl (cI, 4, .inl (fun _ => 0)))] := hD
  have hP := hP.sub (ws' := [(h0, .inr (3, [.ref q1, .int 0, .int 0])), (q1, .inl (cQ, 20, .inr (.inr (.inr (.inr f79)))))]) [0, 1] rfl
  have hD := hD.sub (ws' := [(h0, .inr (3, [.ref q1, .int 0, .int 0])), (q1, .inl (cQ, 20, .inr (.inr (.inr (.inr f79)))))]) [0, 1] (by decide) rfl
  refine lv_iinc (v := 13) (lv' := [(2, .int 13), (0, .ref h0), (1, .ref ho)]) hx hb dX3_init_45 hl (k := 0) rfl (by decide) (by decide) rfl (fun ls hl => ?_)
  refine lv_goto (tgt := 25) hx hb dX3_init_48 (by decide) ?_
  refine lv_iload_n hx hb dX3_init_25 rfl (lv_at hl 0 rfl) ?_
  refine lv_bipush (v := 20) hx hb dX3_init_26 (by decide) ?_
  refine lv_icmp_ge (tgt := 51) hx hb dX3_init_28 (by decide) (fun c80 => ?_) (fun c80 => ?_)
  · exact absurd c80 (by decide)
  clear c80
  refine lv_aload_n hx hb dX3_init_31 rfl (lv_at hl 1 rfl) ?_
  refine va_get (D := (dC, dI)) (ci := 3) (v := .ref q1) (C := RX3) (T := TX3) (N := 3) hx hb hts hi_X3 hown hK hP 0 rfl rfl 0 (by decide) (hts (.fieldLink RX3 11 "LeftQuills$History" "desks" "[LLeftQuills$Desk;") (by decide +kernel)) (fun _ h9 => h9) rfl dX3_init_32 ?_
  refine lv_iload_n hx hb dX3_init_35 rfl (lv_at hl 0 rfl) ?_
  refine va_new (ci := 1) (fs := [.int 0, .int 0, .null, .null, .null, .null, .null, .null]) (C := RX1) (T := TX1) (N := 8) hx hb hts hi_X1 tyX1 tyX1_ok hown (hts (.classLink RX3 9 RX1) (by decide +kernel)) (hts (.instantiable RX1 8) (by decide +kernel)) (hts (.initialized RX1) (by decide +kernel)) hK hP hD hS hA rfl (fun j hj => by rcases (show j = 0 ∨ j = 1 ∨ j = 2 ∨ j = 3 ∨ j = 4 ∨ j = 5 ∨ j = 6 ∨ j = 7 by omega) with rfl | rfl | rfl | rfl | rfl | rfl | rfl | rfl <;> rfl) (Nat.le_of_ble_eq_true rfl) (Nat.le_of_ble_eq_true rfl) dX3_init_36 (fun q81 H hP hD hS => ?_)
  refine W.widen (k := 80) (n := 548) (Nat.le_of_ble_eq_true rfl) (Nat.le_of_ble_eq_true rfl) ?_
  have hP : va_P (dC, dI) vwCl [(h0, .inr (3, [.ref q1, .int 0, .int 0])), (q1, .inl (cQ, 20, .inr (.inr (.inr (.inr f79))))), (q81, .inr (1, [.int 0, .int 0, .null, .null, .null, .null, .null, .null]))] H := hP
  have hD : va_D A [(h0, .inr (3, [.ref q1, .int 0, .int 0])), (q1, .inl (cQ, 20, .inr (.inr (.inr (.inr f79))))), (q81, .inr (1, [.int 0, .int 0, .null, .null, .null, .null, .null, .null]))] := hD
  refine lv_dup hx hb dX3_init_39 rfl ?_
  refine lv_aload_n hx hb dX3_init_40 rfl (lv_at hl 2 rfl) ?_
  have hPc := hP.sub (ws' := [(q81, .inr (1, [.int 0, .int 0, .null, .null, .null, .null, .null, .null]))]) [2] rfl
  have hDc := hD.sub (ws' := [(q81, .inr (1, [.int 0, .int 0, .null, .null, .null, .null, .null, .null]))]) [2] (by decide) rfl
  have hFc := va_free (wc := [(q81, .inr (1, [.int 0, .int 0, .null, .null, .null, .null, .null, .null]))]) hD hS hA [2] rfl
  refine va_callv (va_runI (As := [.ref ho]) (rest := [.ref q81, .int 13, .ref q1]) ⟨hx, hb, hml, hown, hts⟩ (c_X1_init l dC dI cI cZ cQ q81 ho H.size ) (cwI 1 hts gX3_init_X1_init rfl rfl rfl (hts (.initialized RX1) (by decide +kernel)) (hts (.methodLink RX3 22 yX1_init) (by decide +kernel)) (hts (.instanceMethod yX1_init) (by decide +kernel)) rfl (by decide +kernel) ⟨Nat.le_of_ble_eq_true rfl, Nat.le_of_ble_eq_true rfl⟩) ⟨fun a U g mk q => by obtain ⟨q0, q1, qP, qK, qD⟩ := q; exact ⟨q0, q1, qP, va_K.moved (u := U) (U := U.calling g mk a) (Vm.Alike.refl U.vm) qK, qD⟩, fun U hU hW => ⟨rfl, by rw [hU], by rw [hU]; exact hPc, va_K.moved hW.alike hK, hDc.weaken (fun _ _ _ _ => trivial)⟩⟩ rfl rfl hl.1 rfl (lv_room (Nat.le_of_ble_eq_true rfl)) dX3_init_41 ⟨Nat.le_of_ble_eq_true rfl, Nat.le_of_ble_eq_true rfl⟩) hS (fun q _ h => hFc q h) hFc (fun u83 t H1 locs ht hvm hw84 hB hz1 hk1 hS => ?_)
  obtain ⟨hP1, hD1⟩ := hB
  rw [ht] at hP1
  obtain ⟨hP, hD⟩ := va_join (wr := [(h0, .inr (3, [.ref q1, .int 0, .int 0])), (q1, .inl (cQ, 20, .inr (.inr (.inr (.inr f79)))))]) (w1 := [(q81, .inr (1, [.int 0, .int 0, .ref (u83 0), .ref (u83 1), .ref (u83 2), .ref (u83 3), .ref (u83 4), .ref ho])), ((u83 0), .inl (cI, 8, .inl (fun _ => 0))), ((u83 1), .inl (cI, 8, .inl (fun _ => 0))), ((u83 2), .inl (cI, 8, .inl (fun _ => 0))), ((u83 3), .inl (cI, 4, .inl (fun _ => 0))), ((u83 4), .inl (cI, 4, .inl (fun _ => 0)))]) hP hD [2] [0, 1] rfl rfl (by decide) (by decide) hk1 hFc hP1 hD1
  clear hP1 hD1
  clear hz1 hk1 hPc hDc hFc
  generalize H1 = H at hP hS ht ⊢
  have hP : va_P (dC, dI) vwCl [(h0, .inr (3, [.ref q1, .int 0, .int 0])), (q1, .inl (cQ, 20, .inr (.inr (.inr (.inr f79))))), (q81, .inr (1, [.int 0, .int 0, .ref (u83 0), .ref (u83 1), .ref (u83 2), .ref (u83 3), .ref (u83 4), .ref ho])), ((u83 0), .inl (cI, 8, .inl (fun _ => 0))), ((u83 1), .inl (cI, 8, .inl (fun _ => 0))), ((u83 2), .inl (cI, 8, .inl (fun _ => 0))), ((u83 3), .inl (cI, 4, .inl (fun _ => 0))), ((u83 4), .inl (cI, 4, .inl (fun _ => 0)))] H := hP
  have hD : va_D A [(h0, .inr (3, [.ref q1, .int 0, .int 0])), (q1, .inl (cQ, 20, .inr (.inr (.inr (.inr f79))))), (q81, .inr (1, [.int 0, .int 0, .ref (u83 0), .ref (u83 1), .ref (u83 2), .ref (u83 3), .ref (u83 4), .ref ho])), ((u83 0), .inl (cI, 8, .inl (fun _ => 0))), ((u83 1), .inl (cI, 8, .inl (fun _ => 0))), ((u83 2), .inl (cI, 8, .inl (fun _ => 0))), ((u83 3), .inl (cI, 4, .inl (fun _ => 0))), ((u83 4), .inl (cI, 4, .inl (fun _ => 0)))] := hD
  refine W.widen (k := 85) (n := 580) (Nat.le_of_ble_eq_true rfl) (Nat.le_of_ble_eq_true rfl) ?_
  try dsimp only at hw84
  refine va_astq hx hb hK hP hD hS 1 2 2 1 rfl rfl rfl rfl (vp_in_iff.mpr ⟨by decide, by decide⟩) dX3_init_44 (fun H locs hP hD hS => ?_)
  generalize hgf85 : va_up _ _ _ = f85 at hP hD
  have hP : va_P (dC, dI) vwCl [(h0, .inr (3, [.ref q1, .int 0, .int 0])), (q1, .inl (cQ, 20, .inr (.inr (.inr (.inr f85))))), (q81, .inr (1, [.int 0, .int 0, .ref (u83 0), .ref (u83 1), .ref (u83 2), .ref (u83 3), .ref (u83 4), .ref ho])), ((u83 0), .inl (cI, 8, .inl (fun _ => 0))), ((u83 1), .inl (cI, 8, .inl (fun _ => 0))), ((u83 2), .inl (cI, 8, .inl (fun _ => 0))), ((u83 3), .inl (cI, 4, .inl (fun _ => 0))), ((u83 4), .inl (cI, 4, .inl (fun _ => 0)))] H := hP
  have hD : va_D A [(h0, .inr (3, [.ref q1, .int 0, .int 0])), (q1, .inl (cQ, 20, .inr (.inr (.inr (.inr f85))))), (q81, .inr (1, [.int 0, .int 0, .ref (u83 0), .ref (u83 1), .ref (u83 2), .ref (u83 3), .ref (u83 4), .ref ho])), ((u83 0), .inl (cI, 8, .inl (fun _ => 0))), ((u83 1), .inl (cI, 8, .inl (fun _ => 0))), ((u83 2), .inl (cI, 8, .inl (fun _ => 0))), ((u83 3), .inl (cI, 4, .inl (fun _ => 0))), ((u83 4), .inl (cI, 4, .inl (fun _ => 0)))] := hD
  have hP := hP.sub (ws' := [(h0, .inr (3, [.ref q1, .int 0, .int 0])), (q1, .inl (cQ, 20, .inr (.inr (.inr (.inr f85)))))]) [0, 1] rfl
  have hD := hD.sub (ws' := [(h0, .inr (3, [.ref q1, .int 0, .int 0])), (q1, .inl (cQ, 20, .inr (.inr (.inr (.inr f85)))))]) [0, 1] (by decide) rfl
  refine lv_iinc (v := 14) (lv' := [(2, .int 14), (0, .ref h0), (1, .ref ho)]) hx hb dX3_init_45 hl (k := 0) rfl (by decide) (by decide) rfl (fun ls hl => ?_)
  refine lv_goto (tgt := 25) hx hb dX3_init_48 (by decide) ?_
  refine lv_iload_n hx hb dX3_init_25 rfl (lv_at hl 0 rfl) ?_
  refine lv_bipush (v := 20) hx hb dX3_init_26 (by decide) ?_
  refine lv_icmp_ge (tgt := 51) hx hb dX3_init_28 (by decide) (fun c86 => ?_) (fun c86 => ?_)
  · exact absurd c86 (by decide)
  clear c86
  refine lv_aload_n hx hb dX3_init_31 rfl (lv_at hl 1 rfl) ?_
  refine va_get (D := (dC, dI)) (ci := 3) (v := .ref q1) (C := RX3) (T := TX3) (N := 3) hx hb hts hi_X3 hown hK hP 0 rfl rfl 0 (by decide) (hts (.fieldLink RX3 11 "LeftQuills$History" "desks" "[LLeftQuills$Desk;") (by decide +kernel)) (fun _ h9 => h9) rfl dX3_init_32 ?_
  refine lv_iload_n hx hb dX3_init_35 rfl (lv_at hl 0 rfl) ?_
  refine va_new (ci := 1) (fs := [.int 0, .int 0, .null, .null, .null, .null, .null, .null]) (C := RX1) (T := TX1) (N := 8) hx hb hts hi_X1 tyX1 tyX1_ok hown (hts (.classLink RX3 9 RX1) (by decide +kernel)) (hts (.instantiable RX1 8) (by decide +kernel)) (hts (.initialized RX1) (by decide +kernel)) hK hP hD hS hA rfl (fun j hj => by rcases (show j = 0 ∨ j = 1 ∨ j = 2 ∨ j = 3 ∨ j = 4 ∨ j = 5 ∨ j = 6 ∨ j = 7 by omega) with rfl | rfl | rfl | rfl | rfl | rfl | rfl | rfl <;> rfl) (Nat.le_of_ble_eq_true rfl) (Nat.le_of_ble_eq_true rfl) dX3_init_36 (fun q87 H hP hD hS => ?_)
  refine W.widen (k := 86) (n := 588) (Nat.le_of_ble_eq_true rfl) (Nat.le_of_ble_eq_true rfl) ?_
  have hP : va_P (dC, dI) vwCl [(h0, .inr (3, [.ref q1, .int 0, .int 0])), (q1, .inl (cQ, 20, .inr (.inr (.inr (.inr f85))))), (q87, .inr (1, [.int 0, .int 0, .null, .null, .null, .null, .null, .null]))] H := hP
  have hD : va_D A [(h0, .inr (3, [.ref q1, .int 0, .int 0])), (q1, .inl (cQ, 20, .inr (.inr (.inr (.inr f85))))), (q87, .inr (1, [.int 0, .int 0, .null, .null, .null, .null, .null, .null]))] := hD
  refine lv_dup hx hb dX3_init_39 rfl ?_
  refine lv_aload_n hx hb dX3_init_40 rfl (lv_at hl 2 rfl) ?_
  have hPc := hP.sub (ws' := [(q87, .inr (1, [.int 0, .int 0, .null, .null, .null, .null, .null, .null]))]) [2] rfl
  have hDc := hD.sub (ws' := [(q87, .inr (1, [.int 0, .int 0, .null, .null, .null, .null, .null, .null]))]) [2] (by decide) rfl
  have hFc := va_free (wc := [(q87, .inr (1, [.int 0, .int 0, .null, .null, .null, .null, .null, .null]))]) hD hS hA [2] rfl
  refine va_callv (va_runI (As := [.ref ho]) (rest := [.ref q87, .int 14, .ref q1]) ⟨hx, hb, hml, hown, hts⟩ (c_X1_init l dC dI cI cZ cQ q87 ho H.size ) (cwI 1 hts gX3_init_X1_init rfl rfl rfl (hts (.initialized RX1) (by decide +kernel)) (hts (.methodLink RX3 22 yX1_init) (by decide +kernel)) (hts (.instanceMethod yX1_init) (by decide +kernel)) rfl (by decide +kernel) ⟨Nat.le_of_ble_eq_true rfl, Nat.le_of_ble_eq_true rfl⟩) ⟨fun a U g mk q => by obtain ⟨q0, q1, qP, qK, qD⟩ := q; exact ⟨q0, q1, qP, va_K.moved (u := U) (U := U.calling g mk a) (Vm.Alike.refl U.vm) qK, qD⟩, fun U hU hW => ⟨rfl, by rw [hU], by rw [hU]; exact hPc, va_K.moved hW.alike hK, hDc.weaken (fun _ _ _ _ => trivial)⟩⟩ rfl rfl hl.1 rfl (lv_room (Nat.le_of_ble_eq_true rfl)) dX3_init_41 ⟨Nat.le_of_ble_eq_true rfl, Nat.le_of_ble_eq_true rfl⟩) hS (fun q _ h => hFc q h) hFc (fun u89 t H1 locs ht hvm hw90 hB hz1 hk1 hS => ?_)
  obtain ⟨hP1, hD1⟩ := hB
  rw [ht] at hP1
  obtain ⟨hP, hD⟩ := va_join (wr := [(h0, .inr (3, [.ref q1, .int 0, .int 0])), (q1, .inl (cQ, 20, .inr (.inr (.inr (.inr f85)))))]) (w1 := [(q87, .inr (1, [.int 0, .int 0, .ref (u89 0), .ref (u89 1), .ref (u89 2), .ref (u89 3), .ref (u89 4), .ref ho])), ((u89 0), .inl (cI, 8, .inl (fun _ => 0))), ((u89 1), .inl (cI, 8, .inl (fun _ => 0))), ((u89 2), .inl (cI, 8, .inl (fun _ => 0))), ((u89 3), .inl (cI, 4, .inl (fun _ => 0))), ((u89 4), .inl (cI, 4, .inl (fun _ => 0)))]) hP hD [2] [0, 1] rfl rfl (by decide) (by decide) hk1 hFc hP1 hD1
  clear hP1 hD1
  clear hz1 hk1 hPc hDc hFc
  generalize H1 = H at hP hS ht ⊢
  have hP : va_P (dC, dI) vwCl [(h0, .inr (3, [.ref q1, .int 0, .int 0])), (q1, .inl (cQ, 20, .inr (.inr (.inr (.inr f85))))), (q87, .inr (1, [.int 0, .int 0, .ref (u89 0), .ref (u89 1), .ref (u89 2), .ref (u89 3), .ref (u89 4), .ref ho])), ((u89 0), .inl (cI, 8, .inl (fun _ => 0))), ((u89 1), .inl (cI, 8, .inl (fun _ => 0))), ((u89 2), .inl (cI, 8, .inl (fun _ => 0))), ((u89 3), .inl (cI, 4, .inl (fun _ => 0))), ((u89 4), .inl (cI, 4, .inl (fun _ => 0)))] H := hP
  have hD : va_D A [(h0, .inr (3, [.ref q1, .int 0, .int 0])), (q1, .inl (cQ, 20, .inr (.inr (.inr (.inr f85))))), (q87, .inr (1, [.int 0, .int 0, .ref (u89 0), .ref (u89 1), .ref (u89 2), .ref (u89 3), .ref (u89 4), .ref ho])), ((u89 0), .inl (cI, 8, .inl (fun _ => 0))), ((u89 1), .inl (cI, 8, .inl (fun _ => 0))), ((u89 2), .inl (cI, 8, .inl (fun _ => 0))), ((u89 3), .inl (cI, 4, .inl (fun _ => 0))), ((u89 4), .inl (cI, 4, .inl (fun _ => 0)))] := hD
  refine W.widen (k := 91) (n := 620) (Nat.le_of_ble_eq_true rfl) (Nat.le_of_ble_eq_true rfl) ?_
  try dsimp only at hw90
  refine va_astq hx hb hK hP hD hS 1 2 2 1 rfl rfl rfl rfl (vp_in_iff.mpr ⟨by decide, by decide⟩) dX3_init_44 (fun H locs hP hD hS => ?_)
  generalize hgf91 : va_up _ _ _ = f91 at hP hD
  have hP : va_P (dC, dI) vwCl [(h0, .inr (3, [.ref q1, .int 0, .int 0])), (q1, .inl (cQ, 20, .inr (.inr (.inr (.inr f91))))), (q87, .inr (1, [.int 0, .int 0, .ref (u89 0), .ref (u89 1), .ref (u89 2), .ref (u89 3), .ref (u89 4), .ref ho])), ((u89 0), .inl (cI, 8, .inl (fun _ => 0))), ((u89 1), .inl (cI, 8, .inl (fun _ => 0))), ((u89 2), .inl (cI, 8, .inl (fun _ => 0))), ((u89 3), .inl (cI, 4, .inl (fun _ => 0))), ((u89 4), .inl (cI, 4, .inl (fun _ => 0)))] H := hP
  have hD : va_D A [(h0, .inr (3, [.ref q1, .int 0, .int 0])), (q1, .inl (cQ, 20, .inr (.inr (.inr (.inr f91))))), (q87, .inr (1, [.int 0, .int 0, .ref (u89 0), .ref (u89 1), .ref (u89 2), .ref (u89 3), .ref (u89 4), .ref ho])), ((u89 0), .inl (cI, 8, .inl (fun _ => 0))), ((u89 1), .inl (cI, 8, .inl (fun _ => 0))), ((u89 2), .inl (cI, 8, .inl (fun _ => 0))), ((u89 3), .inl (cI, 4, .inl (fun _ => 0))), ((u89 4), .inl (cI, 4, .inl (fun _ => 0)))] := hD
  have hP := hP.sub (ws' := [(h0, .inr (3, [.ref q1, .int 0, .int 0])), (q1, .inl (cQ, 20, .inr (.inr (.inr (.inr f91)))))]) [0, 1] rfl
  have hD := hD.sub (ws' := [(h0, .inr (3, [.ref q1, .int 0, .int 0])), (q1, .inl (cQ, 20, .inr (.inr (.inr (.inr f91)))))]) [0, 1] (by decide) rfl
  refine lv_iinc (v := 15) (lv' := [(2, .int 15), (0, .ref h0), (1, .ref ho)]) hx hb dX3_init_45 hl (k := 0) rfl (by decide) (by decide) rfl (fun ls hl => ?_)
  refine lv_goto (tgt := 25) hx hb dX3_init_48 (by decide) ?_
  refine lv_iload_n hx hb dX3_init_25 rfl (lv_at hl 0 rfl) ?_
  refine lv_bipush (v := 20) hx hb dX3_init_26 (by decide) ?_
  refine lv_icmp_ge (tgt := 51) hx hb dX3_init_28 (by decide) (fun c92 => ?_) (fun c92 => ?_)
  · exact absurd c92 (by decide)
  clear c92
  refine lv_aload_n hx hb dX3_init_31 rfl (lv_at hl 1 rfl) ?_
  refine va_get (D := (dC, dI)) (ci := 3) (v := .ref q1) (C := RX3) (T := TX3) (N := 3) hx hb hts hi_X3 hown hK hP 0 rfl rfl 0 (by decide) (hts (.fieldLink RX3 11 "LeftQuills$History" "desks" "[LLeftQuills$Desk;") (by decide +kernel)) (fun _ h9 => h9) rfl dX3_init_32 ?_
  refine lv_iload_n hx hb dX3_init_35 rfl (lv_at hl 0 rfl) ?_
  refine va_new (ci := 1) (fs := [.int 0, .int 0, .null, .null, .null, .null, .null, .null]) (C := RX1) (T := TX1) (N := 8) hx hb hts hi_X1 tyX1 tyX1_ok hown (hts (.classLink RX3 9 RX1) (by decide +kernel)) (hts (.instantiable RX1 8) (by decide +kernel)) (hts (.initialized RX1) (by decide +kernel)) hK hP hD hS hA rfl (fun j hj => by rcases (show j = 0 ∨ j = 1 ∨ j = 2 ∨ j = 3 ∨ j = 4 ∨ j = 5 ∨ j = 6 ∨ j = 7 by omega) with rfl | rfl | rfl | rfl | rfl | rfl | rfl | rfl <;> rfl) (Nat.le_of_ble_eq_true rfl) (Nat.le_of_ble_eq_true rfl) dX3_init_36 (fun q93 H hP hD hS => ?_)
  refine W.widen (k := 92) (n := 628) (Nat.le_of_ble_eq_true rfl) (Nat.le_of_ble_eq_true rfl) ?_
  have hP : va_P (dC, dI) vwCl [(h0, .inr (3, [.ref q1, .int 0, .int 0])), (q1, .inl (cQ, 20, .inr (.inr (.inr (.inr f91))))), (q93, .inr (1, [.int 0, .int 0, .null, .null, .null, .null, .null, .null]))] H := hP
  have hD : va_D A [(h0, .inr (3, [.ref q1, .int 0, .int 0])), (q1, .inl (cQ, 20, .inr (.inr (.inr (.inr f91))))), (q93, .inr (1, [.int 0, .int 0, .null, .null, .null, .null, .null, .null]))] := hD
  refine lv_dup hx hb dX3_init_39 rfl ?_
  refine lv_aload_n hx hb dX3_init_40 rfl (lv_at hl 2 rfl) ?_
  have hPc := hP.sub (ws' := [(q93, .inr (1, [.int 0, .int 0, .null, .null, .null, .null, .null, .null]))]) [2] rfl
  have hDc := hD.sub (ws' := [(q93, .inr (1, [.int 0, .int 0, .null, .null, .null, .null, .null, .null]))]) [2] (by decide) rfl
  have hFc := va_free (wc := [(q93, .inr (1, [.int 0, .int 0, .null, .null, .null, .null, .null, .null]))]) hD hS hA [2] rfl
  refine va_callv (va_runI (As := [.ref ho]) (rest := [.ref q93, .int 15, .ref q1]) ⟨hx, hb, hml, hown, hts⟩ (c_X1_init l dC dI cI cZ cQ q93 ho H.size ) (cwI 1 hts gX3_init_X1_init rfl rfl rfl (hts (.initialized RX1) (by decide +kernel)) (hts (.methodLink RX3 22 yX1_init) (by decide +kernel)) (hts (.instanceMethod yX1_init) (by decide +kernel)) rfl (by decide +kernel) ⟨Nat.le_of_ble_eq_true rfl, Nat.le_of_ble_eq_true rfl⟩) ⟨fun a U g mk q => by obtain ⟨q0, q1, qP, qK, qD⟩ := q; exact ⟨q0, q1, qP, va_K.moved (u := U) (U := U.calling g mk a) (Vm.Alike.refl U.vm) qK, qD⟩, fun U hU hW => ⟨rfl, by rw [hU], by rw [hU]; exact hPc, va_K.moved hW.alike hK, hDc.weaken (fun _ _ _ _ => trivial)⟩⟩ rfl rfl hl.1 rfl (lv_room (Nat.le_of_ble_eq_true rfl)) dX3_init_41 ⟨Nat.le_of_ble_eq_true rfl, Nat.le_of_ble_eq_true rfl⟩) hS (fun q _ h => hFc q h) hFc (fun u95 t H1 locs ht hvm hw96 hB hz1 hk1 hS => ?_)
  obtain ⟨hP1, hD1⟩ := hB
  rw [ht] at hP1
  obtain ⟨hP, hD⟩ := va_join (wr := [(h0, .inr (3, [.ref q1, .int 0, .int 0])), (q1, .inl (cQ, 20, .inr (.inr (.inr (.inr f91)))))]) (w1 := [(q93, .inr (1, [.int 0, .int 0, .ref (u95 0), .ref (u95 1), .ref (u95 2), .ref (u95 3), .ref (u95 4), .ref ho])), ((u95 0), .inl (cI, 8, .inl (fun _ => 0))), ((u95 1), .inl (cI, 8, .inl (fun _ => 0))), ((u95 2), .inl (cI, 8, .inl (fun _ => 0))), ((u95 3), .inl (cI, 4, .inl (fun _ => 0))), ((u95 4), .inl (cI, 4, .inl (fun _ => 0)))]) hP hD [2] [0, 1] rfl rfl (by decide) (by decide) hk1 hFc hP1 hD1
  clear hP1 hD1
  clear hz1 hk1 hPc hDc hFc
  generalize H1 = H at hP hS ht ⊢
  have hP : va_P (dC, dI) vwCl [(h0, .inr (3, [.ref q1, .int 0, .int 0])), (q1, .inl (cQ, 20, .inr (.inr (.inr (.inr f91))))), (q93, .inr (1, [.int 0, .int 0, .ref (u95 0), .ref (u95 1), .ref (u95 2), .ref (u95 3), .ref (u95 4), .ref ho])), ((u95 0), .inl (cI, 8, .inl (fun _ => 0))), ((u95 1), .inl (cI, 8, .inl (fun _ => 0))), ((u95 2), .inl (cI, 8, .inl (fun _ => 0))), ((u95 3), .inl (cI, 4, .inl (fun _ => 0))), ((u95 4), .inl (cI, 4, .inl (fun _ => 0)))] H := hP
  have hD : va_D A [(h0, .inr (3, [.ref q1, .int 0, .int 0])), (q1, .inl (cQ, 20, .inr (.inr (.inr (.inr f91))))), (q93, .inr (1, [.int 0, .int 0, .ref (u95 0), .ref (u95 1), .ref (u95 2), .ref (u95 3), .ref (u95 4), .ref ho])), ((u95 0), .inl (cI, 8, .inl (fun _ => 0))), ((u95 1), .inl (cI, 8, .inl (fun _ => 0))), ((u95 2), .inl (cI, 8, .inl (fun _ => 0))), ((u95 3), .inl (cI, 4, .inl (fun _ => 0))), ((u95 4), .inl (cI, 4, .inl (fun _ => 0)))] := hD
  refine W.widen (k := 97) (n := 660) (Nat.le_of_ble_eq_true rfl) (Nat.le_of_ble_eq_true rfl) ?_
  try dsimp only at hw96
  refine va_astq hx hb hK hP hD hS 1 2 2 1 rfl rfl rfl rfl (vp_in_iff.mpr ⟨by decide, by decide⟩) dX3_init_44 (fun H locs hP hD hS => ?_)
  generalize hgf97 : va_up _ _ _ = f97 at hP hD
  have hP : va_P (dC, dI) vwCl [(h0, .inr (3, [.ref q1, .int 0, .int 0])), (q1, .inl (cQ, 20, .inr (.inr (.inr (.inr f97))))), (q93, .inr (1, [.int 0, .int 0, .ref (u95 0), .ref (u95 1), .ref (u95 2), .ref (u95 3), .ref (u95 4), .ref ho])), ((u95 0), .inl (cI, 8, .inl (fun _ => 0))), ((u95 1), .inl (cI, 8, .inl (fun _ => 0))), ((u95 2), .inl (cI, 8, .inl (fun _ => 0))), ((u95 3), .inl (cI, 4, .inl (fun _ => 0))), ((u95 4), .inl (cI, 4, .inl (fun _ => 0)))] H := hP
  have hD : va_D A [(h0, .inr (3, [.ref q1, .int 0, .int 0])), (q1, .inl (cQ, 20, .inr (.inr (.inr (.inr f97))))), (q93, .inr (1, [.int 0, .int 0, .ref (u95 0), .ref (u95 1), .ref (u95 2), .ref (u95 3), .ref (u95 4), .ref ho])), ((u95 0), .inl (cI, 8, .inl (fun _ => 0))), ((u95 1), .inl (cI, 8, .inl (fun _ => 0))), ((u95 2), .inl (cI, 8, .inl (fun _ => 0))), ((u95 3), .inl (cI, 4, .inl (fun _ => 0))), ((u95 4), .inl (cI, 4, .inl (fun _ => 0)))] := hD
  have hP := hP.sub (ws' := [(h0, .inr (3, [.ref q1, .int 0, .int 0])), (q1, .inl (cQ, 20, .inr (.inr (.inr (.inr f97)))))]) [0, 1] rfl
  have hD := hD.sub (ws' := [(h0, .inr (3, [.ref q1, .int 0, .int 0])), (q1, .inl (cQ, 20, .inr (.inr (.inr (.inr f97)))))]) [0, 1] (by decide) rfl
  refine lv_iinc (v := 16) (lv' := [(2, .int 16), (0, .ref h0), (1, .ref ho)]) hx hb dX3_init_45 hl (k := 0) rfl (by decide) (by decide) rfl (fun ls hl => ?_)
  refine lv_goto (tgt := 25) hx hb dX3_init_48 (by decide) ?_
  refine lv_iload_n hx hb dX3_init_25 rfl (lv_at hl 0 rfl) ?_
  refine lv_bipush (v := 20) hx hb dX3_init_26 (by decide) ?_
  refine lv_icmp_ge (tgt := 51) hx hb dX3_init_28 (by decide) (fun c98 => ?_) (fun c98 => ?_)
  · exact absurd c98 (by decide)
  clear c98
  refine lv_aload_n hx hb dX3_init_31 rfl (lv_at hl 1 rfl) ?_
  refine va_get (D := (dC, dI)) (ci := 3) (v := .ref q1) (C := RX3) (T := TX3) (N := 3) hx hb hts hi_X3 hown hK hP 0 rfl rfl 0 (by decide) (hts (.fieldLink RX3 11 "LeftQuills$History" "desks" "[LLeftQuills$Desk;") (by decide +kernel)) (fun _ h9 => h9) rfl dX3_init_32 ?_
  refine lv_iload_n hx hb dX3_init_35 rfl (lv_at hl 0 rfl) ?_
  refine va_new (ci := 1) (fs := [.int 0, .int 0, .null, .null, .null, .null, .null, .null]) (C := RX1) (T := TX1) (N := 8) hx hb hts hi_X1 tyX1 tyX1_ok hown (hts (.classLink RX3 9 RX1) (by decide +kernel)) (hts (.instantiable RX1 8) (by decide +kernel)) (hts (.initialized RX1) (by decide +kernel)) hK hP hD hS hA rfl (fun j hj => by rcases (show j = 0 ∨ j = 1 ∨ j = 2 ∨ j = 3 ∨ j = 4 ∨ j = 5 ∨ j = 6 ∨ j = 7 by omega) with rfl | rfl | rfl | rfl | rfl | rfl | rfl | rfl <;> rfl) (Nat.le_of_ble_eq_true rfl) (Nat.le_of_ble_eq_true rfl) dX3_init_36 (fun q99 H hP hD hS => ?_)
  refine W.widen (k := 98) (n := 668) (Nat.le_of_ble_eq_true rfl) (Nat.le_of_ble_eq_true rfl) ?_
  have hP : va_P (dC, dI) vwCl [(h0, .inr (3, [.ref q1, .int 0, .int 0])), (q1, .inl (cQ, 20, .inr (.inr (.inr (.inr f97))))), (q99, .inr (1, [.int 0, .int 0, .null, .null, .null, .null, .null, .null]))] H := hP
  have hD : va_D A [(h0, .inr (3, [.ref q1, .int 0, .int 0])), (q1, .inl (cQ, 20, .inr (.inr (.inr (.inr f97))))), (q99, .inr (1, [.int 0, .int 0, .null, .null, .null, .null, .null, .null]))] := hD
  refine lv_dup hx hb dX3_init_39 rfl ?_
  refine lv_aload_n hx hb dX3_init_40 rfl (lv_at hl 2 rfl) ?_
  have hPc := hP.sub (ws' := [(q99, .inr (1, [.int 0, .int 0, .null, .null, .null, .null, .null, .null]))]) [2] rfl
  have hDc := hD.sub (ws' := [(q99, .inr (1, [.int 0, .int 0, .null, .null, .null, .null, .null, .null]))]) [2] (by decide) rfl
  have hFc := va_free (wc := [(q99, .inr (1, [.int 0, .int 0, .null, .null, .null, .null, .null, .null]))]) hD hS hA [2] rfl
  refine va_callv (va_runI (As := [.ref ho]) (rest := [.ref q99, .int 16, .ref q1]) ⟨hx, hb, hml, hown, hts⟩ (c_X1_init l dC dI cI cZ cQ q99 ho H.size ) (cwI 1 hts gX3_init_X1_init rfl rfl rfl (hts (.initialized RX1) (by decide +kernel)) (hts (.methodLink RX3 22 yX1_init) (by decide +kernel)) (hts (.instanceMethod yX1_init) (by decide +kernel)) rfl (by decide +kernel) ⟨Nat.le_of_ble_eq_true rfl, Nat.le_of_ble_eq_true rfl⟩) ⟨fun a U g mk q => by obtain ⟨q0, q1, qP, qK, qD⟩ := q; exact ⟨q0, q1, qP, va_K.moved (u := U) (U := U.calling g mk a) (Vm.Alike.refl U.vm) qK, qD⟩, fun U hU hW => ⟨rfl, by rw [hU], by rw [hU]; exact hPc, va_K.moved hW.alike hK, hDc.weaken (fun _ _ _ _ => trivial)⟩⟩ rfl rfl hl.1 rfl (lv_room (Nat.le_of_ble_eq_true rfl)) dX3_init_41 ⟨Nat.le_of_ble_eq_true rfl, Nat.le_of_ble_eq_true rfl⟩) hS (fun q _ h => hFc q h) hFc (fun u101 t H1 locs ht hvm hw102 hB hz1 hk1 hS => ?_)
  obtain ⟨hP1, hD1⟩ := hB
  rw [ht] at hP1
  obtain ⟨hP, hD⟩ := va_join (wr := [(h0, .inr (3, [.ref q1, .int 0, .int 0])), (q1, .inl (cQ, 20, .inr (.inr (.inr (.inr f97)))))]) (w1 := [(q99, .inr (1, [.int 0, .int 0, .ref (u101 0), .ref (u101 1), .ref (u101 2), .ref (u101 3), .ref (u101 4), .ref ho])), ((u101 0), .inl (cI, 8, .inl (fun _ => 0))), ((u101 1), .inl (cI, 8, .inl (fun _ => 0))), ((u101 2), .inl (cI, 8, .inl (fun _ => 0))), ((u101 3), .inl (cI, 4, .inl (fun _ => 0))), ((u101 4), .inl (cI, 4, .inl (fun _ => 0)))]) hP hD [2] [0, 1] rfl rfl (by decide) (by decide) hk1 hFc hP1 hD1
  clear hP1 hD1
  clear hz1 hk1 hPc hDc hFc
  generalize H1 = H at hP hS ht ⊢
  have hP : va_P (dC, dI) vwCl [(h0, .inr (3, [.ref q1, .int 0, .int 0])), (q1, .inl (cQ, 20, .inr (.inr (.inr (.inr f97))))), (q99, .inr (1, [.int 0, .int 0, .ref (u101 0), .ref (u101 1), .ref (u101 2), .ref (u101 3), .ref (u101 4), .ref ho])), ((u101 0), .inl (cI, 8, .inl (fun _ => 0))), ((u101 1), .inl (cI, 8, .inl (fun _ => 0))), ((u101 2), .inl (cI, 8, .inl (fun _ => 0))), ((u101 3), .inl (cI, 4, .inl (fun _ => 0))), ((u101 4), .inl (cI, 4, .inl (fun _ => 0)))] H := hP
  have hD : va_D A [(h0, .inr (3, [.ref q1, .int 0, .int 0])), (q1, .inl (cQ, 20, .inr (.inr (.inr (.inr f97))))), (q99, .inr (1, [.int 0, .int 0, .ref (u101 0), .ref (u101 1), .ref (u101 2), .ref (u101 3), .ref (u101 4), .ref ho])), ((u101 0), .inl (cI, 8, .inl (fun _ => 0))), ((u101 1), .inl (cI, 8, .inl (fun _ => 0))), ((u101 2), .inl (cI, 8, .inl (fun _ => 0))), ((u101 3), .inl (cI, 4, .inl (fun _ => 0))), ((u101 4), .inl (cI, 4, .inl (fun _ => 0)))] := hD
  refine W.widen (k := 103) (n := 700) (Nat.le_of_ble_eq_true rfl) (Nat.le_of_ble_eq_true rfl) ?_
  try dsimp only at hw102
  refine va_astq hx hb hK hP hD hS 1 2 2 1 rfl rfl rfl rfl (vp_in_iff.mpr ⟨by decide, by decide⟩) dX3_init_44 (fun H locs hP hD hS => ?_)
  generalize hgf103 : va_up _ _ _ = f103 at hP hD
  have hP : va_P (dC, dI) vwCl [(h0, .inr (3, [.ref q1, .int 0, .int 0])), (q1, .inl (cQ, 20, .inr (.inr (.inr (.inr f103))))), (q99, .inr (1, [.int 0, .int 0, .ref (u101 0), .ref (u101 1), .ref (u101 2), .ref (u101 3), .ref (u101 4), .ref ho])), ((u101 0), .inl (cI, 8, .inl (fun _ => 0))), ((u101 1), .inl (cI, 8, .inl (fun _ => 0))), ((u101 2), .inl (cI, 8, .inl (fun _ => 0))), ((u101 3), .inl (cI, 4, .inl (fun _ => 0))), ((u101 4), .inl (cI, 4, .inl (fun _ => 0)))] H := hP
  have hD : va_D A [(h0, .inr (3, [.ref q1, .int 0, .int 0])), (q1, .inl (cQ, 20, .inr (.inr (.inr (.inr f103))))), (q99, .inr (1, [.int 0, .int 0, .ref (u101 0), .ref (u101 1), .ref (u101 2), .ref (u101 3), .ref (u101 4), .ref ho])), ((u101 0), .inl (cI, 8, .inl (fun _ => 0))), ((u101 1), .inl (cI, 8, .inl (fun _ => 0))), ((u101 2), .inl (cI, 8, .inl (fun _ => 0))), ((u101 3), .inl (cI, 4, .inl (fun _ => 0))), ((u101 4), .inl (cI, 4, .inl (fun _ => 0)))] := hD
  have hP := hP.sub (ws' := [(h0, .inr (3, [.ref q1, .int 0, .int 0])), (q1, .inl (cQ, 20, .inr (.inr (.inr (.inr f103)))))]) [0, 1] rfl
  have hD := hD.sub (ws' := [(h0, .inr (3, [.ref q1, .int 0, .int 0])), (q1, .inl (cQ, 20, .inr (.inr (.inr (.inr f103)))))]) [0, 1] (by decide) rfl
  refine lv_iinc (v := 17) (lv' := [(2, .int 17), (0, .ref h0), (1, .ref ho)]) hx hb dX3_init_45 hl (k := 0) rfl (by decide) (by decide) rfl (fun ls hl => ?_)
  refine lv_goto (tgt := 25) hx hb dX3_init_48 (by decide) ?_
  refine lv_iload_n hx hb dX3_init_25 rfl (lv_at hl 0 rfl) ?_
  refine lv_bipush (v := 20) hx hb dX3_init_26 (by decide) ?_
  refine lv_icmp_ge (tgt := 51) hx hb dX3_init_28 (by decide) (fun c104 => ?_) (fun c104 => ?_)
  · exact absurd c104 (by decide)
  clear c104
  refine lv_aload_n hx hb dX3_init_31 rfl (lv_at hl 1 rfl) ?_
  refine va_get (D := (dC, dI)) (ci := 3) (v := .ref q1) (C := RX3) (T := TX3) (N := 3) hx hb hts hi_X3 hown hK hP 0 rfl rfl 0 (by decide) (hts (.fieldLink RX3 11 "LeftQuills$History" "desks" "[LLeftQuills$Desk;") (by decide +kernel)) (fun _ h9 => h9) rfl dX3_init_32 ?_
  refine lv_iload_n hx hb dX3_init_35 rfl (lv_at hl 0 rfl) ?_
  refine va_new (ci := 1) (fs := [.int 0, .int 0, .null, .null, .null, .null, .null, .null]) (C := RX1) (T := TX1) (N := 8) hx hb hts hi_X1 tyX1 tyX1_ok hown (hts (.classLink RX3 9 RX1) (by decide +kernel)) (hts (.instantiable RX1 8) (by decide +kernel)) (hts (.initialized RX1) (by decide +kernel)) hK hP hD hS hA rfl (fun j hj => by rcases (show j = 0 ∨ j = 1 ∨ j = 2 ∨ j = 3 ∨ j = 4 ∨ j = 5 ∨ j = 6 ∨ j = 7 by omega) with rfl | rfl | rfl | rfl | rfl | rfl | rfl | rfl <;> rfl) (Nat.le_of_ble_eq_true rfl) (Nat.le_of_ble_eq_true rfl) dX3_init_36 (fun q105 H hP hD hS => ?_)
  refine W.widen (k := 104) (n := 708) (Nat.le_of_ble_eq_true rfl) (Nat.le_of_ble_eq_true rfl) ?_
  have hP : va_P (dC, dI) vwCl [(h0, .inr (3, [.ref q1, .int 0, .int 0])), (q1, .inl (cQ, 20, .inr (.inr (.inr (.inr f103))))), (q105, .inr (1, [.int 0, .int 0, .null, .null, .null, .null, .null, .null]))] H := hP
  have hD : va_D A [(h0, .inr (3, [.ref q1, .int 0, .int 0])), (q1, .inl (cQ, 20, .inr (.inr (.inr (.inr f103))))), (q105, .inr (1, [.int 0, .int 0, .null, .null, .null, .null, .null, .null]))] := hD
  refine lv_dup hx hb dX3_init_39 rfl ?_
  refine lv_aload_n hx hb dX3_init_40 rfl (lv_at hl 2 rfl) ?_
  have hPc := hP.sub (ws' := [(q105, .inr (1, [.int 0, .int 0, .null, .null, .null, .null, .null, .null]))]) [2] rfl
  have hDc := hD.sub (ws' := [(q105, .inr (1, [.int 0, .int 0, .null, .null, .null, .null, .null, .null]))]) [2] (by decide) rfl
  have hFc := va_free (wc := [(q105, .inr (1, [.int 0, .int 0, .null, .null, .null, .null, .null, .null]))]) hD hS hA [2] rfl
  refine va_callv (va_runI (As := [.ref ho]) (rest := [.ref q105, .int 17, .ref q1]) ⟨hx, hb, hml, hown, hts⟩ (c_X1_init l dC dI cI cZ cQ q105 ho H.size ) (cwI 1 hts gX3_init_X1_init rfl rfl rfl (hts (.initialized RX1) (by decide +kernel)) (hts (.methodLink RX3 22 yX1_init) (by decide +kernel)) (hts (.instanceMethod yX1_init) (by decide +kernel)) rfl (by decide +kernel) ⟨Nat.le_of_ble_eq_true rfl, Nat.le_of_ble_eq_true rfl⟩) ⟨fun a U g mk q => by obtain ⟨q0, q1, qP, qK, qD⟩ := q; exact ⟨q0, q1, qP, va_K.moved (u := U) (U := U.calling g mk a) (Vm.Alike.refl U.vm) qK, qD⟩, fun U hU hW => ⟨rfl, by rw [hU], by rw [hU]; exact hPc, va_K.moved hW.alike hK, hDc.weaken (fun _ _ _ _ => trivial)⟩⟩ rfl rfl hl.1 rfl (lv_room (Nat.le_of_ble_eq_true rfl)) dX3_init_41 ⟨Nat.le_of_ble_eq_true rfl, Nat.le_of_ble_eq_true rfl⟩) hS (fun q _ h => hFc q h) hFc (fun u107 t H1 locs ht hvm hw108 hB hz1 hk1 hS => ?_)
  obtain ⟨hP1, hD1⟩ := hB
  rw [ht] at hP1
  obtain ⟨hP, hD⟩ := va_join (wr := [(h0, .inr (3, [.ref q1, .int 0, .int 0])), (q1, .inl (cQ, 20, .inr (.inr (.inr (.inr f103)))))]) (w1 := [(q105, .inr (1, [.int 0, .int 0, .ref (u107 0), .ref (u107 1), .ref (u107 2), .ref (u107 3), .ref (u107 4), .ref ho])), ((u107 0), .inl (cI, 8, .inl (fun _ => 0))), ((u107 1), .inl (cI, 8, .inl (fun _ => 0))), ((u107 2), .inl (cI, 8, .inl (fun _ => 0))), ((u107 3), .inl (cI, 4, .inl (fun _ => 0))), ((u107 4), .inl (cI, 4, .inl (fun _ => 0)))]) hP hD [2] [0, 1] rfl rfl (by decide) (by decide) hk1 hFc hP1 hD1
  clear hP1 hD1
  clear hz1 hk1 hPc hDc hFc
  generalize H1 = H at hP hS ht ⊢
  have hP : va_P (dC, dI) vwCl [(h0, .inr (3, [.ref q1, .int 0, .int 0])), (q1, .inl (cQ, 20, .inr (.inr (.inr (.inr f103))))), (q105, .inr (1, [.int 0, .int 0, .ref (u107 0), .ref (u107 1), .ref (u107 2), .ref (u107 3), .ref (u107 4), .ref ho])), ((u107 0), .inl (cI, 8, .inl (fun _ => 0))), ((u107 1), .inl (cI, 8, .inl (fun _ => 0))), ((u107 2), .inl (cI, 8, .inl (fun _ => 0))), ((u107 3), .inl (cI, 4, .inl (fun _ => 0))), ((u107 4), .inl (cI, 4, .inl (fun _ => 0)))] H := hP
  have hD : va_D A [(h0, .inr (3, [.ref q1, .int 0, .int 0])), (q1, .inl (cQ, 20, .inr (.inr (.inr (.inr f103))))), (q105, .inr (1, [.int 0, .int 0, .ref (u107 0), .ref (u107 1), .ref (u107 2), .ref (u107 3), .ref (u107 4), .ref ho])), ((u107 0), .inl (cI, 8, .inl (fun _ => 0))), ((u107 1), .inl (cI, 8, .inl (fun _ => 0))), ((u107 2), .inl (cI, 8, .inl (fun _ => 0))), ((u107 3), .inl (cI, 4, .inl (fun _ => 0))), ((u107 4), .inl (cI, 4, .inl (fun _ => 0)))] := hD
  refine W.widen (k := 109) (n := 740) (Nat.le_of_ble_eq_true rfl) (Nat.le_of_ble_eq_true rfl) ?_
  try dsimp only at hw108
  refine va_astq hx hb hK hP hD hS 1 2 2 1 rfl rfl rfl rfl (vp_in_iff.mpr ⟨by decide, by decide⟩) dX3_init_44 (fun H locs hP hD hS => ?_)
  generalize hgf109 : va_up _ _ _ = f109 at hP hD
  have hP : va_P (dC, dI) vwCl [(h0, .inr (3, [.ref q1, .int 0, .int 0])), (q1, .inl (cQ, 20, .inr (.inr (.inr (.inr f109))))), (q105, .inr (1, [.int 0, .int 0, .ref (u107 0), .ref (u107 1), .ref (u107 2), .ref (u107 3), .ref (u107 4), .ref ho])), ((u107 0), .inl (cI, 8, .inl (fun _ => 0))), ((u107 1), .inl (cI, 8, .inl (fun _ => 0))), ((u107 2), .inl (cI, 8, .inl (fun _ => 0))), ((u107 3), .inl (cI, 4, .inl (fun _ => 0))), ((u107 4), .inl (cI, 4, .inl (fun _ => 0)))] H := hP
  have hD : va_D A [(h0, .inr (3, [.ref q1, .int 0, .int 0])), (q1, .inl (cQ, 20, .inr (.inr (.inr (.inr f109))))), (q105, .inr (1, [.int 0, .int 0, .ref (u107 0), .ref (u107 1), .ref (u107 2), .ref (u107 3), .ref (u107 4), .ref ho])), ((u107 0), .inl (cI, 8, .inl (fun _ => 0))), ((u107 1), .inl (cI, 8, .inl (fun _ => 0))), ((u107 2), .inl (cI, 8, .inl (fun _ => 0))), ((u107 3), .inl (cI, 4, .inl (fun _ => 0))), ((u107 4), .inl (cI, 4, .inl (fun _ => 0)))] := hD
  have hP := hP.sub (ws' := [(h0, .inr (3, [.ref q1, .int 0, .int 0])), (q1, .inl (cQ, 20, .inr (.inr (.inr (.inr f109)))))]) [0, 1] rfl
  have hD := hD.sub (ws' := [(h0, .inr (3, [.ref q1, .int 0, .int 0])), (q1, .inl (cQ, 20, .inr (.inr (.inr (.inr f109)))))]) [0, 1] (by decide) rfl
  refine lv_iinc (v := 18) (lv' := [(2, .int 18), (0, .ref h0), (1, .ref ho)]) hx hb dX3_init_45 hl (k := 0) rfl (by decide) (by decide) rfl (fun ls hl => ?_)
  refine lv_goto (tgt := 25) hx hb dX3_init_48 (by decide) ?_
  refine lv_iload_n hx hb dX3_init_25 rfl (lv_at hl 0 rfl) ?_
  refine lv_bipush (v := 20) hx hb dX3_init_26 (by decide) ?_
  refine lv_icmp_ge (tgt := 51) hx hb dX3_init_28 (by decide) (fun c110 => ?_) (fun c110 => ?_)
  · exact absurd c110 (by decide)
  clear c110
  refine lv_aload_n hx hb dX3_init_31 rfl (lv_at hl 1 rfl) ?_
  refine va_get (D := (dC, dI)) (ci := 3) (v := .ref q1) (C := RX3) (T := TX3) (N := 3) hx hb hts hi_X3 hown hK hP 0 rfl rfl 0 (by decide) (hts (.fieldLink RX3 11 "LeftQuills$History" "desks" "[LLeftQuills$Desk;") (by decide +kernel)) (fun _ h9 => h9) rfl dX3_init_32 ?_
  refine lv_iload_n hx hb dX3_init_35 rfl (lv_at hl 0 rfl) ?_
  refine va_new (ci := 1) (fs := [.int 0, .int 0, .null, .null, .null, .null, .null, .null]) (C := RX1) (T := TX1) (N := 8) hx hb hts hi_X1 tyX1 tyX1_ok hown (hts (.classLink RX3 9 RX1) (by decide +kernel)) (hts (.instantiable RX1 8) (by decide +kernel)) (hts (.initialized RX1) (by decide +kernel)) hK hP hD hS hA rfl (fun j hj => by rcases (show j = 0 ∨ j = 1 ∨ j = 2 ∨ j = 3 ∨ j = 4 ∨ j = 5 ∨ j = 6 ∨ j = 7 by omega) with rfl | rfl | rfl | rfl | rfl | rfl | rfl | rfl <;> rfl) (Nat.le_of_ble_eq_true rfl) (Nat.le_of_ble_eq_true rfl) dX3_init_36 (fun q111 H hP hD hS => ?_)
  refine W.widen (k := 110) (n := 748) (Nat.le_of_ble_eq_true rfl) (Nat.le_of_ble_eq_true rfl) ?_
  have hP : va_P (dC, dI) vwCl [(h0, .inr (3, [.ref q1, .int 0, .int 0])), (q1, .inl (cQ, 20, .inr (.inr (.inr (.inr f109))))), (q111, .inr (1, [.int 0, .int 0, .null, .null, .null, .null, .null, .null]))] H := hP
  have hD : va_D A [(h0, .inr (3, [.ref q1, .int 0, .int 0])), (q1, .inl (cQ, 20, .inr (.inr (.inr (.inr f109))))), (q111, .inr (1, [.int 0, .int 0, .null, .null, .null, .null, .null, .null]))] := hD
  refine lv_dup hx hb dX3_init_39 rfl ?_
  refine lv_aload_n hx hb dX3_init_40 rfl (lv_at hl 2 rfl) ?_
  have hPc := hP.sub (ws' := [(q111, .inr (1, [.int 0, .int 0, .null, .null, .null, .null, .null, .null]))]) [2] rfl
  have hDc := hD.sub (ws' := [(q111, .inr (1, [.int 0, .int 0, .null, .null, .null, .null, .null, .null]))]) [2] (by decide) rfl
  have hFc := va_free (wc := [(q111, .inr (1, [.int 0, .int 0, .null, .null, .null, .null, .null, .null]))]) hD hS hA [2] rfl
  refine va_callv (va_runI (As := [.ref ho]) (rest := [.ref q111, .int 18, .ref q1]) ⟨hx, hb, hml, hown, hts⟩ (c_X1_init l dC dI cI cZ cQ q111 ho H.size ) (cwI 1 hts gX3_init_X1_init rfl rfl rfl (hts (.initialized RX1) (by decide +kernel)) (hts (.methodLink RX3 22 yX1_init) (by decide +kernel)) (hts (.instanceMethod yX1_init) (by decide +kernel)) rfl (by decide +kernel) ⟨Nat.le_of_ble_eq_true rfl, Nat.le_of_ble_eq_true rfl⟩) ⟨fun a U g mk q => by obtain ⟨q0, q1, qP, qK, qD⟩ := q; exact ⟨q0, q1, qP, va_K.moved (u := U) (U := U.calling g mk a) (Vm.Alike.refl U.vm) qK, qD⟩, fun U hU hW => ⟨rfl, by rw [hU], by rw [hU]; exact hPc, va_K.moved hW.alike hK, hDc.weaken (fun _ _ _ _ => trivial)⟩⟩ rfl rfl hl.1 rfl (lv_room (Nat.le_of_ble_eq_true rfl)) dX3_init_41 ⟨Nat.le_of_ble_eq_true rfl, Nat.le_of_ble_eq_true rfl⟩) hS (fun q _ h => hFc q h) hFc (fun u113 t H1 locs ht hvm hw114 hB hz1 hk1 hS => ?_)
  obtain ⟨hP1, hD1⟩ := hB
  rw [ht] at hP1
  obtain ⟨hP, hD⟩ := va_join (wr := [(h0, .inr (3, [.ref q1, .int 0, .int 0])), (q1, .inl (cQ, 20, .inr (.inr (.inr (.inr f109)))))]) (w1 := [(q111, .inr (1, [.int 0, .int 0, .ref (u113 0), .ref (u113 1), .ref (u113 2), .ref (u113 3), .ref (u113 4), .ref ho])), ((u113 0), .inl (cI, 8, .inl (fun _ => 0))), ((u113 1), .inl (cI, 8, .inl (fun _ => 0))), ((u113 2), .inl (cI, 8, .inl (fun _ => 0))), ((u113 3), .inl (cI, 4, .inl (fun _ => 0))), ((u113 4), .inl (cI, 4, .inl (fun _ => 0)))]) hP hD [2] [0, 1] rfl rfl (by decide) (by decide) hk1 hFc hP1 hD1
  clear hP1 hD1
  clear hz1 hk1 hPc hDc hFc
  generalize H1 = H at hP hS ht ⊢
  have hP : va_P (dC, dI) vwCl [(h0, .inr (3, [.ref q1, .int 0, .int 0])), (q1, .inl (cQ, 20, .inr (.inr (.inr (.inr f109))))), (q111, .inr (1, [.int 0, .int 0, .ref (u113 0), .ref (u113 1), .ref (u113 2), .ref (u113 3), .ref (u113 4), .ref ho])), ((u113 0), .inl (cI, 8, .inl (fun _ => 0))), ((u113 1), .inl (cI, 8, .inl (fun _ => 0))), ((u113 2), .inl (cI, 8, .inl (fun _ => 0))), ((u113 3), .inl (cI, 4, .inl (fun _ => 0))), ((u113 4), .inl (cI, 4, .inl (fun _ => 0)))] H := hP
  have hD : va_D A [(h0, .inr (3, [.ref q1, .int 0, .int 0])), (q1, .inl (cQ, 20, .inr (.inr (.inr (.inr f109))))), (q111, .inr (1, [.int 0, .int 0, .ref (u113 0), .ref (u113 1), .ref (u113 2), .ref (u113 3), .ref (u113 4), .ref ho])), ((u113 0), .inl (cI, 8, .inl (fun _ => 0))), ((u113 1), .inl (cI, 8, .inl (fun _ => 0))), ((u113 2), .inl (cI, 8, .inl (fun _ => 0))), ((u113 3), .inl (cI, 4, .inl (fun _ => 0))), ((u113 4), .inl (cI, 4, .inl (fun _ => 0)))] := hD
  refine W.widen (k := 115) (n := 780) (Nat.le_of_ble_eq_true rfl) (Nat.le_of_ble_eq_true rfl) ?_
  try dsimp only at hw114
  refine va_astq hx hb hK hP hD hS 1 2 2 1 rfl rfl rfl rfl (vp_in_iff.mpr ⟨by decide, by decide⟩) dX3_init_44 (fun H locs hP hD hS => ?_)
  generalize hgf115 : va_up _ _ _ = f115 at hP hD
  have hP : va_P (dC, dI) vwCl [(h0, .inr (3, [.ref q1, .int 0, .int 0])), (q1, .inl (cQ, 20, .inr (.inr (.inr (.inr f115))))), (q111, .inr (1, [.int 0, .int 0, .ref (u113 0), .ref (u113 1), .ref (u113 2), .ref (u113 3), .ref (u113 4), .ref ho])), ((u113 0), .inl (cI, 8, .inl (fun _ => 0))), ((u113 1), .inl (cI, 8, .inl (fun _ => 0))), ((u113 2), .inl (cI, 8, .inl (fun _ => 0))), ((u113 3), .inl (cI, 4, .inl (fun _ => 0))), ((u113 4), .inl (cI, 4, .inl (fun _ => 0)))] H := hP
  have hD : va_D A [(h0, .inr (3, [.ref q1, .int 0, .int 0])), (q1, .inl (cQ, 20, .inr (.inr (.inr (.inr f115))))), (q111, .inr (1, [.int 0, .int 0, .ref (u113 0), .ref (u113 1), .ref (u113 2), .ref (u113 3), .ref (u113 4), .ref ho])), ((u113 0), .inl (cI, 8, .inl (fun _ => 0))), ((u113 1), .inl (cI, 8, .inl (fun _ => 0))), ((u113 2), .inl (cI, 8, .inl (fun _ => 0))), ((u113 3), .inl (cI, 4, .inl (fun _ => 0))), ((u113 4), .inl (cI, 4, .inl (fun _ => 0)))] := hD
  have hP := hP.sub (ws' := [(h0, .inr (3, [.ref q1, .int 0, .int 0])), (q1, .inl (cQ, 20, .inr (.inr (.inr (.inr f115)))))]) [0, 1] rfl
  have hD := hD.sub (ws' := [(h0, .inr (3, [.ref q1, .int 0, .int 0])), (q1, .inl (cQ, 20, .inr (.inr (.inr (.inr f115)))))]) [0, 1] (by decide) rfl
  refine lv_iinc (v := 19) (lv' := [(2, .int 19), (0, .ref h0), (1, .ref ho)]) hx hb dX3_init_45 hl (k := 0) rfl (by decide) (by decide) rfl (fun ls hl => ?_)
  refine lv_goto (tgt := 25) hx hb dX3_init_48 (by decide) ?_
  refine lv_iload_n hx hb dX3_init_25 rfl (lv_at hl 0 rfl) ?_
  refine lv_bipush (v := 20) hx hb dX3_init_26 (by decide) ?_
  refine lv_icmp_ge (tgt := 51) hx hb dX3_init_28 (by decide) (fun c116 => ?_) (fun c116 => ?_)
  · exact absurd c116 (by decide)
  clear c116
  refine lv_aload_n hx hb dX3_init_31 rfl (lv_at hl 1 rfl) ?_
  refine va_get (D := (dC, dI)) (ci := 3) (v := .ref q1) (C := RX3) (T := TX3) (N := 3) hx hb hts hi_X3 hown hK hP 0 rfl rfl 0 (by decide) (hts (.fieldLink RX3 11 "LeftQuills$History" "desks" "[LLeftQuills$Desk;") (by decide +kernel)) (fun _ h9 => h9) rfl dX3_init_32 ?_
  refine lv_iload_n hx hb dX3_init_35 rfl (lv_at hl 0 rfl) ?_
  refine va_new (ci := 1) (fs := [.int 0, .int 0, .null, .null, .null, .null, .null, .null]) (C := RX1) (T := TX1) (N := 8) hx hb hts hi_X1 tyX1 tyX1_ok hown (hts (.classLink RX3 9 RX1) (by decide +kernel)) (hts (.instantiable RX1 8) (by decide +kernel)) (hts (.initialized RX1) (by decide +kernel)) hK hP hD hS hA rfl (fun j hj => by rcases (show j = 0 ∨ j = 1 ∨ j = 2 ∨ j = 3 ∨ j = 4 ∨ j = 5 ∨ j = 6 ∨ j = 7 by omega) with rfl | rfl | rfl | rfl | rfl | rfl | rfl | rfl <;> rfl) (Nat.le_of_ble_eq_true rfl) (Nat.le_of_ble_eq_true rfl) dX3_init_36 (fun q117 H hP hD hS => ?_)
  refine W.widen (k := 116) (n := 788) (Nat.le_of_ble_eq_true rfl) (Nat.le_of_ble_eq_true rfl) ?_
  have hP : va_P (dC, dI) vwCl [(h0, .inr (3, [.ref q1, .int 0, .int 0])), (q1, .inl (cQ, 20, .inr (.inr (.inr (.inr f115))))), (q117, .inr (1, [.int 0, .int 0, .null, .null, .null, .null, .null, .null]))] H := hP
  have hD : va_D A [(h0, .inr (3, [.ref q1, .int 0, .int 0])), (q1, .inl (cQ, 20, .inr (.inr (.inr (.inr f115))))), (q117, .inr (1, [.int 0, .int 0, .null, .null, .null, .null, .null, .null]))] := hD
  refine lv_dup hx hb dX3_init_39 rfl ?_
  refine lv_aload_n hx hb dX3_init_40 rfl (lv_at hl 2 rfl) ?_
  have hPc := hP.sub (ws' := [(q117, .inr (1, [.int 0, .int 0, .null, .null, .null, .null, .null, .null]))]) [2] rfl
  have hDc := hD.sub (ws' := [(q117, .inr (1, [.int 0, .int 0, .null, .null, .null, .null, .null, .null]))]) [2] (by decide) rfl
  have hFc := va_free (wc := [(q117, .inr (1, [.int 0, .int 0, .null, .null, .null, .null, .null, .null]))]) hD hS hA [2] rfl
  refine va_callv (va_runI (As := [.ref ho]) (rest := [.ref q117, .int 19, .ref q1]) ⟨hx, hb, hml, hown, hts⟩ (c_X1_init l dC dI cI cZ cQ q117 ho H.size ) (cwI 1 hts gX3_init_X1_init rfl rfl rfl (hts (.initialized RX1) (by decide +kernel)) (hts (.methodLink RX3 22 yX1_init) (by decide +kernel)) (hts (.instanceMethod yX1_init) (by decide +kernel)) rfl (by decide +kernel) ⟨Nat.le_of_ble_eq_true rfl, Nat.le_of_ble_eq_true rfl⟩) ⟨fun a U g mk q => by obtain ⟨q0, q1, qP, qK, qD⟩ := q; exact ⟨q0, q1, qP, va_K.moved (u := U) (U := U.calling g mk a) (Vm.Alike.refl U.vm) qK, qD⟩, fun U hU hW => ⟨rfl, by rw [hU], by rw [hU]; exact hPc, va_K.moved hW.alike hK, hDc.weaken (fun _ _ _ _ => trivial)⟩⟩ rfl rfl hl.1 rfl (lv_room (Nat.le_of_ble_eq_true rfl)) dX3_init_41 ⟨Nat.le_of_ble_eq_true rfl, Nat.le_of_ble_eq_true rfl⟩) hS (fun q _ h => hFc q h) hFc (fun u119 t H1 locs ht hvm hw120 hB hz1 hk1 hS => ?_)
  obtain ⟨hP1, hD1⟩ := hB
  rw [ht] at hP1
  obtain ⟨hP, hD⟩ := va_join (wr := [(h0, .inr (3, [.ref q1, .int 0, .int 0])), (q1, .inl (cQ, 20, .inr (.inr (.inr (.inr f115)))))]) (w1 := [(q117, .inr (1, [.int 0, .int 0, .ref (u119 0), .ref (u119 1), .ref (u119 2), .ref (u119 3), .ref (u119 4), .ref ho])), ((u119 0), .inl (cI, 8, .inl (fun _ => 0))), ((u119 1), .inl (cI, 8, .inl (fun _ => 0))), ((u119 2), .inl (cI, 8, .inl (fun _ => 0))), ((u119 3), .inl (cI, 4, .inl (fun _ => 0))), ((u119 4), .inl (cI, 4, .inl (fun _ => 0)))]) hP hD [2] [0, 1] rfl rfl (by decide) (by decide) hk1 hFc hP1 hD1
  clear hP1 hD1
  clear hz1 hk1 hPc hDc hFc
  generalize H1 = H at hP hS ht ⊢
  have hP : va_P (dC, dI) vwCl [(h0, .inr (3, [.ref q1, .int 0, .int 0])), (q1, .inl (cQ, 20, .inr (.inr (.inr (.inr f115))))), (q117, .inr (1, [.int 0, .int 0, .ref (u119 0), .ref (u119 1), .ref (u119 2), .ref (u119 3), .ref (u119 4), .ref ho])), ((u119 0), .inl (cI, 8, .inl (fun _ => 0))), ((u119 1), .inl (cI, 8, .inl (fun _ => 0))), ((u119 2), .inl (cI, 8, .inl (fun _ => 0))), ((u119 3), .inl (cI, 4, .inl (fun _ => 0))), ((u119 4), .inl (cI, 4, .inl (fun _ => 0)))] H := hP
  have hD : va_D A [(h0, .inr (3, [.ref q1, .int 0, .int 0])), (q1, .inl (cQ, 20, .inr (.inr (.inr (.inr f115))))), (q117, .inr (1, [.int 0, .int 0, .ref (u119 0), .ref (u119 1), .ref (u119 2), .ref (u119 3), .ref (u119 4), .ref ho])), ((u119 0), .inl (cI, 8, .inl (fun _ => 0))), ((u119 1), .inl (cI, 8, .inl (fun _ => 0))), ((u119 2), .inl (cI, 8, .inl (fun _ => 0))), ((u119 3), .inl (cI, 4, .inl (fun _ => 0))), ((u119 4), .inl (cI, 4, .inl (fun _ => 0)))] := hD
  refine W.widen (k := 121) (n := 820) (Nat.le_of_ble_eq_true rfl) (Nat.le_of_ble_eq_true rfl) ?_
  try dsimp only at hw120
  refine va_astq hx hb hK hP hD hS 1 2 2 1 rfl rfl rfl rfl (vp_in_iff.mpr ⟨by decide, by decide⟩) dX3_init_44 (fun H locs hP hD hS => ?_)
  generalize hgf121 : va_up _ _ _ = f121 at hP hD
  have hP : va_P (dC, dI) vwCl [(h0, .inr (3, [.ref q1, .int 0, .int 0])), (q1, .inl (cQ, 20, .inr (.inr (.inr (.inr f121))))), (q117, .inr (1, [.int 0, .int 0, .ref (u119 0), .ref (u119 1), .ref (u119 2), .ref (u119 3), .ref (u119 4), .ref ho])), ((u119 0), .inl (cI, 8, .inl (fun _ => 0))), ((u119 1), .inl (cI, 8, .inl (fun _ => 0))), ((u119 2), .inl (cI, 8, .inl (fun _ => 0))), ((u119 3), .inl (cI, 4, .inl (fun _ => 0))), ((u119 4), .inl (cI, 4, .inl (fun _ => 0)))] H := hP
  have hD : va_D A [(h0, .inr (3, [.ref q1, .int 0, .int 0])), (q1, .inl (cQ, 20, .inr (.inr (.inr (.inr f121))))), (q117, .inr (1, [.int 0, .int 0, .ref (u119 0), .ref (u119 1), .ref (u119 2), .ref (u119 3), .ref (u119 4), .ref ho])), ((u119 0), .inl (cI, 8, .inl (fun _ => 0))), ((u119 1), .inl (cI, 8, .inl (fun _ => 0))), ((u119 2), .inl (cI, 8, .inl (fun _ => 0))), ((u119 3), .inl (cI, 4, .inl (fun _ => 0))), ((u119 4), .inl (cI, 4, .inl (fun _ => 0)))] := hD
  have hP := hP.sub (ws' := [(h0, .inr (3, [.ref q1, .int 0, .int 0])), (q1, .inl (cQ, 20, .inr (.inr (.inr (.inr f121)))))]) [0, 1] rfl
  have hD := hD.sub (ws' := [(h0, .inr (3, [.ref q1, .int 0, .int 0])), (q1, .inl (cQ, 20, .inr (.inr (.inr (.inr f121)))))]) [0, 1] (by decide) rfl
  refine lv_iinc (v := 20) (lv' := [(2, .int 20), (0, .ref h0), (1, .ref ho)]) hx hb dX3_init_45 hl (k := 0) rfl (by decide) (by decide) rfl (fun ls hl => ?_)
  refine lv_goto (tgt := 25) hx hb dX3_init_48 (by decide) ?_
  refine lv_iload_n hx hb dX3_init_25 rfl (lv_at hl 0 rfl) ?_
  refine lv_bipush (v := 20) hx hb dX3_init_26 (by decide) ?_
  refine lv_icmp_ge (tgt := 51) hx hb dX3_init_28 (by decide) (fun c122 => ?_) (fun c122 => ?_)
  rotate_left
  · exact absurd c122 (by decide)
  clear c122
  have hP9 := hP.sub (ws' := [(h0, .inr (3, [.ref q1, .int 0, .int 0]))]) [0] rfl
  have hD9 := hD.sub (ws' := [(h0, .inr (3, [.ref q1, .int 0, .int 0]))]) [0] (by decide) rfl
  refine W.widen (k := 121) (n := 820) (Nat.le_of_ble_eq_true rfl) (Nat.le_of_ble_eq_true rfl) ?_
  exact W.vret hx hb hr (fun t ht hW => ⟨⟨(vn [q1]), rfl, by first | trivial | rfl | (simp_all; done), ⟨by rw [ht]; exact hP9, hD9⟩⟩, hS.F ht⟩) hS.2.2 dX3_init_51
