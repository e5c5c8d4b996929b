set_option maxHeartbeats 4000000 in
set_option maxRecDepth 100000 in
theorem c_X10_seedD (l : Launch) (dC : Nat → ClassId) (dI : Nat → Nat → Nat) (cI cZ cQ : ClassId) (h0 : Nat) (x0 : Nat) (tl : Nat) (fa : Int32) (sd : Nat) (x4 : Nat) (x5 : Nat) (x6 : Nat) (x7 : Nat) (x8 : Nat) (x9 : Nat) (x10 : Nat) (x11 : Nat) (x12 : Nat) (x13 : Nat) (q0 : Int32) (sz : Nat) (hsd : sd ≤ 2147483647) : Met l yX10_seed wsX10_seed ({ frames := 0, cells := 0, slots := 0, locals := 40 }) (va_Pc [.ref h0, .int q0] (fun U => U.heap.size = sz ∧ va_P (dC, dI) vwCl [(h0, .inr (10, [.ref x0, .int (nI tl), .int fa, .int (nI sd), .ref x4, .ref x5, .ref x6, .ref x7, .ref x8, .ref x9, .ref x10, .ref x11, .ref x12, .ref x13]))] U.heap ∧ va_K (dC, dI) vwCl (tys0 cI cZ cQ) U ∧ va_D (fun _ => True) [(h0, .inr (10, [.ref x0, .int (nI tl), .int fa, .int (nI sd), .ref x4, .ref x5, .ref x6, .ref x7, .ref x8, .ref x9, .ref x10, .ref x11, .ref x12, .ref x13]))])) (va_Qi (fun (r : Int32) (u : Nat → Nat) => r = if q0 < 0 then (-1000000002) else nI sd) (fun (_ : Nat → Nat) (t : State) => ∃ (kk0 : Nat), kk0 ≤ 2147483647 ∧ (kk0 = if q0 < 0 then sd else q0.toNatClampNeg) ∧ va_P (dC, dI) vwCl [(h0, .inr (10, [.ref x0, .int (nI tl), .int fa, .int (nI kk0), .ref x4, .ref x5, .ref x6, .ref x7, .ref x8, .ref x9, .ref x10, .ref x11, .ref x12, .ref x13]))] t.heap ∧ va_D (va_A [(h0, .inr (10, [.ref x0, .int (nI tl), .int fa, .int (nI sd), .ref x4, .ref x5, .ref x6, .ref x7, .ref x8, .ref x9, .ref x10, .ref x11, .ref x12, .ref x13]))] sz) [(h0, .inr (10, [.ref x0, .int (nI tl), .int fa, .int (nI kk0), .ref x4, .ref x5, .ref x6, .ref x7, .ref x8, .ref x9, .ref x10, .ref x11, .ref x12, .ref x13]))]) (va_A [(h0, .inr (10, [.ref x0, .int (nI tl), .int fa, .int (nI sd), .ref x4, .ref x5, .ref x6, .ref x7, .ref x8, .ref x9, .ref x10, .ref x11, .ref x12, .ref x13]))] sz)) 0 0 (va_A [(h0, .inr (10, [.ref x0, .int (nI tl), .int fa, .int (nI sd), .ref x4, .ref x5, .ref x6, .ref x7, .ref x8, .ref x9, .ref x10, .ref x11, .ref x12, .ref x13]))] sz) := by
  refine Met.ofW (cc := cX10_seed) (maxL := 3) (ret := (some .int)) (by decide) rfl ?_
  intro p e s m args below meth c s₁ B hml hv
  obtain ⟨rfl, hsz, hP, hK, hD0⟩ := hv
  have hx := B.exec
  have hb := B.bytes
  have hr := B.returns
  have hts := atoms_spec (ws := wsX10_seed) B.pre
  have hown : s.vm.findClass RX10 = some m.cls := findClass_of_methodNamed B.named
  have hlocks := B.notSynchronized
  have hi_X10 : ∀ w ∈ u_ws RX10 TX10 14, w ∈ wsX10_seed := fun _ h => List.mem_cons_of_mem _ (List.mem_append_right _ (h))
  subst hsz
  have hD := hD0.self (sz := s.heap.size)
  generalize hAe : va_A [(h0, .inr (10, [.ref x0, .int (nI tl), .int fa, .int (nI sd), .ref x4, .ref x5, .ref x6, .ref x7, .ref x8, .ref x9, .ref x10, .ref x11, .ref x12, .ref x13]))] s.heap.size = A at hD ⊢
  have hA : ∀ q : Nat, s.heap.size ≤ q → A q := fun q h => by rw [← hAe]; exact Or.inr h
  have hS : va_S A s.heap s.heap [] := va_S.rf
  have hl := lv_entry ([.ref h0, .int q0]) (n := 3) (Nat.le_of_ble_eq_true rfl)
  rw [lg_entry_eq]
  generalize (lg_sl ([.ref h0, .int q0]) ++ List.replicate (3 - (lg_sl ([.ref h0, .int q0])).length) Slot.unset).toArray = ls at hl ⊢
  have hl : lv_has ls 3 [(0, .ref h0), (1, .int q0)] := hl
  refine lv_iload_n hx hb dX10_seed_0 rfl (lv_at hl 1 rfl) ?_
  refine lv_if_ge (tgt := 7) hx hb dX10_seed_1 (by decide) (fun c1 => ?_) (fun c1 => ?_)
  ·
    refine lv_aload_n hx hb dX10_seed_7 rfl (lv_at hl 0 rfl) ?_
    refine va_get (D := (dC, dI)) (ci := 10) (v := .int (nI sd)) (C := RX10) (T := TX10) (N := 14) hx hb hts hi_X10 hown hK hP 0 rfl rfl 3 (by decide) (hts (.fieldLink RX10 20 "LeftQuills" "seed" "I") (wmx 2 rfl)) (fun _ h9 => h9) rfl dX10_seed_8 ?_
    refine lv_istore_n (lv' := [(2, .int (nI sd)), (0, .ref h0), (1, .int q0)]) hx hb dX10_seed_11 rfl hl (by decide) rfl (fun ls hl => ?_)
    refine lv_aload_n hx hb dX10_seed_12 rfl (lv_at hl 1 rfl) ?_
    refine lv_iload_n hx hb dX10_seed_13 rfl (lv_at hl 2 rfl) ?_
    obtain ⟨j2, hj2, rfl⟩ := nI_of (fa_len c1)
    refine va_put (D := (dC, dI)) (ci := 10) (v := .int (nI j2)) (ty := .int) (C := RX10) (T := TX10) (N := 14) hx hb hts hi_X10 tyX10 tyX10_ok nmX10 hown hK hP hD hS 0 rfl rfl 3 (by decide) (hts (.fieldLink RX10 20 "LeftQuills" "seed" "I") (wmx 2 rfl)) (fun _ h9 => h9) rfl (by decide +kernel) rfl rfl (Nat.le_of_ble_eq_true rfl) dX10_seed_14 (fun H locs hP hD hS => ?_)
    have hP : va_P (dC, dI) vwCl [(h0, .inr (10, [.ref x0, .int (nI tl), .int fa, .int (nI j2), .ref x4, .ref x5, .ref x6, .ref x7, .ref x8, .ref x9, .ref x10, .ref x11, .ref x12, .ref x13]))] H := hP
    have hD : va_D A [(h0, .inr (10, [.ref x0, .int (nI tl), .int fa, .int (nI j2), .ref x4, .ref x5, .ref x6, .ref x7, .ref x8, .ref x9, .ref x10, .ref x11, .ref x12, .ref x13]))] := hD
    refine lv_iload_n hx hb dX10_seed_17 rfl (lv_at hl 0 rfl) ?_
    have hP9 := hP.sub (ws' := [(h0, .inr (10, [.ref x0, .int (nI tl), .int fa, .int (nI j2), .ref x4, .ref x5, .ref x6, .ref x7, .ref x8, .ref x9, .ref x10, .ref x11, .ref x12, .ref x13]))]) [0] rfl
    have hD9 := hD.sub (ws' := [(h0, .inr (10, [.ref x0, .int (nI tl), .int fa, .int (nI j2), .ref x4, .ref x5, .ref x6, .ref x7, .ref x8, .ref x9, .ref x10, .ref x11, .ref x12, .ref x13]))]) [0] (by decide +kernel) rfl
    exact W.iret (v := nI sd) hx hb hr (fun t ht hW => ⟨⟨nI sd, (fun _ => 0), rfl, ((if_neg (by first | exact c1 | exact fa_len c1)).symm), ⟨j2, by omega, (Eq.symm (Eq.trans (if_neg (by first | exact c1 | exact fa_len c1)) (nI_clamp (by omega)))), by rw [ht]; exact hP9, hD9⟩⟩, hS.F ht⟩) hS.2.2 dX10_seed_18
  ·
    refine lv_ldc (v := (-1000000002)) hx hb hown (hts (.constant RX10 103 (-1000000002)) (wmx 1 rfl)) dX10_seed_4 ?_
    have hP9 := hP.sub (ws' := [(h0, .inr (10, [.ref x0, .int (nI tl), .int fa, .int (nI sd), .ref x4, .ref x5, .ref x6, .ref x7, .ref x8, .ref x9, .ref x10, .ref x11, .ref x12, .ref x13]))]) [0] rfl
    have hD9 := hD.sub (ws' := [(h0, .inr (10, [.ref x0, .int (nI tl), .int fa, .int (nI sd), .ref x4, .ref x5, .ref x6, .ref x7, .ref x8, .ref x9, .ref x10, .ref x11, .ref x12, .ref x13]))]) [0] (by decide +kernel) rfl
    exact W.iret (v := (-1000000002)) hx hb hr (fun t ht hW => ⟨⟨(-1000000002), (fun _ => 0), rfl, ((if_pos (by first | exact c1 | exact fa_nle c1)).symm), ⟨sd, by omega, ((if_pos (by first | exact c1 | exact fa_nle c1)).symm), by rw [ht]; exact hP9, hD9⟩⟩, hS.F ht⟩) hS.2.2 dX10_seed_6
