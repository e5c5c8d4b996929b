set_option maxHeartbeats 4000000 in
set_option maxRecDepth 100000 in
theorem c_X7_isFigure (l : Launch) (dC : Nat → ClassId) (dI : Nat → Nat → Nat) (cI cZ cQ : ClassId) (a0 : Int32) (sz : Nat)  : Met l yX7_isFigure wsX7_isFigure ({ frames := 0, cells := 0, slots := 0, locals := 40 }) (va_Pc [.int a0] (fun U => U.heap.size = sz ∧ va_P (dC, dI) vwCl [] U.heap ∧ va_K (dC, dI) vwCl (tys0 cI cZ cQ) U)) (va_Qi (fun (r : Int32) (u : Nat → Nat) => r = 1 ∨ r = 0) (fun (_ : Nat → Nat) (_ : State) => True) (fun _ : Nat => False)) 0 0 (fun _ : Nat => False) := by
  refine Met.ofW (cc := cX7_isFigure) (maxL := 1) (ret := (some .boolean)) (by decide) rfl ?_
  intro p e s m args below meth c s₁ B hml hv
  obtain ⟨rfl, hsz, hP, hK⟩ := hv
  have hx := B.exec
  have hb := B.bytes
  have hr := B.returns
  have hts := atoms_spec (ws := wsX7_isFigure) B.pre
  have hown : s.vm.findClass RX7 = some m.cls := findClass_of_methodNamed B.named
  have hlocks := B.notSynchronized
  subst hsz
  have hS : va_S (fun _ : Nat => False) s.heap s.heap [] := va_S.rf
  have hl := lv_entry ([.int a0]) (n := 1) (Nat.le_of_ble_eq_true rfl)
  rw [lg_entry_eq]
  generalize (lg_sl ([.int a0]) ++ List.replicate (1 - (lg_sl ([.int a0])).length) Slot.unset).toArray = ls at hl ⊢
  have hl : lv_has ls 1 [(0, .int a0)] := hl
  refine lv_iload_n hx hb dX7_isFigure_0 rfl (lv_at hl 0 rfl) ?_
  refine lv_bipush (v := 48) hx hb dX7_isFigure_1 (by decide) ?_
  refine lv_icmp_lt (tgt := 16) hx hb dX7_isFigure_3 (by decide) (fun c1 => ?_) (fun c1 => ?_)
  ·
    refine lv_iconst (v := 0) hx hb dX7_isFigure_16 (by decide) ?_
    exact W.zret (v := 0) hx hb hr (rfl) (fun t ht hW => ⟨⟨0, (fun _ => 0), rfl, Or.inr rfl, trivial⟩, hS.F ht⟩) hS.2.2 dX7_isFigure_17
  ·
    refine lv_iload_n hx hb dX7_isFigure_6 rfl (lv_at hl 0 rfl) ?_
    refine lv_bipush (v := 57) hx hb dX7_isFigure_7 (by decide) ?_
    refine lv_icmp_gt (tgt := 16) hx hb dX7_isFigure_9 (by decide) (fun c2 => ?_) (fun c2 => ?_)
    ·
      refine lv_iconst (v := 0) hx hb dX7_isFigure_16 (by decide) ?_
      exact W.zret (v := 0) hx hb hr (rfl) (fun t ht hW => ⟨⟨0, (fun _ => 0), rfl, Or.inr rfl, trivial⟩, hS.F ht⟩) hS.2.2 dX7_isFigure_17
    ·
      refine lv_iconst (v := 1) hx hb dX7_isFigure_12 (by decide) ?_
      refine lv_goto (tgt := 17) hx hb dX7_isFigure_13 (by decide) ?_
      exact W.zret (v := 1) hx hb hr (rfl) (fun t ht hW => ⟨⟨1, (fun _ => 0), rfl, Or.inl rfl, trivial⟩, hS.F ht⟩) hS.2.2 dX7_isFigure_17
set_option maxHeartbeats 4000000 in
set_option maxRecDepth 100000 in
theorem c_X7_letterHere (l : Launch) (dC : Nat → ClassId) (dI : Nat → Nat → Nat) (cI cZ cQ : ClassId) (h0 : Nat) (le : Nat) (ln : Nat) (at9 : Nat) (f_h0 : List Value) (fle : Nat → Int32) (sz : Nat) (e_h0_3 : f_h0[3]? = some (.ref le)) (e_h0_4 : f_h0[4]? = some (.int (nI ln))) (e_h0_5 : f_h0[5]? = some (.int (nI at9))) (hln : ln ≤ 220) (hat : at9 ≤ ln) : Met l yX7_letterHere wsX7_letterHere ({ frames := 0, cells := 0, slots := 0, locals := 40 }) (va_Pc [.ref h0] (fun U => U.heap.size = sz ∧ va_P (dC, dI) vwCl [(h0, .inr (7, f_h0)), (le, .inl (cI, 220, .inl fle))] U.heap ∧ va_K (dC, dI) vwCl (tys0 cI cZ cQ) U)) (va_Qi (fun (r : Int32) (u : Nat → Nat) => at9 < ln ∨ r = (-1)) (fun (_ : Nat → Nat) (_ : State) => True) (fun _ : Nat => False)) 0 0 (fun _ : Nat => False) := by
  refine Met.ofW (cc := cX7_letterHere) (maxL := 1) (ret := (some .int)) (by decide) rfl ?_
  intro p e s m args below meth c s₁ B hml hv
  obtain ⟨rfl, hsz, hP, hK⟩ := hv
  have hx := B.exec
  have hb := B.bytes
  have hr := B.returns
  have hts := atoms_spec (ws := wsX7_letterHere) B.pre
  have hown : s.vm.findClass RX7 = some m.cls := findClass_of_methodNamed B.named
  have hlocks := B.notSynchronized
  have hi_X7 : ∀ w ∈ u_ws RX7 TX7 7, w ∈ wsX7_letterHere := by decide +kernel
  subst hsz
  have hS : va_S (fun _ : Nat => False) s.heap s.heap [] := va_S.rf
  have hl := lv_entry ([.ref h0]) (n := 1) (Nat.le_of_ble_eq_true rfl)
  rw [lg_entry_eq]
  generalize (lg_sl ([.ref h0]) ++ List.replicate (1 - (lg_sl ([.ref h0])).length) Slot.unset).toArray = ls at hl ⊢
  have hl : lv_has ls 1 [(0, .ref h0)] := hl
  refine lv_aload_n hx hb dX7_letterHere_0 rfl (lv_at hl 0 rfl) ?_
  refine va_get (D := (dC, dI)) (ci := 7) (v := .int (nI at9)) (C := RX7) (T := TX7) (N := 7) hx hb hts hi_X7 hown hK hP 0 rfl rfl 5 (by decide) (hts (.fieldLink RX7 32 "LeftQuills$Reader" "at" "I") (wmx 1 rfl)) (fun _ h9 => h9) e_h0_5 dX7_letterHere_1 ?_
  refine lv_aload_n hx hb dX7_letterHere_4 rfl (lv_at hl 0 rfl) ?_
  refine va_get (D := (dC, dI)) (ci := 7) (v := .int (nI ln)) (C := RX7) (T := TX7) (N := 7) hx hb hts hi_X7 hown hK hP 0 rfl rfl 4 (by decide) (hts (.fieldLink RX7 29 "LeftQuills$Reader" "length" "I") (wmx 2 rfl)) (fun _ h9 => h9) e_h0_4 dX7_letterHere_5 ?_
  refine lv_icmp_ge (tgt := 23) hx hb dX7_letterHere_8 (by decide) (fun c1 => ?_) (fun c1 => ?_)
  ·
    have c1 : ln ≤ at9 := (nI_leI (a := ln) (b := at9) (by omega) (by omega)).mp c1
    refine lv_iconst (v := (-1)) hx hb dX7_letterHere_23 (by decide) ?_
    exact W.iret (v := (-1)) hx hb hr (fun t ht hW => ⟨⟨(-1), (fun _ => 0), rfl, Or.inr rfl, trivial⟩, hS.F ht⟩) hS.2.2 dX7_letterHere_24
  ·
    have c1 : ¬ ln ≤ at9 := fun h => c1 ((nI_leI (a := ln) (b := at9) (by omega) (by omega)).mpr h)
    refine lv_aload_n hx hb dX7_letterHere_11 rfl (lv_at hl 0 rfl) ?_
    refine va_get (D := (dC, dI)) (ci := 7) (v := .ref le) (C := RX7) (T := TX7) (N := 7) hx hb hts hi_X7 hown hK hP 0 rfl rfl 3 (by decide) (hts (.fieldLink RX7 26 "LeftQuills$Reader" "letters" "[I") (wmx 3 rfl)) (fun _ h9 => h9) e_h0_3 dX7_letterHere_12 ?_
    refine lv_aload_n hx hb dX7_letterHere_15 rfl (lv_at hl 0 rfl) ?_
    refine va_get (D := (dC, dI)) (ci := 7) (v := .int (nI at9)) (C := RX7) (T := TX7) (N := 7) hx hb hts hi_X7 hown hK hP 0 rfl rfl 5 (by decide) (hts (.fieldLink RX7 32 "LeftQuills$Reader" "at" "I") (wmx 1 rfl)) (fun _ h9 => h9) e_h0_5 dX7_letterHere_16 ?_
    refine va_iald hx hb hK hP 1 0 rfl rfl (vp_in_nI (n := at9) (N := 220) (by omega) (by decide)) dX7_letterHere_19 ?_
    refine W.eq (g2 := F0 m 20 ls [.int (fle at9)]) (congrArg (fun y9 => F0 m 20 ls (.int (fle y9) :: [])) ((nI_clamp (n := at9) (by omega)))) ?_
    refine lv_goto (tgt := 24) hx hb dX7_letterHere_20 (by decide) ?_
    exact W.iret (v := fle at9) hx hb hr (fun t ht hW => ⟨⟨fle at9, (fun _ => 0), rfl, Or.inl (by omega), trivial⟩, hS.F ht⟩) hS.2.2 dX7_letterHere_24
set_option maxHeartbeats 4000000 in
set_option maxRecDepth 100000 in
theorem c_X7_fail (l : Launch) (dC : Nat → ClassId) (dI : Nat → Nat → Nat) (cI cZ cQ : ClassId) (h0 : Nat) (dr : Nat) (fa : Int32) (nu : Nat) (le : Nat) (ln : Nat) (at9 : Nat) (fu : Int32) (a0 : Int32) (a1 : Int32) (sz : Nat)  : Met l yX7_fail wsX7_fail ({ frames := 0, cells := 0, slots := 0, locals := 40 }) (va_Pc [.ref h0, .int a0, .int a1] (fun U => U.heap.size = sz ∧ va_P (dC, dI) vwCl [(h0, .inr (7, [.ref dr, .int fa, .ref nu, .ref le, .int (nI ln), .int (nI at9), .int fu]))] U.heap ∧ va_K (dC, dI) vwCl (tys0 cI cZ cQ) U ∧ va_D (fun _ => True) [(h0, .inr (7, [.ref dr, .int fa, .ref nu, .ref le, .int (nI ln), .int (nI at9), .int fu]))])) (va_Qv (fun (u : Nat → Nat) => True) (fun (_ : Nat → Nat) (t : State) => ∃ (ii0 ii1 : Int32) , va_P (dC, dI) vwCl [(h0, .inr (7, [.ref dr, .int ii0, .ref nu, .ref le, .int (nI ln), .int (nI at9), .int ii1]))] t.heap ∧ va_D (va_A [(h0, .inr (7, [.ref dr, .int fa, .ref nu, .ref le, .int (nI ln), .int (nI at9), .int fu]))] sz) [(h0, .inr (7, [.ref dr, .int ii0, .ref nu, .ref le, .int (nI ln), .int (nI at9), .int ii1]))]) (va_A [(h0, .inr (7, [.ref dr, .int fa, .ref nu, .ref le, .int (nI ln), .int (nI at9), .int fu]))] sz)) 0 0 (va_A [(h0, .inr (7, [.ref dr, .int fa, .ref nu, .ref le, .int (nI ln), .int (nI at9), .int fu]))] sz) := by
  refine Met.ofW (cc := cX7_fail) (maxL := 3) (ret := none) (by decide) rfl ?_
  intro p e s m args below meth c s₁ B hml hv
  obtain ⟨rfl, hsz, hP, hK, hD0⟩ := hv
  have hx := B.exec
  have hb := B.bytes
  have hr := B.returns
  have hts := atoms_spec (ws := wsX7_fail) B.pre
  have hown : s.vm.findClass RX7 = some m.cls := findClass_of_methodNamed B.named
  have hlocks := B.notSynchronized
  have hi_X7 : ∀ w ∈ u_ws RX7 TX7 7, w ∈ wsX7_fail := by decide +kernel
  subst hsz
  have hD := hD0.self (sz := s.heap.size)
  generalize hAe : va_A [(h0, .inr (7, [.ref dr, .int fa, .ref nu, .ref le, .int (nI ln), .int (nI at9), .int fu]))] s.heap.size = A at hD ⊢
  have hA : ∀ q : Nat, s.heap.size ≤ q → A q := fun q h => by rw [← hAe]; exact Or.inr h
  have hS : va_S A s.heap s.heap [] := va_S.rf
  have hl := lv_entry ([.ref h0, .int a0, .int a1]) (n := 3) (Nat.le_of_ble_eq_true rfl)
  rw [lg_entry_eq]
  generalize (lg_sl ([.ref h0, .int a0, .int a1]) ++ List.replicate (3 - (lg_sl ([.ref h0, .int a0, .int a1])).length) Slot.unset).toArray = ls at hl ⊢
  have hl : lv_has ls 3 [(0, .ref h0), (1, .int a0), (2, .int a1)] := hl
  refine lv_aload_n hx hb dX7_fail_0 rfl (lv_at hl 0 rfl) ?_
  refine lv_iload_n hx hb dX7_fail_1 rfl (lv_at hl 1 rfl) ?_
  refine va_put (D := (dC, dI)) (ci := 7) (v := .int a0) (ty := .int) (C := RX7) (T := TX7) (N := 7) hx hb hts hi_X7 tyX7 tyX7_ok nmX7 hown hK hP hD hS 0 rfl rfl 6 (by decide) (hts (.fieldLink RX7 35 "LeftQuills$Reader" "fault" "I") (wmx 1 rfl)) (fun _ h9 => h9) rfl (by decide +kernel) rfl rfl (Nat.le_of_ble_eq_true rfl) dX7_fail_2 (fun H locs hP hD hS => ?_)
  have hP : va_P (dC, dI) vwCl [(h0, .inr (7, [.ref dr, .int fa, .ref nu, .ref le, .int (nI ln), .int (nI at9), .int a0]))] H := hP
  have hD : va_D A [(h0, .inr (7, [.ref dr, .int fa, .ref nu, .ref le, .int (nI ln), .int (nI at9), .int a0]))] := hD
  refine lv_aload_n hx hb dX7_fail_5 rfl (lv_at hl 0 rfl) ?_
  refine lv_iload_n hx hb dX7_fail_6 rfl (lv_at hl 2 rfl) ?_
  refine va_put (D := (dC, dI)) (ci := 7) (v := .int a1) (ty := .int) (C := RX7) (T := TX7) (N := 7) hx hb hts hi_X7 tyX7 tyX7_ok nmX7 hown hK hP hD hS 0 rfl rfl 1 (by decide) (hts (.fieldLink RX7 18 "LeftQuills$Reader" "faultAt" "I") (wmx 2 rfl)) (fun _ h9 => h9) rfl (by decide +kernel) rfl rfl (Nat.le_of_ble_eq_true rfl) dX7_fail_7 (fun H locs hP hD hS => ?_)
  have hP : va_P (dC, dI) vwCl [(h0, .inr (7, [.ref dr, .int a1, .ref nu, .ref le, .int (nI ln), .int (nI at9), .int a0]))] H := hP
  have hD : va_D A [(h0, .inr (7, [.ref dr, .int a1, .ref nu, .ref le, .int (nI ln), .int (nI at9), .int a0]))] := hD
  have hP9 := hP.sub (ws' := [(h0, .inr (7, [.ref dr, .int a1, .ref nu, .ref le, .int (nI ln), .int (nI at9), .int a0]))]) [0] rfl
  have hD9 := hD.sub (ws' := [(h0, .inr (7, [.ref dr, .int a1, .ref nu, .ref le, .int (nI ln), .int (nI at9), .int a0]))]) [0] (by decide +kernel) rfl
  exact W.vret hx hb hr (fun t ht hW => ⟨⟨(fun _ => 0), rfl, trivial, ⟨a1, a0, by rw [ht]; exact hP9, hD9⟩⟩, hS.F ht⟩) hS.2.2 dX7_fail_10
set_option maxHeartbeats 4000000 in
set_option maxRecDepth 100000 in
theorem c_X7_skipBlanks (l : Launch) (dC : Nat → ClassId) (dI : Nat → Nat → Nat) (cI cZ cQ : ClassId) (h0 : Nat) (dr : Nat) (fa : Int32) (nu : Nat) (le : Nat) (ln : Nat) (at9 : Nat) (fu : Int32) (fle : Nat → Int32) (sz : Nat) (hln : ln ≤ 220) (hat : at9 ≤ ln) : Met l yX7_skipBlanks wsX7_skipBlanks ({ frames := 0, cells := 0, slots := 0, locals := 40 }) (va_Pc [.ref h0] (fun U => U.heap.size = sz ∧ va_P (dC, dI) vwCl [(h0, .inr (7, [.ref dr, .int fa, .ref nu, .ref le, .int (nI ln), .int (nI at9), .int fu])), (le, .inl (cI, 220, .inl fle))] U.heap ∧ va_K (dC, dI) vwCl (tys0 cI cZ cQ) U ∧ va_D (fun _ => True) [(h0, .inr (7, [.ref dr, .int fa, .ref nu, .ref le, .int (nI ln), .int (nI at9), .int fu])), (le, .inl (cI, 220, .inl fle))])) (va_Qv (fun (u : Nat → Nat) => True) (fun (_ : Nat → Nat) (t : State) => ∃ (kk0 : Nat), kk0 ≤ ln ∧ va_P (dC, dI) vwCl [(h0, .inr (7, [.ref dr, .int fa, .ref nu, .ref le, .int (nI ln), .int (nI kk0), .int fu])), (le, .inl (cI, 220, .inl fle))] t.heap ∧ va_D (va_A [(h0, .inr (7, [.ref dr, .int fa, .ref nu, .ref le, .int (nI ln), .int (nI at9), .int fu])), (le, .inl (cI, 220, .inl fle))] sz) [(h0, .inr (7, [.ref dr, .int fa, .ref nu, .ref le, .int (nI ln), .int (nI kk0), .int fu])), (le, .inl (cI, 220, .inl fle))]) (va_A [(h0, .inr (7, [.ref dr, .int fa, .ref nu, .ref le, .int (nI ln), .int (nI at9), .int fu])), (le, .inl (cI, 220, .inl fle))] sz)) 0 0 (va_A [(h0, .inr (7, [.ref dr, .int fa, .ref nu, .ref le, .int (nI ln), .int (nI at9), .int fu])), (le, .inl (cI, 220, .inl fle))] sz) := by
  refine Met.ofW (cc := cX7_skipBlanks) (maxL := 1) (ret := none) (by decide) rfl ?_
  intro p e s m args below meth c s₁ B hml hv
  obtain ⟨rfl, hsz, hP, hK, hD0⟩ := hv
  have hx := B.exec
  have hb := B.bytes
  have hr := B.returns
  have hts := atoms_spec (ws := wsX7_skipBlanks) B.pre
  have hown : s.vm.findClass RX7 = some m.cls := findClass_of_methodNamed B.named
  have hlocks := B.notSynchronized
  have hi_X7 : ∀ w ∈ u_ws RX7 TX7 7, w ∈ wsX7_skipBlanks := by decide +kernel
  subst hsz
  have hD := hD0.self (sz := s.heap.size)
  generalize hAe : va_A [(h0, .inr (7, [.ref dr, .int fa, .ref nu, .ref le, .int (nI ln), .int (nI at9), .int fu])), (le, .inl (cI, 220, .inl fle))] s.heap.size = A at hD ⊢
  have hA : ∀ q : Nat, s.heap.size ≤ q → A q := fun q h => by rw [← hAe]; exact Or.inr h
  have hS : va_S A s.heap s.heap [] := va_S.rf
  have hl := lv_entry ([.ref h0]) (n := 1) (Nat.le_of_ble_eq_true rfl)
  rw [lg_entry_eq]
  generalize (lg_sl ([.ref h0]) ++ List.replicate (1 - (lg_sl ([.ref h0])).length) Slot.unset).toArray = ls at hl ⊢
  have hl : lv_has ls 1 [(0, .ref h0)] := hl
  refine (fun (K : ∀ (d0 : Nat) (k0 : Nat) (H : Heap) (locs : List Loc) (ls : Array Slot), k0 + d0 = ln → va_P (dC, dI) vwCl [(h0, .inr (7, [.ref dr, .int fa, .ref nu, .ref le, .int (nI ln), .int (nI k0), .int fu])), (le, .inl (cI, 220, .inl fle))] H → va_D A [(h0, .inr (7, [.ref dr, .int fa, .ref nu, .ref le, .int (nI ln), .int (nI k0), .int fu])), (le, .inl (cI, 220, .inl fle))] → va_S A s.heap H locs → lv_has ls 1 [(0, .ref h0)] → W p l e _ s m _ below meth c H locs _ _ _ (F0 m 0 ls [])) => K (ln - at9) at9 _ _ _ (by omega) hP hD hS (lv_sub hl [0] rfl)) ?_
  intro d0
  induction d0 with
  | zero =>
    intro k0 H locs ls hk0 hP hD hS hl
    refine lv_aload_n hx hb dX7_skipBlanks_0 rfl (lv_at hl 0 rfl) ?_
    refine va_get (D := (dC, dI)) (ci := 7) (v := .int (nI k0)) (C := RX7) (T := TX7) (N := 7) hx hb hts hi_X7 hown hK hP 0 rfl rfl 5 (by decide) (hts (.fieldLink RX7 32 "LeftQuills$Reader" "at" "I") (wmx 1 rfl)) (fun _ h9 => h9) rfl dX7_skipBlanks_1 ?_
    refine lv_aload_n hx hb dX7_skipBlanks_4 rfl (lv_at hl 0 rfl) ?_
    refine va_get (D := (dC, dI)) (ci := 7) (v := .int (nI ln)) (C := RX7) (T := TX7) (N := 7) hx hb hts hi_X7 hown hK hP 0 rfl rfl 4 (by decide) (hts (.fieldLink RX7 29 "LeftQuills$Reader" "length" "I") (wmx 2 rfl)) (fun _ h9 => h9) rfl dX7_skipBlanks_5 ?_
    refine lv_icmp_ge (tgt := 38) hx hb dX7_skipBlanks_8 (by decide) (fun c1 => ?_) (fun c1 => ?_)
    ·
      have c1 : ln ≤ k0 := (nI_leI (a := ln) (b := k0) (by omega) (by omega)).mp c1
      have hP9 := hP.sub (ws' := [(h0, .inr (7, [.ref dr, .int fa, .ref nu, .ref le, .int (nI ln), .int (nI k0), .int fu])), (le, .inl (cI, 220, .inl fle))]) [0, 1] rfl
      have hD9 := hD.sub (ws' := [(h0, .inr (7, [.ref dr, .int fa, .ref nu, .ref le, .int (nI ln), .int (nI k0), .int fu])), (le, .inl (cI, 220, .inl fle))]) [0, 1] (by decide +kernel) rfl
      exact W.vret hx hb hr (fun t ht hW => ⟨⟨(fun _ => 0), rfl, trivial, ⟨k0, by omega, by rw [ht]; exact hP9, hD9⟩⟩, hS.F ht⟩) hS.2.2 dX7_skipBlanks_38
    ·
      have c1 : ¬ ln ≤ k0 := fun h => c1 ((nI_leI (a := ln) (b := k0) (by omega) (by omega)).mpr h)
      omega
  | succ d0 ih0 =>
    intro k0 H locs ls hk0 hP hD hS hl
    refine lv_aload_n hx hb dX7_skipBlanks_0 rfl (lv_at hl 0 rfl) ?_
    refine va_get (D := (dC, dI)) (ci := 7) (v := .int (nI k0)) (C := RX7) (T := TX7) (N := 7) hx hb hts hi_X7 hown hK hP 0 rfl rfl 5 (by decide) (hts (.fieldLink RX7 32 "LeftQuills$Reader" "at" "I") (wmx 1 rfl)) (fun _ h9 => h9) rfl dX7_skipBlanks_1 ?_
    refine lv_aload_n hx hb dX7_skipBlanks_4 rfl (lv_at hl 0 rfl) ?_
    refine va_get (D := (dC, dI)) (ci := 7) (v := .int (nI ln)) (C := RX7) (T := TX7) (N := 7) hx hb hts hi_X7 hown hK hP 0 rfl rfl 4 (by decide) (hts (.fieldLink RX7 29 "LeftQuills$Reader" "length" "I") (wmx 2 rfl)) (fun _ h9 => h9) rfl dX7_skipBlanks_5 ?_
    refine lv_icmp_ge (tgt := 38) hx hb dX7_skipBlanks_8 (by decide) (fun c2 => ?_) (fun c2 => ?_)
    ·
      have c2 : ln ≤ k0 := (nI_leI (a := ln) (b := k0) (by omega) (by omega)).mp c2
      omega
    ·
      have c2 : ¬ ln ≤ k0 := fun h => c2 ((nI_leI (a := ln) (b := k0) (by omega) (by omega)).mpr h)
      refine lv_aload_n hx hb dX7_skipBlanks_11 rfl (lv_at hl 0 rfl) ?_
      refine va_get (D := (dC, dI)) (ci := 7) (v := .ref le) (C := RX7) (T := TX7) (N := 7) hx hb hts hi_X7 hown hK hP 0 rfl rfl 3 (by decide) (hts (.fieldLink RX7 26 "LeftQuills$Reader" "letters" "[I") (wmx 3 rfl)) (fun _ h9 => h9) rfl dX7_skipBlanks_12 ?_
      refine lv_aload_n hx hb dX7_skipBlanks_15 rfl (lv_at hl 0 rfl) ?_
      refine va_get (D := (dC, dI)) (ci := 7) (v := .int (nI k0)) (C := RX7) (T := TX7) (N := 7) hx hb hts hi_X7 hown hK hP 0 rfl rfl 5 (by decide) (hts (.fieldLink RX7 32 "LeftQuills$Reader" "at" "I") (wmx 1 rfl)) (fun _ h9 => h9) rfl dX7_skipBlanks_16 ?_
      refine va_iald hx hb hK hP 1 0 rfl rfl (vp_in_nI (n := k0) (N := 220) (by omega) (by decide)) dX7_skipBlanks_19 ?_
      refine W.eq (g2 := F0 m 20 ls [.int (fle k0)]) (congrArg (fun y9 => F0 m 20 ls (.int (fle y9) :: [])) ((nI_clamp (n := k0) (by omega)))) ?_
      refine lv_bipush (v := 32) hx hb dX7_skipBlanks_20 (by decide) ?_
      refine lv_icmp_ne (tgt := 38) hx hb dX7_skipBlanks_22 (by decide) (fun c3 => ?_) (fun c3 => ?_)
      ·
        have hP9 := hP.sub (ws' := [(h0, .inr (7, [.ref dr, .int fa, .ref nu, .ref le, .int (nI ln), .int (nI k0), .int fu])), (le, .inl (cI, 220, .inl fle))]) [0, 1] rfl
        have hD9 := hD.sub (ws' := [(h0, .inr (7, [.ref dr, .int fa, .ref nu, .ref le, .int (nI ln), .int (nI k0), .int fu])), (le, .inl (cI, 220, .inl fle))]) [0, 1] (by decide +kernel) rfl
        exact W.vret hx hb hr (fun t ht hW => ⟨⟨(fun _ => 0), rfl, trivial, ⟨k0, by omega, by rw [ht]; exact hP9, hD9⟩⟩, hS.F ht⟩) hS.2.2 dX7_skipBlanks_38
      ·
        refine lv_aload_n hx hb dX7_skipBlanks_25 rfl (lv_at hl 0 rfl) ?_
        refine lv_dup hx hb dX7_skipBlanks_26 rfl ?_
        refine va_get (D := (dC, dI)) (ci := 7) (v := .int (nI k0)) (C := RX7) (T := TX7) (N := 7) hx hb hts hi_X7 hown hK hP 0 rfl rfl 5 (by decide) (hts (.fieldLink RX7 32 "LeftQuills$Reader" "at" "I") (wmx 1 rfl)) (fun _ h9 => h9) rfl dX7_skipBlanks_27 ?_
        refine lv_iconst (v := 1) hx hb dX7_skipBlanks_30 (by decide) ?_
        refine lv_iadd hx hb dX7_skipBlanks_31 ?_
        refine lv_topi (fun z4 ez4 => ?_)
        obtain rfl : z4 = nI (k0 + 1) := ez4.trans (nI_add k0 1)
        refine va_put (D := (dC, dI)) (ci := 7) (v := .int (nI (k0 + 1))) (ty := .int) (C := RX7) (T := TX7) (N := 7) hx hb hts hi_X7 tyX7 tyX7_ok nmX7 hown hK hP hD hS 0 rfl rfl 5 (by decide) (hts (.fieldLink RX7 32 "LeftQuills$Reader" "at" "I") (wmx 1 rfl)) (fun _ h9 => h9) rfl (by decide +kernel) rfl rfl (Nat.le_of_ble_eq_true rfl) dX7_skipBlanks_32 (fun H locs hP hD hS => ?_)
        have hP : va_P (dC, dI) vwCl [(h0, .inr (7, [.ref dr, .int fa, .ref nu, .ref le, .int (nI ln), .int (nI (k0 + 1)), .int fu])), (le, .inl (cI, 220, .inl fle))] H := hP
        have hD : va_D A [(h0, .inr (7, [.ref dr, .int fa, .ref nu, .ref le, .int (nI ln), .int (nI (k0 + 1)), .int fu])), (le, .inl (cI, 220, .inl fle))] := hD
        refine lv_goto (tgt := 0) hx hb dX7_skipBlanks_35 (by decide) ?_
        exact ih0 (k0 + 1) _ _ _ (by omega) hP hD hS (lv_sub hl [0] rfl)
set_option maxHeartbeats 4000000 in
set_option maxRecDepth 100000 in
theorem c_X7_startWord (l : Launch) (dC : Nat → ClassId) (dI : Nat → Nat → Nat) (cI cZ cQ : ClassId) (h0 : Nat) (dr : Nat) (fa : Int32) (nu : Nat) (le : Nat) (ln : Nat) (at9 : Nat) (fu : Int32) (a0 : Int32) (sz : Nat) (hln : ln ≤ 220) (hat : at9 < ln) : Met l yX7_startWord wsX7_startWord ({ frames := 1, cells := 0, slots := 0, locals := 62 }) (va_Pc [.ref h0, .int a0] (fun U => U.heap.size = sz ∧ va_P (dC, dI) vwCl [(h0, .inr (7, [.ref dr, .int fa, .ref nu, .ref le, .int (nI ln), .int (nI at9), .int fu]))] U.heap ∧ va_K (dC, dI) vwCl (tys0 cI cZ cQ) U ∧ va_D (fun _ => True) [(h0, .inr (7, [.ref dr, .int fa, .ref nu, .ref le, .int (nI ln), .int (nI at9), .int fu]))])) (va_Qi (fun (r : Int32) (u : Nat → Nat) => r = 1 ∨ r = 0) (fun (_ : Nat → Nat) (t : State) => ∃ (ii0 ii2 : Int32) (kk1 : Nat), kk1 ≤ ln ∧ va_P (dC, dI) vwCl [(h0, .inr (7, [.ref dr, .int ii0, .ref nu, .ref le, .int (nI ln), .int (nI kk1), .int ii2]))] t.heap ∧ va_D (va_A [(h0, .inr (7, [.ref dr, .int fa, .ref nu, .ref le, .int (nI ln), .int (nI at9), .int fu]))] sz) [(h0, .inr (7, [.ref dr, .int ii0, .ref nu, .ref le, .int (nI ln), .int (nI kk1), .int ii2]))]) (va_A [(h0, .inr (7, [.ref dr, .int fa, .ref nu, .ref le, .int (nI ln), .int (nI at9), .int fu]))] sz)) 0 0 (va_A [(h0, .inr (7, [.ref dr, .int fa, .ref nu, .ref le, .int (nI ln), .int (nI at9), .int fu]))] sz) := by
  refine Met.ofW (cc := cX7_startWord) (maxL := 2) (ret := (some .boolean)) (by decide) rfl ?_
  intro p e s m args below meth c s₁ B hml hv
  obtain ⟨rfl, hsz, hP, hK, hD0⟩ := hv
  have hx := B.exec
  have hb := B.bytes
  have hr := B.returns
  have hts := atoms_spec (ws := wsX7_startWord) B.pre
  have hown : s.vm.findClass RX7 = some m.cls := findClass_of_methodNamed B.named
  have hlocks := B.notSynchronized
  have hi_X7 : ∀ w ∈ u_ws RX7 TX7 7, w ∈ wsX7_startWord := by decide +kernel
  subst hsz
  have hD := hD0.self (sz := s.heap.size)
  generalize hAe : va_A [(h0, .inr (7, [.ref dr, .int fa, .ref nu, .ref le, .int (nI ln), .int (nI at9), .int fu]))] s.heap.size = A at hD ⊢
  have hA : ∀ q : Nat, s.heap.size ≤ q → A q := fun q h => by rw [← hAe]; exact Or.inr h
  have hS : va_S A s.heap s.heap [] := va_S.rf
  have hl := lv_entry ([.ref h0, .int a0]) (n := 2) (Nat.le_of_ble_eq_true rfl)
  rw [lg_entry_eq]
  generalize (lg_sl ([.ref h0, .int a0]) ++ List.replicate (2 - (lg_sl ([.ref h0, .int a0])).length) Slot.unset).toArray = ls at hl ⊢
  have hl : lv_has ls 2 [(0, .ref h0), (1, .int a0)] := hl
  refine lv_iload_n hx hb dX7_startWord_0 rfl (lv_at hl 1 rfl) ?_
  refine lv_if_eq (tgt := 15) hx hb dX7_startWord_1 (by decide) (fun c1 => ?_) (fun c1 => ?_)
  ·
    refine lv_aload_n hx hb dX7_startWord_15 rfl (lv_at hl 0 rfl) ?_
    refine lv_dup hx hb dX7_startWord_16 rfl ?_
    refine va_get (D := (dC, dI)) (ci := 7) (v := .int (nI at9)) (C := RX7) (T := TX7) (N := 7) hx hb hts hi_X7 hown hK hP 0 rfl rfl 5 (by decide) (hts (.fieldLink RX7 32 "LeftQuills$Reader" "at" "I") (wmx 1 rfl)) (fun _ h9 => h9) rfl dX7_startWord_17 ?_
    refine lv_iconst (v := 1) hx hb dX7_startWord_20 (by decide) ?_
    refine lv_iadd hx hb dX7_startWord_21 ?_
    refine lv_topi (fun z2 ez2 => ?_)
    obtain rfl : z2 = nI (at9 + 1) := ez2.trans (nI_add at9 1)
    refine va_put (D := (dC, dI)) (ci := 7) (v := .int (nI (at9 + 1))) (ty := .int) (C := RX7) (T := TX7) (N := 7) hx hb hts hi_X7 tyX7 tyX7_ok nmX7 hown hK hP hD hS 0 rfl rfl 5 (by decide) (hts (.fieldLink RX7 32 "LeftQuills$Reader" "at" "I") (wmx 1 rfl)) (fun _ h9 => h9) rfl (by decide +kernel) rfl rfl (Nat.le_of_ble_eq_true rfl) dX7_startWord_22 (fun H locs hP hD hS => ?_)
    have hP : va_P (dC, dI) vwCl [(h0, .inr (7, [.ref dr, .int fa, .ref nu, .ref le, .int (nI ln), .int (nI (at9 + 1)), .int fu]))] H := hP
    have hD : va_D A [(h0, .inr (7, [.ref dr, .int fa, .ref nu, .ref le, .int (nI ln), .int (nI (at9 + 1)), .int fu]))] := hD
    refine lv_iconst (v := 1) hx hb dX7_startWord_25 (by decide) ?_
    have hP9 := hP.sub (ws' := [(h0, .inr (7, [.ref dr, .int fa, .ref nu, .ref le, .int (nI ln), .int (nI (at9 + 1)), .int fu]))]) [0] rfl
    have hD9 := hD.sub (ws' := [(h0, .inr (7, [.ref dr, .int fa, .ref nu, .ref le, .int (nI ln), .int (nI (at9 + 1)), .int fu]))]) [0] (by decide +kernel) rfl
    exact W.zret (v := 1) hx hb hr (rfl) (fun t ht hW => ⟨⟨1, (fun _ => 0), rfl, Or.inl rfl, ⟨fa, fu, (at9 + 1), by omega, by rw [ht]; exact hP9, hD9⟩⟩, hS.F ht⟩) hS.2.2 dX7_startWord_26
  ·
    refine lv_aload_n hx hb dX7_startWord_4 rfl (lv_at hl 0 rfl) ?_
    refine lv_iconst (v := 3) hx hb dX7_startWord_5 (by decide) ?_
    refine lv_aload_n hx hb dX7_startWord_6 rfl (lv_at hl 0 rfl) ?_
    refine va_get (D := (dC, dI)) (ci := 7) (v := .int (nI at9)) (C := RX7) (T := TX7) (N := 7) hx hb hts hi_X7 hown hK hP 0 rfl rfl 5 (by decide) (hts (.fieldLink RX7 32 "LeftQuills$Reader" "at" "I") (wmx 1 rfl)) (fun _ h9 => h9) rfl dX7_startWord_7 ?_
    have hPc := hP.sub (ws' := [(h0, .inr (7, [.ref dr, .int fa, .ref nu, .ref le, .int (nI ln), .int (nI at9), .int fu]))]) [0] rfl
    have hDc := hD.sub (ws' := [(h0, .inr (7, [.ref dr, .int fa, .ref nu, .ref le, .int (nI ln), .int (nI at9), .int fu]))]) [0] (by decide) rfl
    have hFc := va_free (wc := [(h0, .inr (7, [.ref dr, .int fa, .ref nu, .ref le, .int (nI ln), .int (nI at9), .int fu]))]) hD hS hA [0] rfl
    refine va_callv (va_runV (As := [.int 3, .int (nI at9)]) (rest := []) ⟨hx, hb, hml, hown, hts⟩ (c_X7_fail l dC dI cI cZ cQ h0 dr fa nu le ln at9 fu 3 (nI at9) s.heap.size ) (cwV 2 hts gX7_startWord_X7_fail rfl rfl rfl (by decide +kernel) ⟨Nat.le_of_ble_eq_true rfl, Nat.le_of_ble_eq_true rfl⟩) ⟨fun a U g mk q => by obtain ⟨q0, q1, qP, qK, qD⟩ := q; exact ⟨q0, q1, qP, va_K.moved (u := U) (U := U.calling g mk a) (Vm.Alike.refl U.vm) qK, qD⟩, va_recv hK hP (ci := 7) (q0 := 0) rfl rfl, fun U hU hW => ⟨rfl, by rw [hU], by rw [hU]; exact hPc, va_K.moved hW.alike hK, hDc.weaken (fun _ _ _ _ => trivial)⟩⟩ rfl rfl hl.1 rfl (lv_room (Nat.le_of_ble_eq_true rfl)) dX7_startWord_10 ⟨Nat.le_of_ble_eq_true rfl, Nat.le_of_ble_eq_true rfl⟩) hS (fun q _ h => hFc q h) hFc (fun u4 t H1 locs ht hvm hw5 hB hz1 hk1 hS => ?_)
    obtain ⟨i6, i7, hP1, hD1⟩ := hB
    rw [ht] at hP1
    obtain ⟨hP, hD⟩ := va_join (wr := []) (w1 := [(h0, .inr (7, [.ref dr, .int i6, .ref nu, .ref le, .int (nI ln), .int (nI at9), .int i7]))]) hP hD [0] [] rfl rfl (by decide +kernel) (by decide +kernel) hk1 hFc hP1 hD1
    clear hP1 hD1
    clear hz1 hk1 hPc hDc hFc
    generalize H1 = H at hP hS ht ⊢
    have hP : va_P (dC, dI) vwCl [(h0, .inr (7, [.ref dr, .int i6, .ref nu, .ref le, .int (nI ln), .int (nI at9), .int i7]))] H := hP
    have hD : va_D A [(h0, .inr (7, [.ref dr, .int i6, .ref nu, .ref le, .int (nI ln), .int (nI at9), .int i7]))] := hD
    try dsimp only at hw5
    refine lv_iconst (v := 0) hx hb dX7_startWord_13 (by decide) ?_
    have hP9 := hP.sub (ws' := [(h0, .inr (7, [.ref dr, .int i6, .ref nu, .ref le, .int (nI ln), .int (nI at9), .int i7]))]) [0] rfl
    have hD9 := hD.sub (ws' := [(h0, .inr (7, [.ref dr, .int i6, .ref nu, .ref le, .int (nI ln), .int (nI at9), .int i7]))]) [0] (by decide +kernel) rfl
    exact W.zret (v := 0) hx hb hr (rfl) (fun t ht hW => ⟨⟨0, (fun _ => 0), rfl, Or.inr rfl, ⟨i6, i7, at9, by omega, by rw [ht]; exact hP9, hD9⟩⟩, hS.F ht⟩) hS.2.2 dX7_startWord_14
set_option maxHeartbeats 4000000 in
set_option maxRecDepth 100000 in
theorem c_X7_readNumber (l : Launch) (dC : Nat → ClassId) (dI : Nat → Nat → Nat) (cI cZ cQ : ClassId) (h0 : Nat) (dr : Nat) (fa : Int32) (nu : Nat) (le : Nat) (ln : Nat) (at9 : Nat) (fu : Int32) (fle : Nat → Int32) (fnu : Nat → Int32) (k : Nat) (a0 : Int32) (a1 : Int32) (sz : Nat) (hln : ln ≤ 220) (hat : at9 ≤ ln) (hk : k < 5) : Met l yX7_readNumber wsX7_readNumber ({ frames := 1, cells := 0, slots := 0, locals := 62 }) (va_Pc [.ref h0, .int (nI k), .int a0, .int a1] (fun U => U.heap.size = sz ∧ va_P (dC, dI) vwCl [(h0, .inr (7, [.ref dr, .int fa, .ref nu, .ref le, .int (nI ln), .int (nI at9), .int fu])), (le, .inl (cI, 220, .inl fle)), (nu, .inl (cI, 5, .inl fnu))] U.heap ∧ va_K (dC, dI) vwCl (tys0 cI cZ cQ) U ∧ va_D (fun _ => True) [(h0, .inr (7, [.ref dr, .int fa, .ref nu, .ref le, .int (nI ln), .int (nI at9), .int fu])), (le, .inl (cI, 220, .inl fle)), (nu, .inl (cI, 5, .inl fnu))] ∧ xN U)) (va_Qi (fun (r : Int32) (u : Nat → Nat) => r = 1 ∨ r = 0) (fun (_ : Nat → Nat) (t : State) => ∃ (gg0 : Nat → Int32) (ii0 ii2 : Int32) (kk1 : Nat), kk1 ≤ ln ∧ va_P (dC, dI) vwCl [(h0, .inr (7, [.ref dr, .int ii0, .ref nu, .ref le, .int (nI ln), .int (nI kk1), .int ii2])), (le, .inl (cI, 220, .inl fle)), (nu, .inl (cI, 5, .inl gg0))] t.heap ∧ va_D (va_A [(h0, .inr (7, [.ref dr, .int fa, .ref nu, .ref le, .int (nI ln), .int (nI at9), .int fu])), (le, .inl (cI, 220, .inl fle)), (nu, .inl (cI, 5, .inl fnu))] sz) [(h0, .inr (7, [.ref dr, .int ii0, .ref nu, .ref le, .int (nI ln), .int (nI kk1), .int ii2])), (le, .inl (cI, 220, .inl fle)), (nu, .inl (cI, 5, .inl gg0))]) (va_A [(h0, .inr (7, [.ref dr, .int fa, .ref nu, .ref le, .int (nI ln), .int (nI at9), .int fu])), (le, .inl (cI, 220, .inl fle)), (nu, .inl (cI, 5, .inl fnu))] sz)) 0 0 (va_A [(h0, .inr (7, [.ref dr, .int fa, .ref nu, .ref le, .int (nI ln), .int (nI at9), .int fu])), (le, .inl (cI, 220, .inl fle)), (nu, .inl (cI, 5, .inl fnu))] sz) := by
  refine Met.ofW (cc := cX7_readNumber) (maxL := 6) (ret := (some .boolean)) (by decide) rfl ?_
  intro p e s m args below meth c s₁ B hml hv
  obtain ⟨rfl, hsz, hP, hK, hD0, hN⟩ := hv
  have hx := B.exec
  have hb := B.bytes
  have hr := B.returns
  have hts := atoms_spec (ws := wsX7_readNumber) B.pre
  have hown : s.vm.findClass RX7 = some m.cls := findClass_of_methodNamed B.named
  have hlocks := B.notSynchronized
  have hi_X7 : ∀ w ∈ u_ws RX7 TX7 7, w ∈ wsX7_readNumber := by decide +kernel
  subst hsz
  have hD := hD0.self (sz := s.heap.size)
  generalize hAe : va_A [(h0, .inr (7, [.ref dr, .int fa, .ref nu, .ref le, .int (nI ln), .int (nI at9), .int fu])), (le, .inl (cI, 220, .inl fle)), (nu, .inl (cI, 5, .inl fnu))] s.heap.size = A at hD ⊢
  have hA : ∀ q : Nat, s.heap.size ≤ q → A q := fun q h => by rw [← hAe]; exact Or.inr h
  have hS : va_S A s.heap s.heap [] := va_S.rf
  have hl := lv_entry ([.ref h0, .int (nI k), .int a0, .int a1]) (n := 6) (Nat.le_of_ble_eq_true rfl)
  rw [lg_entry_eq]
  generalize (lg_sl ([.ref h0, .int (nI k), .int a0, .int a1]) ++ List.replicate (6 - (lg_sl ([.ref h0, .int (nI k), .int a0, .int a1])).length) Slot.unset).toArray = ls at hl ⊢
  have hl : lv_has ls 6 [(0, .ref h0), (1, .int (nI k)), (2, .int a0), (3, .int a1)] := hl
  refine lv_aload_n hx hb dX7_readNumber_0 rfl (lv_at hl 0 rfl) ?_
  have hPc := hP.sub (ws' := [(h0, .inr (7, [.ref dr, .int fa, .ref nu, .ref le, .int (nI ln), .int (nI at9), .int fu])), (le, .inl (cI, 220, .inl fle))]) [0, 1] rfl
  have hDc := hD.sub (ws' := [(h0, .inr (7, [.ref dr, .int fa, .ref nu, .ref le, .int (nI ln), .int (nI at9), .int fu])), (le, .inl (cI, 220, .inl fle))]) [0, 1] (by decide) rfl
  have hFc := va_free (wc := [(h0, .inr (7, [.ref dr, .int fa, .ref nu, .ref le, .int (nI ln), .int (nI at9), .int fu])), (le, .inl (cI, 220, .inl fle))]) hD hS hA [0, 1] rfl
  refine va_callv (va_runV (As := []) (rest := []) ⟨hx, hb, hml, hown, hts⟩ (c_X7_skipBlanks l dC dI cI cZ cQ h0 dr fa nu le ln at9 fu fle s.heap.size (by omega) (by omega)) (cwV 0 hts gX7_readNumber_X7_skipBlanks rfl rfl rfl (by decide +kernel) ⟨Nat.le_of_ble_eq_true rfl, Nat.le_of_ble_eq_true rfl⟩) ⟨fun a U g mk q => by obtain ⟨q0, q1, qP, qK, qD⟩ := q; exact ⟨q0, q1, qP, va_K.moved (u := U) (U := U.calling g mk a) (Vm.Alike.refl U.vm) qK, qD⟩, va_recv hK hP (ci := 7) (q0 := 0) rfl rfl, fun U hU hW => ⟨rfl, by rw [hU], by rw [hU]; exact hPc, va_K.moved hW.alike hK, hDc.weaken (fun _ _ _ _ => trivial)⟩⟩ rfl rfl hl.1 rfl (lv_room (Nat.le_of_ble_eq_true rfl)) dX7_readNumber_1 ⟨Nat.le_of_ble_eq_true rfl, Nat.le_of_ble_eq_true rfl⟩) hS (fun q _ h => hFc q h) hFc (fun u2 t H1 locs ht hvm hw3 hB hz1 hk1 hS => ?_)
  obtain ⟨k4, hk4, hP1, hD1⟩ := hB
  rw [ht] at hP1
  obtain ⟨hP, hD⟩ := va_join (wr := [(nu, .inl (cI, 5, .inl fnu))]) (w1 := [(h0, .inr (7, [.ref dr, .int fa, .ref nu, .ref le, .int (nI ln), .int (nI k4), .int fu])), (le, .inl (cI, 220, .inl fle))]) hP hD [0, 1] [2] rfl rfl (by decide +kernel) (by decide +kernel) hk1 hFc hP1 hD1
  clear hP1 hD1
  clear hz1 hk1 hPc hDc hFc
  generalize H1 = H at hP hS ht ⊢
  have hP : va_P (dC, dI) vwCl [(nu, .inl (cI, 5, .inl fnu)), (h0, .inr (7, [.ref dr, .int fa, .ref nu, .ref le, .int (nI ln), .int (nI k4), .int fu])), (le, .inl (cI, 220, .inl fle))] H := hP
  have hD : va_D A [(nu, .inl (cI, 5, .inl fnu)), (h0, .inr (7, [.ref dr, .int fa, .ref nu, .ref le, .int (nI ln), .int (nI k4), .int fu])), (le, .inl (cI, 220, .inl fle))] := hD
  try dsimp only at hw3
  refine lv_aload_n hx hb dX7_readNumber_4 rfl (lv_at hl 0 rfl) ?_
  refine va_get (D := (dC, dI)) (ci := 7) (v := .int (nI k4)) (C := RX7) (T := TX7) (N := 7) hx hb hts hi_X7 hown hK hP 1 rfl rfl 5 (by decide) (hts (.fieldLink RX7 32 "LeftQuills$Reader" "at" "I") (wmx 1 rfl)) (fun _ h9 => h9) rfl dX7_readNumber_5 ?_
  refine lv_istore (lv' := [(4, .int (nI k4)), (0, .ref h0), (1, .int (nI k)), (2, .int a0), (3, .int a1)]) hx hb dX7_readNumber_8 hl (by decide) rfl (fun ls hl => ?_)
  refine lv_iconst (v := 0) hx hb dX7_readNumber_10 (by decide) ?_
  refine lv_istore (lv' := [(5, .int 0), (4, .int (nI k4)), (0, .ref h0), (1, .int (nI k)), (2, .int a0), (3, .int a1)]) hx hb dX7_readNumber_11 hl (by decide) rfl (fun ls hl => ?_)
  refine (fun (K : ∀ (d13 : Nat) (k13 : Nat) (a13_5 : Int32) (H : Heap) (locs : List Loc) (ls : Array Slot), k13 + d13 = ln → va_P (dC, dI) vwCl [(nu, .inl (cI, 5, .inl fnu)), (h0, .inr (7, [.ref dr, .int fa, .ref nu, .ref le, .int (nI ln), .int (nI k13), .int fu])), (le, .inl (cI, 220, .inl fle))] H → va_D A [(nu, .inl (cI, 5, .inl fnu)), (h0, .inr (7, [.ref dr, .int fa, .ref nu, .ref le, .int (nI ln), .int (nI k13), .int fu])), (le, .inl (cI, 220, .inl fle))] → va_S A s.heap H locs → lv_has ls 6 [(5, .int a13_5), (4, .int (nI k4)), (0, .ref h0), (1, .int (nI k)), (2, .int a0), (3, .int a1)] → W p l e _ s m _ below meth c H locs _ _ _ (F0 m 13 ls [])) => K (ln - k4) k4 0 _ _ _ (by omega) hP hD hS (lv_sub hl [0, 1, 2, 3, 4, 5] rfl)) ?_
  intro d13
  induction d13 with
  | zero =>
    intro k13 a13_5 H locs ls hk13 hP hD hS hl
    refine lv_aload_n hx hb dX7_readNumber_13 rfl (lv_at hl 2 rfl) ?_
    refine va_get (D := (dC, dI)) (ci := 7) (v := .int (nI k13)) (C := RX7) (T := TX7) (N := 7) hx hb hts hi_X7 hown hK hP 1 rfl rfl 5 (by decide) (hts (.fieldLink RX7 32 "LeftQuills$Reader" "at" "I") (wmx 1 rfl)) (fun _ h9 => h9) rfl dX7_readNumber_14 ?_
    refine lv_aload_n hx hb dX7_readNumber_17 rfl (lv_at hl 2 rfl) ?_
    refine va_get (D := (dC, dI)) (ci := 7) (v := .int (nI ln)) (C := RX7) (T := TX7) (N := 7) hx hb hts hi_X7 hown hK hP 1 rfl rfl 4 (by decide) (hts (.fieldLink RX7 29 "LeftQuills$Reader" "length" "I") (wmx 2 rfl)) (fun _ h9 => h9) rfl dX7_readNumber_18 ?_
    refine lv_icmp_ge (tgt := 83) hx hb dX7_readNumber_21 (by decide) (fun c5 => ?_) (fun c5 => ?_)
    ·
      have c5 : ln ≤ k13 := (nI_leI (a := ln) (b := k13) (by omega) (by omega)).mp c5
      refine lv_aload_n hx hb dX7_readNumber_83 rfl (lv_at hl 2 rfl) ?_
      refine va_get (D := (dC, dI)) (ci := 7) (v := .int (nI k13)) (C := RX7) (T := TX7) (N := 7) hx hb hts hi_X7 hown hK hP 1 rfl rfl 5 (by decide) (hts (.fieldLink RX7 32 "LeftQuills$Reader" "at" "I") (wmx 1 rfl)) (fun _ h9 => h9) rfl dX7_readNumber_84 ?_
      refine lv_iload hx hb dX7_readNumber_87 (lv_at hl 1 rfl) ?_
      refine lv_icmp_ne (tgt := 103) hx hb dX7_readNumber_89 (by decide) (fun c6 => ?_) (fun c6 => ?_)
      ·
        have c6 : ¬ k13 = k4 := fun h => c6 ((nI_eq (a := k13) (b := k4) (by omega) (by omega)).mpr h)
        refine lv_aload_n hx hb dX7_readNumber_103 rfl (lv_at hl 2 rfl) ?_
        refine va_get (D := (dC, dI)) (ci := 7) (v := .int (nI k13)) (C := RX7) (T := TX7) (N := 7) hx hb hts hi_X7 hown hK hP 1 rfl rfl 5 (by decide) (hts (.fieldLink RX7 32 "LeftQuills$Reader" "at" "I") (wmx 1 rfl)) (fun _ h9 => h9) rfl dX7_readNumber_104 ?_
        refine lv_iload hx hb dX7_readNumber_107 (lv_at hl 1 rfl) ?_
        refine lv_isub hx hb dX7_readNumber_109 ?_
        refine lv_topi (fun z7 ez7 => ?_)
        refine lv_iconst (v := 3) hx hb dX7_readNumber_110 (by decide) ?_
        refine lv_icmp_gt (tgt := 124) hx hb dX7_readNumber_111 (by decide) (fun c8 => ?_) (fun c8 => ?_)
        ·
          refine lv_aload_n hx hb dX7_readNumber_124 rfl (lv_at hl 2 rfl) ?_
          refine lv_iconst (v := 2) hx hb dX7_readNumber_125 (by decide) ?_
          refine lv_iload hx hb dX7_readNumber_126 (lv_at hl 1 rfl) ?_
          have hPc := hP.sub (ws' := [(h0, .inr (7, [.ref dr, .int fa, .ref nu, .ref le, .int (nI ln), .int (nI k13), .int fu]))]) [1] rfl
          have hDc := hD.sub (ws' := [(h0, .inr (7, [.ref dr, .int fa, .ref nu, .ref le, .int (nI ln), .int (nI k13), .int fu]))]) [1] (by decide) rfl
          have hFc := va_free (wc := [(h0, .inr (7, [.ref dr, .int fa, .ref nu, .ref le, .int (nI ln), .int (nI k13), .int fu]))]) hD hS hA [1] rfl
          refine va_callv (va_runV (As := [.int 2, .int (nI k4)]) (rest := []) ⟨hx, hb, hml, hown, hts⟩ (c_X7_fail l dC dI cI cZ cQ h0 dr fa nu le ln k13 fu 2 (nI k4) H.size ) (cwV 2 hts gX7_readNumber_X7_fail rfl rfl rfl (by decide +kernel) ⟨Nat.le_of_ble_eq_true rfl, Nat.le_of_ble_eq_true rfl⟩) ⟨fun a U g mk q => by obtain ⟨q0, q1, qP, qK, qD⟩ := q; exact ⟨q0, q1, qP, va_K.moved (u := U) (U := U.calling g mk a) (Vm.Alike.refl U.vm) qK, qD⟩, va_recv hK hP (ci := 7) (q0 := 1) rfl rfl, fun U hU hW => ⟨rfl, by rw [hU], by rw [hU]; exact hPc, va_K.moved hW.alike hK, hDc.weaken (fun _ _ _ _ => trivial)⟩⟩ rfl rfl hl.1 rfl (lv_room (Nat.le_of_ble_eq_true rfl)) dX7_readNumber_128 ⟨Nat.le_of_ble_eq_true rfl, Nat.le_of_ble_eq_true rfl⟩) hS (fun q _ h => hFc q h) hFc (fun u10 t H1 locs ht hvm hw11 hB hz1 hk1 hS => ?_)
          obtain ⟨i12, i13, hP1, hD1⟩ := hB
          rw [ht] at hP1
          obtain ⟨hP, hD⟩ := va_join (wr := [(nu, .inl (cI, 5, .inl fnu)), (le, .inl (cI, 220, .inl fle))]) (w1 := [(h0, .inr (7, [.ref dr, .int i12, .ref nu, .ref le, .int (nI ln), .int (nI k13), .int i13]))]) hP hD [1] [0, 2] rfl rfl (by decide +kernel) (by decide +kernel) hk1 hFc hP1 hD1
          clear hP1 hD1
          clear hz1 hk1 hPc hDc hFc
          generalize H1 = H at hP hS ht ⊢
          have hP : va_P (dC, dI) vwCl [(nu, .inl (cI, 5, .inl fnu)), (le, .inl (cI, 220, .inl fle)), (h0, .inr (7, [.ref dr, .int i12, .ref nu, .ref le, .int (nI ln), .int (nI k13), .int i13]))] H := hP
          have hD : va_D A [(nu, .inl (cI, 5, .inl fnu)), (le, .inl (cI, 220, .inl fle)), (h0, .inr (7, [.ref dr, .int i12, .ref nu, .ref le, .int (nI ln), .int (nI k13), .int i13]))] := hD
          try dsimp only at hw11
          refine lv_iconst (v := 0) hx hb dX7_readNumber_131 (by decide) ?_
          have hP9 := hP.sub (ws' := [(h0, .inr (7, [.ref dr, .int i12, .ref nu, .ref le, .int (nI ln), .int (nI k13), .int i13])), (le, .inl (cI, 220, .inl fle)), (nu, .inl (cI, 5, .inl fnu))]) [2, 1, 0] rfl
          have hD9 := hD.sub (ws' := [(h0, .inr (7, [.ref dr, .int i12, .ref nu, .ref le, .int (nI ln), .int (nI k13), .int i13])), (le, .inl (cI, 220, .inl fle)), (nu, .inl (cI, 5, .inl fnu))]) [2, 1, 0] (by decide +kernel) rfl
          exact W.zret (v := 0) hx hb hr (rfl) (fun t ht hW => ⟨⟨0, (fun _ => 0), rfl, Or.inr rfl, ⟨fnu, i12, i13, k13, by omega, by rw [ht]; exact hP9, hD9⟩⟩, hS.F ht⟩) hS.2.2 dX7_readNumber_132
        ·
          refine lv_iload hx hb dX7_readNumber_114 (lv_at hl 0 rfl) ?_
          refine lv_iload_n hx hb dX7_readNumber_116 rfl (lv_at hl 4 rfl) ?_
          refine lv_iload_n hx hb dX7_readNumber_117 rfl (lv_at hl 5 rfl) ?_
          have hPc := hP.sub (ws' := []) [] rfl
          refine va_calli (va_runSN (As := [.int a13_5, .int a0, .int a1]) (rest := []) ⟨hx, hb, hml, hown, hts⟩ (c_X10_within l dC dI cI cZ cQ a13_5 a0 a1 H.size ) ⟨va_cnB 3 hts gX7_readNumber_X10_within_n124 rfl rfl rfl (hN.n_X7_124) (hts (.initialized RX10) (wmx 20 rfl)) (by decide +kernel) ⟨Nat.le_of_ble_eq_true rfl, Nat.le_of_ble_eq_true rfl⟩, hts (.static yX10_within) (by decide +kernel), trivial⟩ ⟨fun a U g mk q => by obtain ⟨q0, q1, qP, qK⟩ := q; exact ⟨q0, q1, qP, va_K.moved (u := U) (U := U.calling g mk a) (Vm.Alike.refl U.vm) qK⟩, fun U hU hW => ⟨rfl, by rw [hU], by rw [hU]; exact hPc, va_K.moved hW.alike hK⟩⟩ rfl rfl hl.1 rfl (lv_room (Nat.le_of_ble_eq_true rfl)) dX7_readNumber_118 ⟨Nat.le_of_ble_eq_true rfl, Nat.le_of_ble_eq_true rfl⟩) hS (fun q _ h => False.elim h) (fun q h => False.elim h) (fun r14 u15 t H1 locs ht hvm hw16 hB hz1 hk1 hS => ?_)
          have hP := hP.kept (fun k q hk => hk1 q.1 (hP k q hk).lt (fun h => h))
          clear hz1 hk1 hPc
          generalize H1 = H at hP hS ht ⊢
          try dsimp only at hw16
          rcases hw16 with ⟨rfl, hw16⟩ | ⟨rfl, hw16⟩
          ·
            refine lv_if_ne (tgt := 133) hx hb dX7_readNumber_121 (by decide) (fun c17 => ?_) (fun c17 => ?_)
            rotate_left
            · exact absurd c17 (by decide)
            clear c17
            refine lv_aload_n hx hb dX7_readNumber_133 rfl (lv_at hl 2 rfl) ?_
            refine va_get (D := (dC, dI)) (ci := 7) (v := .ref nu) (C := RX7) (T := TX7) (N := 7) hx hb hts hi_X7 hown hK hP 1 rfl rfl 2 (by decide) (hts (.fieldLink RX7 22 "LeftQuills$Reader" "numbers" "[I") (wmx 4 rfl)) (fun _ h9 => h9) rfl dX7_readNumber_134 ?_
            refine lv_iload_n hx hb dX7_readNumber_137 rfl (lv_at hl 3 rfl) ?_
            refine lv_iload hx hb dX7_readNumber_138 (lv_at hl 0 rfl) ?_
            refine va_iast hx hb hK hP hD hS 0 0 rfl rfl (vp_in_nI (n := k) (N := 5) (by omega) (by decide)) dX7_readNumber_140 (fun H locs hP hD hS => ?_)
            generalize hgf18 : upd fnu ((nI k).toNatClampNeg) a13_5 = f18 at hP hD
            have hP : va_P (dC, dI) vwCl [(nu, .inl (cI, 5, .inl f18)), (h0, .inr (7, [.ref dr, .int fa, .ref nu, .ref le, .int (nI ln), .int (nI k13), .int fu])), (le, .inl (cI, 220, .inl fle))] H := hP
            have hD : va_D A [(nu, .inl (cI, 5, .inl f18)), (h0, .inr (7, [.ref dr, .int fa, .ref nu, .ref le, .int (nI ln), .int (nI k13), .int fu])), (le, .inl (cI, 220, .inl fle))] := hD
            refine lv_iconst (v := 1) hx hb dX7_readNumber_141 (by decide) ?_
            have hP9 := hP.sub (ws' := [(h0, .inr (7, [.ref dr, .int fa, .ref nu, .ref le, .int (nI ln), .int (nI k13), .int fu])), (le, .inl (cI, 220, .inl fle)), (nu, .inl (cI, 5, .inl f18))]) [1, 2, 0] rfl
            have hD9 := hD.sub (ws' := [(h0, .inr (7, [.ref dr, .int fa, .ref nu, .ref le, .int (nI ln), .int (nI k13), .int fu])), (le, .inl (cI, 220, .inl fle)), (nu, .inl (cI, 5, .inl f18))]) [1, 2, 0] (by decide +kernel) rfl
            exact W.zret (v := 1) hx hb hr (rfl) (fun t ht hW => ⟨⟨1, (fun _ => 0), rfl, Or.inl rfl, ⟨f18, fa, fu, k13, by omega, by rw [ht]; exact hP9, hD9⟩⟩, hS.F ht⟩) hS.2.2 dX7_readNumber_142
          ·
            refine lv_if_ne (tgt := 133) hx hb dX7_readNumber_121 (by decide) (fun c19 => ?_) (fun c19 => ?_)
            · exact absurd c19 (by decide)
            clear c19
            refine lv_aload_n hx hb dX7_readNumber_124 rfl (lv_at hl 2 rfl) ?_
            refine lv_iconst (v := 2) hx hb dX7_readNumber_125 (by decide) ?_
            refine lv_iload hx hb dX7_readNumber_126 (lv_at hl 1 rfl) ?_
            have hPc := hP.sub (ws' := [(h0, .inr (7, [.ref dr, .int fa, .ref nu, .ref le, .int (nI ln), .int (nI k13), .int fu]))]) [1] rfl
            have hDc := hD.sub (ws' := [(h0, .inr (7, [.ref dr, .int fa, .ref nu, .ref le, .int (nI ln), .int (nI k13), .int fu]))]) [1] (by decide) rfl
            have hFc := va_free (wc := [(h0, .inr (7, [.ref dr, .int fa, .ref nu, .ref le, .int (nI ln), .int (nI k13), .int fu]))]) hD hS hA [1] rfl
            refine va_callv (va_runV (As := [.int 2, .int (nI k4)]) (rest := []) ⟨hx, hb, hml, hown, hts⟩ (c_X7_fail l dC dI cI cZ cQ h0 dr fa nu le ln k13 fu 2 (nI k4) H.size ) (cwV 2 hts gX7_readNumber_X7_fail rfl rfl rfl (by decide +kernel) ⟨Nat.le_of_ble_eq_true rfl, Nat.le_of_ble_eq_true rfl⟩) ⟨fun a U g mk q => by obtain ⟨q0, q1, qP, qK, qD⟩ := q; exact ⟨q0, q1, qP, va_K.moved (u := U) (U := U.calling g mk a) (Vm.Alike.refl U.vm) qK, qD⟩, va_recv hK hP (ci := 7) (q0 := 1) rfl rfl, fun U hU hW => ⟨rfl, by rw [hU], by rw [hU]; exact hPc, va_K.moved hW.alike hK, hDc.weaken (fun _ _ _ _ => trivial)⟩⟩ rfl rfl hl.1 rfl (lv_room (Nat.le_of_ble_eq_true rfl)) dX7_readNumber_128 ⟨Nat.le_of_ble_eq_true rfl, Nat.le_of_ble_eq_true rfl⟩) hS (fun q _ h => hFc q h) hFc (fun u21 t H1 locs ht hvm hw22 hB hz1 hk1 hS => ?_)
            obtain ⟨i23, i24, hP1, hD1⟩ := hB
            rw [ht] at hP1
            obtain ⟨hP, hD⟩ := va_join (wr := [(nu, .inl (cI, 5, .inl fnu)), (le, .inl (cI, 220, .inl fle))]) (w1 := [(h0, .inr (7, [.ref dr, .int i23, .ref nu, .ref le, .int (nI ln), .int (nI k13), .int i24]))]) hP hD [1] [0, 2] rfl rfl (by decide +kernel) (by decide +kernel) hk1 hFc hP1 hD1
            clear hP1 hD1
            clear hz1 hk1 hPc hDc hFc
            generalize H1 = H at hP hS ht ⊢
            have hP : va_P (dC, dI) vwCl [(nu, .inl (cI, 5, .inl fnu)), (le, .inl (cI, 220, .inl fle)), (h0, .inr (7, [.ref dr, .int i23, .ref nu, .ref le, .int (nI ln), .int (nI k13), .int i24]))] H := hP
            have hD : va_D A [(nu, .inl (cI, 5, .inl fnu)), (le, .inl (cI, 220, .inl fle)), (h0, .inr (7, [.ref dr, .int i23, .ref nu, .ref le, .int (nI ln), .int (nI k13), .int i24]))] := hD
            try dsimp only at hw22
            refine lv_iconst (v := 0) hx hb dX7_readNumber_131 (by decide) ?_
            have hP9 := hP.sub (ws' := [(h0, .inr (7, [.ref dr, .int i23, .ref nu, .ref le, .int (nI ln), .int (nI k13), .int i24])), (le, .inl (cI, 220, .inl fle)), (nu, .inl (cI, 5, .inl fnu))]) [2, 1, 0] rfl
            have hD9 := hD.sub (ws' := [(h0, .inr (7, [.ref dr, .int i23, .ref nu, .ref le, .int (nI ln), .int (nI k13), .int i24])), (le, .inl (cI, 220, .inl fle)), (nu, .inl (cI, 5, .inl fnu))]) [2, 1, 0] (by decide +kernel) rfl
            exact W.zret (v := 0) hx hb hr (rfl) (fun t ht hW => ⟨⟨0, (fun _ => 0), rfl, Or.inr rfl, ⟨fnu, i23, i24, k13, by omega, by rw [ht]; exact hP9, hD9⟩⟩, hS.F ht⟩) hS.2.2 dX7_readNumber_132
      ·
        have c6 : k13 = k4 := (nI_eq (a := k13) (b := k4) (by omega) (by omega)).mp c6
        refine lv_aload_n hx hb dX7_readNumber_92 rfl (lv_at hl 2 rfl) ?_
        refine lv_iconst (v := 1) hx hb dX7_readNumber_93 (by decide) ?_
        refine lv_aload_n hx hb dX7_readNumber_94 rfl (lv_at hl 2 rfl) ?_
        refine va_get (D := (dC, dI)) (ci := 7) (v := .int (nI k13)) (C := RX7) (T := TX7) (N := 7) hx hb hts hi_X7 hown hK hP 1 rfl rfl 5 (by decide) (hts (.fieldLink RX7 32 "LeftQuills$Reader" "at" "I") (wmx 1 rfl)) (fun _ h9 => h9) rfl dX7_readNumber_95 ?_
        have hPc := hP.sub (ws' := [(h0, .inr (7, [.ref dr, .int fa, .ref nu, .ref le, .int (nI ln), .int (nI k13), .int fu]))]) [1] rfl
        have hDc := hD.sub (ws' := [(h0, .inr (7, [.ref dr, .int fa, .ref nu, .ref le, .int (nI ln), .int (nI k13), .int fu]))]) [1] (by decide) rfl
        have hFc := va_free (wc := [(h0, .inr (7, [.ref dr, .int fa, .ref nu, .ref le, .int (nI ln), .int (nI k13), .int fu]))]) hD hS hA [1] rfl
        refine va_callv (va_runV (As := [.int 1, .int (nI k13)]) (rest := []) ⟨hx, hb, hml, hown, hts⟩ (c_X7_fail l dC dI cI cZ cQ h0 dr fa nu le ln k13 fu 1 (nI k13) H.size ) (cwV 2 hts gX7_readNumber_X7_fail rfl rfl rfl (by decide +kernel) ⟨Nat.le_of_ble_eq_true rfl, Nat.le_of_ble_eq_true rfl⟩) ⟨fun a U g mk q => by obtain ⟨q0, q1, qP, qK, qD⟩ := q; exact ⟨q0, q1, qP, va_K.moved (u := U) (U := U.calling g mk a) (Vm.Alike.refl U.vm) qK, qD⟩, va_recv hK hP (ci := 7) (q0 := 1) rfl rfl, fun U hU hW => ⟨rfl, by rw [hU], by rw [hU]; exact hPc, va_K.moved hW.alike hK, hDc.weaken (fun _ _ _ _ => trivial)⟩⟩ rfl rfl hl.1 rfl (lv_room (Nat.le_of_ble_eq_true rfl)) dX7_readNumber_98 ⟨Nat.le_of_ble_eq_true rfl, Nat.le_of_ble_eq_true rfl⟩) hS (fun q _ h => hFc q h) hFc (fun u26 t H1 locs ht hvm hw27 hB hz1 hk1 hS => ?_)
        obtain ⟨i28, i29, hP1, hD1⟩ := hB
        rw [ht] at hP1
        obtain ⟨hP, hD⟩ := va_join (wr := [(nu, .inl (cI, 5, .inl fnu)), (le, .inl (cI, 220, .inl fle))]) (w1 := [(h0, .inr (7, [.ref dr, .int i28, .ref nu, .ref le, .int (nI ln), .int (nI k13), .int i29]))]) hP hD [1] [0, 2] rfl rfl (by decide +kernel) (by decide +kernel) hk1 hFc hP1 hD1
        clear hP1 hD1
        clear hz1 hk1 hPc hDc hFc
        generalize H1 = H at hP hS ht ⊢
        have hP : va_P (dC, dI) vwCl [(nu, .inl (cI, 5, .inl fnu)), (le, .inl (cI, 220, .inl fle)), (h0, .inr (7, [.ref dr, .int i28, .ref nu, .ref le, .int (nI ln), .int (nI k13), .int i29]))] H := hP
        have hD : va_D A [(nu, .inl (cI, 5, .inl fnu)), (le, .inl (cI, 220, .inl fle)), (h0, .inr (7, [.ref dr, .int i28, .ref nu, .ref le, .int (nI ln), .int (nI k13), .int i29]))] := hD
        try dsimp only at hw27
        refine lv_iconst (v := 0) hx hb dX7_readNumber_101 (by decide) ?_
        have hP9 := hP.sub (ws' := [(h0, .inr (7, [.ref dr, .int i28, .ref nu, .ref le, .int (nI ln), .int (nI k13), .int i29])), (le, .inl (cI, 220, .inl fle)), (nu, .inl (cI, 5, .inl fnu))]) [2, 1, 0] rfl
        have hD9 := hD.sub (ws' := [(h0, .inr (7, [.ref dr, .int i28, .ref nu, .ref le, .int (nI ln), .int (nI k13), .int i29])), (le, .inl (cI, 220, .inl fle)), (nu, .inl (cI, 5, .inl fnu))]) [2, 1, 0] (by decide +kernel) rfl
        exact W.zret (v := 0) hx hb hr (rfl) (fun t ht hW => ⟨⟨0, (fun _ => 0), rfl, Or.inr rfl, ⟨fnu, i28, i29, k13, by omega, by rw [ht]; exact hP9, hD9⟩⟩, hS.F ht⟩) hS.2.2 dX7_readNumber_102
    ·
      have c5 : ¬ ln ≤ k13 := fun h => c5 ((nI_leI (a := ln) (b := k13) (by omega) (by omega)).mpr h)
      omega
  | succ d13 ih13 =>
    intro k13 a13_5 H locs ls hk13 hP hD hS hl
    refine lv_aload_n hx hb dX7_readNumber_13 rfl (lv_at hl 2 rfl) ?_
    refine va_get (D := (dC, dI)) (ci := 7) (v := .int (nI k13)) (C := RX7) (T := TX7) (N := 7) hx hb hts hi_X7 hown hK hP 1 rfl rfl 5 (by decide) (hts (.fieldLink RX7 32 "LeftQuills$Reader" "at" "I") (wmx 1 rfl)) (fun _ h9 => h9) rfl dX7_readNumber_14 ?_
    refine lv_aload_n hx hb dX7_readNumber_17 rfl (lv_at hl 2 rfl) ?_
    refine va_get (D := (dC, dI)) (ci := 7) (v := .int (nI ln)) (C := RX7) (T := TX7) (N := 7) hx hb hts hi_X7 hown hK hP 1 rfl rfl 4 (by decide) (hts (.fieldLink RX7 29 "LeftQuills$Reader" "length" "I") (wmx 2 rfl)) (fun _ h9 => h9) rfl dX7_readNumber_18 ?_
    refine lv_icmp_ge (tgt := 83) hx hb dX7_readNumber_21 (by decide) (fun c30 => ?_) (fun c30 => ?_)
    ·
      have c30 : ln ≤ k13 := (nI_leI (a := ln) (b := k13) (by omega) (by omega)).mp c30
      omega
    ·
      have c30 : ¬ ln ≤ k13 := fun h => c30 ((nI_leI (a := ln) (b := k13) (by omega) (by omega)).mpr h)
      refine lv_aload_n hx hb dX7_readNumber_24 rfl (lv_at hl 2 rfl) ?_
      refine va_get (D := (dC, dI)) (ci := 7) (v := .ref le) (C := RX7) (T := TX7) (N := 7) hx hb hts hi_X7 hown hK hP 1 rfl rfl 3 (by decide) (hts (.fieldLink RX7 26 "LeftQuills$Reader" "letters" "[I") (wmx 3 rfl)) (fun _ h9 => h9) rfl dX7_readNumber_25 ?_
      refine lv_aload_n hx hb dX7_readNumber_28 rfl (lv_at hl 2 rfl) ?_
      refine va_get (D := (dC, dI)) (ci := 7) (v := .int (nI k13)) (C := RX7) (T := TX7) (N := 7) hx hb hts hi_X7 hown hK hP 1 rfl rfl 5 (by decide) (hts (.fieldLink RX7 32 "LeftQuills$Reader" "at" "I") (wmx 1 rfl)) (fun _ h9 => h9) rfl dX7_readNumber_29 ?_
      refine va_iald hx hb hK hP 2 0 rfl rfl (vp_in_nI (n := k13) (N := 220) (by omega) (by decide)) dX7_readNumber_32 ?_
      refine W.eq (g2 := F0 m 33 ls [.int (fle k13)]) (congrArg (fun y9 => F0 m 33 ls (.int (fle y9) :: [])) ((nI_clamp (n := k13) (by omega)))) ?_
      have hPc := hP.sub (ws' := []) [] rfl
      refine va_calli (va_runS (As := [.int (fle k13)]) (rest := []) ⟨hx, hb, hml, hown, hts⟩ (c_X7_isFigure l dC dI cI cZ cQ (fle k13) H.size ) (va_cwS 1 hts gX7_readNumber_X7_isFigure rfl rfl rfl (by decide +kernel) ⟨Nat.le_of_ble_eq_true rfl, Nat.le_of_ble_eq_true rfl⟩) ⟨fun a U g mk q => by obtain ⟨q0, q1, qP, qK⟩ := q; exact ⟨q0, q1, qP, va_K.moved (u := U) (U := U.calling g mk a) (Vm.Alike.refl U.vm) qK⟩, fun U hU hW => ⟨rfl, by rw [hU], by rw [hU]; exact hPc, va_K.moved hW.alike hK⟩⟩ rfl rfl hl.1 rfl (lv_room (Nat.le_of_ble_eq_true rfl)) dX7_readNumber_33 ⟨Nat.le_of_ble_eq_true rfl, Nat.le_of_ble_eq_true rfl⟩) hS (fun q _ h => False.elim h) (fun q h => False.elim h) (fun r31 u32 t H1 locs ht hvm hw33 hB hz1 hk1 hS => ?_)
      have hP := hP.kept (fun k q hk => hk1 q.1 (hP k q hk).lt (fun h => h))
      clear hz1 hk1 hPc
      generalize H1 = H at hP hS ht ⊢
      try dsimp only at hw33
      rcases hw33 with rfl | rfl
      ·
        refine lv_if_eq (tgt := 83) hx hb dX7_readNumber_36 (by decide) (fun c34 => ?_) (fun c34 => ?_)
        · exact absurd c34 (by decide)
        clear c34
        refine lv_aload_n hx hb dX7_readNumber_39 rfl (lv_at hl 2 rfl) ?_
        refine va_get (D := (dC, dI)) (ci := 7) (v := .int (nI k13)) (C := RX7) (T := TX7) (N := 7) hx hb hts hi_X7 hown hK hP 1 rfl rfl 5 (by decide) (hts (.fieldLink RX7 32 "LeftQuills$Reader" "at" "I") (wmx 1 rfl)) (fun _ h9 => h9) rfl dX7_readNumber_40 ?_
        refine lv_iload hx hb dX7_readNumber_43 (lv_at hl 1 rfl) ?_
        refine lv_isub hx hb dX7_readNumber_45 ?_
        refine lv_topi (fun z35 ez35 => ?_)
        refine lv_iconst (v := 3) hx hb dX7_readNumber_46 (by decide) ?_
        refine lv_icmp_ge (tgt := 70) hx hb dX7_readNumber_47 (by decide) (fun c36 => ?_) (fun c36 => ?_)
        ·
          refine lv_aload_n hx hb dX7_readNumber_70 rfl (lv_at hl 2 rfl) ?_
          refine lv_dup hx hb dX7_readNumber_71 rfl ?_
          refine va_get (D := (dC, dI)) (ci := 7) (v := .int (nI k13)) (C := RX7) (T := TX7) (N := 7) hx hb hts hi_X7 hown hK hP 1 rfl rfl 5 (by decide) (hts (.fieldLink RX7 32 "LeftQuills$Reader" "at" "I") (wmx 1 rfl)) (fun _ h9 => h9) rfl dX7_readNumber_72 ?_
          refine lv_iconst (v := 1) hx hb dX7_readNumber_75 (by decide) ?_
          refine lv_iadd hx hb dX7_readNumber_76 ?_
          refine lv_topi (fun z37 ez37 => ?_)
          obtain rfl : z37 = nI (k13 + 1) := ez37.trans (nI_add k13 1)
          refine va_put (D := (dC, dI)) (ci := 7) (v := .int (nI (k13 + 1))) (ty := .int) (C := RX7) (T := TX7) (N := 7) hx hb hts hi_X7 tyX7 tyX7_ok nmX7 hown hK hP hD hS 1 rfl rfl 5 (by decide) (hts (.fieldLink RX7 32 "LeftQuills$Reader" "at" "I") (wmx 1 rfl)) (fun _ h9 => h9) rfl (by decide +kernel) rfl rfl (Nat.le_of_ble_eq_true rfl) dX7_readNumber_77 (fun H locs hP hD hS => ?_)
          have hP : va_P (dC, dI) vwCl [(nu, .inl (cI, 5, .inl fnu)), (h0, .inr (7, [.ref dr, .int fa, .ref nu, .ref le, .int (nI ln), .int (nI (k13 + 1)), .int fu])), (le, .inl (cI, 220, .inl fle))] H := hP
          have hD : va_D A [(nu, .inl (cI, 5, .inl fnu)), (h0, .inr (7, [.ref dr, .int fa, .ref nu, .ref le, .int (nI ln), .int (nI (k13 + 1)), .int fu])), (le, .inl (cI, 220, .inl fle))] := hD
          refine lv_goto (tgt := 13) hx hb dX7_readNumber_80 (by decide) ?_
          exact ih13 (k13 + 1) a13_5 _ _ _ (by omega) hP hD hS (lv_sub hl [0, 1, 2, 3, 4, 5] rfl)
        ·
          refine lv_iload hx hb dX7_readNumber_50 (lv_at hl 0 rfl) ?_
          refine lv_bipush (v := 10) hx hb dX7_readNumber_52 (by decide) ?_
          refine lv_imul hx hb dX7_readNumber_54 ?_
          refine lv_topi (fun z38 ez38 => ?_)
          refine lv_aload_n hx hb dX7_readNumber_55 rfl (lv_at hl 2 rfl) ?_
          refine va_get (D := (dC, dI)) (ci := 7) (v := .ref le) (C := RX7) (T := TX7) (N := 7) hx hb hts hi_X7 hown hK hP 1 rfl rfl 3 (by decide) (hts (.fieldLink RX7 26 "LeftQuills$Reader" "letters" "[I") (wmx 3 rfl)) (fun _ h9 => h9) rfl dX7_readNumber_56 ?_
          refine lv_aload_n hx hb dX7_readNumber_59 rfl (lv_at hl 2 rfl) ?_
          refine va_get (D := (dC, dI)) (ci := 7) (v := .int (nI k13)) (C := RX7) (T := TX7) (N := 7) hx hb hts hi_X7 hown hK hP 1 rfl rfl 5 (by decide) (hts (.fieldLink RX7 32 "LeftQuills$Reader" "at" "I") (wmx 1 rfl)) (fun _ h9 => h9) rfl dX7_readNumber_60 ?_
          refine va_iald hx hb hK hP 2 0 rfl rfl (vp_in_nI (n := k13) (N := 220) (by omega) (by decide)) dX7_readNumber_63 ?_
          refine W.eq (g2 := F0 m 64 ls [.int (fle k13), .int z38]) (congrArg (fun y9 => F0 m 64 ls (.int (fle y9) :: [.int z38])) ((nI_clamp (n := k13) (by omega)))) ?_
          refine lv_iadd hx hb dX7_readNumber_64 ?_
          refine lv_topi (fun z39 ez39 => ?_)
          refine lv_bipush (v := 48) hx hb dX7_readNumber_65 (by decide) ?_
          refine lv_isub hx hb dX7_readNumber_67 ?_
          refine lv_topi (fun z40 ez40 => ?_)
          refine lv_istore (lv' := [(5, .int z40), (4, .int (nI k4)), (0, .ref h0), (1, .int (nI k)), (2, .int a0), (3, .int a1)]) hx hb dX7_readNumber_68 hl (by decide) rfl (fun ls hl => ?_)
          refine lv_aload_n hx hb dX7_readNumber_70 rfl (lv_at hl 2 rfl) ?_
          refine lv_dup hx hb dX7_readNumber_71 rfl ?_
          refine va_get (D := (dC, dI)) (ci := 7) (v := .int (nI k13)) (C := RX7) (T := TX7) (N := 7) hx hb hts hi_X7 hown hK hP 1 rfl rfl 5 (by decide) (hts (.fieldLink RX7 32 "LeftQuills$Reader" "at" "I") (wmx 1 rfl)) (fun _ h9 => h9) rfl dX7_readNumber_72 ?_
          refine lv_iconst (v := 1) hx hb dX7_readNumber_75 (by decide) ?_
          refine lv_iadd hx hb dX7_readNumber_76 ?_
          refine lv_topi (fun z41 ez41 => ?_)
          obtain rfl : z41 = nI (k13 + 1) := ez41.trans (nI_add k13 1)
          refine va_put (D := (dC, dI)) (ci := 7) (v := .int (nI (k13 + 1))) (ty := .int) (C := RX7) (T := TX7) (N := 7) hx hb hts hi_X7 tyX7 tyX7_ok nmX7 hown hK hP hD hS 1 rfl rfl 5 (by decide) (hts (.fieldLink RX7 32 "LeftQuills$Reader" "at" "I") (wmx 1 rfl)) (fun _ h9 => h9) rfl (by decide +kernel) rfl rfl (Nat.le_of_ble_eq_true rfl) dX7_readNumber_77 (fun H locs hP hD hS => ?_)
          have hP : va_P (dC, dI) vwCl [(nu, .inl (cI, 5, .inl fnu)), (h0, .inr (7, [.ref dr, .int fa, .ref nu, .ref le, .int (nI ln), .int (nI (k13 + 1)), .int fu])), (le, .inl (cI, 220, .inl fle))] H := hP
          have hD : va_D A [(nu, .inl (cI, 5, .inl fnu)), (h0, .inr (7, [.ref dr, .int fa, .ref nu, .ref le, .int (nI ln), .int (nI (k13 + 1)), .int fu])), (le, .inl (cI, 220, .inl fle))] := hD
          refine lv_goto (tgt := 13) hx hb dX7_readNumber_80 (by decide) ?_
          exact ih13 (k13 + 1) z40 _ _ _ (by omega) hP hD hS (lv_sub hl [0, 1, 2, 3, 4, 5] rfl)
      ·
        refine lv_if_eq (tgt := 83) hx hb dX7_readNumber_36 (by decide) (fun c42 => ?_) (fun c42 => ?_)
        rotate_left
        · exact absurd c42 (by decide)
        clear c42
        refine lv_aload_n hx hb dX7_readNumber_83 rfl (lv_at hl 2 rfl) ?_
        refine va_get (D := (dC, dI)) (ci := 7) (v := .int (nI k13)) (C := RX7) (T := TX7) (N := 7) hx hb hts hi_X7 hown hK hP 1 rfl rfl 5 (by decide) (hts (.fieldLink RX7 32 "LeftQuills$Reader" "at" "I") (wmx 1 rfl)) (fun _ h9 => h9) rfl dX7_readNumber_84 ?_
        refine lv_iload hx hb dX7_readNumber_87 (lv_at hl 1 rfl) ?_
        refine lv_icmp_ne (tgt := 103) hx hb dX7_readNumber_89 (by decide) (fun c43 => ?_) (fun c43 => ?_)
        ·
          have c43 : ¬ k13 = k4 := fun h => c43 ((nI_eq (a := k13) (b := k4) (by omega) (by omega)).mpr h)
          refine lv_aload_n hx hb dX7_readNumber_103 rfl (lv_at hl 2 rfl) ?_
          refine va_get (D := (dC, dI)) (ci := 7) (v := .int (nI k13)) (C := RX7) (T := TX7) (N := 7) hx hb hts hi_X7 hown hK hP 1 rfl rfl 5 (by decide) (hts (.fieldLink RX7 32 "LeftQuills$Reader" "at" "I") (wmx 1 rfl)) (fun _ h9 => h9) rfl dX7_readNumber_104 ?_
          refine lv_iload hx hb dX7_readNumber_107 (lv_at hl 1 rfl) ?_
          refine lv_isub hx hb dX7_readNumber_109 ?_
          refine lv_topi (fun z44 ez44 => ?_)
          refine lv_iconst (v := 3) hx hb dX7_readNumber_110 (by decide) ?_
          refine lv_icmp_gt (tgt := 124) hx hb dX7_readNumber_111 (by decide) (fun c45 => ?_) (fun c45 => ?_)
          ·
            refine lv_aload_n hx hb dX7_readNumber_124 rfl (lv_at hl 2 rfl) ?_
            refine lv_iconst (v := 2) hx hb dX7_readNumber_125 (by decide) ?_
            refine lv_iload hx hb dX7_readNumber_126 (lv_at hl 1 rfl) ?_
            have hPc := hP.sub (ws' := [(h0, .inr (7, [.ref dr, .int fa, .ref nu, .ref le, .int (nI ln), .int (nI k13), .int fu]))]) [1] rfl
            have hDc := hD.sub (ws' := [(h0, .inr (7, [.ref dr, .int fa, .ref nu, .ref le, .int (nI ln), .int (nI k13), .int fu]))]) [1] (by decide) rfl
            have hFc := va_free (wc := [(h0, .inr (7, [.ref dr, .int fa, .ref nu, .ref le, .int (nI ln), .int (nI k13), .int fu]))]) hD hS hA [1] rfl
            refine va_callv (va_runV (As := [.int 2, .int (nI k4)]) (rest := []) ⟨hx, hb, hml, hown, hts⟩ (c_X7_fail l dC dI cI cZ cQ h0 dr fa nu le ln k13 fu 2 (nI k4) H.size ) (cwV 2 hts gX7_readNumber_X7_fail rfl rfl rfl (by decide +kernel) ⟨Nat.le_of_ble_eq_true rfl, Nat.le_of_ble_eq_true rfl⟩) ⟨fun a U g mk q => by obtain ⟨q0, q1, qP, qK, qD⟩ := q; exact ⟨q0, q1, qP, va_K.moved (u := U) (U := U.calling g mk a) (Vm.Alike.refl U.vm) qK, qD⟩, va_recv hK hP (ci := 7) (q0 := 1) rfl rfl, fun U hU hW => ⟨rfl, by rw [hU], by rw [hU]; exact hPc, va_K.moved hW.alike hK, hDc.weaken (fun _ _ _ _ => trivial)⟩⟩ rfl rfl hl.1 rfl (lv_room (Nat.le_of_ble_eq_true rfl)) dX7_readNumber_128 ⟨Nat.le_of_ble_eq_true rfl, Nat.le_of_ble_eq_true rfl⟩) hS (fun q _ h => hFc q h) hFc (fun u47 t H1 locs ht hvm hw48 hB hz1 hk1 hS => ?_)
            obtain ⟨i49, i50, hP1, hD1⟩ := hB
            rw [ht] at hP1
            obtain ⟨hP, hD⟩ := va_join (wr := [(nu, .inl (cI, 5, .inl fnu)), (le, .inl (cI, 220, .inl fle))]) (w1 := [(h0, .inr (7, [.ref dr, .int i49, .ref nu, .ref le, .int (nI ln), .int (nI k13), .int i50]))]) hP hD [1] [0, 2] rfl rfl (by decide +kernel) (by decide +kernel) hk1 hFc hP1 hD1
            clear hP1 hD1
            clear hz1 hk1 hPc hDc hFc
            generalize H1 = H at hP hS ht ⊢
            have hP : va_P (dC, dI) vwCl [(nu, .inl (cI, 5, .inl fnu)), (le, .inl (cI, 220, .inl fle)), (h0, .inr (7, [.ref dr, .int i49, .ref nu, .ref le, .int (nI ln), .int (nI k13), .int i50]))] H := hP
            have hD : va_D A [(nu, .inl (cI, 5, .inl fnu)), (le, .inl (cI, 220, .inl fle)), (h0, .inr (7, [.ref dr, .int i49, .ref nu, .ref le, .int (nI ln), .int (nI k13), .int i50]))] := hD
            try dsimp only at hw48
            refine lv_iconst (v := 0) hx hb dX7_readNumber_131 (by decide) ?_
            have hP9 := hP.sub (ws' := [(h0, .inr (7, [.ref dr, .int i49, .ref nu, .ref le, .int (nI ln), .int (nI k13), .int i50])), (le, .inl (cI, 220, .inl fle)), (nu, .inl (cI, 5, .inl fnu))]) [2, 1, 0] rfl
            have hD9 := hD.sub (ws' := [(h0, .inr (7, [.ref dr, .int i49, .ref nu, .ref le, .int (nI ln), .int (nI k13), .int i50])), (le, .inl (cI, 220, .inl fle)), (nu, .inl (cI, 5, .inl fnu))]) [2, 1, 0] (by decide +kernel) rfl
            exact W.zret (v := 0) hx hb hr (rfl) (fun t ht hW => ⟨⟨0, (fun _ => 0), rfl, Or.inr rfl, ⟨fnu, i49, i50, k13, by omega, by rw [ht]; exact hP9, hD9⟩⟩, hS.F ht⟩) hS.2.2 dX7_readNumber_132
          ·
            refine lv_iload hx hb dX7_readNumber_114 (lv_at hl 0 rfl) ?_
            refine lv_iload_n hx hb dX7_readNumber_116 rfl (lv_at hl 4 rfl) ?_
            refine lv_iload_n hx hb dX7_readNumber_117 rfl (lv_at hl 5 rfl) ?_
            have hPc := hP.sub (ws' := []) [] rfl
            refine va_calli (va_runSN (As := [.int a13_5, .int a0, .int a1]) (rest := []) ⟨hx, hb, hml, hown, hts⟩ (c_X10_within l dC dI cI cZ cQ a13_5 a0 a1 H.size ) ⟨va_cnB 3 hts gX7_readNumber_X10_within_n124 rfl rfl rfl (hN.n_X7_124) (hts (.initialized RX10) (wmx 20 rfl)) (by decide +kernel) ⟨Nat.le_of_ble_eq_true rfl, Nat.le_of_ble_eq_true rfl⟩, hts (.static yX10_within) (by decide +kernel), trivial⟩ ⟨fun a U g mk q => by obtain ⟨q0, q1, qP, qK⟩ := q; exact ⟨q0, q1, qP, va_K.moved (u := U) (U := U.calling g mk a) (Vm.Alike.refl U.vm) qK⟩, fun U hU hW => ⟨rfl, by rw [hU], by rw [hU]; exact hPc, va_K.moved hW.alike hK⟩⟩ rfl rfl hl.1 rfl (lv_room (Nat.le_of_ble_eq_true rfl)) dX7_readNumber_118 ⟨Nat.le_of_ble_eq_true rfl, Nat.le_of_ble_eq_true rfl⟩) hS (fun q _ h => False.elim h) (fun q h => False.elim h) (fun r51 u52 t H1 locs ht hvm hw53 hB hz1 hk1 hS => ?_)
            have hP := hP.kept (fun k q hk => hk1 q.1 (hP k q hk).lt (fun h => h))
            clear hz1 hk1 hPc
            generalize H1 = H at hP hS ht ⊢
            try dsimp only at hw53
            rcases hw53 with ⟨rfl, hw53⟩ | ⟨rfl, hw53⟩
            ·
              refine lv_if_ne (tgt := 133) hx hb dX7_readNumber_121 (by decide) (fun c54 => ?_) (fun c54 => ?_)
              rotate_left
              · exact absurd c54 (by decide)
              clear c54
              refine lv_aload_n hx hb dX7_readNumber_133 rfl (lv_at hl 2 rfl) ?_
              refine va_get (D := (dC, dI)) (ci := 7) (v := .ref nu) (C := RX7) (T := TX7) (N := 7) hx hb hts hi_X7 hown hK hP 1 rfl rfl 2 (by decide) (hts (.fieldLink RX7 22 "LeftQuills$Reader" "numbers" "[I") (wmx 4 rfl)) (fun _ h9 => h9) rfl dX7_readNumber_134 ?_
              refine lv_iload_n hx hb dX7_readNumber_137 rfl (lv_at hl 3 rfl) ?_
              refine lv_iload hx hb dX7_readNumber_138 (lv_at hl 0 rfl) ?_
              refine va_iast hx hb hK hP hD hS 0 0 rfl rfl (vp_in_nI (n := k) (N := 5) (by omega) (by decide)) dX7_readNumber_140 (fun H locs hP hD hS => ?_)
              generalize hgf55 : upd fnu ((nI k).toNatClampNeg) a13_5 = f55 at hP hD
              have hP : va_P (dC, dI) vwCl [(nu, .inl (cI, 5, .inl f55)), (h0, .inr (7, [.ref dr, .int fa, .ref nu, .ref le, .int (nI ln), .int (nI k13), .int fu])), (le, .inl (cI, 220, .inl fle))] H := hP
              have hD : va_D A [(nu, .inl (cI, 5, .inl f55)), (h0, .inr (7, [.ref dr, .int fa, .ref nu, .ref le, .int (nI ln), .int (nI k13), .int fu])), (le, .inl (cI, 220, .inl fle))] := hD
              refine lv_iconst (v := 1) hx hb dX7_readNumber_141 (by decide) ?_
              have hP9 := hP.sub (ws' := [(h0, .inr (7, [.ref dr, .int fa, .ref nu, .ref le, .int (nI ln), .int (nI k13), .int fu])), (le, .inl (cI, 220, .inl fle)), (nu, .inl (cI, 5, .inl f55))]) [1, 2, 0] rfl
              have hD9 := hD.sub (ws' := [(h0, .inr (7, [.ref dr, .int fa, .ref nu, .ref le, .int (nI ln), .int (nI k13), .int fu])), (le, .inl (cI, 220, .inl fle)), (nu, .inl (cI, 5, .inl f55))]) [1, 2, 0] (by decide +kernel) rfl
              exact W.zret (v := 1) hx hb hr (rfl) (fun t ht hW => ⟨⟨1, (fun _ => 0), rfl, Or.inl rfl, ⟨f55, fa, fu, k13, by omega, by rw [ht]; exact hP9, hD9⟩⟩, hS.F ht⟩) hS.2.2 dX7_readNumber_142
            ·
              refine lv_if_ne (tgt := 133) hx hb dX7_readNumber_121 (by decide) (fun c56 => ?_) (fun c56 => ?_)
              · exact absurd c56 (by decide)
              clear c56
              refine lv_aload_n hx hb dX7_readNumber_124 rfl (lv_at hl 2 rfl) ?_
              refine lv_iconst (v := 2) hx hb dX7_readNumber_125 (by decide) ?_
              refine lv_iload hx hb dX7_readNumber_126 (lv_at hl 1 rfl) ?_
              have hPc := hP.sub (ws' := [(h0, .inr (7, [.ref dr, .int fa, .ref nu, .ref le, .int (nI ln), .int (nI k13), .int fu]))]) [1] rfl
              have hDc := hD.sub (ws' := [(h0, .inr (7, [.ref dr, .int fa, .ref nu, .ref le, .int (nI ln), .int (nI k13), .int fu]))]) [1] (by decide) rfl
              have hFc := va_free (wc := [(h0, .inr (7, [.ref dr, .int fa, .ref nu, .ref le, .int (nI ln), .int (nI k13), .int fu]))]) hD hS hA [1] rfl
              refine va_callv (va_runV (As := [.int 2, .int (nI k4)]) (rest := []) ⟨hx, hb, hml, hown, hts⟩ (c_X7_fail l dC dI cI cZ cQ h0 dr fa nu le ln k13 fu 2 (nI k4) H.size ) (cwV 2 hts gX7_readNumber_X7_fail rfl rfl rfl (by decide +kernel) ⟨Nat.le_of_ble_eq_true rfl, Nat.le_of_ble_eq_true rfl⟩) ⟨fun a U g mk q => by obtain ⟨q0, q1, qP, qK, qD⟩ := q; exact ⟨q0, q1, qP, va_K.moved (u := U) (U := U.calling g mk a) (Vm.Alike.refl U.vm) qK, qD⟩, va_recv hK hP (ci := 7) (q0 := 1) rfl rfl, fun U hU hW => ⟨rfl, by rw [hU], by rw [hU]; exact hPc, va_K.moved hW.alike hK, hDc.weaken (fun _ _ _ _ => trivial)⟩⟩ rfl rfl hl.1 rfl (lv_room (Nat.le_of_ble_eq_true rfl)) dX7_readNumber_128 ⟨Nat.le_of_ble_eq_true rfl, Nat.le_of_ble_eq_true rfl⟩) hS (fun q _ h => hFc q h) hFc (fun u58 t H1 locs ht hvm hw59 hB hz1 hk1 hS => ?_)
              obtain ⟨i60, i61, hP1, hD1⟩ := hB
              rw [ht] at hP1
              obtain ⟨hP, hD⟩ := va_join (wr := [(nu, .inl (cI, 5, .inl fnu)), (le, .inl (cI, 220, .inl fle))]) (w1 := [(h0, .inr (7, [.ref dr, .int i60, .ref nu, .ref le, .int (nI ln), .int (nI k13), .int i61]))]) hP hD [1] [0, 2] rfl rfl (by decide +kernel) (by decide +kernel) hk1 hFc hP1 hD1
              clear hP1 hD1
              clear hz1 hk1 hPc hDc hFc
              generalize H1 = H at hP hS ht ⊢
              have hP : va_P (dC, dI) vwCl [(nu, .inl (cI, 5, .inl fnu)), (le, .inl (cI, 220, .inl fle)), (h0, .inr (7, [.ref dr, .int i60, .ref nu, .ref le, .int (nI ln), .int (nI k13), .int i61]))] H := hP
              have hD : va_D A [(nu, .inl (cI, 5, .inl fnu)), (le, .inl (cI, 220, .inl fle)), (h0, .inr (7, [.ref dr, .int i60, .ref nu, .ref le, .int (nI ln), .int (nI k13), .int i61]))] := hD
              try dsimp only at hw59
              refine lv_iconst (v := 0) hx hb dX7_readNumber_131 (by decide) ?_
              have hP9 := hP.sub (ws' := [(h0, .inr (7, [.ref dr, .int i60, .ref nu, .ref le, .int (nI ln), .int (nI k13), .int i61])), (le, .inl (cI, 220, .inl fle)), (nu, .inl (cI, 5, .inl fnu))]) [2, 1, 0] rfl
              have hD9 := hD.sub (ws' := [(h0, .inr (7, [.ref dr, .int i60, .ref nu, .ref le, .int (nI ln), .int (nI k13), .int i61])), (le, .inl (cI, 220, .inl fle)), (nu, .inl (cI, 5, .inl fnu))]) [2, 1, 0] (by decide +kernel) rfl
              exact W.zret (v := 0) hx hb hr (rfl) (fun t ht hW => ⟨⟨0, (fun _ => 0), rfl, Or.inr rfl, ⟨fnu, i60, i61, k13, by omega, by rw [ht]; exact hP9, hD9⟩⟩, hS.F ht⟩) hS.2.2 dX7_readNumber_132
        ·
          have c43 : k13 = k4 := (nI_eq (a := k13) (b := k4) (by omega) (by omega)).mp c43
          refine lv_aload_n hx hb dX7_readNumber_92 rfl (lv_at hl 2 rfl) ?_
          refine lv_iconst (v := 1) hx hb dX7_readNumber_93 (by decide) ?_
          refine lv_aload_n hx hb dX7_readNumber_94 rfl (lv_at hl 2 rfl) ?_
          refine va_get (D := (dC, dI)) (ci := 7) (v := .int (nI k13)) (C := RX7) (T := TX7) (N := 7) hx hb hts hi_X7 hown hK hP 1 rfl rfl 5 (by decide) (hts (.fieldLink RX7 32 "LeftQuills$Reader" "at" "I") (wmx 1 rfl)) (fun _ h9 => h9) rfl dX7_readNumber_95 ?_
          have hPc := hP.sub (ws' := [(h0, .inr (7, [.ref dr, .int fa, .ref nu, .ref le, .int (nI ln), .int (nI k13), .int fu]))]) [1] rfl
          have hDc := hD.sub (ws' := [(h0, .inr (7, [.ref dr, .int fa, .ref nu, .ref le, .int (nI ln), .int (nI k13), .int fu]))]) [1] (by decide) rfl
          have hFc := va_free (wc := [(h0, .inr (7, [.ref dr, .int fa, .ref nu, .ref le, .int (nI ln), .int (nI k13), .int fu]))]) hD hS hA [1] rfl
          refine va_callv (va_runV (As := [.int 1, .int (nI k13)]) (rest := []) ⟨hx, hb, hml, hown, hts⟩ (c_X7_fail l dC dI cI cZ cQ h0 dr fa nu le ln k13 fu 1 (nI k13) H.size ) (cwV 2 hts gX7_readNumber_X7_fail rfl rfl rfl (by decide +kernel) ⟨Nat.le_of_ble_eq_true rfl, Nat.le_of_ble_eq_true rfl⟩) ⟨fun a U g mk q => by obtain ⟨q0, q1, qP, qK, qD⟩ := q; exact ⟨q0, q1, qP, va_K.moved (u := U) (U := U.calling g mk a) (Vm.Alike.refl U.vm) qK, qD⟩, va_recv hK hP (ci := 7) (q0 := 1) rfl rfl, fun U hU hW => ⟨rfl, by rw [hU], by rw [hU]; exact hPc, va_K.moved hW.alike hK, hDc.weaken (fun _ _ _ _ => trivial)⟩⟩ rfl rfl hl.1 rfl (lv_room (Nat.le_of_ble_eq_true rfl)) dX7_readNumber_98 ⟨Nat.le_of_ble_eq_true rfl, Nat.le_of_ble_eq_true rfl⟩) hS (fun q _ h => hFc q h) hFc (fun u63 t H1 locs ht hvm hw64 hB hz1 hk1 hS => ?_)
          obtain ⟨i65, i66, hP1, hD1⟩ := hB
          rw [ht] at hP1
          obtain ⟨hP, hD⟩ := va_join (wr := [(nu, .inl (cI, 5, .inl fnu)), (le, .inl (cI, 220, .inl fle))]) (w1 := [(h0, .inr (7, [.ref dr, .int i65, .ref nu, .ref le, .int (nI ln), .int (nI k13), .int i66]))]) hP hD [1] [0, 2] rfl rfl (by decide +kernel) (by decide +kernel) hk1 hFc hP1 hD1
          clear hP1 hD1
          clear hz1 hk1 hPc hDc hFc
          generalize H1 = H at hP hS ht ⊢
          have hP : va_P (dC, dI) vwCl [(nu, .inl (cI, 5, .inl fnu)), (le, .inl (cI, 220, .inl fle)), (h0, .inr (7, [.ref dr, .int i65, .ref nu, .ref le, .int (nI ln), .int (nI k13), .int i66]))] H := hP
          have hD : va_D A [(nu, .inl (cI, 5, .inl fnu)), (le, .inl (cI, 220, .inl fle)), (h0, .inr (7, [.ref dr, .int i65, .ref nu, .ref le, .int (nI ln), .int (nI k13), .int i66]))] := hD
          try dsimp only at hw64
          refine lv_iconst (v := 0) hx hb dX7_readNumber_101 (by decide) ?_
          have hP9 := hP.sub (ws' := [(h0, .inr (7, [.ref dr, .int i65, .ref nu, .ref le, .int (nI ln), .int (nI k13), .int i66])), (le, .inl (cI, 220, .inl fle)), (nu, .inl (cI, 5, .inl fnu))]) [2, 1, 0] rfl
          have hD9 := hD.sub (ws' := [(h0, .inr (7, [.ref dr, .int i65, .ref nu, .ref le, .int (nI ln), .int (nI k13), .int i66])), (le, .inl (cI, 220, .inl fle)), (nu, .inl (cI, 5, .inl fnu))]) [2, 1, 0] (by decide +kernel) rfl
          exact W.zret (v := 0) hx hb hr (rfl) (fun t ht hW => ⟨⟨0, (fun _ => 0), rfl, Or.inr rfl, ⟨fnu, i65, i66, k13, by omega, by rw [ht]; exact hP9, hD9⟩⟩, hS.F ht⟩) hS.2.2 dX7_readNumber_102
set_option maxHeartbeats 4000000 in
set_option maxRecDepth 100000 in
theorem c_X7_readNumbers (l : Launch) (dC : Nat → ClassId) (dI : Nat → Nat → Nat) (cI cZ cQ : ClassId) (h0 : Nat) (dr : Nat) (fa : Int32) (nu : Nat) (le : Nat) (ln : Nat) (at9 : Nat) (fu : Int32) (fle : Nat → Int32) (fnu : Nat → Int32) (t1 : Nat) (t2 : Nat) (n1 : Nat) (g1 : Nat → Int32) (n2 : Nat) (g2 : Nat → Int32) (sz : Nat) (hln : ln ≤ 220) (hat : at9 ≤ ln) (hn1 : n1 ≤ 5) (hn2 : n2 ≤ 5) : Met l yX7_readNumbers wsX7_readNumbers ({ frames := 2, cells := 0, slots := 0, locals := 87 }) (va_Pc [.ref h0, .ref t1, .ref t2] (fun U => U.heap.size = sz ∧ va_P (dC, dI) vwCl [(h0, .inr (7, [.ref dr, .int fa, .ref nu, .ref le, .int (nI ln), .int (nI at9), .int fu])), (le, .inl (cI, 220, .inl fle)), (nu, .inl (cI, 5, .inl fnu))] U.heap ∧ va_K (dC, dI) vwCl (tys0 cI cZ cQ) U ∧ va_D (fun _ => True) [(h0, .inr (7, [.ref dr, .int fa, .ref nu, .ref le, .int (nI ln), .int (nI at9), .int fu])), (le, .inl (cI, 220, .inl fle)), (nu, .inl (cI, 5, .inl fnu))] ∧ xN U ∧ va_T .int t1 n1 (fun j => .int (g1 j)) (va_A [(h0, .inr (7, [.ref dr, .int fa, .ref nu, .ref le, .int (nI ln), .int (nI at9), .int fu])), (le, .inl (cI, 220, .inl fle)), (nu, .inl (cI, 5, .inl fnu))] sz) U U.heap ∧ va_T .int t2 n2 (fun j => .int (g2 j)) (va_A [(h0, .inr (7, [.ref dr, .int fa, .ref nu, .ref le, .int (nI ln), .int (nI at9), .int fu])), (le, .inl (cI, 220, .inl fle)), (nu, .inl (cI, 5, .inl fnu))] sz) U U.heap)) (va_Qi (fun (r : Int32) (u : Nat → Nat) => r = 1 ∨ r = 0) (fun (_ : Nat → Nat) (t : State) => ∃ (gg0 : Nat → Int32) (ii0 ii2 : Int32) (kk1 : Nat), kk1 ≤ ln ∧ va_P (dC, dI) vwCl [(h0, .inr (7, [.ref dr, .int ii0, .ref nu, .ref le, .int (nI ln), .int (nI kk1), .int ii2])), (le, .inl (cI, 220, .inl fle)), (nu, .inl (cI, 5, .inl gg0))] t.heap ∧ va_D (va_A [(h0, .inr (7, [.ref dr, .int fa, .ref nu, .ref le, .int (nI ln), .int (nI at9), .int fu])), (le, .inl (cI, 220, .inl fle)), (nu, .inl (cI, 5, .inl fnu))] sz) [(h0, .inr (7, [.ref dr, .int ii0, .ref nu, .ref le, .int (nI ln), .int (nI kk1), .int ii2])), (le, .inl (cI, 220, .inl fle)), (nu, .inl (cI, 5, .inl gg0))]) (va_A [(h0, .inr (7, [.ref dr, .int fa, .ref nu, .ref le, .int (nI ln), .int (nI at9), .int fu])), (le, .inl (cI, 220, .inl fle)), (nu, .inl (cI, 5, .inl fnu))] sz)) 0 0 (va_A [(h0, .inr (7, [.ref dr, .int fa, .ref nu, .ref le, .int (nI ln), .int (nI at9), .int fu])), (le, .inl (cI, 220, .inl fle)), (nu, .inl (cI, 5, .inl fnu))] sz) := by
  refine Met.ofW (cc := cX7_readNumbers) (maxL := 5) (ret := (some .boolean)) (by decide) rfl ?_
  intro p e s m args below meth c s₁ B hml hv
  obtain ⟨rfl, hsz, hP, hK, hD0, hN, hT_t1, hT_t2⟩ := hv
  have hx := B.exec
  have hb := B.bytes
  have hr := B.returns
  have hts := atoms_spec (ws := wsX7_readNumbers) B.pre
  have hown : s.vm.findClass RX7 = some m.cls := findClass_of_methodNamed B.named
  have hlocks := B.notSynchronized
  have hi_X7 : ∀ w ∈ u_ws RX7 TX7 7, w ∈ wsX7_readNumbers := by decide +kernel
  subst hsz
  have hD := hD0.self (sz := s.heap.size)
  generalize hAe : va_A [(h0, .inr (7, [.ref dr, .int fa, .ref nu, .ref le, .int (nI ln), .int (nI at9), .int fu])), (le, .inl (cI, 220, .inl fle)), (nu, .inl (cI, 5, .inl fnu))] s.heap.size = A at hD hT_t1 hT_t2 ⊢
  have hA : ∀ q : Nat, s.heap.size ≤ q → A q := fun q h => by rw [← hAe]; exact Or.inr h
  have hS : va_S A s.heap s.heap [] := va_S.rf
  have hl := lv_entry ([.ref h0, .ref t1, .ref t2]) (n := 5) (Nat.le_of_ble_eq_true rfl)
  rw [lg_entry_eq]
  generalize (lg_sl ([.ref h0, .ref t1, .ref t2]) ++ List.replicate (5 - (lg_sl ([.ref h0, .ref t1, .ref t2])).length) Slot.unset).toArray = ls at hl ⊢
  have hl : lv_has ls 5 [(0, .ref h0), (1, .ref t1), (2, .ref t2)] := hl
  refine lv_iconst (v := 5) hx hb dX7_readNumbers_0 (by decide) ?_
  refine lv_aload_n hx hb dX7_readNumbers_1 rfl (lv_at hl 1 rfl) ?_
  refine va_tlen (v := nI n1) hx hb hT_t1 hS rfl dX7_readNumbers_2 ?_
  refine lv_aload_n hx hb dX7_readNumbers_3 rfl (lv_at hl 2 rfl) ?_
  refine va_tlen (v := nI n2) hx hb hT_t2 hS rfl dX7_readNumbers_4 ?_
  refine va_mmin hx hb (hml.trans hl.1.symm) hown (hts (.methodLink RX7 41 Lib.Math.min.name) (wmx 1 rfl)) (hts (.static Lib.Math.min.name) (wmx 2 rfl)) (hts (.initialized "java/lang/Math") (wmx 3 rfl)) (hts (.code Lib.Math.min.name Lib.Math.min.code 2 (some .int)) (wmx 4 rfl)) (Nat.le_of_ble_eq_true rfl) (Nat.le_of_ble_eq_true rfl) (Nat.le_of_ble_eq_true rfl) (Nat.le_of_ble_eq_true rfl) dX7_readNumbers_5 ?_
  refine lv_topi (fun z1 ez1 => ?_)
  obtain rfl : z1 = nI (min n1 n2) := ez1.trans (x_minN (a := n1) (b := n2) (by omega) (by omega))
  refine va_mmin hx hb (hml.trans hl.1.symm) hown (hts (.methodLink RX7 41 Lib.Math.min.name) (wmx 1 rfl)) (hts (.static Lib.Math.min.name) (wmx 2 rfl)) (hts (.initialized "java/lang/Math") (wmx 3 rfl)) (hts (.code Lib.Math.min.name Lib.Math.min.code 2 (some .int)) (wmx 4 rfl)) (Nat.le_of_ble_eq_true rfl) (Nat.le_of_ble_eq_true rfl) (Nat.le_of_ble_eq_true rfl) (Nat.le_of_ble_eq_true rfl) dX7_readNumbers_8 ?_
  refine lv_topi (fun z2 ez2 => ?_)
  obtain rfl : z2 = nI (min 5 (min n1 n2)) := ez2.trans (x_minN (a := 5) (b := min n1 n2) (by omega) (by omega))
  refine lv_istore_n (lv' := [(3, .int (nI (min 5 (min n1 n2)))), (0, .ref h0), (1, .ref t1), (2, .ref t2)]) hx hb dX7_readNumbers_11 rfl hl (by decide) rfl (fun ls hl => ?_)
  refine lv_iconst (v := 0) hx hb dX7_readNumbers_12 (by decide) ?_
  refine lv_istore (lv' := [(4, .int 0), (3, .int (nI (min 5 (min n1 n2)))), (0, .ref h0), (1, .ref t1), (2, .ref t2)]) hx hb dX7_readNumbers_13 hl (by decide) rfl (fun ls hl => ?_)
  refine (fun (K : ∀ (d15 : Nat) (k15 : Nat) (f15_nu : Nat → Int32) (i15_h0_1 : Int32) (i15_h0_5 : Nat) (i15_h0_6 : Int32) (H : Heap) (locs : List Loc) (ls : Array Slot), k15 + d15 = min 5 (min n1 n2) → i15_h0_5 ≤ ln → va_P (dC, dI) vwCl [(h0, .inr (7, [.ref dr, .int i15_h0_1, .ref nu, .ref le, .int (nI ln), .int (nI i15_h0_5), .int i15_h0_6])), (le, .inl (cI, 220, .inl fle)), (nu, .inl (cI, 5, .inl f15_nu))] H → va_D A [(h0, .inr (7, [.ref dr, .int i15_h0_1, .ref nu, .ref le, .int (nI ln), .int (nI i15_h0_5), .int i15_h0_6])), (le, .inl (cI, 220, .inl fle)), (nu, .inl (cI, 5, .inl f15_nu))] → va_S A s.heap H locs → lv_has ls 5 [(4, .int (nI k15)), (3, .int (nI (min 5 (min n1 n2)))), (0, .ref h0), (1, .ref t1), (2, .ref t2)] → W p l e _ s m _ below meth c H locs _ _ _ (F0 m 15 ls [])) => K (min 5 (min n1 n2)) 0 fnu fa at9 fu _ _ _ (by omega) (by omega) hP hD hS (lv_sub hl [0, 1, 2, 3, 4] rfl)) ?_
  intro d15
  induction d15 with
  | zero =>
    intro k15 f15_nu i15_h0_1 i15_h0_5 i15_h0_6 H locs ls hk15 hf15_h0_5 hP hD hS hl
    refine lv_iload hx hb dX7_readNumbers_15 (lv_at hl 0 rfl) ?_
    refine lv_iload_n hx hb dX7_readNumbers_17 rfl (lv_at hl 1 rfl) ?_
    refine lv_icmp_ge (tgt := 46) hx hb dX7_readNumbers_18 (by decide) (fun c3 => ?_) (fun c3 => ?_)
    ·
      have c3 : (min 5 (min n1 n2)) ≤ k15 := (nI_leI (a := min 5 (min n1 n2)) (b := k15) (by omega) (by omega)).mp c3
      refine lv_aload_n hx hb dX7_readNumbers_46 rfl (lv_at hl 2 rfl) ?_
      have hPc := hP.sub (ws' := [(h0, .inr (7, [.ref dr, .int i15_h0_1, .ref nu, .ref le, .int (nI ln), .int (nI i15_h0_5), .int i15_h0_6])), (le, .inl (cI, 220, .inl fle))]) [0, 1] rfl
      have hDc := hD.sub (ws' := [(h0, .inr (7, [.ref dr, .int i15_h0_1, .ref nu, .ref le, .int (nI ln), .int (nI i15_h0_5), .int i15_h0_6])), (le, .inl (cI, 220, .inl fle))]) [0, 1] (by decide) rfl
      have hFc := va_free (wc := [(h0, .inr (7, [.ref dr, .int i15_h0_1, .ref nu, .ref le, .int (nI ln), .int (nI i15_h0_5), .int i15_h0_6])), (le, .inl (cI, 220, .inl fle))]) hD hS hA [0, 1] rfl
      refine va_callv (va_runV (As := []) (rest := []) ⟨hx, hb, hml, hown, hts⟩ (c_X7_skipBlanks l dC dI cI cZ cQ h0 dr i15_h0_1 nu le ln i15_h0_5 i15_h0_6 fle H.size (by omega) (by omega)) (cwV 0 hts gX7_readNumbers_X7_skipBlanks rfl rfl rfl (by decide +kernel) ⟨Nat.le_of_ble_eq_true rfl, Nat.le_of_ble_eq_true rfl⟩) ⟨fun a U g mk q => by obtain ⟨q0, q1, qP, qK, qD⟩ := q; exact ⟨q0, q1, qP, va_K.moved (u := U) (U := U.calling g mk a) (Vm.Alike.refl U.vm) qK, qD⟩, va_recv hK hP (ci := 7) (q0 := 0) rfl rfl, fun U hU hW => ⟨rfl, by rw [hU], by rw [hU]; exact hPc, va_K.moved hW.alike hK, hDc.weaken (fun _ _ _ _ => trivial)⟩⟩ rfl rfl hl.1 rfl (lv_room (Nat.le_of_ble_eq_true rfl)) dX7_readNumbers_47 ⟨Nat.le_of_ble_eq_true rfl, Nat.le_of_ble_eq_true rfl⟩) hS (fun q _ h => hFc q h) hFc (fun u5 t H1 locs ht hvm hw6 hB hz1 hk1 hS => ?_)
      obtain ⟨k7, hk7, hP1, hD1⟩ := hB
      rw [ht] at hP1
      obtain ⟨hP, hD⟩ := va_join (wr := [(nu, .inl (cI, 5, .inl f15_nu))]) (w1 := [(h0, .inr (7, [.ref dr, .int i15_h0_1, .ref nu, .ref le, .int (nI ln), .int (nI k7), .int i15_h0_6])), (le, .inl (cI, 220, .inl fle))]) hP hD [0, 1] [2] rfl rfl (by decide +kernel) (by decide +kernel) hk1 hFc hP1 hD1
      clear hP1 hD1
      clear hz1 hk1 hPc hDc hFc
      generalize H1 = H at hP hS ht ⊢
      have hP : va_P (dC, dI) vwCl [(nu, .inl (cI, 5, .inl f15_nu)), (h0, .inr (7, [.ref dr, .int i15_h0_1, .ref nu, .ref le, .int (nI ln), .int (nI k7), .int i15_h0_6])), (le, .inl (cI, 220, .inl fle))] H := hP
      have hD : va_D A [(nu, .inl (cI, 5, .inl f15_nu)), (h0, .inr (7, [.ref dr, .int i15_h0_1, .ref nu, .ref le, .int (nI ln), .int (nI k7), .int i15_h0_6])), (le, .inl (cI, 220, .inl fle))] := hD
      try dsimp only at hw6
      refine lv_aload_n hx hb dX7_readNumbers_50 rfl (lv_at hl 2 rfl) ?_
      have hPc := hP.sub (ws' := [(h0, .inr (7, [.ref dr, .int i15_h0_1, .ref nu, .ref le, .int (nI ln), .int (nI k7), .int i15_h0_6])), (le, .inl (cI, 220, .inl fle))]) [1, 2] rfl
      refine va_calli (va_runV (As := []) (rest := []) ⟨hx, hb, hml, hown, hts⟩ (c_X7_letterHere l dC dI cI cZ cQ h0 le ln k7 ([.ref dr, .int i15_h0_1, .ref nu, .ref le, .int (nI ln), .int (nI k7), .int i15_h0_6]) fle H.size rfl rfl rfl (by omega) (by omega)) (cwV 0 hts gX7_readNumbers_X7_letterHere rfl rfl rfl (by decide +kernel) ⟨Nat.le_of_ble_eq_true rfl, Nat.le_of_ble_eq_true rfl⟩) ⟨fun a U g mk q => by obtain ⟨q0, q1, qP, qK⟩ := q; exact ⟨q0, q1, qP, va_K.moved (u := U) (U := U.calling g mk a) (Vm.Alike.refl U.vm) qK⟩, va_recv hK hP (ci := 7) (q0 := 1) rfl rfl, fun U hU hW => ⟨rfl, by rw [hU], by rw [hU]; exact hPc, va_K.moved hW.alike hK⟩⟩ rfl rfl hl.1 rfl (lv_room (Nat.le_of_ble_eq_true rfl)) dX7_readNumbers_51 ⟨Nat.le_of_ble_eq_true rfl, Nat.le_of_ble_eq_true rfl⟩) hS (fun q _ h => False.elim h) (fun q h => False.elim h) (fun r8 u9 t H1 locs ht hvm hw10 hB hz1 hk1 hS => ?_)
      have hP := hP.kept (fun k q hk => hk1 q.1 (hP k q hk).lt (fun h => h))
      clear hz1 hk1 hPc
      generalize H1 = H at hP hS ht ⊢
      try dsimp only at hw10
      rcases hw10 with hw10 | rfl
      ·
        refine lv_bipush (v := 59) hx hb dX7_readNumbers_54 (by decide) ?_
        refine lv_icmp_eq (tgt := 70) hx hb dX7_readNumbers_56 (by decide) (fun c11 => ?_) (fun c11 => ?_)
        ·
          refine lv_aload_n hx hb dX7_readNumbers_70 rfl (lv_at hl 2 rfl) ?_
          refine lv_dup hx hb dX7_readNumbers_71 rfl ?_
          refine va_get (D := (dC, dI)) (ci := 7) (v := .int (nI k7)) (C := RX7) (T := TX7) (N := 7) hx hb hts hi_X7 hown hK hP 1 rfl rfl 5 (by decide) (hts (.fieldLink RX7 32 "LeftQuills$Reader" "at" "I") (wmx 5 rfl)) (fun _ h9 => h9) rfl dX7_readNumbers_72 ?_
          refine lv_iconst (v := 1) hx hb dX7_readNumbers_75 (by decide) ?_
          refine lv_iadd hx hb dX7_readNumbers_76 ?_
          refine lv_topi (fun z12 ez12 => ?_)
          obtain rfl : z12 = nI (k7 + 1) := ez12.trans (nI_add k7 1)
          refine va_put (D := (dC, dI)) (ci := 7) (v := .int (nI (k7 + 1))) (ty := .int) (C := RX7) (T := TX7) (N := 7) hx hb hts hi_X7 tyX7 tyX7_ok nmX7 hown hK hP hD hS 1 rfl rfl 5 (by decide) (hts (.fieldLink RX7 32 "LeftQuills$Reader" "at" "I") (wmx 5 rfl)) (fun _ h9 => h9) rfl (by decide +kernel) rfl rfl (Nat.le_of_ble_eq_true rfl) dX7_readNumbers_77 (fun H locs hP hD hS => ?_)
          have hP : va_P (dC, dI) vwCl [(nu, .inl (cI, 5, .inl f15_nu)), (h0, .inr (7, [.ref dr, .int i15_h0_1, .ref nu, .ref le, .int (nI ln), .int (nI (k7 + 1)), .int i15_h0_6])), (le, .inl (cI, 220, .inl fle))] H := hP
          have hD : va_D A [(nu, .inl (cI, 5, .inl f15_nu)), (h0, .inr (7, [.ref dr, .int i15_h0_1, .ref nu, .ref le, .int (nI ln), .int (nI (k7 + 1)), .int i15_h0_6])), (le, .inl (cI, 220, .inl fle))] := hD
          refine lv_iconst (v := 1) hx hb dX7_readNumbers_80 (by decide) ?_
          have hP9 := hP.sub (ws' := [(h0, .inr (7, [.ref dr, .int i15_h0_1, .ref nu, .ref le, .int (nI ln), .int (nI (k7 + 1)), .int i15_h0_6])), (le, .inl (cI, 220, .inl fle)), (nu, .inl (cI, 5, .inl f15_nu))]) [1, 2, 0] rfl
          have hD9 := hD.sub (ws' := [(h0, .inr (7, [.ref dr, .int i15_h0_1, .ref nu, .ref le, .int (nI ln), .int (nI (k7 + 1)), .int i15_h0_6])), (le, .inl (cI, 220, .inl fle)), (nu, .inl (cI, 5, .inl f15_nu))]) [1, 2, 0] (by decide +kernel) rfl
          exact W.zret (v := 1) hx hb hr (rfl) (fun t ht hW => ⟨⟨1, (fun _ => 0), rfl, Or.inl rfl, ⟨f15_nu, i15_h0_1, i15_h0_6, (k7 + 1), by omega, by rw [ht]; exact hP9, hD9⟩⟩, hS.F ht⟩) hS.2.2 dX7_readNumbers_81
        ·
          refine lv_aload_n hx hb dX7_readNumbers_59 rfl (lv_at hl 2 rfl) ?_
          refine lv_iconst (v := 1) hx hb dX7_readNumbers_60 (by decide) ?_
          refine lv_aload_n hx hb dX7_readNumbers_61 rfl (lv_at hl 2 rfl) ?_
          refine va_get (D := (dC, dI)) (ci := 7) (v := .int (nI k7)) (C := RX7) (T := TX7) (N := 7) hx hb hts hi_X7 hown hK hP 1 rfl rfl 5 (by decide) (hts (.fieldLink RX7 32 "LeftQuills$Reader" "at" "I") (wmx 5 rfl)) (fun _ h9 => h9) rfl dX7_readNumbers_62 ?_
          have hPc := hP.sub (ws' := [(h0, .inr (7, [.ref dr, .int i15_h0_1, .ref nu, .ref le, .int (nI ln), .int (nI k7), .int i15_h0_6]))]) [1] rfl
          have hDc := hD.sub (ws' := [(h0, .inr (7, [.ref dr, .int i15_h0_1, .ref nu, .ref le, .int (nI ln), .int (nI k7), .int i15_h0_6]))]) [1] (by decide) rfl
          have hFc := va_free (wc := [(h0, .inr (7, [.ref dr, .int i15_h0_1, .ref nu, .ref le, .int (nI ln), .int (nI k7), .int i15_h0_6]))]) hD hS hA [1] rfl
          refine va_callv (va_runV (As := [.int 1, .int (nI k7)]) (rest := []) ⟨hx, hb, hml, hown, hts⟩ (c_X7_fail l dC dI cI cZ cQ h0 dr i15_h0_1 nu le ln k7 i15_h0_6 1 (nI k7) H.size ) (cwV 2 hts gX7_readNumbers_X7_fail rfl rfl rfl (by decide +kernel) ⟨Nat.le_of_ble_eq_true rfl, Nat.le_of_ble_eq_true rfl⟩) ⟨fun a U g mk q => by obtain ⟨q0, q1, qP, qK, qD⟩ := q; exact ⟨q0, q1, qP, va_K.moved (u := U) (U := U.calling g mk a) (Vm.Alike.refl U.vm) qK, qD⟩, va_recv hK hP (ci := 7) (q0 := 1) rfl rfl, fun U hU hW => ⟨rfl, by rw [hU], by rw [hU]; exact hPc, va_K.moved hW.alike hK, hDc.weaken (fun _ _ _ _ => trivial)⟩⟩ rfl rfl hl.1 rfl (lv_room (Nat.le_of_ble_eq_true rfl)) dX7_readNumbers_65 ⟨Nat.le_of_ble_eq_true rfl, Nat.le_of_ble_eq_true rfl⟩) hS (fun q _ h => hFc q h) hFc (fun u14 t H1 locs ht hvm hw15 hB hz1 hk1 hS => ?_)
          obtain ⟨i16, i17, hP1, hD1⟩ := hB
          rw [ht] at hP1
          obtain ⟨hP, hD⟩ := va_join (wr := [(nu, .inl (cI, 5, .inl f15_nu)), (le, .inl (cI, 220, .inl fle))]) (w1 := [(h0, .inr (7, [.ref dr, .int i16, .ref nu, .ref le, .int (nI ln), .int (nI k7), .int i17]))]) hP hD [1] [0, 2] rfl rfl (by decide +kernel) (by decide +kernel) hk1 hFc hP1 hD1
          clear hP1 hD1
          clear hz1 hk1 hPc hDc hFc
          generalize H1 = H at hP hS ht ⊢
          have hP : va_P (dC, dI) vwCl [(nu, .inl (cI, 5, .inl f15_nu)), (le, .inl (cI, 220, .inl fle)), (h0, .inr (7, [.ref dr, .int i16, .ref nu, .ref le, .int (nI ln), .int (nI k7), .int i17]))] H := hP
          have hD : va_D A [(nu, .inl (cI, 5, .inl f15_nu)), (le, .inl (cI, 220, .inl fle)), (h0, .inr (7, [.ref dr, .int i16, .ref nu, .ref le, .int (nI ln), .int (nI k7), .int i17]))] := hD
          try dsimp only at hw15
          refine lv_iconst (v := 0) hx hb dX7_readNumbers_68 (by decide) ?_
          have hP9 := hP.sub (ws' := [(h0, .inr (7, [.ref dr, .int i16, .ref nu, .ref le, .int (nI ln), .int (nI k7), .int i17])), (le, .inl (cI, 220, .inl fle)), (nu, .inl (cI, 5, .inl f15_nu))]) [2, 1, 0] rfl
          have hD9 := hD.sub (ws' := [(h0, .inr (7, [.ref dr, .int i16, .ref nu, .ref le, .int (nI ln), .int (nI k7), .int i17])), (le, .inl (cI, 220, .inl fle)), (nu, .inl (cI, 5, .inl f15_nu))]) [2, 1, 0] (by decide +kernel) rfl
          exact W.zret (v := 0) hx hb hr (rfl) (fun t ht hW => ⟨⟨0, (fun _ => 0), rfl, Or.inr rfl, ⟨f15_nu, i16, i17, k7, by omega, by rw [ht]; exact hP9, hD9⟩⟩, hS.F ht⟩) hS.2.2 dX7_readNumbers_69
      ·
        refine lv_bipush (v := 59) hx hb dX7_readNumbers_54 (by decide) ?_
        refine lv_icmp_eq (tgt := 70) hx hb dX7_readNumbers_56 (by decide) (fun c18 => ?_) (fun c18 => ?_)
        · exact absurd c18 (by decide)
        clear c18
        refine lv_aload_n hx hb dX7_readNumbers_59 rfl (lv_at hl 2 rfl) ?_
        refine lv_iconst (v := 1) hx hb dX7_readNumbers_60 (by decide) ?_
        refine lv_aload_n hx hb dX7_readNumbers_61 rfl (lv_at hl 2 rfl) ?_
        refine va_get (D := (dC, dI)) (ci := 7) (v := .int (nI k7)) (C := RX7) (T := TX7) (N := 7) hx hb hts hi_X7 hown hK hP 1 rfl rfl 5 (by decide) (hts (.fieldLink RX7 32 "LeftQuills$Reader" "at" "I") (wmx 5 rfl)) (fun _ h9 => h9) rfl dX7_readNumbers_62 ?_
        have hPc := hP.sub (ws' := [(h0, .inr (7, [.ref dr, .int i15_h0_1, .ref nu, .ref le, .int (nI ln), .int (nI k7), .int i15_h0_6]))]) [1] rfl
        have hDc := hD.sub (ws' := [(h0, .inr (7, [.ref dr, .int i15_h0_1, .ref nu, .ref le, .int (nI ln), .int (nI k7), .int i15_h0_6]))]) [1] (by decide) rfl
        have hFc := va_free (wc := [(h0, .inr (7, [.ref dr, .int i15_h0_1, .ref nu, .ref le, .int (nI ln), .int (nI k7), .int i15_h0_6]))]) hD hS hA [1] rfl
        refine va_callv (va_runV (As := [.int 1, .int (nI k7)]) (rest := []) ⟨hx, hb, hml, hown, hts⟩ (c_X7_fail l dC dI cI cZ cQ h0 dr i15_h0_1 nu le ln k7 i15_h0_6 1 (nI k7) H.size ) (cwV 2 hts gX7_readNumbers_X7_fail rfl rfl rfl (by decide +kernel) ⟨Nat.le_of_ble_eq_true rfl, Nat.le_of_ble_eq_true rfl⟩) ⟨fun a U g mk q => by obtain ⟨q0, q1, qP, qK, qD⟩ := q; exact ⟨q0, q1, qP, va_K.moved (u := U) (U := U.calling g mk a) (Vm.Alike.refl U.vm) qK, qD⟩, va_recv hK hP (ci := 7) (q0 := 1) rfl rfl, fun U hU hW => ⟨rfl, by rw [hU], by rw [hU]; exact hPc, va_K.moved hW.alike hK, hDc.weaken (fun _ _ _ _ => trivial)⟩⟩ rfl rfl hl.1 rfl (lv_room (Nat.le_of_ble_eq_true rfl)) dX7_readNumbers_65 ⟨Nat.le_of_ble_eq_true rfl, Nat.le_of_ble_eq_true rfl⟩) hS (fun q _ h => hFc q h) hFc (fun u20 t H1 locs ht hvm hw21 hB hz1 hk1 hS => ?_)
        obtain ⟨i22, i23, hP1, hD1⟩ := hB
        rw [ht] at hP1
        obtain ⟨hP, hD⟩ := va_join (wr := [(nu, .inl (cI, 5, .inl f15_nu)), (le, .inl (cI, 220, .inl fle))]) (w1 := [(h0, .inr (7, [.ref dr, .int i22, .ref nu, .ref le, .int (nI ln), .int (nI k7), .int i23]))]) hP hD [1] [0, 2] rfl rfl (by decide +kernel) (by decide +kernel) hk1 hFc hP1 hD1
        clear hP1 hD1
        clear hz1 hk1 hPc hDc hFc
        generalize H1 = H at hP hS ht ⊢
        have hP : va_P (dC, dI) vwCl [(nu, .inl (cI, 5, .inl f15_nu)), (le, .inl (cI, 220, .inl fle)), (h0, .inr (7, [.ref dr, .int i22, .ref nu, .ref le, .int (nI ln), .int (nI k7), .int i23]))] H := hP
        have hD : va_D A [(nu, .inl (cI, 5, .inl f15_nu)), (le, .inl (cI, 220, .inl fle)), (h0, .inr (7, [.ref dr, .int i22, .ref nu, .ref le, .int (nI ln), .int (nI k7), .int i23]))] := hD
        try dsimp only at hw21
        refine lv_iconst (v := 0) hx hb dX7_readNumbers_68 (by decide) ?_
        have hP9 := hP.sub (ws' := [(h0, .inr (7, [.ref dr, .int i22, .ref nu, .ref le, .int (nI ln), .int (nI k7), .int i23])), (le, .inl (cI, 220, .inl fle)), (nu, .inl (cI, 5, .inl f15_nu))]) [2, 1, 0] rfl
        have hD9 := hD.sub (ws' := [(h0, .inr (7, [.ref dr, .int i22, .ref nu, .ref le, .int (nI ln), .int (nI k7), .int i23])), (le, .inl (cI, 220, .inl fle)), (nu, .inl (cI, 5, .inl f15_nu))]) [2, 1, 0] (by decide +kernel) rfl
        exact W.zret (v := 0) hx hb hr (rfl) (fun t ht hW => ⟨⟨0, (fun _ => 0), rfl, Or.inr rfl, ⟨f15_nu, i22, i23, k7, by omega, by rw [ht]; exact hP9, hD9⟩⟩, hS.F ht⟩) hS.2.2 dX7_readNumbers_69
    ·
      have c3 : ¬ (min 5 (min n1 n2)) ≤ k15 := fun h => c3 ((nI_leI (a := min 5 (min n1 n2)) (b := k15) (by omega) (by omega)).mpr h)
      omega
  | succ d15 ih15 =>
    intro k15 f15_nu i15_h0_1 i15_h0_5 i15_h0_6 H locs ls hk15 hf15_h0_5 hP hD hS hl
    refine lv_iload hx hb dX7_readNumbers_15 (lv_at hl 0 rfl) ?_
    refine lv_iload_n hx hb dX7_readNumbers_17 rfl (lv_at hl 1 rfl) ?_
    refine lv_icmp_ge (tgt := 46) hx hb dX7_readNumbers_18 (by decide) (fun c24 => ?_) (fun c24 => ?_)
    ·
      have c24 : (min 5 (min n1 n2)) ≤ k15 := (nI_leI (a := min 5 (min n1 n2)) (b := k15) (by omega) (by omega)).mp c24
      omega
    ·
      have c24 : ¬ (min 5 (min n1 n2)) ≤ k15 := fun h => c24 ((nI_leI (a := min 5 (min n1 n2)) (b := k15) (by omega) (by omega)).mpr h)
      refine lv_aload_n hx hb dX7_readNumbers_21 rfl (lv_at hl 2 rfl) ?_
      refine lv_iload hx hb dX7_readNumbers_22 (lv_at hl 0 rfl) ?_
      refine lv_aload_n hx hb dX7_readNumbers_24 rfl (lv_at hl 3 rfl) ?_
      refine lv_iload hx hb dX7_readNumbers_25 (lv_at hl 0 rfl) ?_
      refine va_ti hx hb hT_t1 hS (vp_in_nI (n := k15) (N := n1) (by omega) (by omega)) (v := .int (g1 k15)) (congrArg (fun y9 => Value.int (g1 y9)) (nI_clamp (n := k15) (by omega))) dX7_readNumbers_27 ?_
      refine lv_aload_n hx hb dX7_readNumbers_28 rfl (lv_at hl 4 rfl) ?_
      refine lv_iload hx hb dX7_readNumbers_29 (lv_at hl 0 rfl) ?_
      refine va_ti hx hb hT_t2 hS (vp_in_nI (n := k15) (N := n2) (by omega) (by omega)) (v := .int (g2 k15)) (congrArg (fun y9 => Value.int (g2 y9)) (nI_clamp (n := k15) (by omega))) dX7_readNumbers_31 ?_
      have hPc := hP.sub (ws' := [(h0, .inr (7, [.ref dr, .int i15_h0_1, .ref nu, .ref le, .int (nI ln), .int (nI i15_h0_5), .int i15_h0_6])), (le, .inl (cI, 220, .inl fle)), (nu, .inl (cI, 5, .inl f15_nu))]) [0, 1, 2] rfl
      have hDc := hD.sub (ws' := [(h0, .inr (7, [.ref dr, .int i15_h0_1, .ref nu, .ref le, .int (nI ln), .int (nI i15_h0_5), .int i15_h0_6])), (le, .inl (cI, 220, .inl fle)), (nu, .inl (cI, 5, .inl f15_nu))]) [0, 1, 2] (by decide) rfl
      have hFc := va_free (wc := [(h0, .inr (7, [.ref dr, .int i15_h0_1, .ref nu, .ref le, .int (nI ln), .int (nI i15_h0_5), .int i15_h0_6])), (le, .inl (cI, 220, .inl fle)), (nu, .inl (cI, 5, .inl f15_nu))]) hD hS hA [0, 1, 2] rfl
      refine va_calli (va_runV (As := [.int (nI k15), .int (g1 k15), .int (g2 k15)]) (rest := []) ⟨hx, hb, hml, hown, hts⟩ (c_X7_readNumber l dC dI cI cZ cQ h0 dr i15_h0_1 nu le ln i15_h0_5 i15_h0_6 fle f15_nu k15 (g1 k15) (g2 k15) H.size (by omega) (by omega) (by omega)) (cwV 3 hts gX7_readNumbers_X7_readNumber rfl rfl rfl (by decide +kernel) ⟨Nat.le_of_ble_eq_true rfl, Nat.le_of_ble_eq_true rfl⟩) ⟨fun a U g mk q => by obtain ⟨q0, q1, qP, qK, qD, qN⟩ := q; exact ⟨q0, q1, qP, va_K.moved (u := U) (U := U.calling g mk a) (Vm.Alike.refl U.vm) qK, qD, qN.calling⟩, va_recv hK hP (ci := 7) (q0 := 0) rfl rfl, fun U hU hW => ⟨rfl, by rw [hU], by rw [hU]; exact hPc, va_K.moved hW.alike hK, hDc.weaken (fun _ _ _ _ => trivial), hN.warm hW⟩⟩ rfl rfl hl.1 rfl (lv_room (Nat.le_of_ble_eq_true rfl)) dX7_readNumbers_32 ⟨Nat.le_of_ble_eq_true rfl, Nat.le_of_ble_eq_true rfl⟩) hS (fun q _ h => hFc q h) hFc (fun r25 u26 t H1 locs ht hvm hw27 hB hz1 hk1 hS => ?_)
      obtain ⟨f28, i29, i31, k30, hk30, hP1, hD1⟩ := hB
      rw [ht] at hP1
      obtain ⟨hP, hD⟩ := va_join (wr := []) (w1 := [(h0, .inr (7, [.ref dr, .int i29, .ref nu, .ref le, .int (nI ln), .int (nI k30), .int i31])), (le, .inl (cI, 220, .inl fle)), (nu, .inl (cI, 5, .inl f28))]) hP hD [0, 1, 2] [] rfl rfl (by decide +kernel) (by decide +kernel) hk1 hFc hP1 hD1
      clear hP1 hD1
      clear hz1 hk1 hPc hDc hFc
      generalize H1 = H at hP hS ht ⊢
      have hP : va_P (dC, dI) vwCl [(h0, .inr (7, [.ref dr, .int i29, .ref nu, .ref le, .int (nI ln), .int (nI k30), .int i31])), (le, .inl (cI, 220, .inl fle)), (nu, .inl (cI, 5, .inl f28))] H := hP
      have hD : va_D A [(h0, .inr (7, [.ref dr, .int i29, .ref nu, .ref le, .int (nI ln), .int (nI k30), .int i31])), (le, .inl (cI, 220, .inl fle)), (nu, .inl (cI, 5, .inl f28))] := hD
      try dsimp only at hw27
      rcases hw27 with rfl | rfl
      ·
        refine lv_if_ne (tgt := 40) hx hb dX7_readNumbers_35 (by decide) (fun c32 => ?_) (fun c32 => ?_)
        rotate_left
        · exact absurd c32 (by decide)
        clear c32
        refine lv_iinc (v := nI (k15 + 1)) (lv' := [(4, .int (nI (k15 + 1))), (3, .int (nI (min 5 (min n1 n2)))), (0, .ref h0), (1, .ref t1), (2, .ref t2)]) hx hb dX7_readNumbers_40 hl (k := 0) rfl ((rfl : nI k15 + Int32.ofInt 1 = nI k15 + 1).trans (nI_add k15 1)) (by decide) rfl (fun ls hl => ?_)
        refine lv_goto (tgt := 15) hx hb dX7_readNumbers_43 (by decide) ?_
        exact ih15 (k15 + 1) f28 i29 k30 i31 _ _ _ (by omega) (by omega) hP hD hS (lv_sub hl [0, 1, 2, 3, 4] rfl)
      ·
        refine lv_if_ne (tgt := 40) hx hb dX7_readNumbers_35 (by decide) (fun c33 => ?_) (fun c33 => ?_)
        · exact absurd c33 (by decide)
        clear c33
        refine lv_iconst (v := 0) hx hb dX7_readNumbers_38 (by decide) ?_
        have hP9 := hP.sub (ws' := [(h0, .inr (7, [.ref dr, .int i29, .ref nu, .ref le, .int (nI ln), .int (nI k30), .int i31])), (le, .inl (cI, 220, .inl fle)), (nu, .inl (cI, 5, .inl f28))]) [0, 1, 2] rfl
        have hD9 := hD.sub (ws' := [(h0, .inr (7, [.ref dr, .int i29, .ref nu, .ref le, .int (nI ln), .int (nI k30), .int i31])), (le, .inl (cI, 220, .inl fle)), (nu, .inl (cI, 5, .inl f28))]) [0, 1, 2] (by decide +kernel) rfl
        exact W.zret (v := 0) hx hb hr (rfl) (fun t ht hW => ⟨⟨0, (fun _ => 0), rfl, Or.inr rfl, ⟨f28, i29, i31, k30, by omega, by rw [ht]; exact hP9, hD9⟩⟩, hS.F ht⟩) hS.2.2 dX7_readNumbers_39
set_option maxHeartbeats 4000000 in
set_option maxRecDepth 100000 in
theorem c_X5_clear (l : Launch) (dC : Nat → ClassId) (dI : Nat → Nat → Nat) (cI cZ cQ : ClassId) (h0 : Nat) (st : Nat) (bl : Int32) (mm : Int32) (nq : Nat) (nh : Nat) (o5 : Nat) (o6 : Nat) (o7 : Nat) (o8 : Nat) (o9 : Nat) (o10 : Nat) (o11 : Nat) (o12 : Nat) (sz : Nat)  : Met l yX5_clear wsX5_clear ({ frames := 0, cells := 0, slots := 0, locals := 40 }) (va_Pc [.ref h0] (fun U => U.heap.size = sz ∧ va_P (dC, dI) vwCl [(h0, .inr (5, [.int (nI st), .int bl, .int mm, .int (nI nq), .int (nI nh), .ref o5, .ref o6, .ref o7, .ref o8, .ref o9, .ref o10, .ref o11, .ref o12]))] U.heap ∧ va_K (dC, dI) vwCl (tys0 cI cZ cQ) U ∧ va_D (fun _ => True) [(h0, .inr (5, [.int (nI st), .int bl, .int mm, .int (nI nq), .int (nI nh), .ref o5, .ref o6, .ref o7, .ref o8, .ref o9, .ref o10, .ref o11, .ref o12]))])) (va_Qv (fun (u : Nat → Nat) => True) (fun (_ : Nat → Nat) (t : State) => ∃ (ii1 ii2 : Int32) (kk0 kk3 kk4 : Nat), kk0 ≤ 1 ∧ kk3 ≤ 8 ∧ kk4 ≤ 4 ∧ va_P (dC, dI) vwCl [(h0, .inr (5, [.int (nI kk0), .int ii1, .int ii2, .int (nI kk3), .int (nI kk4), .ref o5, .ref o6, .ref o7, .ref o8, .ref o9, .ref o10, .ref o11, .ref o12]))] t.heap ∧ va_D (va_A [(h0, .inr (5, [.int (nI st), .int bl, .int mm, .int (nI nq), .int (nI nh), .ref o5, .ref o6, .ref o7, .ref o8, .ref o9, .ref o10, .ref o11, .ref o12]))] sz) [(h0, .inr (5, [.int (nI kk0), .int ii1, .int ii2, .int (nI kk3), .int (nI kk4), .ref o5, .ref o6, .ref o7, .ref o8, .ref o9, .ref o10, .ref o11, .ref o12]))]) (va_A [(h0, .inr (5, [.int (nI st), .int bl, .int mm, .int (nI nq), .int (nI nh), .ref o5, .ref o6, .ref o7, .ref o8, .ref o9, .ref o10, .ref o11, .ref o12]))] sz)) 0 0 (va_A [(h0, .inr (5, [.int (nI st), .int bl, .int mm, .int (nI nq), .int (nI nh), .ref o5, .ref o6, .ref o7, .ref o8, .ref o9, .ref o10, .ref o11, .ref o12]))] sz) := by
  refine Met.ofW (cc := cX5_clear) (maxL := 1) (ret := none) (by decide) rfl ?_
  intro p e s m args below meth c s₁ B hml hv
  obtain ⟨rfl, hsz, hP, hK, hD0⟩ := hv
  have hx := B.exec
  have hb := B.bytes
  have hr := B.returns
  have hts := atoms_spec (ws := wsX5_clear) B.pre
  have hown : s.vm.findClass RX5 = some m.cls := findClass_of_methodNamed B.named
  have hlocks := B.notSynchronized
  have hi_X5 : ∀ w ∈ u_ws RX5 TX5 13, w ∈ wsX5_clear := by decide +kernel
  subst hsz
  have hD := hD0.self (sz := s.heap.size)
  generalize hAe : va_A [(h0, .inr (5, [.int (nI st), .int bl, .int mm, .int (nI nq), .int (nI nh), .ref o5, .ref o6, .ref o7, .ref o8, .ref o9, .ref o10, .ref o11, .ref o12]))] s.heap.size = A at hD ⊢
  have hA : ∀ q : Nat, s.heap.size ≤ q → A q := fun q h => by rw [← hAe]; exact Or.inr h
  have hS : va_S A s.heap s.heap [] := va_S.rf
  have hl := lv_entry ([.ref h0]) (n := 1) (Nat.le_of_ble_eq_true rfl)
  rw [lg_entry_eq]
  generalize (lg_sl ([.ref h0]) ++ List.replicate (1 - (lg_sl ([.ref h0])).length) Slot.unset).toArray = ls at hl ⊢
  have hl : lv_has ls 1 [(0, .ref h0)] := hl
  refine lv_aload_n hx hb dX5_clear_0 rfl (lv_at hl 0 rfl) ?_
  refine lv_iconst (v := 0) hx hb dX5_clear_1 (by decide) ?_
  refine va_put (D := (dC, dI)) (ci := 5) (v := .int 0) (ty := .boolean) (C := RX5) (T := TX5) (N := 13) hx hb hts hi_X5 tyX5 tyX5_ok nmX5 hown hK hP hD hS 0 rfl rfl 0 (by decide) (hts (.fieldLink RX5 9 "LeftQuills$Office" "stands" "Z") (wmx 1 rfl)) (fun _ h9 => h9) rfl (by decide +kernel) rfl rfl (Nat.le_of_ble_eq_true rfl) dX5_clear_2 (fun H locs hP hD hS => ?_)
  have hP : va_P (dC, dI) vwCl [(h0, .inr (5, [.int 0, .int bl, .int mm, .int (nI nq), .int (nI nh), .ref o5, .ref o6, .ref o7, .ref o8, .ref o9, .ref o10, .ref o11, .ref o12]))] H := hP
  have hD : va_D A [(h0, .inr (5, [.int 0, .int bl, .int mm, .int (nI nq), .int (nI nh), .ref o5, .ref o6, .ref o7, .ref o8, .ref o9, .ref o10, .ref o11, .ref o12]))] := hD
  refine lv_aload_n hx hb dX5_clear_5 rfl (lv_at hl 0 rfl) ?_
  refine lv_iconst (v := 0) hx hb dX5_clear_6 (by decide) ?_
  refine va_put (D := (dC, dI)) (ci := 5) (v := .int 0) (ty := .int) (C := RX5) (T := TX5) (N := 13) hx hb hts hi_X5 tyX5 tyX5_ok nmX5 hown hK hP hD hS 0 rfl rfl 1 (by decide) (hts (.fieldLink RX5 15 "LeftQuills$Office" "bluntBehind" "I") (wmx 2 rfl)) (fun _ h9 => h9) rfl (by decide +kernel) rfl rfl (Nat.le_of_ble_eq_true rfl) dX5_clear_7 (fun H locs hP hD hS => ?_)
  have hP : va_P (dC, dI) vwCl [(h0, .inr (5, [.int 0, .int 0, .int mm, .int (nI nq), .int (nI nh), .ref o5, .ref o6, .ref o7, .ref o8, .ref o9, .ref o10, .ref o11, .ref o12]))] H := hP
  have hD : va_D A [(h0, .inr (5, [.int 0, .int 0, .int mm, .int (nI nq), .int (nI nh), .ref o5, .ref o6, .ref o7, .ref o8, .ref o9, .ref o10, .ref o11, .ref o12]))] := hD
  refine lv_aload_n hx hb dX5_clear_10 rfl (lv_at hl 0 rfl) ?_
  refine lv_iconst (v := 0) hx hb dX5_clear_11 (by decide) ?_
  refine va_put (D := (dC, dI)) (ci := 5) (v := .int 0) (ty := .int) (C := RX5) (T := TX5) (N := 13) hx hb hts hi_X5 tyX5 tyX5_ok nmX5 hown hK hP hD hS 0 rfl rfl 2 (by decide) (hts (.fieldLink RX5 19 "LeftQuills$Office" "mendMinutes" "I") (wmx 3 rfl)) (fun _ h9 => h9) rfl (by decide +kernel) rfl rfl (Nat.le_of_ble_eq_true rfl) dX5_clear_12 (fun H locs hP hD hS => ?_)
  have hP : va_P (dC, dI) vwCl [(h0, .inr (5, [.int 0, .int 0, .int 0, .int (nI nq), .int (nI nh), .ref o5, .ref o6, .ref o7, .ref o8, .ref o9, .ref o10, .ref o11, .ref o12]))] H := hP
  have hD : va_D A [(h0, .inr (5, [.int 0, .int 0, .int 0, .int (nI nq), .int (nI nh), .ref o5, .ref o6, .ref o7, .ref o8, .ref o9, .ref o10, .ref o11, .ref o12]))] := hD
  refine lv_aload_n hx hb dX5_clear_15 rfl (lv_at hl 0 rfl) ?_
  refine lv_iconst (v := 0) hx hb dX5_clear_16 (by decide) ?_
  refine va_put (D := (dC, dI)) (ci := 5) (v := .int 0) (ty := .int) (C := RX5) (T := TX5) (N := 13) hx hb hts hi_X5 tyX5 tyX5_ok nmX5 hown hK hP hD hS 0 rfl rfl 3 (by decide) (hts (.fieldLink RX5 22 "LeftQuills$Office" "quills" "I") (wmx 4 rfl)) (fun _ h9 => h9) rfl (by decide +kernel) rfl rfl (Nat.le_of_ble_eq_true rfl) dX5_clear_17 (fun H locs hP hD hS => ?_)
  have hP : va_P (dC, dI) vwCl [(h0, .inr (5, [.int 0, .int 0, .int 0, .int 0, .int (nI nh), .ref o5, .ref o6, .ref o7, .ref o8, .ref o9, .ref o10, .ref o11, .ref o12]))] H := hP
  have hD : va_D A [(h0, .inr (5, [.int 0, .int 0, .int 0, .int 0, .int (nI nh), .ref o5, .ref o6, .ref o7, .ref o8, .ref o9, .ref o10, .ref o11, .ref o12]))] := hD
  refine lv_aload_n hx hb dX5_clear_20 rfl (lv_at hl 0 rfl) ?_
  refine lv_iconst (v := 0) hx hb dX5_clear_21 (by decide) ?_
  refine va_put (D := (dC, dI)) (ci := 5) (v := .int 0) (ty := .int) (C := RX5) (T := TX5) (N := 13) hx hb hts hi_X5 tyX5 tyX5_ok nmX5 hown hK hP hD hS 0 rfl rfl 4 (by decide) (hts (.fieldLink RX5 25 "LeftQuills$Office" "hands" "I") (wmx 5 rfl)) (fun _ h9 => h9) rfl (by decide +kernel) rfl rfl (Nat.le_of_ble_eq_true rfl) dX5_clear_22 (fun H locs hP hD hS => ?_)
  have hP : va_P (dC, dI) vwCl [(h0, .inr (5, [.int 0, .int 0, .int 0, .int 0, .int 0, .ref o5, .ref o6, .ref o7, .ref o8, .ref o9, .ref o10, .ref o11, .ref o12]))] H := hP
  have hD : va_D A [(h0, .inr (5, [.int 0, .int 0, .int 0, .int 0, .int 0, .ref o5, .ref o6, .ref o7, .ref o8, .ref o9, .ref o10, .ref o11, .ref o12]))] := hD
  have hP9 := hP.sub (ws' := [(h0, .inr (5, [.int 0, .int 0, .int 0, .int 0, .int 0, .ref o5, .ref o6, .ref o7, .ref o8, .ref o9, .ref o10, .ref o11, .ref o12]))]) [0] rfl
  have hD9 := hD.sub (ws' := [(h0, .inr (5, [.int 0, .int 0, .int 0, .int 0, .int 0, .ref o5, .ref o6, .ref o7, .ref o8, .ref o9, .ref o10, .ref o11, .ref o12]))]) [0] (by decide +kernel) rfl
  exact W.vret hx hb hr (fun t ht hW => ⟨⟨(fun _ => 0), rfl, trivial, ⟨0, 0, 0, 0, 0, by omega, by omega, by omega, by rw [ht]; exact hP9, hD9⟩⟩, hS.F ht⟩) hS.2.2 dX5_clear_25
set_option maxHeartbeats 4000000 in
set_option maxRecDepth 100000 in
theorem c_X5_setBlade (l : Launch) (dC : Nat → ClassId) (dI : Nat → Nat → Nat) (cI cZ cQ : ClassId) (h0 : Nat) (st : Nat) (bl : Int32) (mm : Int32) (nq : Nat) (nh : Nat) (o5 : Nat) (o6 : Nat) (o7 : Nat) (o8 : Nat) (o9 : Nat) (o10 : Nat) (o11 : Nat) (o12 : Nat) (nu : Nat) (fnu : Nat → Int32) (sz : Nat)  : Met l yX5_setBlade wsX5_setBlade ({ frames := 0, cells := 0, slots := 0, locals := 40 }) (va_Pc [.ref h0, .ref nu] (fun U => U.heap.size = sz ∧ va_P (dC, dI) vwCl [(h0, .inr (5, [.int (nI st), .int bl, .int mm, .int (nI nq), .int (nI nh), .ref o5, .ref o6, .ref o7, .ref o8, .ref o9, .ref o10, .ref o11, .ref o12])), (nu, .inl (cI, 5, .inl fnu))] U.heap ∧ va_K (dC, dI) vwCl (tys0 cI cZ cQ) U ∧ va_D (fun _ => True) [(h0, .inr (5, [.int (nI st), .int bl, .int mm, .int (nI nq), .int (nI nh), .ref o5, .ref o6, .ref o7, .ref o8, .ref o9, .ref o10, .ref o11, .ref o12])), (nu, .inl (cI, 5, .inl fnu))])) (va_Qv (fun (u : Nat → Nat) => True) (fun (_ : Nat → Nat) (t : State) => ∃ (ii1 ii2 : Int32) (kk0 : Nat), kk0 ≤ 1 ∧ va_P (dC, dI) vwCl [(h0, .inr (5, [.int (nI kk0), .int ii1, .int ii2, .int (nI nq), .int (nI nh), .ref o5, .ref o6, .ref o7, .ref o8, .ref o9, .ref o10, .ref o11, .ref o12])), (nu, .inl (cI, 5, .inl fnu))] t.heap ∧ va_D (va_A [(h0, .inr (5, [.int (nI st), .int bl, .int mm, .int (nI nq), .int (nI nh), .ref o5, .ref o6, .ref o7, .ref o8, .ref o9, .ref o10, .ref o11, .ref o12])), (nu, .inl (cI, 5, .inl fnu))] sz) [(h0, .inr (5, [.int (nI kk0), .int ii1, .int ii2, .int (nI nq), .int (nI nh), .ref o5, .ref o6, .ref o7, .ref o8, .ref o9, .ref o10, .ref o11, .ref o12])), (nu, .inl (cI, 5, .inl fnu))]) (va_A [(h0, .inr (5, [.int (nI st), .int bl, .int mm, .int (nI nq), .int (nI nh), .ref o5, .ref o6, .ref o7, .ref o8, .ref o9, .ref o10, .ref o11, .ref o12])), (nu, .inl (cI, 5, .inl fnu))] sz)) 0 0 (va_A [(h0, .inr (5, [.int (nI st), .int bl, .int mm, .int (nI nq), .int (nI nh), .ref o5, .ref o6, .ref o7, .ref o8, .ref o9, .ref o10, .ref o11, .ref o12])), (nu, .inl (cI, 5, .inl fnu))] sz) := by
  refine Met.ofW (cc := cX5_setBlade) (maxL := 2) (ret := none) (by decide) rfl ?_
  intro p e s m args below meth c s₁ B hml hv
  obtain ⟨rfl, hsz, hP, hK, hD0⟩ := hv
  have hx := B.exec
  have hb := B.bytes
  have hr := B.returns
  have hts := atoms_spec (ws := wsX5_setBlade) B.pre
  have hown : s.vm.findClass RX5 = some m.cls := findClass_of_methodNamed B.named
  have hlocks := B.notSynchronized
  have hi_X5 : ∀ w ∈ u_ws RX5 TX5 13, w ∈ wsX5_setBlade := by decide +kernel
  subst hsz
  have hD := hD0.self (sz := s.heap.size)
  generalize hAe : va_A [(h0, .inr (5, [.int (nI st), .int bl, .int mm, .int (nI nq), .int (nI nh), .ref o5, .ref o6, .ref o7, .ref o8, .ref o9, .ref o10, .ref o11, .ref o12])), (nu, .inl (cI, 5, .inl fnu))] s.heap.size = A at hD ⊢
  have hA : ∀ q : Nat, s.heap.size ≤ q → A q := fun q h => by rw [← hAe]; exact Or.inr h
  have hS : va_S A s.heap s.heap [] := va_S.rf
  have hl := lv_entry ([.ref h0, .ref nu]) (n := 2) (Nat.le_of_ble_eq_true rfl)
  rw [lg_entry_eq]
  generalize (lg_sl ([.ref h0, .ref nu]) ++ List.replicate (2 - (lg_sl ([.ref h0, .ref nu])).length) Slot.unset).toArray = ls at hl ⊢
  have hl : lv_has ls 2 [(0, .ref h0), (1, .ref nu)] := hl
  refine lv_aload_n hx hb dX5_setBlade_0 rfl (lv_at hl 0 rfl) ?_
  refine lv_iconst (v := 1) hx hb dX5_setBlade_1 (by decide) ?_
  refine va_put (D := (dC, dI)) (ci := 5) (v := .int 1) (ty := .boolean) (C := RX5) (T := TX5) (N := 13) hx hb hts hi_X5 tyX5 tyX5_ok nmX5 hown hK hP hD hS 0 rfl rfl 0 (by decide) (hts (.fieldLink RX5 9 "LeftQuills$Office" "stands" "Z") (wmx 1 rfl)) (fun _ h9 => h9) rfl (by decide +kernel) rfl rfl (Nat.le_of_ble_eq_true rfl) dX5_setBlade_2 (fun H locs hP hD hS => ?_)
  have hP : va_P (dC, dI) vwCl [(h0, .inr (5, [.int 1, .int bl, .int mm, .int (nI nq), .int (nI nh), .ref o5, .ref o6, .ref o7, .ref o8, .ref o9, .ref o10, .ref o11, .ref o12])), (nu, .inl (cI, 5, .inl fnu))] H := hP
  have hD : va_D A [(h0, .inr (5, [.int 1, .int bl, .int mm, .int (nI nq), .int (nI nh), .ref o5, .ref o6, .ref o7, .ref o8, .ref o9, .ref o10, .ref o11, .ref o12])), (nu, .inl (cI, 5, .inl fnu))] := hD
  refine lv_aload_n hx hb dX5_setBlade_5 rfl (lv_at hl 0 rfl) ?_
  refine lv_aload_n hx hb dX5_setBlade_6 rfl (lv_at hl 1 rfl) ?_
  refine lv_iconst (v := 0) hx hb dX5_setBlade_7 (by decide) ?_
  refine va_iald hx hb hK hP 1 0 rfl rfl (vp_in_iff.mpr ⟨by decide, by decide⟩) dX5_setBlade_8 ?_
  refine W.eq (g2 := F0 m 9 ls [.int (fnu 0), .ref h0]) (congrArg (fun y9 => F0 m 9 ls (.int (fnu y9) :: [.ref h0])) ((show ((0 : Int32)).toNatClampNeg = 0 from by decide))) ?_
  refine va_put (D := (dC, dI)) (ci := 5) (v := .int (fnu 0)) (ty := .int) (C := RX5) (T := TX5) (N := 13) hx hb hts hi_X5 tyX5 tyX5_ok nmX5 hown hK hP hD hS 0 rfl rfl 1 (by decide) (hts (.fieldLink RX5 15 "LeftQuills$Office" "bluntBehind" "I") (wmx 2 rfl)) (fun _ h9 => h9) rfl (by decide +kernel) rfl rfl (Nat.le_of_ble_eq_true rfl) dX5_setBlade_9 (fun H locs hP hD hS => ?_)
  have hP : va_P (dC, dI) vwCl [(h0, .inr (5, [.int 1, .int (fnu 0), .int mm, .int (nI nq), .int (nI nh), .ref o5, .ref o6, .ref o7, .ref o8, .ref o9, .ref o10, .ref o11, .ref o12])), (nu, .inl (cI, 5, .inl fnu))] H := hP
  have hD : va_D A [(h0, .inr (5, [.int 1, .int (fnu 0), .int mm, .int (nI nq), .int (nI nh), .ref o5, .ref o6, .ref o7, .ref o8, .ref o9, .ref o10, .ref o11, .ref o12])), (nu, .inl (cI, 5, .inl fnu))] := hD
  refine lv_aload_n hx hb dX5_setBlade_12 rfl (lv_at hl 0 rfl) ?_
  refine lv_aload_n hx hb dX5_setBlade_13 rfl (lv_at hl 1 rfl) ?_
  refine lv_iconst (v := 1) hx hb dX5_setBlade_14 (by decide) ?_
  refine va_iald hx hb hK hP 1 0 rfl rfl (vp_in_iff.mpr ⟨by decide, by decide⟩) dX5_setBlade_15 ?_
  refine W.eq (g2 := F0 m 16 ls [.int (fnu 1), .ref h0]) (congrArg (fun y9 => F0 m 16 ls (.int (fnu y9) :: [.ref h0])) ((show ((1 : Int32)).toNatClampNeg = 1 from by decide))) ?_
  refine va_put (D := (dC, dI)) (ci := 5) (v := .int (fnu 1)) (ty := .int) (C := RX5) (T := TX5) (N := 13) hx hb hts hi_X5 tyX5 tyX5_ok nmX5 hown hK hP hD hS 0 rfl rfl 2 (by decide) (hts (.fieldLink RX5 19 "LeftQuills$Office" "mendMinutes" "I") (wmx 3 rfl)) (fun _ h9 => h9) rfl (by decide +kernel) rfl rfl (Nat.le_of_ble_eq_true rfl) dX5_setBlade_16 (fun H locs hP hD hS => ?_)
  have hP : va_P (dC, dI) vwCl [(h0, .inr (5, [.int 1, .int (fnu 0), .int (fnu 1), .int (nI nq), .int (nI nh), .ref o5, .ref o6, .ref o7, .ref o8, .ref o9, .ref o10, .ref o11, .ref o12])), (nu, .inl (cI, 5, .inl fnu))] H := hP
  have hD : va_D A [(h0, .inr (5, [.int 1, .int (fnu 0), .int (fnu 1), .int (nI nq), .int (nI nh), .ref o5, .ref o6, .ref o7, .ref o8, .ref o9, .ref o10, .ref o11, .ref o12])), (nu, .inl (cI, 5, .inl fnu))] := hD
  have hP9 := hP.sub (ws' := [(h0, .inr (5, [.int 1, .int (fnu 0), .int (fnu 1), .int (nI nq), .int (nI nh), .ref o5, .ref o6, .ref o7, .ref o8, .ref o9, .ref o10, .ref o11, .ref o12])), (nu, .inl (cI, 5, .inl fnu))]) [0, 1] rfl
  have hD9 := hD.sub (ws' := [(h0, .inr (5, [.int 1, .int (fnu 0), .int (fnu 1), .int (nI nq), .int (nI nh), .ref o5, .ref o6, .ref o7, .ref o8, .ref o9, .ref o10, .ref o11, .ref o12])), (nu, .inl (cI, 5, .inl fnu))]) [0, 1] (by decide +kernel) rfl
  exact W.vret hx hb hr (fun t ht hW => ⟨⟨(fun _ => 0), rfl, trivial, ⟨(fnu 0), (fnu 1), 1, by omega, by rw [ht]; exact hP9, hD9⟩⟩, hS.F ht⟩) hS.2.2 dX5_setBlade_19
set_option maxHeartbeats 4000000 in
set_option maxRecDepth 100000 in
theorem c_X5_addQuill (l : Launch) (dC : Nat → ClassId) (dI : Nat → Nat → Nat) (cI cZ cQ : ClassId) (h0 : Nat) (st : Nat) (bl : Int32) (mm : Int32) (nq : Nat) (nh : Nat) (o5 : Nat) (o6 : Nat) (o7 : Nat) (o8 : Nat) (o9 : Nat) (o10 : Nat) (o11 : Nat) (o12 : Nat) (fo5 : Nat → Int32) (fo6 : Nat → Int32) (fo7 : Nat → Int32) (fo8 : Nat → Int32) (fo9 : Nat → Int32) (nu : Nat) (fnu : Nat → Int32) (sz : Nat) (hnq : nq ≤ 8) (hnh : nh ≤ 4) : Met l yX5_addQuill wsX5_addQuill ({ frames := 0, cells := 0, slots := 0, locals := 40 }) (va_Pc [.ref h0, .ref nu] (fun U => U.heap.size = sz ∧ va_P (dC, dI) vwCl [(h0, .inr (5, [.int (nI st), .int bl, .int mm, .int (nI nq), .int (nI nh), .ref o5, .ref o6, .ref o7, .ref o8, .ref o9, .ref o10, .ref o11, .ref o12])), (o5, .inl (cI, 8, .inl fo5)), (o6, .inl (cI, 8, .inl fo6)), (o7, .inl (cI, 8, .inl fo7)), (o8, .inl (cI, 8, .inl fo8)), (o9, .inl (cI, 8, .inl fo9)), (nu, .inl (cI, 5, .inl fnu))] U.heap ∧ va_K (dC, dI) vwCl (tys0 cI cZ cQ) U ∧ va_D (fun _ => True) [(h0, .inr (5, [.int (nI st), .int bl, .int mm, .int (nI nq), .int (nI nh), .ref o5, .ref o6, .ref o7, .ref o8, .ref o9, .ref o10, .ref o11, .ref o12])), (o5, .inl (cI, 8, .inl fo5)), (o6, .inl (cI, 8, .inl fo6)), (o7, .inl (cI, 8, .inl fo7)), (o8, .inl (cI, 8, .inl fo8)), (o9, .inl (cI, 8, .inl fo9)), (nu, .inl (cI, 5, .inl fnu))])) (va_Qv (fun (u : Nat → Nat) => True) (fun (_ : Nat → Nat) (t : State) => ∃ (gg0 gg1 gg2 gg3 gg4 : Nat → Int32) (kk0 : Nat), kk0 ≤ 8 ∧ va_P (dC, dI) vwCl [(h0, .inr (5, [.int (nI st), .int bl, .int mm, .int (nI kk0), .int (nI nh), .ref o5, .ref o6, .ref o7, .ref o8, .ref o9, .ref o10, .ref o11, .ref o12])), (o5, .inl (cI, 8, .inl gg0)), (o6, .inl (cI, 8, .inl gg1)), (o7, .inl (cI, 8, .inl gg2)), (o8, .inl (cI, 8, .inl gg3)), (o9, .inl (cI, 8, .inl gg4)), (nu, .inl (cI, 5, .inl fnu))] t.heap ∧ va_D (va_A [(h0, .inr (5, [.int (nI st), .int bl, .int mm, .int (nI nq), .int (nI nh), .ref o5, .ref o6, .ref o7, .ref o8, .ref o9, .ref o10, .ref o11, .ref o12])), (o5, .inl (cI, 8, .inl fo5)), (o6, .inl (cI, 8, .inl fo6)), (o7, .inl (cI, 8, .inl fo7)), (o8, .inl (cI, 8, .inl fo8)), (o9, .inl (cI, 8, .inl fo9)), (nu, .inl (cI, 5, .inl fnu))] sz) [(h0, .inr (5, [.int (nI st), .int bl, .int mm, .int (nI kk0), .int (nI nh), .ref o5, .ref o6, .ref o7, .ref o8, .ref o9, .ref o10, .ref o11, .ref o12])), (o5, .inl (cI, 8, .inl gg0)), (o6, .inl (cI, 8, .inl gg1)), (o7, .inl (cI, 8, .inl gg2)), (o8, .inl (cI, 8, .inl gg3)), (o9, .inl (cI, 8, .inl gg4)), (nu, .inl (cI, 5, .inl fnu))]) (va_A [(h0, .inr (5, [.int (nI st), .int bl, .int mm, .int (nI nq), .int (nI nh), .ref o5, .ref o6, .ref o7, .ref o8, .ref o9, .ref o10, .ref o11, .ref o12])), (o5, .inl (cI, 8, .inl fo5)), (o6, .inl (cI, 8, .inl fo6)), (o7, .inl (cI, 8, .inl fo7)), (o8, .inl (cI, 8, .inl fo8)), (o9, .inl (cI, 8, .inl fo9)), (nu, .inl (cI, 5, .inl fnu))] sz)) 0 0 (va_A [(h0, .inr (5, [.int (nI st), .int bl, .int mm, .int (nI nq), .int (nI nh), .ref o5, .ref o6, .ref o7, .ref o8, .ref o9, .ref o10, .ref o11, .ref o12])), (o5, .inl (cI, 8, .inl fo5)), (o6, .inl (cI, 8, .inl fo6)), (o7, .inl (cI, 8, .inl fo7)), (o8, .inl (cI, 8, .inl fo8)), (o9, .inl (cI, 8, .inl fo9)), (nu, .inl (cI, 5, .inl fnu))] sz) := by
  refine Met.ofW (cc := cX5_addQuill) (maxL := 2) (ret := none) (by decide) rfl ?_
  intro p e s m args below meth c s₁ B hml hv
  obtain ⟨rfl, hsz, hP, hK, hD0⟩ := hv
  have hx := B.exec
  have hb := B.bytes
  have hr := B.returns
  have hts := atoms_spec (ws := wsX5_addQuill) B.pre
  have hown : s.vm.findClass RX5 = some m.cls := findClass_of_methodNamed B.named
  have hlocks := B.notSynchronized
  have hi_X5 : ∀ w ∈ u_ws RX5 TX5 13, w ∈ wsX5_addQuill := by decide +kernel
  subst hsz
  have hD := hD0.self (sz := s.heap.size)
  generalize hAe : va_A [(h0, .inr (5, [.int (nI st), .int bl, .int mm, .int (nI nq), .int (nI nh), .ref o5, .ref o6, .ref o7, .ref o8, .ref o9, .ref o10, .ref o11, .ref o12])), (o5, .inl (cI, 8, .inl fo5)), (o6, .inl (cI, 8, .inl fo6)), (o7, .inl (cI, 8, .inl fo7)), (o8, .inl (cI, 8, .inl fo8)), (o9, .inl (cI, 8, .inl fo9)), (nu, .inl (cI, 5, .inl fnu))] s.heap.size = A at hD ⊢
  have hA : ∀ q : Nat, s.heap.size ≤ q → A q := fun q h => by rw [← hAe]; exact Or.inr h
  have hS : va_S A s.heap s.heap [] := va_S.rf
  have hl := lv_entry ([.ref h0, .ref nu]) (n := 2) (Nat.le_of_ble_eq_true rfl)
  rw [lg_entry_eq]
  generalize (lg_sl ([.ref h0, .ref nu]) ++ List.replicate (2 - (lg_sl ([.ref h0, .ref nu])).length) Slot.unset).toArray = ls at hl ⊢
  have hl : lv_has ls 2 [(0, .ref h0), (1, .ref nu)] := hl
  refine lv_aload_n hx hb dX5_addQuill_0 rfl (lv_at hl 0 rfl) ?_
  refine va_get (D := (dC, dI)) (ci := 5) (v := .int (nI nq)) (C := RX5) (T := TX5) (N := 13) hx hb hts hi_X5 hown hK hP 0 rfl rfl 3 (by decide) (hts (.fieldLink RX5 22 "LeftQuills$Office" "quills" "I") (wmx 1 rfl)) (fun _ h9 => h9) rfl dX5_addQuill_1 ?_
  refine lv_bipush (v := 8) hx hb dX5_addQuill_4 (by decide) ?_
  refine lv_icmp_lt (tgt := 10) hx hb dX5_addQuill_6 (by decide) (fun c1 => ?_) (fun c1 => ?_)
  ·
    have c1 : nq < 8 := (nI_ltI (a := nq) (b := 8) (by omega) (by omega)).mp c1
    refine lv_aload_n hx hb dX5_addQuill_10 rfl (lv_at hl 0 rfl) ?_
    refine va_get (D := (dC, dI)) (ci := 5) (v := .ref o5) (C := RX5) (T := TX5) (N := 13) hx hb hts hi_X5 hown hK hP 0 rfl rfl 5 (by decide) (hts (.fieldLink RX5 28 "LeftQuills$Office" "wing" "[I") (wmx 2 rfl)) (fun _ h9 => h9) rfl dX5_addQuill_11 ?_
    refine lv_aload_n hx hb dX5_addQuill_14 rfl (lv_at hl 0 rfl) ?_
    refine va_get (D := (dC, dI)) (ci := 5) (v := .int (nI nq)) (C := RX5) (T := TX5) (N := 13) hx hb hts hi_X5 hown hK hP 0 rfl rfl 3 (by decide) (hts (.fieldLink RX5 22 "LeftQuills$Office" "quills" "I") (wmx 1 rfl)) (fun _ h9 => h9) rfl dX5_addQuill_15 ?_
    refine lv_aload_n hx hb dX5_addQuill_18 rfl (lv_at hl 1 rfl) ?_
    refine lv_iconst (v := 0) hx hb dX5_addQuill_19 (by decide) ?_
    refine va_iald hx hb hK hP 6 0 rfl rfl (vp_in_iff.mpr ⟨by decide, by decide⟩) dX5_addQuill_20 ?_
    refine W.eq (g2 := F0 m 21 ls [.int (fnu 0), .int (nI nq), .ref o5]) (congrArg (fun y9 => F0 m 21 ls (.int (fnu y9) :: [.int (nI nq), .ref o5])) ((show ((0 : Int32)).toNatClampNeg = 0 from by decide))) ?_
    refine va_iast hx hb hK hP hD hS 1 0 rfl rfl (vp_in_nI (n := nq) (N := 8) (by omega) (by decide)) dX5_addQuill_21 (fun H locs hP hD hS => ?_)
    generalize hgf2 : upd fo5 ((nI nq).toNatClampNeg) (fnu 0) = f2 at hP hD
    have hP : va_P (dC, dI) vwCl [(h0, .inr (5, [.int (nI st), .int bl, .int mm, .int (nI nq), .int (nI nh), .ref o5, .ref o6, .ref o7, .ref o8, .ref o9, .ref o10, .ref o11, .ref o12])), (o5, .inl (cI, 8, .inl f2)), (o6, .inl (cI, 8, .inl fo6)), (o7, .inl (cI, 8, .inl fo7)), (o8, .inl (cI, 8, .inl fo8)), (o9, .inl (cI, 8, .inl fo9)), (nu, .inl (cI, 5, .inl fnu))] H := hP
    have hD : va_D A [(h0, .inr (5, [.int (nI st), .int bl, .int mm, .int (nI nq), .int (nI nh), .ref o5, .ref o6, .ref o7, .ref o8, .ref o9, .ref o10, .ref o11, .ref o12])), (o5, .inl (cI, 8, .inl f2)), (o6, .inl (cI, 8, .inl fo6)), (o7, .inl (cI, 8, .inl fo7)), (o8, .inl (cI, 8, .inl fo8)), (o9, .inl (cI, 8, .inl fo9)), (nu, .inl (cI, 5, .inl fnu))] := hD
    refine lv_aload_n hx hb dX5_addQuill_22 rfl (lv_at hl 0 rfl) ?_
    refine va_get (D := (dC, dI)) (ci := 5) (v := .ref o6) (C := RX5) (T := TX5) (N := 13) hx hb hts hi_X5 hown hK hP 0 rfl rfl 6 (by decide) (hts (.fieldLink RX5 32 "LeftQuills$Office" "place" "[I") (wmx 3 rfl)) (fun _ h9 => h9) rfl dX5_addQuill_23 ?_
    refine lv_aload_n hx hb dX5_addQuill_26 rfl (lv_at hl 0 rfl) ?_
    refine va_get (D := (dC, dI)) (ci := 5) (v := .int (nI nq)) (C := RX5) (T := TX5) (N := 13) hx hb hts hi_X5 hown hK hP 0 rfl rfl 3 (by decide) (hts (.fieldLink RX5 22 "LeftQuills$Office" "quills" "I") (wmx 1 rfl)) (fun _ h9 => h9) rfl dX5_addQuill_27 ?_
    refine lv_aload_n hx hb dX5_addQuill_30 rfl (lv_at hl 1 rfl) ?_
    refine lv_iconst (v := 1) hx hb dX5_addQuill_31 (by decide) ?_
    refine va_iald hx hb hK hP 6 0 rfl rfl (vp_in_iff.mpr ⟨by decide, by decide⟩) dX5_addQuill_32 ?_
    refine W.eq (g2 := F0 m 33 ls [.int (fnu 1), .int (nI nq), .ref o6]) (congrArg (fun y9 => F0 m 33 ls (.int (fnu y9) :: [.int (nI nq), .ref o6])) ((show ((1 : Int32)).toNatClampNeg = 1 from by decide))) ?_
    refine va_iast hx hb hK hP hD hS 2 0 rfl rfl (vp_in_nI (n := nq) (N := 8) (by omega) (by decide)) dX5_addQuill_33 (fun H locs hP hD hS => ?_)
    generalize hgf3 : upd fo6 ((nI nq).toNatClampNeg) (fnu 1) = f3 at hP hD
    have hP : va_P (dC, dI) vwCl [(h0, .inr (5, [.int (nI st), .int bl, .int mm, .int (nI nq), .int (nI nh), .ref o5, .ref o6, .ref o7, .ref o8, .ref o9, .ref o10, .ref o11, .ref o12])), (o5, .inl (cI, 8, .inl f2)), (o6, .inl (cI, 8, .inl f3)), (o7, .inl (cI, 8, .inl fo7)), (o8, .inl (cI, 8, .inl fo8)), (o9, .inl (cI, 8, .inl fo9)), (nu, .inl (cI, 5, .inl fnu))] H := hP
    have hD : va_D A [(h0, .inr (5, [.int (nI st), .int bl, .int mm, .int (nI nq), .int (nI nh), .ref o5, .ref o6, .ref o7, .ref o8, .ref o9, .ref o10, .ref o11, .ref o12])), (o5, .inl (cI, 8, .inl f2)), (o6, .inl (cI, 8, .inl f3)), (o7, .inl (cI, 8, .inl fo7)), (o8, .inl (cI, 8, .inl fo8)), (o9, .inl (cI, 8, .inl fo9)), (nu, .inl (cI, 5, .inl fnu))] := hD
    refine lv_aload_n hx hb dX5_addQuill_34 rfl (lv_at hl 0 rfl) ?_
    refine va_get (D := (dC, dI)) (ci := 5) (v := .ref o7) (C := RX5) (T := TX5) (N := 13) hx hb hts hi_X5 hown hK hP 0 rfl rfl 7 (by decide) (hts (.fieldLink RX5 35 "LeftQuills$Office" "cooked" "[I") (wmx 4 rfl)) (fun _ h9 => h9) rfl dX5_addQuill_35 ?_
    refine lv_aload_n hx hb dX5_addQuill_38 rfl (lv_at hl 0 rfl) ?_
    refine va_get (D := (dC, dI)) (ci := 5) (v := .int (nI nq)) (C := RX5) (T := TX5) (N := 13) hx hb hts hi_X5 hown hK hP 0 rfl rfl 3 (by decide) (hts (.fieldLink RX5 22 "LeftQuills$Office" "quills" "I") (wmx 1 rfl)) (fun _ h9 => h9) rfl dX5_addQuill_39 ?_
    refine lv_aload_n hx hb dX5_addQuill_42 rfl (lv_at hl 1 rfl) ?_
    refine lv_iconst (v := 2) hx hb dX5_addQuill_43 (by decide) ?_
    refine va_iald hx hb hK hP 6 0 rfl rfl (vp_in_iff.mpr ⟨by decide, by decide⟩) dX5_addQuill_44 ?_
    refine W.eq (g2 := F0 m 45 ls [.int (fnu 2), .int (nI nq), .ref o7]) (congrArg (fun y9 => F0 m 45 ls (.int (fnu y9) :: [.int (nI nq), .ref o7])) ((show ((2 : Int32)).toNatClampNeg = 2 from by decide))) ?_
    refine va_iast hx hb hK hP hD hS 3 0 rfl rfl (vp_in_nI (n := nq) (N := 8) (by omega) (by decide)) dX5_addQuill_45 (fun H locs hP hD hS => ?_)
    generalize hgf4 : upd fo7 ((nI nq).toNatClampNeg) (fnu 2) = f4 at hP hD
    have hP : va_P (dC, dI) vwCl [(h0, .inr (5, [.int (nI st), .int bl, .int mm, .int (nI nq), .int (nI nh), .ref o5, .ref o6, .ref o7, .ref o8, .ref o9, .ref o10, .ref o11, .ref o12])), (o5, .inl (cI, 8, .inl f2)), (o6, .inl (cI, 8, .inl f3)), (o7, .inl (cI, 8, .inl f4)), (o8, .inl (cI, 8, .inl fo8)), (o9, .inl (cI, 8, .inl fo9)), (nu, .inl (cI, 5, .inl fnu))] H := hP
    have hD : va_D A [(h0, .inr (5, [.int (nI st), .int bl, .int mm, .int (nI nq), .int (nI nh), .ref o5, .ref o6, .ref o7, .ref o8, .ref o9, .ref o10, .ref o11, .ref o12])), (o5, .inl (cI, 8, .inl f2)), (o6, .inl (cI, 8, .inl f3)), (o7, .inl (cI, 8, .inl f4)), (o8, .inl (cI, 8, .inl fo8)), (o9, .inl (cI, 8, .inl fo9)), (nu, .inl (cI, 5, .inl fnu))] := hD
    refine lv_aload_n hx hb dX5_addQuill_46 rfl (lv_at hl 0 rfl) ?_
    refine va_get (D := (dC, dI)) (ci := 5) (v := .ref o8) (C := RX5) (T := TX5) (N := 13) hx hb hts hi_X5 hown hK hP 0 rfl rfl 8 (by decide) (hts (.fieldLink RX5 38 "LeftQuills$Office" "toldLength" "[I") (wmx 5 rfl)) (fun _ h9 => h9) rfl dX5_addQuill_47 ?_
    refine lv_aload_n hx hb dX5_addQuill_50 rfl (lv_at hl 0 rfl) ?_
    refine va_get (D := (dC, dI)) (ci := 5) (v := .int (nI nq)) (C := RX5) (T := TX5) (N := 13) hx hb hts hi_X5 hown hK hP 0 rfl rfl 3 (by decide) (hts (.fieldLink RX5 22 "LeftQuills$Office" "quills" "I") (wmx 1 rfl)) (fun _ h9 => h9) rfl dX5_addQuill_51 ?_
    refine lv_aload_n hx hb dX5_addQuill_54 rfl (lv_at hl 1 rfl) ?_
    refine lv_iconst (v := 3) hx hb dX5_addQuill_55 (by decide) ?_
    refine va_iald hx hb hK hP 6 0 rfl rfl (vp_in_iff.mpr ⟨by decide, by decide⟩) dX5_addQuill_56 ?_
    refine W.eq (g2 := F0 m 57 ls [.int (fnu 3), .int (nI nq), .ref o8]) (congrArg (fun y9 => F0 m 57 ls (.int (fnu y9) :: [.int (nI nq), .ref o8])) ((show ((3 : Int32)).toNatClampNeg = 3 from by decide))) ?_
    refine va_iast hx hb hK hP hD hS 4 0 rfl rfl (vp_in_nI (n := nq) (N := 8) (by omega) (by decide)) dX5_addQuill_57 (fun H locs hP hD hS => ?_)
    generalize hgf5 : upd fo8 ((nI nq).toNatClampNeg) (fnu 3) = f5 at hP hD
    have hP : va_P (dC, dI) vwCl [(h0, .inr (5, [.int (nI st), .int bl, .int mm, .int (nI nq), .int (nI nh), .ref o5, .ref o6, .ref o7, .ref o8, .ref o9, .ref o10, .ref o11, .ref o12])), (o5, .inl (cI, 8, .inl f2)), (o6, .inl (cI, 8, .inl f3)), (o7, .inl (cI, 8, .inl f4)), (o8, .inl (cI, 8, .inl f5)), (o9, .inl (cI, 8, .inl fo9)), (nu, .inl (cI, 5, .inl fnu))] H := hP
    have hD : va_D A [(h0, .inr (5, [.int (nI st), .int bl, .int mm, .int (nI nq), .int (nI nh), .ref o5, .ref o6, .ref o7, .ref o8, .ref o9, .ref o10, .ref o11, .ref o12])), (o5, .inl (cI, 8, .inl f2)), (o6, .inl (cI, 8, .inl f3)), (o7, .inl (cI, 8, .inl f4)), (o8, .inl (cI, 8, .inl f5)), (o9, .inl (cI, 8, .inl fo9)), (nu, .inl (cI, 5, .inl fnu))] := hD
    refine lv_aload_n hx hb dX5_addQuill_58 rfl (lv_at hl 0 rfl) ?_
    refine va_get (D := (dC, dI)) (ci := 5) (v := .ref o9) (C := RX5) (T := TX5) (N := 13) hx hb hts hi_X5 hown hK hP 0 rfl rfl 9 (by decide) (hts (.fieldLink RX5 41 "LeftQuills$Office" "toldNib" "[I") (wmx 6 rfl)) (fun _ h9 => h9) rfl dX5_addQuill_59 ?_
    refine lv_aload_n hx hb dX5_addQuill_62 rfl (lv_at hl 0 rfl) ?_
    refine va_get (D := (dC, dI)) (ci := 5) (v := .int (nI nq)) (C := RX5) (T := TX5) (N := 13) hx hb hts hi_X5 hown hK hP 0 rfl rfl 3 (by decide) (hts (.fieldLink RX5 22 "LeftQuills$Office" "quills" "I") (wmx 1 rfl)) (fun _ h9 => h9) rfl dX5_addQuill_63 ?_
    refine lv_aload_n hx hb dX5_addQuill_66 rfl (lv_at hl 1 rfl) ?_
    refine lv_iconst (v := 4) hx hb dX5_addQuill_67 (by decide) ?_
    refine va_iald hx hb hK hP 6 0 rfl rfl (vp_in_iff.mpr ⟨by decide, by decide⟩) dX5_addQuill_68 ?_
    refine W.eq (g2 := F0 m 69 ls [.int (fnu 4), .int (nI nq), .ref o9]) (congrArg (fun y9 => F0 m 69 ls (.int (fnu y9) :: [.int (nI nq), .ref o9])) ((show ((4 : Int32)).toNatClampNeg = 4 from by decide))) ?_
    refine va_iast hx hb hK hP hD hS 5 0 rfl rfl (vp_in_nI (n := nq) (N := 8) (by omega) (by decide)) dX5_addQuill_69 (fun H locs hP hD hS => ?_)
    generalize hgf6 : upd fo9 ((nI nq).toNatClampNeg) (fnu 4) = f6 at hP hD
    have hP : va_P (dC, dI) vwCl [(h0, .inr (5, [.int (nI st), .int bl, .int mm, .int (nI nq), .int (nI nh), .ref o5, .ref o6, .ref o7, .ref o8, .ref o9, .ref o10, .ref o11, .ref o12])), (o5, .inl (cI, 8, .inl f2)), (o6, .inl (cI, 8, .inl f3)), (o7, .inl (cI, 8, .inl f4)), (o8, .inl (cI, 8, .inl f5)), (o9, .inl (cI, 8, .inl f6)), (nu, .inl (cI, 5, .inl fnu))] H := hP
    have hD : va_D A [(h0, .inr (5, [.int (nI st), .int bl, .int mm, .int (nI nq), .int (nI nh), .ref o5, .ref o6, .ref o7, .ref o8, .ref o9, .ref o10, .ref o11, .ref o12])), (o5, .inl (cI, 8, .inl f2)), (o6, .inl (cI, 8, .inl f3)), (o7, .inl (cI, 8, .inl f4)), (o8, .inl (cI, 8, .inl f5)), (o9, .inl (cI, 8, .inl f6)), (nu, .inl (cI, 5, .inl fnu))] := hD
    refine lv_aload_n hx hb dX5_addQuill_70 rfl (lv_at hl 0 rfl) ?_
    refine lv_dup hx hb dX5_addQuill_71 rfl ?_
    refine va_get (D := (dC, dI)) (ci := 5) (v := .int (nI nq)) (C := RX5) (T := TX5) (N := 13) hx hb hts hi_X5 hown hK hP 0 rfl rfl 3 (by decide) (hts (.fieldLink RX5 22 "LeftQuills$Office" "quills" "I") (wmx 1 rfl)) (fun _ h9 => h9) rfl dX5_addQuill_72 ?_
    refine lv_iconst (v := 1) hx hb dX5_addQuill_75 (by decide) ?_
    refine lv_iadd hx hb dX5_addQuill_76 ?_
    refine lv_topi (fun z7 ez7 => ?_)
    obtain rfl : z7 = nI (nq + 1) := ez7.trans (nI_add nq 1)
    refine va_put (D := (dC, dI)) (ci := 5) (v := .int (nI (nq + 1))) (ty := .int) (C := RX5) (T := TX5) (N := 13) hx hb hts hi_X5 tyX5 tyX5_ok nmX5 hown hK hP hD hS 0 rfl rfl 3 (by decide) (hts (.fieldLink RX5 22 "LeftQuills$Office" "quills" "I") (wmx 1 rfl)) (fun _ h9 => h9) rfl (by decide +kernel) rfl rfl (Nat.le_of_ble_eq_true rfl) dX5_addQuill_77 (fun H locs hP hD hS => ?_)
    have hP : va_P (dC, dI) vwCl [(h0, .inr (5, [.int (nI st), .int bl, .int mm, .int (nI (nq + 1)), .int (nI nh), .ref o5, .ref o6, .ref o7, .ref o8, .ref o9, .ref o10, .ref o11, .ref o12])), (o5, .inl (cI, 8, .inl f2)), (o6, .inl (cI, 8, .inl f3)), (o7, .inl (cI, 8, .inl f4)), (o8, .inl (cI, 8, .inl f5)), (o9, .inl (cI, 8, .inl f6)), (nu, .inl (cI, 5, .inl fnu))] H := hP
    have hD : va_D A [(h0, .inr (5, [.int (nI st), .int bl, .int mm, .int (nI (nq + 1)), .int (nI nh), .ref o5, .ref o6, .ref o7, .ref o8, .ref o9, .ref o10, .ref o11, .ref o12])), (o5, .inl (cI, 8, .inl f2)), (o6, .inl (cI, 8, .inl f3)), (o7, .inl (cI, 8, .inl f4)), (o8, .inl (cI, 8, .inl f5)), (o9, .inl (cI, 8, .inl f6)), (nu, .inl (cI, 5, .inl fnu))] := hD
    have hP9 := hP.sub (ws' := [(h0, .inr (5, [.int (nI st), .int bl, .int mm, .int (nI (nq + 1)), .int (nI nh), .ref o5, .ref o6, .ref o7, .ref o8, .ref o9, .ref o10, .ref o11, .ref o12])), (o5, .inl (cI, 8, .inl f2)), (o6, .inl (cI, 8, .inl f3)), (o7, .inl (cI, 8, .inl f4)), (o8, .inl (cI, 8, .inl f5)), (o9, .inl (cI, 8, .inl f6)), (nu, .inl (cI, 5, .inl fnu))]) [0, 1, 2, 3, 4, 5, 6] rfl
    have hD9 := hD.sub (ws' := [(h0, .inr (5, [.int (nI st), .int bl, .int mm, .int (nI (nq + 1)), .int (nI nh), .ref o5, .ref o6, .ref o7, .ref o8, .ref o9, .ref o10, .ref o11, .ref o12])), (o5, .inl (cI, 8, .inl f2)), (o6, .inl (cI, 8, .inl f3)), (o7, .inl (cI, 8, .inl f4)), (o8, .inl (cI, 8, .inl f5)), (o9, .inl (cI, 8, .inl f6)), (nu, .inl (cI, 5, .inl fnu))]) [0, 1, 2, 3, 4, 5, 6] (by decide +kernel) rfl
    exact W.vret hx hb hr (fun t ht hW => ⟨⟨(fun _ => 0), rfl, trivial, ⟨f2, f3, f4, f5, f6, (nq + 1), by omega, by rw [ht]; exact hP9, hD9⟩⟩, hS.F ht⟩) hS.2.2 dX5_addQuill_80
  ·
    have c1 : ¬ nq < 8 := fun h => c1 ((nI_ltI (a := nq) (b := 8) (by omega) (by omega)).mpr h)
    have hP9 := hP.sub (ws' := [(h0, .inr (5, [.int (nI st), .int bl, .int mm, .int (nI nq), .int (nI nh), .ref o5, .ref o6, .ref o7, .ref o8, .ref o9, .ref o10, .ref o11, .ref o12])), (o5, .inl (cI, 8, .inl fo5)), (o6, .inl (cI, 8, .inl fo6)), (o7, .inl (cI, 8, .inl fo7)), (o8, .inl (cI, 8, .inl fo8)), (o9, .inl (cI, 8, .inl fo9)), (nu, .inl (cI, 5, .inl fnu))]) [0, 1, 2, 3, 4, 5, 6] rfl
    have hD9 := hD.sub (ws' := [(h0, .inr (5, [.int (nI st), .int bl, .int mm, .int (nI nq), .int (nI nh), .ref o5, .ref o6, .ref o7, .ref o8, .ref o9, .ref o10, .ref o11, .ref o12])), (o5, .inl (cI, 8, .inl fo5)), (o6, .inl (cI, 8, .inl fo6)), (o7, .inl (cI, 8, .inl fo7)), (o8, .inl (cI, 8, .inl fo8)), (o9, .inl (cI, 8, .inl fo9)), (nu, .inl (cI, 5, .inl fnu))]) [0, 1, 2, 3, 4, 5, 6] (by decide +kernel) rfl
    exact W.vret hx hb hr (fun t ht hW => ⟨⟨(fun _ => 0), rfl, trivial, ⟨fo5, fo6, fo7, fo8, fo9, nq, by omega, by rw [ht]; exact hP9, hD9⟩⟩, hS.F ht⟩) hS.2.2 dX5_addQuill_9
set_option maxHeartbeats 4000000 in
set_option maxRecDepth 100000 in
theorem c_X5_addHand (l : Launch) (dC : Nat → ClassId) (dI : Nat → Nat → Nat) (cI cZ cQ : ClassId) (h0 : Nat) (st : Nat) (bl : Int32) (mm : Int32) (nq : Nat) (nh : Nat) (o5 : Nat) (o6 : Nat) (o7 : Nat) (o8 : Nat) (o9 : Nat) (o10 : Nat) (o11 : Nat) (o12 : Nat) (fo10 : Nat → Int32) (fo11 : Nat → Int32) (fo12 : Nat → Int32) (nu : Nat) (fnu : Nat → Int32) (sz : Nat) (hnq : nq ≤ 8) (hnh : nh ≤ 4) : Met l yX5_addHand wsX5_addHand ({ frames := 0, cells := 0, slots := 0, locals := 40 }) (va_Pc [.ref h0, .ref nu] (fun U => U.heap.size = sz ∧ va_P (dC, dI) vwCl [(h0, .inr (5, [.int (nI st), .int bl, .int mm, .int (nI nq), .int (nI nh), .ref o5, .ref o6, .ref o7, .ref o8, .ref o9, .ref o10, .ref o11, .ref o12])), (o10, .inl (cI, 4, .inl fo10)), (o11, .inl (cI, 4, .inl fo11)), (o12, .inl (cI, 4, .inl fo12)), (nu, .inl (cI, 5, .inl fnu))] U.heap ∧ va_K (dC, dI) vwCl (tys0 cI cZ cQ) U ∧ va_D (fun _ => True) [(h0, .inr (5, [.int (nI st), .int bl, .int mm, .int (nI nq), .int (nI nh), .ref o5, .ref o6, .ref o7, .ref o8, .ref o9, .ref o10, .ref o11, .ref o12])), (o10, .inl (cI, 4, .inl fo10)), (o11, .inl (cI, 4, .inl fo11)), (o12, .inl (cI, 4, .inl fo12)), (nu, .inl (cI, 5, .inl fnu))])) (va_Qv (fun (u : Nat → Nat) => True) (fun (_ : Nat → Nat) (t : State) => ∃ (gg0 gg1 gg2 : Nat → Int32) (kk0 : Nat), kk0 ≤ 4 ∧ va_P (dC, dI) vwCl [(h0, .inr (5, [.int (nI st), .int bl, .int mm, .int (nI nq), .int (nI kk0), .ref o5, .ref o6, .ref o7, .ref o8, .ref o9, .ref o10, .ref o11, .ref o12])), (o10, .inl (cI, 4, .inl gg0)), (o11, .inl (cI, 4, .inl gg1)), (o12, .inl (cI, 4, .inl gg2)), (nu, .inl (cI, 5, .inl fnu))] t.heap ∧ va_D (va_A [(h0, .inr (5, [.int (nI st), .int bl, .int mm, .int (nI nq), .int (nI nh), .ref o5, .ref o6, .ref o7, .ref o8, .ref o9, .ref o10, .ref o11, .ref o12])), (o10, .inl (cI, 4, .inl fo10)), (o11, .inl (cI, 4, .inl fo11)), (o12, .inl (cI, 4, .inl fo12)), (nu, .inl (cI, 5, .inl fnu))] sz) [(h0, .inr (5, [.int (nI st), .int bl, .int mm, .int (nI nq), .int (nI kk0), .ref o5, .ref o6, .ref o7, .ref o8, .ref o9, .ref o10, .ref o11, .ref o12])), (o10, .inl (cI, 4, .inl gg0)), (o11, .inl (cI, 4, .inl gg1)), (o12, .inl (cI, 4, .inl gg2)), (nu, .inl (cI, 5, .inl fnu))]) (va_A [(h0, .inr (5, [.int (nI st), .int bl, .int mm, .int (nI nq), .int (nI nh), .ref o5, .ref o6, .ref o7, .ref o8, .ref o9, .ref o10, .ref o11, .ref o12])), (o10, .inl (cI, 4, .inl fo10)), (o11, .inl (cI, 4, .inl fo11)), (o12, .inl (cI, 4, .inl fo12)), (nu, .inl (cI, 5, .inl fnu))] sz)) 0 0 (va_A [(h0, .inr (5, [.int (nI st), .int bl, .int mm, .int (nI nq), .int (nI nh), .ref o5, .ref o6, .ref o7, .ref o8, .ref o9, .ref o10, .ref o11, .ref o12])), (o10, .inl (cI, 4, .inl fo10)), (o11, .inl (cI, 4, .inl fo11)), (o12, .inl (cI, 4, .inl fo12)), (nu, .inl (cI, 5, .inl fnu))] sz) := by
  refine Met.ofW (cc := cX5_addHand) (maxL := 2) (ret := none) (by decide) rfl ?_
  intro p e s m args below meth c s₁ B hml hv
  obtain ⟨rfl, hsz, hP, hK, hD0⟩ := hv
  have hx := B.exec
  have hb := B.bytes
  have hr := B.returns
  have hts := atoms_spec (ws := wsX5_addHand) B.pre
  have hown : s.vm.findClass RX5 = some m.cls := findClass_of_methodNamed B.named
  have hlocks := B.notSynchronized
  have hi_X5 : ∀ w ∈ u_ws RX5 TX5 13, w ∈ wsX5_addHand := by decide +kernel
  subst hsz
  have hD := hD0.self (sz := s.heap.size)
  generalize hAe : va_A [(h0, .inr (5, [.int (nI st), .int bl, .int mm, .int (nI nq), .int (nI nh), .ref o5, .ref o6, .ref o7, .ref o8, .ref o9, .ref o10, .ref o11, .ref o12])), (o10, .inl (cI, 4, .inl fo10)), (o11, .inl (cI, 4, .inl fo11)), (o12, .inl (cI, 4, .inl fo12)), (nu, .inl (cI, 5, .inl fnu))] s.heap.size = A at hD ⊢
  have hA : ∀ q : Nat, s.heap.size ≤ q → A q := fun q h => by rw [← hAe]; exact Or.inr h
  have hS : va_S A s.heap s.heap [] := va_S.rf
  have hl := lv_entry ([.ref h0, .ref nu]) (n := 2) (Nat.le_of_ble_eq_true rfl)
  rw [lg_entry_eq]
  generalize (lg_sl ([.ref h0, .ref nu]) ++ List.replicate (2 - (lg_sl ([.ref h0, .ref nu])).length) Slot.unset).toArray = ls at hl ⊢
  have hl : lv_has ls 2 [(0, .ref h0), (1, .ref nu)] := hl
  refine lv_aload_n hx hb dX5_addHand_0 rfl (lv_at hl 0 rfl) ?_
  refine va_get (D := (dC, dI)) (ci := 5) (v := .int (nI nh)) (C := RX5) (T := TX5) (N := 13) hx hb hts hi_X5 hown hK hP 0 rfl rfl 4 (by decide) (hts (.fieldLink RX5 25 "LeftQuills$Office" "hands" "I") (wmx 1 rfl)) (fun _ h9 => h9) rfl dX5_addHand_1 ?_
  refine lv_iconst (v := 4) hx hb dX5_addHand_4 (by decide) ?_
  refine lv_icmp_lt (tgt := 9) hx hb dX5_addHand_5 (by decide) (fun c1 => ?_) (fun c1 => ?_)
  ·
    have c1 : nh < 4 := (nI_ltI (a := nh) (b := 4) (by omega) (by omega)).mp c1
    refine lv_aload_n hx hb dX5_addHand_9 rfl (lv_at hl 0 rfl) ?_
    refine va_get (D := (dC, dI)) (ci := 5) (v := .ref o10) (C := RX5) (T := TX5) (N := 13) hx hb hts hi_X5 hown hK hP 0 rfl rfl 10 (by decide) (hts (.fieldLink RX5 44 "LeftQuills$Office" "side" "[I") (wmx 2 rfl)) (fun _ h9 => h9) rfl dX5_addHand_10 ?_
    refine lv_aload_n hx hb dX5_addHand_13 rfl (lv_at hl 0 rfl) ?_
    refine va_get (D := (dC, dI)) (ci := 5) (v := .int (nI nh)) (C := RX5) (T := TX5) (N := 13) hx hb hts hi_X5 hown hK hP 0 rfl rfl 4 (by decide) (hts (.fieldLink RX5 25 "LeftQuills$Office" "hands" "I") (wmx 1 rfl)) (fun _ h9 => h9) rfl dX5_addHand_14 ?_
    refine lv_aload_n hx hb dX5_addHand_17 rfl (lv_at hl 1 rfl) ?_
    refine lv_iconst (v := 0) hx hb dX5_addHand_18 (by decide) ?_
    refine va_iald hx hb hK hP 4 0 rfl rfl (vp_in_iff.mpr ⟨by decide, by decide⟩) dX5_addHand_19 ?_
    refine W.eq (g2 := F0 m 20 ls [.int (fnu 0), .int (nI nh), .ref o10]) (congrArg (fun y9 => F0 m 20 ls (.int (fnu y9) :: [.int (nI nh), .ref o10])) ((show ((0 : Int32)).toNatClampNeg = 0 from by decide))) ?_
    refine va_iast hx hb hK hP hD hS 1 0 rfl rfl (vp_in_nI (n := nh) (N := 4) (by omega) (by decide)) dX5_addHand_20 (fun H locs hP hD hS => ?_)
    generalize hgf2 : upd fo10 ((nI nh).toNatClampNeg) (fnu 0) = f2 at hP hD
    have hP : va_P (dC, dI) vwCl [(h0, .inr (5, [.int (nI st), .int bl, .int mm, .int (nI nq), .int (nI nh), .ref o5, .ref o6, .ref o7, .ref o8, .ref o9, .ref o10, .ref o11, .ref o12])), (o10, .inl (cI, 4, .inl f2)), (o11, .inl (cI, 4, .inl fo11)), (o12, .inl (cI, 4, .inl fo12)), (nu, .inl (cI, 5, .inl fnu))] H := hP
    have hD : va_D A [(h0, .inr (5, [.int (nI st), .int bl, .int mm, .int (nI nq), .int (nI nh), .ref o5, .ref o6, .ref o7, .ref o8, .ref o9, .ref o10, .ref o11, .ref o12])), (o10, .inl (cI, 4, .inl f2)), (o11, .inl (cI, 4, .inl fo11)), (o12, .inl (cI, 4, .inl fo12)), (nu, .inl (cI, 5, .inl fnu))] := hD
    refine lv_aload_n hx hb dX5_addHand_21 rfl (lv_at hl 0 rfl) ?_
    refine va_get (D := (dC, dI)) (ci := 5) (v := .ref o11) (C := RX5) (T := TX5) (N := 13) hx hb hts hi_X5 hown hK hP 0 rfl rfl 11 (by decide) (hts (.fieldLink RX5 47 "LeftQuills$Office" "presses" "[I") (wmx 3 rfl)) (fun _ h9 => h9) rfl dX5_addHand_22 ?_
    refine lv_aload_n hx hb dX5_addHand_25 rfl (lv_at hl 0 rfl) ?_
    refine va_get (D := (dC, dI)) (ci := 5) (v := .int (nI nh)) (C := RX5) (T := TX5) (N := 13) hx hb hts hi_X5 hown hK hP 0 rfl rfl 4 (by decide) (hts (.fieldLink RX5 25 "LeftQuills$Office" "hands" "I") (wmx 1 rfl)) (fun _ h9 => h9) rfl dX5_addHand_26 ?_
    refine lv_aload_n hx hb dX5_addHand_29 rfl (lv_at hl 1 rfl) ?_
    refine lv_iconst (v := 1) hx hb dX5_addHand_30 (by decide) ?_
    refine va_iald hx hb hK hP 4 0 rfl rfl (vp_in_iff.mpr ⟨by decide, by decide⟩) dX5_addHand_31 ?_
    refine W.eq (g2 := F0 m 32 ls [.int (fnu 1), .int (nI nh), .ref o11]) (congrArg (fun y9 => F0 m 32 ls (.int (fnu y9) :: [.int (nI nh), .ref o11])) ((show ((1 : Int32)).toNatClampNeg = 1 from by decide))) ?_
    refine va_iast hx hb hK hP hD hS 2 0 rfl rfl (vp_in_nI (n := nh) (N := 4) (by omega) (by decide)) dX5_addHand_32 (fun H locs hP hD hS => ?_)
    generalize hgf3 : upd fo11 ((nI nh).toNatClampNeg) (fnu 1) = f3 at hP hD
    have hP : va_P (dC, dI) vwCl [(h0, .inr (5, [.int (nI st), .int bl, .int mm, .int (nI nq), .int (nI nh), .ref o5, .ref o6, .ref o7, .ref o8, .ref o9, .ref o10, .ref o11, .ref o12])), (o10, .inl (cI, 4, .inl f2)), (o11, .inl (cI, 4, .inl f3)), (o12, .inl (cI, 4, .inl fo12)), (nu, .inl (cI, 5, .inl fnu))] H := hP
    have hD : va_D A [(h0, .inr (5, [.int (nI st), .int bl, .int mm, .int (nI nq), .int (nI nh), .ref o5, .ref o6, .ref o7, .ref o8, .ref o9, .ref o10, .ref o11, .ref o12])), (o10, .inl (cI, 4, .inl f2)), (o11, .inl (cI, 4, .inl f3)), (o12, .inl (cI, 4, .inl fo12)), (nu, .inl (cI, 5, .inl fnu))] := hD
    refine lv_aload_n hx hb dX5_addHand_33 rfl (lv_at hl 0 rfl) ?_
    refine va_get (D := (dC, dI)) (ci := 5) (v := .ref o12) (C := RX5) (T := TX5) (N := 13) hx hb hts hi_X5 hown hK hP 0 rfl rfl 12 (by decide) (hts (.fieldLink RX5 50 "LeftQuills$Office" "wants" "[I") (wmx 4 rfl)) (fun _ h9 => h9) rfl dX5_addHand_34 ?_
    refine lv_aload_n hx hb dX5_addHand_37 rfl (lv_at hl 0 rfl) ?_
    refine va_get (D := (dC, dI)) (ci := 5) (v := .int (nI nh)) (C := RX5) (T := TX5) (N := 13) hx hb hts hi_X5 hown hK hP 0 rfl rfl 4 (by decide) (hts (.fieldLink RX5 25 "LeftQuills$Office" "hands" "I") (wmx 1 rfl)) (fun _ h9 => h9) rfl dX5_addHand_38 ?_
    refine lv_aload_n hx hb dX5_addHand_41 rfl (lv_at hl 1 rfl) ?_
    refine lv_iconst (v := 2) hx hb dX5_addHand_42 (by decide) ?_
    refine va_iald hx hb hK hP 4 0 rfl rfl (vp_in_iff.mpr ⟨by decide, by decide⟩) dX5_addHand_43 ?_
    refine W.eq (g2 := F0 m 44 ls [.int (fnu 2), .int (nI nh), .ref o12]) (congrArg (fun y9 => F0 m 44 ls (.int (fnu y9) :: [.int (nI nh), .ref o12])) ((show ((2 : Int32)).toNatClampNeg = 2 from by decide))) ?_
    refine va_iast hx hb hK hP hD hS 3 0 rfl rfl (vp_in_nI (n := nh) (N := 4) (by omega) (by decide)) dX5_addHand_44 (fun H locs hP hD hS => ?_)
    generalize hgf4 : upd fo12 ((nI nh).toNatClampNeg) (fnu 2) = f4 at hP hD
    have hP : va_P (dC, dI) vwCl [(h0, .inr (5, [.int (nI st), .int bl, .int mm, .int (nI nq), .int (nI nh), .ref o5, .ref o6, .ref o7, .ref o8, .ref o9, .ref o10, .ref o11, .ref o12])), (o10, .inl (cI, 4, .inl f2)), (o11, .inl (cI, 4, .inl f3)), (o12, .inl (cI, 4, .inl f4)), (nu, .inl (cI, 5, .inl fnu))] H := hP
    have hD : va_D A [(h0, .inr (5, [.int (nI st), .int bl, .int mm, .int (nI nq), .int (nI nh), .ref o5, .ref o6, .ref o7, .ref o8, .ref o9, .ref o10, .ref o11, .ref o12])), (o10, .inl (cI, 4, .inl f2)), (o11, .inl (cI, 4, .inl f3)), (o12, .inl (cI, 4, .inl f4)), (nu, .inl (cI, 5, .inl fnu))] := hD
    refine lv_aload_n hx hb dX5_addHand_45 rfl (lv_at hl 0 rfl) ?_
    refine lv_dup hx hb dX5_addHand_46 rfl ?_
    refine va_get (D := (dC, dI)) (ci := 5) (v := .int (nI nh)) (C := RX5) (T := TX5) (N := 13) hx hb hts hi_X5 hown hK hP 0 rfl rfl 4 (by decide) (hts (.fieldLink RX5 25 "LeftQuills$Office" "hands" "I") (wmx 1 rfl)) (fun _ h9 => h9) rfl dX5_addHand_47 ?_
    refine lv_iconst (v := 1) hx hb dX5_addHand_50 (by decide) ?_
    refine lv_iadd hx hb dX5_addHand_51 ?_
    refine lv_topi (fun z5 ez5 => ?_)
    obtain rfl : z5 = nI (nh + 1) := ez5.trans (nI_add nh 1)
    refine va_put (D := (dC, dI)) (ci := 5) (v := .int (nI (nh + 1))) (ty := .int) (C := RX5) (T := TX5) (N := 13) hx hb hts hi_X5 tyX5 tyX5_ok nmX5 hown hK hP hD hS 0 rfl rfl 4 (by decide) (hts (.fieldLink RX5 25 "LeftQuills$Office" "hands" "I") (wmx 1 rfl)) (fun _ h9 => h9) rfl (by decide +kernel) rfl rfl (Nat.le_of_ble_eq_true rfl) dX5_addHand_52 (fun H locs hP hD hS => ?_)
    have hP : va_P (dC, dI) vwCl [(h0, .inr (5, [.int (nI st), .int bl, .int mm, .int (nI nq), .int (nI (nh + 1)), .ref o5, .ref o6, .ref o7, .ref o8, .ref o9, .ref o10, .ref o11, .ref o12])), (o10, .inl (cI, 4, .inl f2)), (o11, .inl (cI, 4, .inl f3)), (o12, .inl (cI, 4, .inl f4)), (nu, .inl (cI, 5, .inl fnu))] H := hP
    have hD : va_D A [(h0, .inr (5, [.int (nI st), .int bl, .int mm, .int (nI nq), .int (nI (nh + 1)), .ref o5, .ref o6, .ref o7, .ref o8, .ref o9, .ref o10, .ref o11, .ref o12])), (o10, .inl (cI, 4, .inl f2)), (o11, .inl (cI, 4, .inl f3)), (o12, .inl (cI, 4, .inl f4)), (nu, .inl (cI, 5, .inl fnu))] := hD
    have hP9 := hP.sub (ws' := [(h0, .inr (5, [.int (nI st), .int bl, .int mm, .int (nI nq), .int (nI (nh + 1)), .ref o5, .ref o6, .ref o7, .ref o8, .ref o9, .ref o10, .ref o11, .ref o12])), (o10, .inl (cI, 4, .inl f2)), (o11, .inl (cI, 4, .inl f3)), (o12, .inl (cI, 4, .inl f4)), (nu, .inl (cI, 5, .inl fnu))]) [0, 1, 2, 3, 4] rfl
    have hD9 := hD.sub (ws' := [(h0, .inr (5, [.int (nI st), .int bl, .int mm, .int (nI nq), .int (nI (nh + 1)), .ref o5, .ref o6, .ref o7, .ref o8, .ref o9, .ref o10, .ref o11, .ref o12])), (o10, .inl (cI, 4, .inl f2)), (o11, .inl (cI, 4, .inl f3)), (o12, .inl (cI, 4, .inl f4)), (nu, .inl (cI, 5, .inl fnu))]) [0, 1, 2, 3, 4] (by decide +kernel) rfl
    exact W.vret hx hb hr (fun t ht hW => ⟨⟨(fun _ => 0), rfl, trivial, ⟨f2, f3, f4, (nh + 1), by omega, by rw [ht]; exact hP9, hD9⟩⟩, hS.F ht⟩) hS.2.2 dX5_addHand_55
  ·
    have c1 : ¬ nh < 4 := fun h => c1 ((nI_ltI (a := nh) (b := 4) (by omega) (by omega)).mpr h)
    have hP9 := hP.sub (ws' := [(h0, .inr (5, [.int (nI st), .int bl, .int mm, .int (nI nq), .int (nI nh), .ref o5, .ref o6, .ref o7, .ref o8, .ref o9, .ref o10, .ref o11, .ref o12])), (o10, .inl (cI, 4, .inl fo10)), (o11, .inl (cI, 4, .inl fo11)), (o12, .inl (cI, 4, .inl fo12)), (nu, .inl (cI, 5, .inl fnu))]) [0, 1, 2, 3, 4] rfl
    have hD9 := hD.sub (ws' := [(h0, .inr (5, [.int (nI st), .int bl, .int mm, .int (nI nq), .int (nI nh), .ref o5, .ref o6, .ref o7, .ref o8, .ref o9, .ref o10, .ref o11, .ref o12])), (o10, .inl (cI, 4, .inl fo10)), (o11, .inl (cI, 4, .inl fo11)), (o12, .inl (cI, 4, .inl fo12)), (nu, .inl (cI, 5, .inl fnu))]) [0, 1, 2, 3, 4] (by decide +kernel) rfl
    exact W.vret hx hb hr (fun t ht hW => ⟨⟨(fun _ => 0), rfl, trivial, ⟨fo10, fo11, fo12, nh, by omega, by rw [ht]; exact hP9, hD9⟩⟩, hS.F ht⟩) hS.2.2 dX5_addHand_8
set_option maxHeartbeats 4000000 in
set_option maxRecDepth 100000 in
theorem c_X7_readClause (l : Launch) (dC : Nat → ClassId) (dI : Nat → Nat → Nat) (cI cZ cQ : ClassId) (h0 : Nat) (dr : Nat) (fa : Int32) (nu : Nat) (le : Nat) (ln : Nat) (at9 : Nat) (fu : Int32) (fle : Nat → Int32) (fnu : Nat → Int32) (st : Nat) (bl : Int32) (mm : Int32) (nq : Nat) (nh : Nat) (o5 : Nat) (o6 : Nat) (o7 : Nat) (o8 : Nat) (o9 : Nat) (o10 : Nat) (o11 : Nat) (o12 : Nat) (fo5 : Nat → Int32) (fo6 : Nat → Int32) (fo7 : Nat → Int32) (fo8 : Nat → Int32) (fo9 : Nat → Int32) (fo10 : Nat → Int32) (fo11 : Nat → Int32) (fo12 : Nat → Int32) (sz : Nat) (hln : ln ≤ 220) (hat : at9 < ln) (hst : st ≤ 1) (hnq : nq ≤ 8) (hnh : nh ≤ 4) : Met l yX7_readClause wsX7_readClause ({ frames := 3, cells := 0, slots := 0, locals := 111 }) (va_Pc [.ref h0] (fun U => U.heap.size = sz ∧ va_P (dC, dI) vwCl [(h0, .inr (7, [.ref dr, .int fa, .ref nu, .ref le, .int (nI ln), .int (nI at9), .int fu])), (le, .inl (cI, 220, .inl fle)), (nu, .inl (cI, 5, .inl fnu)), (dr, .inr (5, [.int (nI st), .int bl, .int mm, .int (nI nq), .int (nI nh), .ref o5, .ref o6, .ref o7, .ref o8, .ref o9, .ref o10, .ref o11, .ref o12])), (o5, .inl (cI, 8, .inl fo5)), (o6, .inl (cI, 8, .inl fo6)), (o7, .inl (cI, 8, .inl fo7)), (o8, .inl (cI, 8, .inl fo8)), (o9, .inl (cI, 8, .inl fo9)), (o10, .inl (cI, 4, .inl fo10)), (o11, .inl (cI, 4, .inl fo11)), (o12, .inl (cI, 4, .inl fo12))] U.heap ∧ va_K (dC, dI) vwCl (tys0 cI cZ cQ) U ∧ va_D (fun _ => True) [(h0, .inr (7, [.ref dr, .int fa, .ref nu, .ref le, .int (nI ln), .int (nI at9), .int fu])), (le, .inl (cI, 220, .inl fle)), (nu, .inl (cI, 5, .inl fnu)), (dr, .inr (5, [.int (nI st), .int bl, .int mm, .int (nI nq), .int (nI nh), .ref o5, .ref o6, .ref o7, .ref o8, .ref o9, .ref o10, .ref o11, .ref o12])), (o5, .inl (cI, 8, .inl fo5)), (o6, .inl (cI, 8, .inl fo6)), (o7, .inl (cI, 8, .inl fo7)), (o8, .inl (cI, 8, .inl fo8)), (o9, .inl (cI, 8, .inl fo9)), (o10, .inl (cI, 4, .inl fo10)), (o11, .inl (cI, 4, .inl fo11)), (o12, .inl (cI, 4, .inl fo12))] ∧ xN U ∧ xS (va_A [(h0, .inr (7, [.ref dr, .int fa, .ref nu, .ref le, .int (nI ln), .int (nI at9), .int fu])), (le, .inl (cI, 220, .inl fle)), (nu, .inl (cI, 5, .inl fnu)), (dr, .inr (5, [.int (nI st), .int bl, .int mm, .int (nI nq), .int (nI nh), .ref o5, .ref o6, .ref o7, .ref o8, .ref o9, .ref o10, .ref o11, .ref o12])), (o5, .inl (cI, 8, .inl fo5)), (o6, .inl (cI, 8, .inl fo6)), (o7, .inl (cI, 8, .inl fo7)), (o8, .inl (cI, 8, .inl fo8)), (o9, .inl (cI, 8, .inl fo9)), (o10, .inl (cI, 4, .inl fo10)), (o11, .inl (cI, 4, .inl fo11)), (o12, .inl (cI, 4, .inl fo12))] sz) U U.heap)) (va_Qv (fun (u : Nat → Nat) => True) (fun (_ : Nat → Nat) (t : State) => ∃ (gg0 gg1 gg2 gg3 gg4 gg5 gg6 gg7 gg8 : Nat → Int32) (ii0 ii2 ii4 ii5 : Int32) (kk1 kk3 kk6 kk7 : Nat), kk1 ≤ ln ∧ kk3 ≤ 1 ∧ kk6 ≤ 8 ∧ kk7 ≤ 4 ∧ va_P (dC, dI) vwCl [(h0, .inr (7, [.ref dr, .int ii0, .ref nu, .ref le, .int (nI ln), .int (nI kk1), .int ii2])), (le, .inl (cI, 220, .inl fle)), (nu, .inl (cI, 5, .inl gg0)), (dr, .inr (5, [.int (nI kk3), .int ii4, .int ii5, .int (nI kk6), .int (nI kk7), .ref o5, .ref o6, .ref o7, .ref o8, .ref o9, .ref o10, .ref o11, .ref o12])), (o5, .inl (cI, 8, .inl gg1)), (o6, .inl (cI, 8, .inl gg2)), (o7, .inl (cI, 8, .inl gg3)), (o8, .inl (cI, 8, .inl gg4)), (o9, .inl (cI, 8, .inl gg5)), (o10, .inl (cI, 4, .inl gg6)), (o11, .inl (cI, 4, .inl gg7)), (o12, .inl (cI, 4, .inl gg8))] t.heap ∧ va_D (va_A [(h0, .inr (7, [.ref dr, .int fa, .ref nu, .ref le, .int (nI ln), .int (nI at9), .int fu])), (le, .inl (cI, 220, .inl fle)), (nu, .inl (cI, 5, .inl fnu)), (dr, .inr (5, [.int (nI st), .int bl, .int mm, .int (nI nq), .int (nI nh), .ref o5, .ref o6, .ref o7, .ref o8, .ref o9, .ref o10, .ref o11, .ref o12])), (o5, .inl (cI, 8, .inl fo5)), (o6, .inl (cI, 8, .inl fo6)), (o7, .inl (cI, 8, .inl fo7)), (o8, .inl (cI, 8, .inl fo8)), (o9, .inl (cI, 8, .inl fo9)), (o10, .inl (cI, 4, .inl fo10)), (o11, .inl (cI, 4, .inl fo11)), (o12, .inl (cI, 4, .inl fo12))] sz) [(h0, .inr (7, [.ref dr, .int ii0, .ref nu, .ref le, .int (nI ln), .int (nI kk1), .int ii2])), (le, .inl (cI, 220, .inl fle)), (nu, .inl (cI, 5, .inl gg0)), (dr, .inr (5, [.int (nI kk3), .int ii4, .int ii5, .int (nI kk6), .int (nI kk7), .ref o5, .ref o6, .ref o7, .ref o8, .ref o9, .ref o10, .ref o11, .ref o12])), (o5, .inl (cI, 8, .inl gg1)), (o6, .inl (cI, 8, .inl gg2)), (o7, .inl (cI, 8, .inl gg3)), (o8, .inl (cI, 8, .inl gg4)), (o9, .inl (cI, 8, .inl gg5)), (o10, .inl (cI, 4, .inl gg6)), (o11, .inl (cI, 4, .inl gg7)), (o12, .inl (cI, 4, .inl gg8))]) (va_A [(h0, .inr (7, [.ref dr, .int fa, .ref nu, .ref le, .int (nI ln), .int (nI at9), .int fu])), (le, .inl (cI, 220, .inl fle)), (nu, .inl (cI, 5, .inl fnu)), (dr, .inr (5, [.int (nI st), .int bl, .int mm, .int (nI nq), .int (nI nh), .ref o5, .ref o6, .ref o7, .ref o8, .ref o9, .ref o10, .ref o11, .ref o12])), (o5, .inl (cI, 8, .inl fo5)), (o6, .inl (cI, 8, .inl fo6)), (o7, .inl (cI, 8, .inl fo7)), (o8, .inl (cI, 8, .inl fo8)), (o9, .inl (cI, 8, .inl fo9)), (o10, .inl (cI, 4, .inl fo10)), (o11, .inl (cI, 4, .inl fo11)), (o12, .inl (cI, 4, .inl fo12))] sz)) 0 0 (va_A [(h0, .inr (7, [.ref dr, .int fa, .ref nu, .ref le, .int (nI ln), .int (nI at9), .int fu])), (le, .inl (cI, 220, .inl fle)), (nu, .inl (cI, 5, .inl fnu)), (dr, .inr (5, [.int (nI st), .int bl, .int mm, .int (nI nq), .int (nI nh), .ref o5, .ref o6, .ref o7, .ref o8, .ref o9, .ref o10, .ref o11, .ref o12])), (o5, .inl (cI, 8, .inl fo5)), (o6, .inl (cI, 8, .inl fo6)), (o7, .inl (cI, 8, .inl fo7)), (o8, .inl (cI, 8, .inl fo8)), (o9, .inl (cI, 8, .inl fo9)), (o10, .inl (cI, 4, .inl fo10)), (o11, .inl (cI, 4, .inl fo11)), (o12, .inl (cI, 4, .inl fo12))] sz) := by
  refine Met.ofW (cc := cX7_readClause) (maxL := 2) (ret := none) (by decide) rfl ?_
  intro p e s m args below meth c s₁ B hml hv
  obtain ⟨rfl, hsz, hP, hK, hD0, hN, hXS⟩ := hv
  have hx := B.exec
  have hb := B.bytes
  have hr := B.returns
  have hts := atoms_spec (ws := wsX7_readClause) B.pre
  have hown : s.vm.findClass RX7 = some m.cls := findClass_of_methodNamed B.named
  have hlocks := B.notSynchronized
  have hi_X5 : ∀ w ∈ u_ws RX5 TX5 13, w ∈ wsX7_readClause := by decide +kernel
  have hi_X7 : ∀ w ∈ u_ws RX7 TX7 7, w ∈ wsX7_readClause := by decide +kernel
  subst hsz
  have hD := hD0.self (sz := s.heap.size)
  generalize hAe : va_A [(h0, .inr (7, [.ref dr, .int fa, .ref nu, .ref le, .int (nI ln), .int (nI at9), .int fu])), (le, .inl (cI, 220, .inl fle)), (nu, .inl (cI, 5, .inl fnu)), (dr, .inr (5, [.int (nI st), .int bl, .int mm, .int (nI nq), .int (nI nh), .ref o5, .ref o6, .ref o7, .ref o8, .ref o9, .ref o10, .ref o11, .ref o12])), (o5, .inl (cI, 8, .inl fo5)), (o6, .inl (cI, 8, .inl fo6)), (o7, .inl (cI, 8, .inl fo7)), (o8, .inl (cI, 8, .inl fo8)), (o9, .inl (cI, 8, .inl fo9)), (o10, .inl (cI, 4, .inl fo10)), (o11, .inl (cI, 4, .inl fo11)), (o12, .inl (cI, 4, .inl fo12))] s.heap.size = A at hD hXS ⊢
  obtain ⟨t_BLADE_LEAST, g_BLADE_LEAST, hZ_BLADE_LEAST, hT_t_BLADE_LEAST⟩ := hXS.1
  obtain ⟨t_BLADE_MOST, g_BLADE_MOST, hZ_BLADE_MOST, hT_t_BLADE_MOST⟩ := hXS.2.1
  obtain ⟨t_QUILL_LEAST, g_QUILL_LEAST, hZ_QUILL_LEAST, hT_t_QUILL_LEAST⟩ := hXS.2.2.1
  obtain ⟨t_QUILL_MOST, g_QUILL_MOST, hZ_QUILL_MOST, hT_t_QUILL_MOST⟩ := hXS.2.2.2.1
  obtain ⟨t_HAND_LEAST, g_HAND_LEAST, hZ_HAND_LEAST, hT_t_HAND_LEAST⟩ := hXS.2.2.2.2.1
  obtain ⟨t_HAND_MOST, g_HAND_MOST, hZ_HAND_MOST, hT_t_HAND_MOST⟩ := hXS.2.2.2.2.2
  have hA : ∀ q : Nat, s.heap.size ≤ q → A q := fun q h => by rw [← hAe]; exact Or.inr h
  have hS : va_S A s.heap s.heap [] := va_S.rf
  have hl := lv_entry ([.ref h0]) (n := 2) (Nat.le_of_ble_eq_true rfl)
  rw [lg_entry_eq]
  generalize (lg_sl ([.ref h0]) ++ List.replicate (2 - (lg_sl ([.ref h0])).length) Slot.unset).toArray = ls at hl ⊢
  have hl : lv_has ls 2 [(0, .ref h0)] := hl
  refine lv_aload_n hx hb dX7_readClause_0 rfl (lv_at hl 0 rfl) ?_
  have hPc := hP.sub (ws' := [(h0, .inr (7, [.ref dr, .int fa, .ref nu, .ref le, .int (nI ln), .int (nI at9), .int fu])), (le, .inl (cI, 220, .inl fle))]) [0, 1] rfl
  refine va_calli (va_runV (As := []) (rest := []) ⟨hx, hb, hml, hown, hts⟩ (c_X7_letterHere l dC dI cI cZ cQ h0 le ln at9 ([.ref dr, .int fa, .ref nu, .ref le, .int (nI ln), .int (nI at9), .int fu]) fle s.heap.size rfl rfl rfl (by omega) (by omega)) (cwV 0 hts gX7_readClause_X7_letterHere rfl rfl rfl (by decide +kernel) ⟨Nat.le_of_ble_eq_true rfl, Nat.le_of_ble_eq_true rfl⟩) ⟨fun a U g mk q => by obtain ⟨q0, q1, qP, qK⟩ := q; exact ⟨q0, q1, qP, va_K.moved (u := U) (U := U.calling g mk a) (Vm.Alike.refl U.vm) qK⟩, va_recv hK hP (ci := 7) (q0 := 0) rfl rfl, fun U hU hW => ⟨rfl, by rw [hU], by rw [hU]; exact hPc, va_K.moved hW.alike hK⟩⟩ rfl rfl hl.1 rfl (lv_room (Nat.le_of_ble_eq_true rfl)) dX7_readClause_1 ⟨Nat.le_of_ble_eq_true rfl, Nat.le_of_ble_eq_true rfl⟩) hS (fun q _ h => False.elim h) (fun q h => False.elim h) (fun r1 u2 t H1 locs ht hvm hw3 hB hz1 hk1 hS => ?_)
  have hP := hP.kept (fun k q hk => hk1 q.1 (hP k q hk).lt (fun h => h))
  clear hz1 hk1 hPc
  generalize H1 = H at hP hS ht ⊢
  try dsimp only at hw3
  rcases hw3 with hw3 | rfl
  ·
    refine lv_istore_n (lv' := [(1, .int r1), (0, .ref h0)]) hx hb dX7_readClause_4 rfl hl (by decide) rfl (fun ls hl => ?_)
    refine lv_aload_n hx hb dX7_readClause_5 rfl (lv_at hl 1 rfl) ?_
    refine va_get (D := (dC, dI)) (ci := 7) (v := .ref dr) (C := RX7) (T := TX7) (N := 7) hx hb hts hi_X7 hown hK hP 0 rfl rfl 0 (by decide) (hts (.fieldLink RX7 12 "LeftQuills$Reader" "draft" "LLeftQuills$Office;") (wmx 1 rfl)) (fun _ h9 => h9) rfl dX7_readClause_6 ?_
    refine va_get (D := (dC, dI)) (ci := 5) (v := .int (nI st)) (C := RX5) (T := TX5) (N := 13) hx hb hts hi_X5 hown hK hP 3 rfl rfl 0 (by decide) (hts (.fieldLink RX7 66 "LeftQuills$Office" "stands" "Z") (wmx 2 rfl)) (fun _ h9 => h9) rfl dX7_readClause_9 ?_
    refine lv_if_ne (tgt := 31) hx hb dX7_readClause_12 (by decide) (fun c4 => ?_) (fun c4 => ?_)
    ·
      have c4 : ¬ st = 0 := fun h => c4 ((nI_eq (a := st) (b := 0) (by omega) (by omega)).mpr h)
      refine lv_iload_n hx hb dX7_readClause_31 rfl (lv_at hl 0 rfl) ?_
      by_cases c5 : r1 = 104
      · refine lv_lookup (tgt := 160) (off := 128) hx hb dX7_readClause_32 (by decide) (by rw [c5]; decide) (by decide) ?_
        refine lv_aload_n hx hb dX7_readClause_160 rfl (lv_at hl 1 rfl) ?_
        refine lv_aload_n hx hb dX7_readClause_161 rfl (lv_at hl 1 rfl) ?_
        refine va_get (D := (dC, dI)) (ci := 7) (v := .ref dr) (C := RX7) (T := TX7) (N := 7) hx hb hts hi_X7 hown hK hP 0 rfl rfl 0 (by decide) (hts (.fieldLink RX7 12 "LeftQuills$Reader" "draft" "LLeftQuills$Office;") (wmx 1 rfl)) (fun _ h9 => h9) rfl dX7_readClause_162 ?_
        refine va_get (D := (dC, dI)) (ci := 5) (v := .int (nI nh)) (C := RX5) (T := TX5) (N := 13) hx hb hts hi_X5 hown hK hP 3 rfl rfl 4 (by decide) (hts (.fieldLink RX7 104 "LeftQuills$Office" "hands" "I") (wmx 10 rfl)) (fun _ h9 => h9) rfl dX7_readClause_165 ?_
        refine lv_iconst (v := 4) hx hb dX7_readClause_168 (by decide) ?_
        refine lv_icmp_lt (tgt := 176) hx hb dX7_readClause_169 (by decide) (fun c6 => ?_) (fun c6 => ?_)
        ·
          have c6 : nh < 4 := (nI_ltI (a := nh) (b := 4) (by omega) (by omega)).mp c6
          refine lv_iconst (v := 0) hx hb dX7_readClause_176 (by decide) ?_
          have hPc := hP.sub (ws' := [(h0, .inr (7, [.ref dr, .int fa, .ref nu, .ref le, .int (nI ln), .int (nI at9), .int fu]))]) [0] rfl
          have hDc := hD.sub (ws' := [(h0, .inr (7, [.ref dr, .int fa, .ref nu, .ref le, .int (nI ln), .int (nI at9), .int fu]))]) [0] (by decide) rfl
          have hFc := va_free (wc := [(h0, .inr (7, [.ref dr, .int fa, .ref nu, .ref le, .int (nI ln), .int (nI at9), .int fu]))]) hD hS hA [0] rfl
          refine va_calli (va_runV (As := [.int 0]) (rest := []) ⟨hx, hb, hml, hown, hts⟩ (c_X7_startWord l dC dI cI cZ cQ h0 dr fa nu le ln at9 fu 0 H.size (by omega) (by omega)) (cwV 1 hts gX7_readClause_X7_startWord rfl rfl rfl (by decide +kernel) ⟨Nat.le_of_ble_eq_true rfl, Nat.le_of_ble_eq_true rfl⟩) ⟨fun a U g mk q => by obtain ⟨q0, q1, qP, qK, qD⟩ := q; exact ⟨q0, q1, qP, va_K.moved (u := U) (U := U.calling g mk a) (Vm.Alike.refl U.vm) qK, qD⟩, va_recv hK hP (ci := 7) (q0 := 0) rfl rfl, fun U hU hW => ⟨rfl, by rw [hU], by rw [hU]; exact hPc, va_K.moved hW.alike hK, hDc.weaken (fun _ _ _ _ => trivial)⟩⟩ rfl rfl hl.1 rfl (lv_room (Nat.le_of_ble_eq_true rfl)) dX7_readClause_177 ⟨Nat.le_of_ble_eq_true rfl, Nat.le_of_ble_eq_true rfl⟩) hS (fun q _ h => hFc q h) hFc (fun r7 u8 t H1 locs ht hvm hw9 hB hz1 hk1 hS => ?_)
          obtain ⟨i10, i12, k11, hk11, hP1, hD1⟩ := hB
          rw [ht] at hP1
          obtain ⟨hP, hD⟩ := va_join (wr := [(le, .inl (cI, 220, .inl fle)), (nu, .inl (cI, 5, .inl fnu)), (dr, .inr (5, [.int (nI st), .int bl, .int mm, .int (nI nq), .int (nI nh), .ref o5, .ref o6, .ref o7, .ref o8, .ref o9, .ref o10, .ref o11, .ref o12])), (o5, .inl (cI, 8, .inl fo5)), (o6, .inl (cI, 8, .inl fo6)), (o7, .inl (cI, 8, .inl fo7)), (o8, .inl (cI, 8, .inl fo8)), (o9, .inl (cI, 8, .inl fo9)), (o10, .inl (cI, 4, .inl fo10)), (o11, .inl (cI, 4, .inl fo11)), (o12, .inl (cI, 4, .inl fo12))]) (w1 := [(h0, .inr (7, [.ref dr, .int i10, .ref nu, .ref le, .int (nI ln), .int (nI k11), .int i12]))]) hP hD [0] [1, 2, 3, 4, 5, 6, 7, 8, 9, 10, 11] rfl rfl (by decide +kernel) (by decide +kernel) hk1 hFc hP1 hD1
          clear hP1 hD1
          clear hz1 hk1 hPc hDc hFc
          generalize H1 = H at hP hS ht ⊢
          have hP : va_P (dC, dI) vwCl [(le, .inl (cI, 220, .inl fle)), (nu, .inl (cI, 5, .inl fnu)), (dr, .inr (5, [.int (nI st), .int bl, .int mm, .int (nI nq), .int (nI nh), .ref o5, .ref o6, .ref o7, .ref o8, .ref o9, .ref o10, .ref o11, .ref o12])), (o5, .inl (cI, 8, .inl fo5)), (o6, .inl (cI, 8, .inl fo6)), (o7, .inl (cI, 8, .inl fo7)), (o8, .inl (cI, 8, .inl fo8)), (o9, .inl (cI, 8, .inl fo9)), (o10, .inl (cI, 4, .inl fo10)), (o11, .inl (cI, 4, .inl fo11)), (o12, .inl (cI, 4, .inl fo12)), (h0, .inr (7, [.ref dr, .int i10, .ref nu, .ref le, .int (nI ln), .int (nI k11), .int i12]))] H := hP
          have hD : va_D A [(le, .inl (cI, 220, .inl fle)), (nu, .inl (cI, 5, .inl fnu)), (dr, .inr (5, [.int (nI st), .int bl, .int mm, .int (nI nq), .int (nI nh), .ref o5, .ref o6, .ref o7, .ref o8, .ref o9, .ref o10, .ref o11, .ref o12])), (o5, .inl (cI, 8, .inl fo5)), (o6, .inl (cI, 8, .inl fo6)), (o7, .inl (cI, 8, .inl fo7)), (o8, .inl (cI, 8, .inl fo8)), (o9, .inl (cI, 8, .inl fo9)), (o10, .inl (cI, 4, .inl fo10)), (o11, .inl (cI, 4, .inl fo11)), (o12, .inl (cI, 4, .inl fo12)), (h0, .inr (7, [.ref dr, .int i10, .ref nu, .ref le, .int (nI ln), .int (nI k11), .int i12]))] := hD
          try dsimp only at hw9
          rcases hw9 with rfl | rfl
          ·
            refine lv_if_eq (tgt := 219) hx hb dX7_readClause_180 (by decide) (fun c13 => ?_) (fun c13 => ?_)
            · exact absurd c13 (by decide)
            clear c13
            refine lv_aload_n hx hb dX7_readClause_183 rfl (lv_at hl 1 rfl) ?_
            refine va_gets hx hb hZ_HAND_LEAST hS hown (hts (.fieldLink RX7 107 "LeftQuills$Reader" "HAND_LEAST" "[I") (wmx 11 rfl)) (fun _ h9 => h9) dX7_readClause_184 ?_
            refine va_gets hx hb hZ_HAND_MOST hS hown (hts (.fieldLink RX7 110 "LeftQuills$Reader" "HAND_MOST" "[I") (wmx 12 rfl)) (fun _ h9 => h9) dX7_readClause_187 ?_
            have hPc := hP.sub (ws' := [(h0, .inr (7, [.ref dr, .int i10, .ref nu, .ref le, .int (nI ln), .int (nI k11), .int i12])), (le, .inl (cI, 220, .inl fle)), (nu, .inl (cI, 5, .inl fnu))]) [11, 0, 1] rfl
            have hDc := hD.sub (ws' := [(h0, .inr (7, [.ref dr, .int i10, .ref nu, .ref le, .int (nI ln), .int (nI k11), .int i12])), (le, .inl (cI, 220, .inl fle)), (nu, .inl (cI, 5, .inl fnu))]) [11, 0, 1] (by decide) rfl
            have hFc := va_free (wc := [(h0, .inr (7, [.ref dr, .int i10, .ref nu, .ref le, .int (nI ln), .int (nI k11), .int i12])), (le, .inl (cI, 220, .inl fle)), (nu, .inl (cI, 5, .inl fnu))]) hD hS hA [11, 0, 1] rfl
            refine va_calli (va_runV (As := [.ref t_HAND_LEAST, .ref t_HAND_MOST]) (rest := []) ⟨hx, hb, hml, hown, hts⟩ (c_X7_readNumbers l dC dI cI cZ cQ h0 dr i10 nu le ln k11 i12 fle fnu t_HAND_LEAST t_HAND_MOST 3 g_HAND_LEAST 3 g_HAND_MOST H.size (by omega) (by omega) (by omega) (by omega)) (cwV 2 hts gX7_readClause_X7_readNumbers rfl rfl rfl (by decide +kernel) ⟨Nat.le_of_ble_eq_true rfl, Nat.le_of_ble_eq_true rfl⟩) ⟨fun a U g mk q => by obtain ⟨q0, q1, qP, qK, qD, qN, qT_t1, qT_t2⟩ := q; exact ⟨q0, q1, qP, va_K.moved (u := U) (U := U.calling g mk a) (Vm.Alike.refl U.vm) qK, qD, qN.calling, va_T.moved (u := U) (Vm.Alike.refl U.vm) qT_t1, va_T.moved (u := U) (Vm.Alike.refl U.vm) qT_t2⟩, va_recv hK hP (ci := 7) (q0 := 11) rfl rfl, fun U hU hW => ⟨rfl, by rw [hU], by rw [hU]; exact hPc, va_K.moved hW.alike hK, hDc.weaken (fun _ _ _ _ => trivial), hN.warm hW, by rw [hU]; exact va_T.moved hW.alike ((hT_t_HAND_LEAST.kept hS.2.1).narrow hFc), by rw [hU]; exact va_T.moved hW.alike ((hT_t_HAND_MOST.kept hS.2.1).narrow hFc)⟩⟩ rfl rfl hl.1 rfl (lv_room (Nat.le_of_ble_eq_true rfl)) dX7_readClause_190 ⟨Nat.le_of_ble_eq_true rfl, Nat.le_of_ble_eq_true rfl⟩) hS (fun q _ h => hFc q h) hFc (fun r14 u15 t H1 locs ht hvm hw16 hB hz1 hk1 hS => ?_)
            obtain ⟨f17, i18, i20, k19, hk19, hP1, hD1⟩ := hB
            rw [ht] at hP1
            obtain ⟨hP, hD⟩ := va_join (wr := [(dr, .inr (5, [.int (nI st), .int bl, .int mm, .int (nI nq), .int (nI nh), .ref o5, .ref o6, .ref o7, .ref o8, .ref o9, .ref o10, .ref o11, .ref o12])), (o5, .inl (cI, 8, .inl fo5)), (o6, .inl (cI, 8, .inl fo6)), (o7, .inl (cI, 8, .inl fo7)), (o8, .inl (cI, 8, .inl fo8)), (o9, .inl (cI, 8, .inl fo9)), (o10, .inl (cI, 4, .inl fo10)), (o11, .inl (cI, 4, .inl fo11)), (o12, .inl (cI, 4, .inl fo12))]) (w1 := [(h0, .inr (7, [.ref dr, .int i18, .ref nu, .ref le, .int (nI ln), .int (nI k19), .int i20])), (le, .inl (cI, 220, .inl fle)), (nu, .inl (cI, 5, .inl f17))]) hP hD [11, 0, 1] [2, 3, 4, 5, 6, 7, 8, 9, 10] rfl rfl (by decide +kernel) (by decide +kernel) hk1 hFc hP1 hD1
            clear hP1 hD1
            clear hz1 hk1 hPc hDc hFc
            generalize H1 = H at hP hS ht ⊢
            have hP : va_P (dC, dI) vwCl [(dr, .inr (5, [.int (nI st), .int bl, .int mm, .int (nI nq), .int (nI nh), .ref o5, .ref o6, .ref o7, .ref o8, .ref o9, .ref o10, .ref o11, .ref o12])), (o5, .inl (cI, 8, .inl fo5)), (o6, .inl (cI, 8, .inl fo6)), (o7, .inl (cI, 8, .inl fo7)), (o8, .inl (cI, 8, .inl fo8)), (o9, .inl (cI, 8, .inl fo9)), (o10, .inl (cI, 4, .inl fo10)), (o11, .inl (cI, 4, .inl fo11)), (o12, .inl (cI, 4, .inl fo12)), (h0, .inr (7, [.ref dr, .int i18, .ref nu, .ref le, .int (nI ln), .int (nI k19), .int i20])), (le, .inl (cI, 220, .inl fle)), (nu, .inl (cI, 5, .inl f17))] H := hP
            have hD : va_D A [(dr, .inr (5, [.int (nI st), .int bl, .int mm, .int (nI nq), .int (nI nh), .ref o5, .ref o6, .ref o7, .ref o8, .ref o9, .ref o10, .ref o11, .ref o12])), (o5, .inl (cI, 8, .inl fo5)), (o6, .inl (cI, 8, .inl fo6)), (o7, .inl (cI, 8, .inl fo7)), (o8, .inl (cI, 8, .inl fo8)), (o9, .inl (cI, 8, .inl fo9)), (o10, .inl (cI, 4, .inl fo10)), (o11, .inl (cI, 4, .inl fo11)), (o12, .inl (cI, 4, .inl fo12)), (h0, .inr (7, [.ref dr, .int i18, .ref nu, .ref le, .int (nI ln), .int (nI k19), .int i20])), (le, .inl (cI, 220, .inl fle)), (nu, .inl (cI, 5, .inl f17))] := hD
            try dsimp only at hw16
            rcases hw16 with rfl | rfl
            ·
              refine lv_if_eq (tgt := 219) hx hb dX7_readClause_193 (by decide) (fun c21 => ?_) (fun c21 => ?_)
              · exact absurd c21 (by decide)
              clear c21
              refine lv_aload_n hx hb dX7_readClause_196 rfl (lv_at hl 1 rfl) ?_
              refine va_get (D := (dC, dI)) (ci := 7) (v := .ref dr) (C := RX7) (T := TX7) (N := 7) hx hb hts hi_X7 hown hK hP 9 rfl rfl 0 (by decide) (hts (.fieldLink RX7 12 "LeftQuills$Reader" "draft" "LLeftQuills$Office;") (wmx 1 rfl)) (fun _ h9 => h9) rfl dX7_readClause_197 ?_
              refine lv_aload_n hx hb dX7_readClause_200 rfl (lv_at hl 1 rfl) ?_
              refine va_get (D := (dC, dI)) (ci := 7) (v := .ref nu) (C := RX7) (T := TX7) (N := 7) hx hb hts hi_X7 hown hK hP 9 rfl rfl 2 (by decide) (hts (.fieldLink RX7 22 "LeftQuills$Reader" "numbers" "[I") (wmx 6 rfl)) (fun _ h9 => h9) rfl dX7_readClause_201 ?_
              have hPc := hP.sub (ws' := [(dr, .inr (5, [.int (nI st), .int bl, .int mm, .int (nI nq), .int (nI nh), .ref o5, .ref o6, .ref o7, .ref o8, .ref o9, .ref o10, .ref o11, .ref o12])), (o10, .inl (cI, 4, .inl fo10)), (o11, .inl (cI, 4, .inl fo11)), (o12, .inl (cI, 4, .inl fo12)), (nu, .inl (cI, 5, .inl f17))]) [0, 6, 7, 8, 11] rfl
              have hDc := hD.sub (ws' := [(dr, .inr (5, [.int (nI st), .int bl, .int mm, .int (nI nq), .int (nI nh), .ref o5, .ref o6, .ref o7, .ref o8, .ref o9, .ref o10, .ref o11, .ref o12])), (o10, .inl (cI, 4, .inl fo10)), (o11, .inl (cI, 4, .inl fo11)), (o12, .inl (cI, 4, .inl fo12)), (nu, .inl (cI, 5, .inl f17))]) [0, 6, 7, 8, 11] (by decide) rfl
              have hFc := va_free (wc := [(dr, .inr (5, [.int (nI st), .int bl, .int mm, .int (nI nq), .int (nI nh), .ref o5, .ref o6, .ref o7, .ref o8, .ref o9, .ref o10, .ref o11, .ref o12])), (o10, .inl (cI, 4, .inl fo10)), (o11, .inl (cI, 4, .inl fo11)), (o12, .inl (cI, 4, .inl fo12)), (nu, .inl (cI, 5, .inl f17))]) hD hS hA [0, 6, 7, 8, 11] rfl
              refine va_callv (va_runV (As := [.ref nu]) (rest := []) ⟨hx, hb, hml, hown, hts⟩ (c_X5_addHand l dC dI cI cZ cQ dr st bl mm nq nh o5 o6 o7 o8 o9 o10 o11 o12 fo10 fo11 fo12 nu f17 H.size (by omega) (by omega)) (cwV 1 hts gX7_readClause_X5_addHand rfl rfl rfl (by decide +kernel) ⟨Nat.le_of_ble_eq_true rfl, Nat.le_of_ble_eq_true rfl⟩) ⟨fun a U g mk q => by obtain ⟨q0, q1, qP, qK, qD⟩ := q; exact ⟨q0, q1, qP, va_K.moved (u := U) (U := U.calling g mk a) (Vm.Alike.refl U.vm) qK, qD⟩, va_recv hK hP (ci := 5) (q0 := 0) rfl rfl, fun U hU hW => ⟨rfl, by rw [hU], by rw [hU]; exact hPc, va_K.moved hW.alike hK, hDc.weaken (fun _ _ _ _ => trivial)⟩⟩ rfl rfl hl.1 rfl (lv_room (Nat.le_of_ble_eq_true rfl)) dX7_readClause_204 ⟨Nat.le_of_ble_eq_true rfl, Nat.le_of_ble_eq_true rfl⟩) hS (fun q _ h => hFc q h) hFc (fun u23 t H1 locs ht hvm hw24 hB hz1 hk1 hS => ?_)
              obtain ⟨f25, f26, f27, k28, hk28, hP1, hD1⟩ := hB
              rw [ht] at hP1
              obtain ⟨hP, hD⟩ := va_join (wr := [(o5, .inl (cI, 8, .inl fo5)), (o6, .inl (cI, 8, .inl fo6)), (o7, .inl (cI, 8, .inl fo7)), (o8, .inl (cI, 8, .inl fo8)), (o9, .inl (cI, 8, .inl fo9)), (h0, .inr (7, [.ref dr, .int i18, .ref nu, .ref le, .int (nI ln), .int (nI k19), .int i20])), (le, .inl (cI, 220, .inl fle))]) (w1 := [(dr, .inr (5, [.int (nI st), .int bl, .int mm, .int (nI nq), .int (nI k28), .ref o5, .ref o6, .ref o7, .ref o8, .ref o9, .ref o10, .ref o11, .ref o12])), (o10, .inl (cI, 4, .inl f25)), (o11, .inl (cI, 4, .inl f26)), (o12, .inl (cI, 4, .inl f27)), (nu, .inl (cI, 5, .inl f17))]) hP hD [0, 6, 7, 8, 11] [1, 2, 3, 4, 5, 9, 10] rfl rfl (by decide +kernel) (by decide +kernel) hk1 hFc hP1 hD1
              clear hP1 hD1
              clear hz1 hk1 hPc hDc hFc
              generalize H1 = H at hP hS ht ⊢
              have hP : va_P (dC, dI) vwCl [(o5, .inl (cI, 8, .inl fo5)), (o6, .inl (cI, 8, .inl fo6)), (o7, .inl (cI, 8, .inl fo7)), (o8, .inl (cI, 8, .inl fo8)), (o9, .inl (cI, 8, .inl fo9)), (h0, .inr (7, [.ref dr, .int i18, .ref nu, .ref le, .int (nI ln), .int (nI k19), .int i20])), (le, .inl (cI, 220, .inl fle)), (dr, .inr (5, [.int (nI st), .int bl, .int mm, .int (nI nq), .int (nI k28), .ref o5, .ref o6, .ref o7, .ref o8, .ref o9, .ref o10, .ref o11, .ref o12])), (o10, .inl (cI, 4, .inl f25)), (o11, .inl (cI, 4, .inl f26)), (o12, .inl (cI, 4, .inl f27)), (nu, .inl (cI, 5, .inl f17))] H := hP
              have hD : va_D A [(o5, .inl (cI, 8, .inl fo5)), (o6, .inl (cI, 8, .inl fo6)), (o7, .inl (cI, 8, .inl fo7)), (o8, .inl (cI, 8, .inl fo8)), (o9, .inl (cI, 8, .inl fo9)), (h0, .inr (7, [.ref dr, .int i18, .ref nu, .ref le, .int (nI ln), .int (nI k19), .int i20])), (le, .inl (cI, 220, .inl fle)), (dr, .inr (5, [.int (nI st), .int bl, .int mm, .int (nI nq), .int (nI k28), .ref o5, .ref o6, .ref o7, .ref o8, .ref o9, .ref o10, .ref o11, .ref o12])), (o10, .inl (cI, 4, .inl f25)), (o11, .inl (cI, 4, .inl f26)), (o12, .inl (cI, 4, .inl f27)), (nu, .inl (cI, 5, .inl f17))] := hD
              try dsimp only at hw24
              refine lv_goto (tgt := 219) hx hb dX7_readClause_207 (by decide) ?_
              have hP9 := hP.sub (ws' := [(h0, .inr (7, [.ref dr, .int i18, .ref nu, .ref le, .int (nI ln), .int (nI k19), .int i20])), (le, .inl (cI, 220, .inl fle)), (nu, .inl (cI, 5, .inl f17)), (dr, .inr (5, [.int (nI st), .int bl, .int mm, .int (nI nq), .int (nI k28), .ref o5, .ref o6, .ref o7, .ref o8, .ref o9, .ref o10, .ref o11, .ref o12])), (o5, .inl (cI, 8, .inl fo5)), (o6, .inl (cI, 8, .inl fo6)), (o7, .inl (cI, 8, .inl fo7)), (o8, .inl (cI, 8, .inl fo8)), (o9, .inl (cI, 8, .inl fo9)), (o10, .inl (cI, 4, .inl f25)), (o11, .inl (cI, 4, .inl f26)), (o12, .inl (cI, 4, .inl f27))]) [5, 6, 11, 7, 0, 1, 2, 3, 4, 8, 9, 10] rfl
              have hD9 := hD.sub (ws' := [(h0, .inr (7, [.ref dr, .int i18, .ref nu, .ref le, .int (nI ln), .int (nI k19), .int i20])), (le, .inl (cI, 220, .inl fle)), (nu, .inl (cI, 5, .inl f17)), (dr, .inr (5, [.int (nI st), .int bl, .int mm, .int (nI nq), .int (nI k28), .ref o5, .ref o6, .ref o7, .ref o8, .ref o9, .ref o10, .ref o11, .ref o12])), (o5, .inl (cI, 8, .inl fo5)), (o6, .inl (cI, 8, .inl fo6)), (o7, .inl (cI, 8, .inl fo7)), (o8, .inl (cI, 8, .inl fo8)), (o9, .inl (cI, 8, .inl fo9)), (o10, .inl (cI, 4, .inl f25)), (o11, .inl (cI, 4, .inl f26)), (o12, .inl (cI, 4, .inl f27))]) [5, 6, 11, 7, 0, 1, 2, 3, 4, 8, 9, 10] (by decide +kernel) rfl
              exact W.vret hx hb hr (fun t ht hW => ⟨⟨(fun _ => 0), rfl, trivial, ⟨f17, fo5, fo6, fo7, fo8, fo9, f25, f26, f27, i18, i20, bl, mm, k19, st, nq, k28, by omega, by omega, by omega, by omega, by rw [ht]; exact hP9, hD9⟩⟩, hS.F ht⟩) hS.2.2 dX7_readClause_219
            ·
              refine lv_if_eq (tgt := 219) hx hb dX7_readClause_193 (by decide) (fun c29 => ?_) (fun c29 => ?_)
              rotate_left
              · exact absurd c29 (by decide)
              clear c29
              have hP9 := hP.sub (ws' := [(h0, .inr (7, [.ref dr, .int i18, .ref nu, .ref le, .int (nI ln), .int (nI k19), .int i20])), (le, .inl (cI, 220, .inl fle)), (nu, .inl (cI, 5, .inl f17)), (dr, .inr (5, [.int (nI st), .int bl, .int mm, .int (nI nq), .int (nI nh), .ref o5, .ref o6, .ref o7, .ref o8, .ref o9, .ref o10, .ref o11, .ref o12])), (o5, .inl (cI, 8, .inl fo5)), (o6, .inl (cI, 8, .inl fo6)), (o7, .inl (cI, 8, .inl fo7)), (o8, .inl (cI, 8, .inl fo8)), (o9, .inl (cI, 8, .inl fo9)), (o10, .inl (cI, 4, .inl fo10)), (o11, .inl (cI, 4, .inl fo11)), (o12, .inl (cI, 4, .inl fo12))]) [9, 10, 11, 0, 1, 2, 3, 4, 5, 6, 7, 8] rfl
              have hD9 := hD.sub (ws' := [(h0, .inr (7, [.ref dr, .int i18, .ref nu, .ref le, .int (nI ln), .int (nI k19), .int i20])), (le, .inl (cI, 220, .inl fle)), (nu, .inl (cI, 5, .inl f17)), (dr, .inr (5, [.int (nI st), .int bl, .int mm, .int (nI nq), .int (nI nh), .ref o5, .ref o6, .ref o7, .ref o8, .ref o9, .ref o10, .ref o11, .ref o12])), (o5, .inl (cI, 8, .inl fo5)), (o6, .inl (cI, 8, .inl fo6)), (o7, .inl (cI, 8, .inl fo7)), (o8, .inl (cI, 8, .inl fo8)), (o9, .inl (cI, 8, .inl fo9)), (o10, .inl (cI, 4, .inl fo10)), (o11, .inl (cI, 4, .inl fo11)), (o12, .inl (cI, 4, .inl fo12))]) [9, 10, 11, 0, 1, 2, 3, 4, 5, 6, 7, 8] (by decide +kernel) rfl
              exact W.vret hx hb hr (fun t ht hW => ⟨⟨(fun _ => 0), rfl, trivial, ⟨f17, fo5, fo6, fo7, fo8, fo9, fo10, fo11, fo12, i18, i20, bl, mm, k19, st, nq, nh, by omega, by omega, by omega, by omega, by rw [ht]; exact hP9, hD9⟩⟩, hS.F ht⟩) hS.2.2 dX7_readClause_219
          ·
            refine lv_if_eq (tgt := 219) hx hb dX7_readClause_180 (by decide) (fun c30 => ?_) (fun c30 => ?_)
            rotate_left
            · exact absurd c30 (by decide)
            clear c30
            have hP9 := hP.sub (ws' := [(h0, .inr (7, [.ref dr, .int i10, .ref nu, .ref le, .int (nI ln), .int (nI k11), .int i12])), (le, .inl (cI, 220, .inl fle)), (nu, .inl (cI, 5, .inl fnu)), (dr, .inr (5, [.int (nI st), .int bl, .int mm, .int (nI nq), .int (nI nh), .ref o5, .ref o6, .ref o7, .ref o8, .ref o9, .ref o10, .ref o11, .ref o12])), (o5, .inl (cI, 8, .inl fo5)), (o6, .inl (cI, 8, .inl fo6)), (o7, .inl (cI, 8, .inl fo7)), (o8, .inl (cI, 8, .inl fo8)), (o9, .inl (cI, 8, .inl fo9)), (o10, .inl (cI, 4, .inl fo10)), (o11, .inl (cI, 4, .inl fo11)), (o12, .inl (cI, 4, .inl fo12))]) [11, 0, 1, 2, 3, 4, 5, 6, 7, 8, 9, 10] rfl
            have hD9 := hD.sub (ws' := [(h0, .inr (7, [.ref dr, .int i10, .ref nu, .ref le, .int (nI ln), .int (nI k11), .int i12])), (le, .inl (cI, 220, .inl fle)), (nu, .inl (cI, 5, .inl fnu)), (dr, .inr (5, [.int (nI st), .int bl, .int mm, .int (nI nq), .int (nI nh), .ref o5, .ref o6, .ref o7, .ref o8, .ref o9, .ref o10, .ref o11, .ref o12])), (o5, .inl (cI, 8, .inl fo5)), (o6, .inl (cI, 8, .inl fo6)), (o7, .inl (cI, 8, .inl fo7)), (o8, .inl (cI, 8, .inl fo8)), (o9, .inl (cI, 8, .inl fo9)), (o10, .inl (cI, 4, .inl fo10)), (o11, .inl (cI, 4, .inl fo11)), (o12, .inl (cI, 4, .inl fo12))]) [11, 0, 1, 2, 3, 4, 5, 6, 7, 8, 9, 10] (by decide +kernel) rfl
            exact W.vret hx hb hr (fun t ht hW => ⟨⟨(fun _ => 0), rfl, trivial, ⟨fnu, fo5, fo6, fo7, fo8, fo9, fo10, fo11, fo12, i10, i12, bl, mm, k11, st, nq, nh, by omega, by omega, by omega, by omega, by rw [ht]; exact hP9, hD9⟩⟩, hS.F ht⟩) hS.2.2 dX7_readClause_219
        ·
          have c6 : ¬ nh < 4 := fun h => c6 ((nI_ltI (a := nh) (b := 4) (by omega) (by omega)).mpr h)
          refine lv_iconst (v := 1) hx hb dX7_readClause_172 (by decide) ?_
          refine lv_goto (tgt := 177) hx hb dX7_readClause_173 (by decide) ?_
          have hPc := hP.sub (ws' := [(h0, .inr (7, [.ref dr, .int fa, .ref nu, .ref le, .int (nI ln), .int (nI at9), .int fu]))]) [0] rfl
          have hDc := hD.sub (ws' := [(h0, .inr (7, [.ref dr, .int fa, .ref nu, .ref le, .int (nI ln), .int (nI at9), .int fu]))]) [0] (by decide) rfl
          have hFc := va_free (wc := [(h0, .inr (7, [.ref dr, .int fa, .ref nu, .ref le, .int (nI ln), .int (nI at9), .int fu]))]) hD hS hA [0] rfl
          refine va_calli (va_runV (As := [.int 1]) (rest := []) ⟨hx, hb, hml, hown, hts⟩ (c_X7_startWord l dC dI cI cZ cQ h0 dr fa nu le ln at9 fu 1 H.size (by omega) (by omega)) (cwV 1 hts gX7_readClause_X7_startWord rfl rfl rfl (by decide +kernel) ⟨Nat.le_of_ble_eq_true rfl, Nat.le_of_ble_eq_true rfl⟩) ⟨fun a U g mk q => by obtain ⟨q0, q1, qP, qK, qD⟩ := q; exact ⟨q0, q1, qP, va_K.moved (u := U) (U := U.calling g mk a) (Vm.Alike.refl U.vm) qK, qD⟩, va_recv hK hP (ci := 7) (q0 := 0) rfl rfl, fun U hU hW => ⟨rfl, by rw [hU], by rw [hU]; exact hPc, va_K.moved hW.alike hK, hDc.weaken (fun _ _ _ _ => trivial)⟩⟩ rfl rfl hl.1 rfl (lv_room (Nat.le_of_ble_eq_true rfl)) dX7_readClause_177 ⟨Nat.le_of_ble_eq_true rfl, Nat.le_of_ble_eq_true rfl⟩) hS (fun q _ h => hFc q h) hFc (fun r31 u32 t H1 locs ht hvm hw33 hB hz1 hk1 hS => ?_)
          obtain ⟨i34, i36, k35, hk35, hP1, hD1⟩ := hB
          rw [ht] at hP1
          obtain ⟨hP, hD⟩ := va_join (wr := [(le, .inl (cI, 220, .inl fle)), (nu, .inl (cI, 5, .inl fnu)), (dr, .inr (5, [.int (nI st), .int bl, .int mm, .int (nI nq), .int (nI nh), .ref o5, .ref o6, .ref o7, .ref o8, .ref o9, .ref o10, .ref o11, .ref o12])), (o5, .inl (cI, 8, .inl fo5)), (o6, .inl (cI, 8, .inl fo6)), (o7, .inl (cI, 8, .inl fo7)), (o8, .inl (cI, 8, .inl fo8)), (o9, .inl (cI, 8, .inl fo9)), (o10, .inl (cI, 4, .inl fo10)), (o11, .inl (cI, 4, .inl fo11)), (o12, .inl (cI, 4, .inl fo12))]) (w1 := [(h0, .inr (7, [.ref dr, .int i34, .ref nu, .ref le, .int (nI ln), .int (nI k35), .int i36]))]) hP hD [0] [1, 2, 3, 4, 5, 6, 7, 8, 9, 10, 11] rfl rfl (by decide +kernel) (by decide +kernel) hk1 hFc hP1 hD1
          clear hP1 hD1
          clear hz1 hk1 hPc hDc hFc
          generalize H1 = H at hP hS ht ⊢
          have hP : va_P (dC, dI) vwCl [(le, .inl (cI, 220, .inl fle)), (nu, .inl (cI, 5, .inl fnu)), (dr, .inr (5, [.int (nI st), .int bl, .int mm, .int (nI nq), .int (nI nh), .ref o5, .ref o6, .ref o7, .ref o8, .ref o9, .ref o10, .ref o11, .ref o12])), (o5, .inl (cI, 8, .inl fo5)), (o6, .inl (cI, 8, .inl fo6)), (o7, .inl (cI, 8, .inl fo7)), (o8, .inl (cI, 8, .inl fo8)), (o9, .inl (cI, 8, .inl fo9)), (o10, .inl (cI, 4, .inl fo10)), (o11, .inl (cI, 4, .inl fo11)), (o12, .inl (cI, 4, .inl fo12)), (h0, .inr (7, [.ref dr, .int i34, .ref nu, .ref le, .int (nI ln), .int (nI k35), .int i36]))] H := hP
          have hD : va_D A [(le, .inl (cI, 220, .inl fle)), (nu, .inl (cI, 5, .inl fnu)), (dr, .inr (5, [.int (nI st), .int bl, .int mm, .int (nI nq), .int (nI nh), .ref o5, .ref o6, .ref o7, .ref o8, .ref o9, .ref o10, .ref o11, .ref o12])), (o5, .inl (cI, 8, .inl fo5)), (o6, .inl (cI, 8, .inl fo6)), (o7, .inl (cI, 8, .inl fo7)), (o8, .inl (cI, 8, .inl fo8)), (o9, .inl (cI, 8, .inl fo9)), (o10, .inl (cI, 4, .inl fo10)), (o11, .inl (cI, 4, .inl fo11)), (o12, .inl (cI, 4, .inl fo12)), (h0, .inr (7, [.ref dr, .int i34, .ref nu, .ref le, .int (nI ln), .int (nI k35), .int i36]))] := hD
          try dsimp only at hw33
          rcases hw33 with rfl | rfl
          ·
            refine lv_if_eq (tgt := 219) hx hb dX7_readClause_180 (by decide) (fun c37 => ?_) (fun c37 => ?_)
            · exact absurd c37 (by decide)
            clear c37
            refine lv_aload_n hx hb dX7_readClause_183 rfl (lv_at hl 1 rfl) ?_
            refine va_gets hx hb hZ_HAND_LEAST hS hown (hts (.fieldLink RX7 107 "LeftQuills$Reader" "HAND_LEAST" "[I") (wmx 11 rfl)) (fun _ h9 => h9) dX7_readClause_184 ?_
            refine va_gets hx hb hZ_HAND_MOST hS hown (hts (.fieldLink RX7 110 "LeftQuills$Reader" "HAND_MOST" "[I") (wmx 12 rfl)) (fun _ h9 => h9) dX7_readClause_187 ?_
            have hPc := hP.sub (ws' := [(h0, .inr (7, [.ref dr, .int i34, .ref nu, .ref le, .int (nI ln), .int (nI k35), .int i36])), (le, .inl (cI, 220, .inl fle)), (nu, .inl (cI, 5, .inl fnu))]) [11, 0, 1] rfl
            have hDc := hD.sub (ws' := [(h0, .inr (7, [.ref dr, .int i34, .ref nu, .ref le, .int (nI ln), .int (nI k35), .int i36])), (le, .inl (cI, 220, .inl fle)), (nu, .inl (cI, 5, .inl fnu))]) [11, 0, 1] (by decide) rfl
            have hFc := va_free (wc := [(h0, .inr (7, [.ref dr, .int i34, .ref nu, .ref le, .int (nI ln), .int (nI k35), .int i36])), (le, .inl (cI, 220, .inl fle)), (nu, .inl (cI, 5, .inl fnu))]) hD hS hA [11, 0, 1] rfl
            refine va_calli (va_runV (As := [.ref t_HAND_LEAST, .ref t_HAND_MOST]) (rest := []) ⟨hx, hb, hml, hown, hts⟩ (c_X7_readNumbers l dC dI cI cZ cQ h0 dr i34 nu le ln k35 i36 fle fnu t_HAND_LEAST t_HAND_MOST 3 g_HAND_LEAST 3 g_HAND_MOST H.size (by omega) (by omega) (by omega) (by omega)) (cwV 2 hts gX7_readClause_X7_readNumbers rfl rfl rfl (by decide +kernel) ⟨Nat.le_of_ble_eq_true rfl, Nat.le_of_ble_eq_true rfl⟩) ⟨fun a U g mk q => by obtain ⟨q0, q1, qP, qK, qD, qN, qT_t1, qT_t2⟩ := q; exact ⟨q0, q1, qP, va_K.moved (u := U) (U := U.calling g mk a) (Vm.Alike.refl U.vm) qK, qD, qN.calling, va_T.moved (u := U) (Vm.Alike.refl U.vm) qT_t1, va_T.moved (u := U) (Vm.Alike.refl U.vm) qT_t2⟩, va_recv hK hP (ci := 7) (q0 := 11) rfl rfl, fun U hU hW => ⟨rfl, by rw [hU], by rw [hU]; exact hPc, va_K.moved hW.alike hK, hDc.weaken (fun _ _ _ _ => trivial), hN.warm hW, by rw [hU]; exact va_T.moved hW.alike ((hT_t_HAND_LEAST.kept hS.2.1).narrow hFc), by rw [hU]; exact va_T.moved hW.alike ((hT_t_HAND_MOST.kept hS.2.1).narrow hFc)⟩⟩ rfl rfl hl.1 rfl (lv_room (Nat.le_of_ble_eq_true rfl)) dX7_readClause_190 ⟨Nat.le_of_ble_eq_true rfl, Nat.le_of_ble_eq_true rfl⟩) hS (fun q _ h => hFc q h) hFc (fun r38 u39 t H1 locs ht hvm hw40 hB hz1 hk1 hS => ?_)
            obtain ⟨f41, i42, i44, k43, hk43, hP1, hD1⟩ := hB
            rw [ht] at hP1
            obtain ⟨hP, hD⟩ := va_join (wr := [(dr, .inr (5, [.int (nI st), .int bl, .int mm, .int (nI nq), .int (nI nh), .ref o5, .ref o6, .ref o7, .ref o8, .ref o9, .ref o10, .ref o11, .ref o12])), (o5, .inl (cI, 8, .inl fo5)), (o6, .inl (cI, 8, .inl fo6)), (o7, .inl (cI, 8, .inl fo7)), (o8, .inl (cI, 8, .inl fo8)), (o9, .inl (cI, 8, .inl fo9)), (o10, .inl (cI, 4, .inl fo10)), (o11, .inl (cI, 4, .inl fo11)), (o12, .inl (cI, 4, .inl fo12))]) (w1 := [(h0, .inr (7, [.ref dr, .int i42, .ref nu, .ref le, .int (nI ln), .int (nI k43), .int i44])), (le, .inl (cI, 220, .inl fle)), (nu, .inl (cI, 5, .inl f41))]) hP hD [11, 0, 1] [2, 3, 4, 5, 6, 7, 8, 9, 10] rfl rfl (by decide +kernel) (by decide +kernel) hk1 hFc hP1 hD1
            clear hP1 hD1
            clear hz1 hk1 hPc hDc hFc
            generalize H1 = H at hP hS ht ⊢
            have hP : va_P (dC, dI) vwCl [(dr, .inr (5, [.int (nI st), .int bl, .int mm, .int (nI nq), .int (nI nh), .ref o5, .ref o6, .ref o7, .ref o8, .ref o9, .ref o10, .ref o11, .ref o12])), (o5, .inl (cI, 8, .inl fo5)), (o6, .inl (cI, 8, .inl fo6)), (o7, .inl (cI, 8, .inl fo7)), (o8, .inl (cI, 8, .inl fo8)), (o9, .inl (cI, 8, .inl fo9)), (o10, .inl (cI, 4, .inl fo10)), (o11, .inl (cI, 4, .inl fo11)), (o12, .inl (cI, 4, .inl fo12)), (h0, .inr (7, [.ref dr, .int i42, .ref nu, .ref le, .int (nI ln), .int (nI k43), .int i44])), (le, .inl (cI, 220, .inl fle)), (nu, .inl (cI, 5, .inl f41))] H := hP
            have hD : va_D A [(dr, .inr (5, [.int (nI st), .int bl, .int mm, .int (nI nq), .int (nI nh), .ref o5, .ref o6, .ref o7, .ref o8, .ref o9, .ref o10, .ref o11, .ref o12])), (o5, .inl (cI, 8, .inl fo5)), (o6, .inl (cI, 8, .inl fo6)), (o7, .inl (cI, 8, .inl fo7)), (o8, .inl (cI, 8, .inl fo8)), (o9, .inl (cI, 8, .inl fo9)), (o10, .inl (cI, 4, .inl fo10)), (o11, .inl (cI, 4, .inl fo11)), (o12, .inl (cI, 4, .inl fo12)), (h0, .inr (7, [.ref dr, .int i42, .ref nu, .ref le, .int (nI ln), .int (nI k43), .int i44])), (le, .inl (cI, 220, .inl fle)), (nu, .inl (cI, 5, .inl f41))] := hD
            try dsimp only at hw40
            rcases hw40 with rfl | rfl
            ·
              refine lv_if_eq (tgt := 219) hx hb dX7_readClause_193 (by decide) (fun c45 => ?_) (fun c45 => ?_)
              · exact absurd c45 (by decide)
              clear c45
              refine lv_aload_n hx hb dX7_readClause_196 rfl (lv_at hl 1 rfl) ?_
              refine va_get (D := (dC, dI)) (ci := 7) (v := .ref dr) (C := RX7) (T := TX7) (N := 7) hx hb hts hi_X7 hown hK hP 9 rfl rfl 0 (by decide) (hts (.fieldLink RX7 12 "LeftQuills$Reader" "draft" "LLeftQuills$Office;") (wmx 1 rfl)) (fun _ h9 => h9) rfl dX7_readClause_197 ?_
              refine lv_aload_n hx hb dX7_readClause_200 rfl (lv_at hl 1 rfl) ?_
              refine va_get (D := (dC, dI)) (ci := 7) (v := .ref nu) (C := RX7) (T := TX7) (N := 7) hx hb hts hi_X7 hown hK hP 9 rfl rfl 2 (by decide) (hts (.fieldLink RX7 22 "LeftQuills$Reader" "numbers" "[I") (wmx 6 rfl)) (fun _ h9 => h9) rfl dX7_readClause_201 ?_
              have hPc := hP.sub (ws' := [(dr, .inr (5, [.int (nI st), .int bl, .int mm, .int (nI nq), .int (nI nh), .ref o5, .ref o6, .ref o7, .ref o8, .ref o9, .ref o10, .ref o11, .ref o12])), (o10, .inl (cI, 4, .inl fo10)), (o11, .inl (cI, 4, .inl fo11)), (o12, .inl (cI, 4, .inl fo12)), (nu, .inl (cI, 5, .inl f41))]) [0, 6, 7, 8, 11] rfl
              have hDc := hD.sub (ws' := [(dr, .inr (5, [.int (nI st), .int bl, .int mm, .int (nI nq), .int (nI nh), .ref o5, .ref o6, .ref o7, .ref o8, .ref o9, .ref o10, .ref o11, .ref o12])), (o10, .inl (cI, 4, .inl fo10)), (o11, .inl (cI, 4, .inl fo11)), (o12, .inl (cI, 4, .inl fo12)), (nu, .inl (cI, 5, .inl f41))]) [0, 6, 7, 8, 11] (by decide) rfl
              have hFc := va_free (wc := [(dr, .inr (5, [.int (nI st), .int bl, .int mm, .int (nI nq), .int (nI nh), .ref o5, .ref o6, .ref o7, .ref o8, .ref o9, .ref o10, .ref o11, .ref o12])), (o10, .inl (cI, 4, .inl fo10)), (o11, .inl (cI, 4, .inl fo11)), (o12, .inl (cI, 4, .inl fo12)), (nu, .inl (cI, 5, .inl f41))]) hD hS hA [0, 6, 7, 8, 11] rfl
              refine va_callv (va_runV (As := [.ref nu]) (rest := []) ⟨hx, hb, hml, hown, hts⟩ (c_X5_addHand l dC dI cI cZ cQ dr st bl mm nq nh o5 o6 o7 o8 o9 o10 o11 o12 fo10 fo11 fo12 nu f41 H.size (by omega) (by omega)) (cwV 1 hts gX7_readClause_X5_addHand rfl rfl rfl (by decide +kernel) ⟨Nat.le_of_ble_eq_true rfl, Nat.le_of_ble_eq_true rfl⟩) ⟨fun a U g mk q => by obtain ⟨q0, q1, qP, qK, qD⟩ := q; exact ⟨q0, q1, qP, va_K.moved (u := U) (U := U.calling g mk a) (Vm.Alike.refl U.vm) qK, qD⟩, va_recv hK hP (ci := 5) (q0 := 0) rfl rfl, fun U hU hW => ⟨rfl, by rw [hU], by rw [hU]; exact hPc, va_K.moved hW.alike hK, hDc.weaken (fun _ _ _ _ => trivial)⟩⟩ rfl rfl hl.1 rfl (lv_room (Nat.le_of_ble_eq_true rfl)) dX7_readClause_204 ⟨Nat.le_of_ble_eq_true rfl, Nat.le_of_ble_eq_true rfl⟩) hS (fun q _ h => hFc q h) hFc (fun u47 t H1 locs ht hvm hw48 hB hz1 hk1 hS => ?_)
              obtain ⟨f49, f50, f51, k52, hk52, hP1, hD1⟩ := hB
              rw [ht] at hP1
              obtain ⟨hP, hD⟩ := va_join (wr := [(o5, .inl (cI, 8, .inl fo5)), (o6, .inl (cI, 8, .inl fo6)), (o7, .inl (cI, 8, .inl fo7)), (o8, .inl (cI, 8, .inl fo8)), (o9, .inl (cI, 8, .inl fo9)), (h0, .inr (7, [.ref dr, .int i42, .ref nu, .ref le, .int (nI ln), .int (nI k43), .int i44])), (le, .inl (cI, 220, .inl fle))]) (w1 := [(dr, .inr (5, [.int (nI st), .int bl, .int mm, .int (nI nq), .int (nI k52), .ref o5, .ref o6, .ref o7, .ref o8, .ref o9, .ref o10, .ref o11, .ref o12])), (o10, .inl (cI, 4, .inl f49)), (o11, .inl (cI, 4, .inl f50)), (o12, .inl (cI, 4, .inl f51)), (nu, .inl (cI, 5, .inl f41))]) hP hD [0, 6, 7, 8, 11] [1, 2, 3, 4, 5, 9, 10] rfl rfl (by decide +kernel) (by decide +kernel) hk1 hFc hP1 hD1
              clear hP1 hD1
              clear hz1 hk1 hPc hDc hFc
              generalize H1 = H at hP hS ht ⊢
              have hP : va_P (dC, dI) vwCl [(o5, .inl (cI, 8, .inl fo5)), (o6, .inl (cI, 8, .inl fo6)), (o7, .inl (cI, 8, .inl fo7)), (o8, .inl (cI, 8, .inl fo8)), (o9, .inl (cI, 8, .inl fo9)), (h0, .inr (7, [.ref dr, .int i42, .ref nu, .ref le, .int (nI ln), .int (nI k43), .int i44])), (le, .inl (cI, 220, .inl fle)), (dr, .inr (5, [.int (nI st), .int bl, .int mm, .int (nI nq), .int (nI k52), .ref o5, .ref o6, .ref o7, .ref o8, .ref o9, .ref o10, .ref o11, .ref o12])), (o10, .inl (cI, 4, .inl f49)), (o11, .inl (cI, 4, .inl f50)), (o12, .inl (cI, 4, .inl f51)), (nu, .inl (cI, 5, .inl f41))] H := hP
              have hD : va_D A [(o5, .inl (cI, 8, .inl fo5)), (o6, .inl (cI, 8, .inl fo6)), (o7, .inl (cI, 8, .inl fo7)), (o8, .inl (cI, 8, .inl fo8)), (o9, .inl (cI, 8, .inl fo9)), (h0, .inr (7, [.ref dr, .int i42, .ref nu, .ref le, .int (nI ln), .int (nI k43), .int i44])), (le, .inl (cI, 220, .inl fle)), (dr, .inr (5, [.int (nI st), .int bl, .int mm, .int (nI nq), .int (nI k52), .ref o5, .ref o6, .ref o7, .ref o8, .ref o9, .ref o10, .ref o11, .ref o12])), (o10, .inl (cI, 4, .inl f49)), (o11, .inl (cI, 4, .inl f50)), (o12, .inl (cI, 4, .inl f51)), (nu, .inl (cI, 5, .inl f41))] := hD
              try dsimp only at hw48
              refine lv_goto (tgt := 219) hx hb dX7_readClause_207 (by decide) ?_
              have hP9 := hP.sub (ws' := [(h0, .inr (7, [.ref dr, .int i42, .ref nu, .ref le, .int (nI ln), .int (nI k43), .int i44])), (le, .inl (cI, 220, .inl fle)), (nu, .inl (cI, 5, .inl f41)), (dr, .inr (5, [.int (nI st), .int bl, .int mm, .int (nI nq), .int (nI k52), .ref o5, .ref o6, .ref o7, .ref o8, .ref o9, .ref o10, .ref o11, .ref o12])), (o5, .inl (cI, 8, .inl fo5)), (o6, .inl (cI, 8, .inl fo6)), (o7, .inl (cI, 8, .inl fo7)), (o8, .inl (cI, 8, .inl fo8)), (o9, .inl (cI, 8, .inl fo9)), (o10, .inl (cI, 4, .inl f49)), (o11, .inl (cI, 4, .inl f50)), (o12, .inl (cI, 4, .inl f51))]) [5, 6, 11, 7, 0, 1, 2, 3, 4, 8, 9, 10] rfl
              have hD9 := hD.sub (ws' := [(h0, .inr (7, [.ref dr, .int i42, .ref nu, .ref le, .int (nI ln), .int (nI k43), .int i44])), (le, .inl (cI, 220, .inl fle)), (nu, .inl (cI, 5, .inl f41)), (dr, .inr (5, [.int (nI st), .int bl, .int mm, .int (nI nq), .int (nI k52), .ref o5, .ref o6, .ref o7, .ref o8, .ref o9, .ref o10, .ref o11, .ref o12])), (o5, .inl (cI, 8, .inl fo5)), (o6, .inl (cI, 8, .inl fo6)), (o7, .inl (cI, 8, .inl fo7)), (o8, .inl (cI, 8, .inl fo8)), (o9, .inl (cI, 8, .inl fo9)), (o10, .inl (cI, 4, .inl f49)), (o11, .inl (cI, 4, .inl f50)), (o12, .inl (cI, 4, .inl f51))]) [5, 6, 11, 7, 0, 1, 2, 3, 4, 8, 9, 10] (by decide +kernel) rfl
              exact W.vret hx hb hr (fun t ht hW => ⟨⟨(fun _ => 0), rfl, trivial, ⟨f41, fo5, fo6, fo7, fo8, fo9, f49, f50, f51, i42, i44, bl, mm, k43, st, nq, k52, by omega, by omega, by omega, by omega, by rw [ht]; exact hP9, hD9⟩⟩, hS.F ht⟩) hS.2.2 dX7_readClause_219
            ·
              refine lv_if_eq (tgt := 219) hx hb dX7_readClause_193 (by decide) (fun c53 => ?_) (fun c53 => ?_)
              rotate_left
              · exact absurd c53 (by decide)
              clear c53
              have hP9 := hP.sub (ws' := [(h0, .inr (7, [.ref dr, .int i42, .ref nu, .ref le, .int (nI ln), .int (nI k43), .int i44])), (le, .inl (cI, 220, .inl fle)), (nu, .inl (cI, 5, .inl f41)), (dr, .inr (5, [.int (nI st), .int bl, .int mm, .int (nI nq), .int (nI nh), .ref o5, .ref o6, .ref o7, .ref o8, .ref o9, .ref o10, .ref o11, .ref o12])), (o5, .inl (cI, 8, .inl fo5)), (o6, .inl (cI, 8, .inl fo6)), (o7, .inl (cI, 8, .inl fo7)), (o8, .inl (cI, 8, .inl fo8)), (o9, .inl (cI, 8, .inl fo9)), (o10, .inl (cI, 4, .inl fo10)), (o11, .inl (cI, 4, .inl fo11)), (o12, .inl (cI, 4, .inl fo12))]) [9, 10, 11, 0, 1, 2, 3, 4, 5, 6, 7, 8] rfl
              have hD9 := hD.sub (ws' := [(h0, .inr (7, [.ref dr, .int i42, .ref nu, .ref le, .int (nI ln), .int (nI k43), .int i44])), (le, .inl (cI, 220, .inl fle)), (nu, .inl (cI, 5, .inl f41)), (dr, .inr (5, [.int (nI st), .int bl, .int mm, .int (nI nq), .int (nI nh), .ref o5, .ref o6, .ref o7, .ref o8, .ref o9, .ref o10, .ref o11, .ref o12])), (o5, .inl (cI, 8, .inl fo5)), (o6, .inl (cI, 8, .inl fo6)), (o7, .inl (cI, 8, .inl fo7)), (o8, .inl (cI, 8, .inl fo8)), (o9, .inl (cI, 8, .inl fo9)), (o10, .inl (cI, 4, .inl fo10)), (o11, .inl (cI, 4, .inl fo11)), (o12, .inl (cI, 4, .inl fo12))]) [9, 10, 11, 0, 1, 2, 3, 4, 5, 6, 7, 8] (by decide +kernel) rfl
              exact W.vret hx hb hr (fun t ht hW => ⟨⟨(fun _ => 0), rfl, trivial, ⟨f41, fo5, fo6, fo7, fo8, fo9, fo10, fo11, fo12, i42, i44, bl, mm, k43, st, nq, nh, by omega, by omega, by omega, by omega, by rw [ht]; exact hP9, hD9⟩⟩, hS.F ht⟩) hS.2.2 dX7_readClause_219
          ·
            refine lv_if_eq (tgt := 219) hx hb dX7_readClause_180 (by decide) (fun c54 => ?_) (fun c54 => ?_)
            rotate_left
            · exact absurd c54 (by decide)
            clear c54
            have hP9 := hP.sub (ws' := [(h0, .inr (7, [.ref dr, .int i34, .ref nu, .ref le, .int (nI ln), .int (nI k35), .int i36])), (le, .inl (cI, 220, .inl fle)), (nu, .inl (cI, 5, .inl fnu)), (dr, .inr (5, [.int (nI st), .int bl, .int mm, .int (nI nq), .int (nI nh), .ref o5, .ref o6, .ref o7, .ref o8, .ref o9, .ref o10, .ref o11, .ref o12])), (o5, .inl (cI, 8, .inl fo5)), (o6, .inl (cI, 8, .inl fo6)), (o7, .inl (cI, 8, .inl fo7)), (o8, .inl (cI, 8, .inl fo8)), (o9, .inl (cI, 8, .inl fo9)), (o10, .inl (cI, 4, .inl fo10)), (o11, .inl (cI, 4, .inl fo11)), (o12, .inl (cI, 4, .inl fo12))]) [11, 0, 1, 2, 3, 4, 5, 6, 7, 8, 9, 10] rfl
            have hD9 := hD.sub (ws' := [(h0, .inr (7, [.ref dr, .int i34, .ref nu, .ref le, .int (nI ln), .int (nI k35), .int i36])), (le, .inl (cI, 220, .inl fle)), (nu, .inl (cI, 5, .inl fnu)), (dr, .inr (5, [.int (nI st), .int bl, .int mm, .int (nI nq), .int (nI nh), .ref o5, .ref o6, .ref o7, .ref o8, .ref o9, .ref o10, .ref o11, .ref o12])), (o5, .inl (cI, 8, .inl fo5)), (o6, .inl (cI, 8, .inl fo6)), (o7, .inl (cI, 8, .inl fo7)), (o8, .inl (cI, 8, .inl fo8)), (o9, .inl (cI, 8, .inl fo9)), (o10, .inl (cI, 4, .inl fo10)), (o11, .inl (cI, 4, .inl fo11)), (o12, .inl (cI, 4, .inl fo12))]) [11, 0, 1, 2, 3, 4, 5, 6, 7, 8, 9, 10] (by decide +kernel) rfl
            exact W.vret hx hb hr (fun t ht hW => ⟨⟨(fun _ => 0), rfl, trivial, ⟨fnu, fo5, fo6, fo7, fo8, fo9, fo10, fo11, fo12, i34, i36, bl, mm, k35, st, nq, nh, by omega, by omega, by omega, by omega, by rw [ht]; exact hP9, hD9⟩⟩, hS.F ht⟩) hS.2.2 dX7_readClause_219
      by_cases c55 : r1 = 111
      · refine lv_lookup (tgt := 68) (off := 36) hx hb dX7_readClause_32 (by decide) (by rw [c55]; decide) (by decide) ?_
        refine lv_aload_n hx hb dX7_readClause_68 rfl (lv_at hl 1 rfl) ?_
        refine lv_aload_n hx hb dX7_readClause_69 rfl (lv_at hl 1 rfl) ?_
        refine va_get (D := (dC, dI)) (ci := 7) (v := .ref dr) (C := RX7) (T := TX7) (N := 7) hx hb hts hi_X7 hown hK hP 0 rfl rfl 0 (by decide) (hts (.fieldLink RX7 12 "LeftQuills$Reader" "draft" "LLeftQuills$Office;") (wmx 1 rfl)) (fun _ h9 => h9) rfl dX7_readClause_70 ?_
        refine va_get (D := (dC, dI)) (ci := 5) (v := .int (nI st)) (C := RX5) (T := TX5) (N := 13) hx hb hts hi_X5 hown hK hP 3 rfl rfl 0 (by decide) (hts (.fieldLink RX7 66 "LeftQuills$Office" "stands" "Z") (wmx 2 rfl)) (fun _ h9 => h9) rfl dX7_readClause_73 ?_
        have hPc := hP.sub (ws' := [(h0, .inr (7, [.ref dr, .int fa, .ref nu, .ref le, .int (nI ln), .int (nI at9), .int fu]))]) [0] rfl
        have hDc := hD.sub (ws' := [(h0, .inr (7, [.ref dr, .int fa, .ref nu, .ref le, .int (nI ln), .int (nI at9), .int fu]))]) [0] (by decide) rfl
        have hFc := va_free (wc := [(h0, .inr (7, [.ref dr, .int fa, .ref nu, .ref le, .int (nI ln), .int (nI at9), .int fu]))]) hD hS hA [0] rfl
        refine va_calli (va_runV (As := [.int (nI st)]) (rest := []) ⟨hx, hb, hml, hown, hts⟩ (c_X7_startWord l dC dI cI cZ cQ h0 dr fa nu le ln at9 fu (nI st) H.size (by omega) (by omega)) (cwV 1 hts gX7_readClause_X7_startWord rfl rfl rfl (by decide +kernel) ⟨Nat.le_of_ble_eq_true rfl, Nat.le_of_ble_eq_true rfl⟩) ⟨fun a U g mk q => by obtain ⟨q0, q1, qP, qK, qD⟩ := q; exact ⟨q0, q1, qP, va_K.moved (u := U) (U := U.calling g mk a) (Vm.Alike.refl U.vm) qK, qD⟩, va_recv hK hP (ci := 7) (q0 := 0) rfl rfl, fun U hU hW => ⟨rfl, by rw [hU], by rw [hU]; exact hPc, va_K.moved hW.alike hK, hDc.weaken (fun _ _ _ _ => trivial)⟩⟩ rfl rfl hl.1 rfl (lv_room (Nat.le_of_ble_eq_true rfl)) dX7_readClause_76 ⟨Nat.le_of_ble_eq_true rfl, Nat.le_of_ble_eq_true rfl⟩) hS (fun q _ h => hFc q h) hFc (fun r56 u57 t H1 locs ht hvm hw58 hB hz1 hk1 hS => ?_)
        obtain ⟨i59, i61, k60, hk60, hP1, hD1⟩ := hB
        rw [ht] at hP1
        obtain ⟨hP, hD⟩ := va_join (wr := [(le, .inl (cI, 220, .inl fle)), (nu, .inl (cI, 5, .inl fnu)), (dr, .inr (5, [.int (nI st), .int bl, .int mm, .int (nI nq), .int (nI nh), .ref o5, .ref o6, .ref o7, .ref o8, .ref o9, .ref o10, .ref o11, .ref o12])), (o5, .inl (cI, 8, .inl fo5)), (o6, .inl (cI, 8, .inl fo6)), (o7, .inl (cI, 8, .inl fo7)), (o8, .inl (cI, 8, .inl fo8)), (o9, .inl (cI, 8, .inl fo9)), (o10, .inl (cI, 4, .inl fo10)), (o11, .inl (cI, 4, .inl fo11)), (o12, .inl (cI, 4, .inl fo12))]) (w1 := [(h0, .inr (7, [.ref dr, .int i59, .ref nu, .ref le, .int (nI ln), .int (nI k60), .int i61]))]) hP hD [0] [1, 2, 3, 4, 5, 6, 7, 8, 9, 10, 11] rfl rfl (by decide +kernel) (by decide +kernel) hk1 hFc hP1 hD1
        clear hP1 hD1
        clear hz1 hk1 hPc hDc hFc
        generalize H1 = H at hP hS ht ⊢
        have hP : va_P (dC, dI) vwCl [(le, .inl (cI, 220, .inl fle)), (nu, .inl (cI, 5, .inl fnu)), (dr, .inr (5, [.int (nI st), .int bl, .int mm, .int (nI nq), .int (nI nh), .ref o5, .ref o6, .ref o7, .ref o8, .ref o9, .ref o10, .ref o11, .ref o12])), (o5, .inl (cI, 8, .inl fo5)), (o6, .inl (cI, 8, .inl fo6)), (o7, .inl (cI, 8, .inl fo7)), (o8, .inl (cI, 8, .inl fo8)), (o9, .inl (cI, 8, .inl fo9)), (o10, .inl (cI, 4, .inl fo10)), (o11, .inl (cI, 4, .inl fo11)), (o12, .inl (cI, 4, .inl fo12)), (h0, .inr (7, [.ref dr, .int i59, .ref nu, .ref le, .int (nI ln), .int (nI k60), .int i61]))] H := hP
        have hD : va_D A [(le, .inl (cI, 220, .inl fle)), (nu, .inl (cI, 5, .inl fnu)), (dr, .inr (5, [.int (nI st), .int bl, .int mm, .int (nI nq), .int (nI nh), .ref o5, .ref o6, .ref o7, .ref o8, .ref o9, .ref o10, .ref o11, .ref o12])), (o5, .inl (cI, 8, .inl fo5)), (o6, .inl (cI, 8, .inl fo6)), (o7, .inl (cI, 8, .inl fo7)), (o8, .inl (cI, 8, .inl fo8)), (o9, .inl (cI, 8, .inl fo9)), (o10, .inl (cI, 4, .inl fo10)), (o11, .inl (cI, 4, .inl fo11)), (o12, .inl (cI, 4, .inl fo12)), (h0, .inr (7, [.ref dr, .int i59, .ref nu, .ref le, .int (nI ln), .int (nI k60), .int i61]))] := hD
        try dsimp only at hw58
        rcases hw58 with rfl | rfl
        ·
          refine lv_if_eq (tgt := 219) hx hb dX7_readClause_79 (by decide) (fun c62 => ?_) (fun c62 => ?_)
          · exact absurd c62 (by decide)
          clear c62
          refine lv_aload_n hx hb dX7_readClause_82 rfl (lv_at hl 1 rfl) ?_
          refine va_gets hx hb hZ_BLADE_LEAST hS hown (hts (.fieldLink RX7 78 "LeftQuills$Reader" "BLADE_LEAST" "[I") (wmx 4 rfl)) (fun _ h9 => h9) dX7_readClause_83 ?_
          refine va_gets hx hb hZ_BLADE_MOST hS hown (hts (.fieldLink RX7 81 "LeftQuills$Reader" "BLADE_MOST" "[I") (wmx 5 rfl)) (fun _ h9 => h9) dX7_readClause_86 ?_
          have hPc := hP.sub (ws' := [(h0, .inr (7, [.ref dr, .int i59, .ref nu, .ref le, .int (nI ln), .int (nI k60), .int i61])), (le, .inl (cI, 220, .inl fle)), (nu, .inl (cI, 5, .inl fnu))]) [11, 0, 1] rfl
          have hDc := hD.sub (ws' := [(h0, .inr (7, [.ref dr, .int i59, .ref nu, .ref le, .int (nI ln), .int (nI k60), .int i61])), (le, .inl (cI, 220, .inl fle)), (nu, .inl (cI, 5, .inl fnu))]) [11, 0, 1] (by decide) rfl
          have hFc := va_free (wc := [(h0, .inr (7, [.ref dr, .int i59, .ref nu, .ref le, .int (nI ln), .int (nI k60), .int i61])), (le, .inl (cI, 220, .inl fle)), (nu, .inl (cI, 5, .inl fnu))]) hD hS hA [11, 0, 1] rfl
          refine va_calli (va_runV (As := [.ref t_BLADE_LEAST, .ref t_BLADE_MOST]) (rest := []) ⟨hx, hb, hml, hown, hts⟩ (c_X7_readNumbers l dC dI cI cZ cQ h0 dr i59 nu le ln k60 i61 fle fnu t_BLADE_LEAST t_BLADE_MOST 2 g_BLADE_LEAST 2 g_BLADE_MOST H.size (by omega) (by omega) (by omega) (by omega)) (cwV 2 hts gX7_readClause_X7_readNumbers rfl rfl rfl (by decide +kernel) ⟨Nat.le_of_ble_eq_true rfl, Nat.le_of_ble_eq_true rfl⟩) ⟨fun a U g mk q => by obtain ⟨q0, q1, qP, qK, qD, qN, qT_t1, qT_t2⟩ := q; exact ⟨q0, q1, qP, va_K.moved (u := U) (U := U.calling g mk a) (Vm.Alike.refl U.vm) qK, qD, qN.calling, va_T.moved (u := U) (Vm.Alike.refl U.vm) qT_t1, va_T.moved (u := U) (Vm.Alike.refl U.vm) qT_t2⟩, va_recv hK hP (ci := 7) (q0 := 11) rfl rfl, fun U hU hW => ⟨rfl, by rw [hU], by rw [hU]; exact hPc, va_K.moved hW.alike hK, hDc.weaken (fun _ _ _ _ => trivial), hN.warm hW, by rw [hU]; exact va_T.moved hW.alike ((hT_t_BLADE_LEAST.kept hS.2.1).narrow hFc), by rw [hU]; exact va_T.moved hW.alike ((hT_t_BLADE_MOST.kept hS.2.1).narrow hFc)⟩⟩ rfl rfl hl.1 rfl (lv_room (Nat.le_of_ble_eq_true rfl)) dX7_readClause_89 ⟨Nat.le_of_ble_eq_true rfl, Nat.le_of_ble_eq_true rfl⟩) hS (fun q _ h => hFc q h) hFc (fun r63 u64 t H1 locs ht hvm hw65 hB hz1 hk1 hS => ?_)
          obtain ⟨f66, i67, i69, k68, hk68, hP1, hD1⟩ := hB
          rw [ht] at hP1
          obtain ⟨hP, hD⟩ := va_join (wr := [(dr, .inr (5, [.int (nI st), .int bl, .int mm, .int (nI nq), .int (nI nh), .ref o5, .ref o6, .ref o7, .ref o8, .ref o9, .ref o10, .ref o11, .ref o12])), (o5, .inl (cI, 8, .inl fo5)), (o6, .inl (cI, 8, .inl fo6)), (o7, .inl (cI, 8, .inl fo7)), (o8, .inl (cI, 8, .inl fo8)), (o9, .inl (cI, 8, .inl fo9)), (o10, .inl (cI, 4, .inl fo10)), (o11, .inl (cI, 4, .inl fo11)), (o12, .inl (cI, 4, .inl fo12))]) (w1 := [(h0, .inr (7, [.ref dr, .int i67, .ref nu, .ref le, .int (nI ln), .int (nI k68), .int i69])), (le, .inl (cI, 220, .inl fle)), (nu, .inl (cI, 5, .inl f66))]) hP hD [11, 0, 1] [2, 3, 4, 5, 6, 7, 8, 9, 10] rfl rfl (by decide +kernel) (by decide +kernel) hk1 hFc hP1 hD1
          clear hP1 hD1
          clear hz1 hk1 hPc hDc hFc
          generalize H1 = H at hP hS ht ⊢
          have hP : va_P (dC, dI) vwCl [(dr, .inr (5, [.int (nI st), .int bl, .int mm, .int (nI nq), .int (nI nh), .ref o5, .ref o6, .ref o7, .ref o8, .ref o9, .ref o10, .ref o11, .ref o12])), (o5, .inl (cI, 8, .inl fo5)), (o6, .inl (cI, 8, .inl fo6)), (o7, .inl (cI, 8, .inl fo7)), (o8, .inl (cI, 8, .inl fo8)), (o9, .inl (cI, 8, .inl fo9)), (o10, .inl (cI, 4, .inl fo10)), (o11, .inl (cI, 4, .inl fo11)), (o12, .inl (cI, 4, .inl fo12)), (h0, .inr (7, [.ref dr, .int i67, .ref nu, .ref le, .int (nI ln), .int (nI k68), .int i69])), (le, .inl (cI, 220, .inl fle)), (nu, .inl (cI, 5, .inl f66))] H := hP
          have hD : va_D A [(dr, .inr (5, [.int (nI st), .int bl, .int mm, .int (nI nq), .int (nI nh), .ref o5, .ref o6, .ref o7, .ref o8, .ref o9, .ref o10, .ref o11, .ref o12])), (o5, .inl (cI, 8, .inl fo5)), (o6, .inl (cI, 8, .inl fo6)), (o7, .inl (cI, 8, .inl fo7)), (o8, .inl (cI, 8, .inl fo8)), (o9, .inl (cI, 8, .inl fo9)), (o10, .inl (cI, 4, .inl fo10)), (o11, .inl (cI, 4, .inl fo11)), (o12, .inl (cI, 4, .inl fo12)), (h0, .inr (7, [.ref dr, .int i67, .ref nu, .ref le, .int (nI ln), .int (nI k68), .int i69])), (le, .inl (cI, 220, .inl fle)), (nu, .inl (cI, 5, .inl f66))] := hD
          try dsimp only at hw65
          rcases hw65 with rfl | rfl
          ·
            refine lv_if_eq (tgt := 219) hx hb dX7_readClause_92 (by decide) (fun c70 => ?_) (fun c70 => ?_)
            · exact absurd c70 (by decide)
            clear c70
            refine lv_aload_n hx hb dX7_readClause_95 rfl (lv_at hl 1 rfl) ?_
            refine va_get (D := (dC, dI)) (ci := 7) (v := .ref dr) (C := RX7) (T := TX7) (N := 7) hx hb hts hi_X7 hown hK hP 9 rfl rfl 0 (by decide) (hts (.fieldLink RX7 12 "LeftQuills$Reader" "draft" "LLeftQuills$Office;") (wmx 1 rfl)) (fun _ h9 => h9) rfl dX7_readClause_96 ?_
            refine lv_aload_n hx hb dX7_readClause_99 rfl (lv_at hl 1 rfl) ?_
            refine va_get (D := (dC, dI)) (ci := 7) (v := .ref nu) (C := RX7) (T := TX7) (N := 7) hx hb hts hi_X7 hown hK hP 9 rfl rfl 2 (by decide) (hts (.fieldLink RX7 22 "LeftQuills$Reader" "numbers" "[I") (wmx 6 rfl)) (fun _ h9 => h9) rfl dX7_readClause_100 ?_
            have hPc := hP.sub (ws' := [(dr, .inr (5, [.int (nI st), .int bl, .int mm, .int (nI nq), .int (nI nh), .ref o5, .ref o6, .ref o7, .ref o8, .ref o9, .ref o10, .ref o11, .ref o12])), (nu, .inl (cI, 5, .inl f66))]) [0, 11] rfl
            have hDc := hD.sub (ws' := [(dr, .inr (5, [.int (nI st), .int bl, .int mm, .int (nI nq), .int (nI nh), .ref o5, .ref o6, .ref o7, .ref o8, .ref o9, .ref o10, .ref o11, .ref o12])), (nu, .inl (cI, 5, .inl f66))]) [0, 11] (by decide) rfl
            have hFc := va_free (wc := [(dr, .inr (5, [.int (nI st), .int bl, .int mm, .int (nI nq), .int (nI nh), .ref o5, .ref o6, .ref o7, .ref o8, .ref o9, .ref o10, .ref o11, .ref o12])), (nu, .inl (cI, 5, .inl f66))]) hD hS hA [0, 11] rfl
            refine va_callv (va_runV (As := [.ref nu]) (rest := []) ⟨hx, hb, hml, hown, hts⟩ (c_X5_setBlade l dC dI cI cZ cQ dr st bl mm nq nh o5 o6 o7 o8 o9 o10 o11 o12 nu f66 H.size ) (cwV 1 hts gX7_readClause_X5_setBlade rfl rfl rfl (by decide +kernel) ⟨Nat.le_of_ble_eq_true rfl, Nat.le_of_ble_eq_true rfl⟩) ⟨fun a U g mk q => by obtain ⟨q0, q1, qP, qK, qD⟩ := q; exact ⟨q0, q1, qP, va_K.moved (u := U) (U := U.calling g mk a) (Vm.Alike.refl U.vm) qK, qD⟩, va_recv hK hP (ci := 5) (q0 := 0) rfl rfl, fun U hU hW => ⟨rfl, by rw [hU], by rw [hU]; exact hPc, va_K.moved hW.alike hK, hDc.weaken (fun _ _ _ _ => trivial)⟩⟩ rfl rfl hl.1 rfl (lv_room (Nat.le_of_ble_eq_true rfl)) dX7_readClause_103 ⟨Nat.le_of_ble_eq_true rfl, Nat.le_of_ble_eq_true rfl⟩) hS (fun q _ h => hFc q h) hFc (fun u72 t H1 locs ht hvm hw73 hB hz1 hk1 hS => ?_)
            obtain ⟨i75, i76, k74, hk74, hP1, hD1⟩ := hB
            rw [ht] at hP1
            obtain ⟨hP, hD⟩ := va_join (wr := [(o5, .inl (cI, 8, .inl fo5)), (o6, .inl (cI, 8, .inl fo6)), (o7, .inl (cI, 8, .inl fo7)), (o8, .inl (cI, 8, .inl fo8)), (o9, .inl (cI, 8, .inl fo9)), (o10, .inl (cI, 4, .inl fo10)), (o11, .inl (cI, 4, .inl fo11)), (o12, .inl (cI, 4, .inl fo12)), (h0, .inr (7, [.ref dr, .int i67, .ref nu, .ref le, .int (nI ln), .int (nI k68), .int i69])), (le, .inl (cI, 220, .inl fle))]) (w1 := [(dr, .inr (5, [.int (nI k74), .int i75, .int i76, .int (nI nq), .int (nI nh), .ref o5, .ref o6, .ref o7, .ref o8, .ref o9, .ref o10, .ref o11, .ref o12])), (nu, .inl (cI, 5, .inl f66))]) hP hD [0, 11] [1, 2, 3, 4, 5, 6, 7, 8, 9, 10] rfl rfl (by decide +kernel) (by decide +kernel) hk1 hFc hP1 hD1
            clear hP1 hD1
            clear hz1 hk1 hPc hDc hFc
            generalize H1 = H at hP hS ht ⊢
            have hP : va_P (dC, dI) vwCl [(o5, .inl (cI, 8, .inl fo5)), (o6, .inl (cI, 8, .inl fo6)), (o7, .inl (cI, 8, .inl fo7)), (o8, .inl (cI, 8, .inl fo8)), (o9, .inl (cI, 8, .inl fo9)), (o10, .inl (cI, 4, .inl fo10)), (o11, .inl (cI, 4, .inl fo11)), (o12, .inl (cI, 4, .inl fo12)), (h0, .inr (7, [.ref dr, .int i67, .ref nu, .ref le, .int (nI ln), .int (nI k68), .int i69])), (le, .inl (cI, 220, .inl fle)), (dr, .inr (5, [.int (nI k74), .int i75, .int i76, .int (nI nq), .int (nI nh), .ref o5, .ref o6, .ref o7, .ref o8, .ref o9, .ref o10, .ref o11, .ref o12])), (nu, .inl (cI, 5, .inl f66))] H := hP
            have hD : va_D A [(o5, .inl (cI, 8, .inl fo5)), (o6, .inl (cI, 8, .inl fo6)), (o7, .inl (cI, 8, .inl fo7)), (o8, .inl (cI, 8, .inl fo8)), (o9, .inl (cI, 8, .inl fo9)), (o10, .inl (cI, 4, .inl fo10)), (o11, .inl (cI, 4, .inl fo11)), (o12, .inl (cI, 4, .inl fo12)), (h0, .inr (7, [.ref dr, .int i67, .ref nu, .ref le, .int (nI ln), .int (nI k68), .int i69])), (le, .inl (cI, 220, .inl fle)), (dr, .inr (5, [.int (nI k74), .int i75, .int i76, .int (nI nq), .int (nI nh), .ref o5, .ref o6, .ref o7, .ref o8, .ref o9, .ref o10, .ref o11, .ref o12])), (nu, .inl (cI, 5, .inl f66))] := hD
            try dsimp only at hw73
            refine lv_goto (tgt := 219) hx hb dX7_readClause_106 (by decide) ?_
            have hP9 := hP.sub (ws' := [(h0, .inr (7, [.ref dr, .int i67, .ref nu, .ref le, .int (nI ln), .int (nI k68), .int i69])), (le, .inl (cI, 220, .inl fle)), (nu, .inl (cI, 5, .inl f66)), (dr, .inr (5, [.int (nI k74), .int i75, .int i76, .int (nI nq), .int (nI nh), .ref o5, .ref o6, .ref o7, .ref o8, .ref o9, .ref o10, .ref o11, .ref o12])), (o5, .inl (cI, 8, .inl fo5)), (o6, .inl (cI, 8, .inl fo6)), (o7, .inl (cI, 8, .inl fo7)), (o8, .inl (cI, 8, .inl fo8)), (o9, .inl (cI, 8, .inl fo9)), (o10, .inl (cI, 4, .inl fo10)), (o11, .inl (cI, 4, .inl fo11)), (o12, .inl (cI, 4, .inl fo12))]) [8, 9, 11, 10, 0, 1, 2, 3, 4, 5, 6, 7] rfl
            have hD9 := hD.sub (ws' := [(h0, .inr (7, [.ref dr, .int i67, .ref nu, .ref le, .int (nI ln), .int (nI k68), .int i69])), (le, .inl (cI, 220, .inl fle)), (nu, .inl (cI, 5, .inl f66)), (dr, .inr (5, [.int (nI k74), .int i75, .int i76, .int (nI nq), .int (nI nh), .ref o5, .ref o6, .ref o7, .ref o8, .ref o9, .ref o10, .ref o11, .ref o12])), (o5, .inl (cI, 8, .inl fo5)), (o6, .inl (cI, 8, .inl fo6)), (o7, .inl (cI, 8, .inl fo7)), (o8, .inl (cI, 8, .inl fo8)), (o9, .inl (cI, 8, .inl fo9)), (o10, .inl (cI, 4, .inl fo10)), (o11, .inl (cI, 4, .inl fo11)), (o12, .inl (cI, 4, .inl fo12))]) [8, 9, 11, 10, 0, 1, 2, 3, 4, 5, 6, 7] (by decide +kernel) rfl
            exact W.vret hx hb hr (fun t ht hW => ⟨⟨(fun _ => 0), rfl, trivial, ⟨f66, fo5, fo6, fo7, fo8, fo9, fo10, fo11, fo12, i67, i69, i75, i76, k68, k74, nq, nh, by omega, by omega, by omega, by omega, by rw [ht]; exact hP9, hD9⟩⟩, hS.F ht⟩) hS.2.2 dX7_readClause_219
          ·
            refine lv_if_eq (tgt := 219) hx hb dX7_readClause_92 (by decide) (fun c77 => ?_) (fun c77 => ?_)
            rotate_left
            · exact absurd c77 (by decide)
            clear c77
            have hP9 := hP.sub (ws' := [(h0, .inr (7, [.ref dr, .int i67, .ref nu, .ref le, .int (nI ln), .int (nI k68), .int i69])), (le, .inl (cI, 220, .inl fle)), (nu, .inl (cI, 5, .inl f66)), (dr, .inr (5, [.int (nI st), .int bl, .int mm, .int (nI nq), .int (nI nh), .ref o5, .ref o6, .ref o7, .ref o8, .ref o9, .ref o10, .ref o11, .ref o12])), (o5, .inl (cI, 8, .inl fo5)), (o6, .inl (cI, 8, .inl fo6)), (o7, .inl (cI, 8, .inl fo7)), (o8, .inl (cI, 8, .inl fo8)), (o9, .inl (cI, 8, .inl fo9)), (o10, .inl (cI, 4, .inl fo10)), (o11, .inl (cI, 4, .inl fo11)), (o12, .inl (cI, 4, .inl fo12))]) [9, 10, 11, 0, 1, 2, 3, 4, 5, 6, 7, 8] rfl
            have hD9 := hD.sub (ws' := [(h0, .inr (7, [.ref dr, .int i67, .ref nu, .ref le, .int (nI ln), .int (nI k68), .int i69])), (le, .inl (cI, 220, .inl fle)), (nu, .inl (cI, 5, .inl f66)), (dr, .inr (5, [.int (nI st), .int bl, .int mm, .int (nI nq), .int (nI nh), .ref o5, .ref o6, .ref o7, .ref o8, .ref o9, .ref o10, .ref o11, .ref o12])), (o5, .inl (cI, 8, .inl fo5)), (o6, .inl (cI, 8, .inl fo6)), (o7, .inl (cI, 8, .inl fo7)), (o8, .inl (cI, 8, .inl fo8)), (o9, .inl (cI, 8, .inl fo9)), (o10, .inl (cI, 4, .inl fo10)), (o11, .inl (cI, 4, .inl fo11)), (o12, .inl (cI, 4, .inl fo12))]) [9, 10, 11, 0, 1, 2, 3, 4, 5, 6, 7, 8] (by decide +kernel) rfl
            exact W.vret hx hb hr (fun t ht hW => ⟨⟨(fun _ => 0), rfl, trivial, ⟨f66, fo5, fo6, fo7, fo8, fo9, fo10, fo11, fo12, i67, i69, bl, mm, k68, st, nq, nh, by omega, by omega, by omega, by omega, by rw [ht]; exact hP9, hD9⟩⟩, hS.F ht⟩) hS.2.2 dX7_readClause_219
        ·
          refine lv_if_eq (tgt := 219) hx hb dX7_readClause_79 (by decide) (fun c78 => ?_) (fun c78 => ?_)
          rotate_left
          · exact absurd c78 (by decide)
          clear c78
          have hP9 := hP.sub (ws' := [(h0, .inr (7, [.ref dr, .int i59, .ref nu, .ref le, .int (nI ln), .int (nI k60), .int i61])), (le, .inl (cI, 220, .inl fle)), (nu, .inl (cI, 5, .inl fnu)), (dr, .inr (5, [.int (nI st), .int bl, .int mm, .int (nI nq), .int (nI nh), .ref o5, .ref o6, .ref o7, .ref o8, .ref o9, .ref o10, .ref o11, .ref o12])), (o5, .inl (cI, 8, .inl fo5)), (o6, .inl (cI, 8, .inl fo6)), (o7, .inl (cI, 8, .inl fo7)), (o8, .inl (cI, 8, .inl fo8)), (o9, .inl (cI, 8, .inl fo9)), (o10, .inl (cI, 4, .inl fo10)), (o11, .inl (cI, 4, .inl fo11)), (o12, .inl (cI, 4, .inl fo12))]) [11, 0, 1, 2, 3, 4, 5, 6, 7, 8, 9, 10] rfl
          have hD9 := hD.sub (ws' := [(h0, .inr (7, [.ref dr, .int i59, .ref nu, .ref le, .int (nI ln), .int (nI k60), .int i61])), (le, .inl (cI, 220, .inl fle)), (nu, .inl (cI, 5, .inl fnu)), (dr, .inr (5, [.int (nI st), .int bl, .int mm, .int (nI nq), .int (nI nh), .ref o5, .ref o6, .ref o7, .ref o8, .ref o9, .ref o10, .ref o11, .ref o12])), (o5, .inl (cI, 8, .inl fo5)), (o6, .inl (cI, 8, .inl fo6)), (o7, .inl (cI, 8, .inl fo7)), (o8, .inl (cI, 8, .inl fo8)), (o9, .inl (cI, 8, .inl fo9)), (o10, .inl (cI, 4, .inl fo10)), (o11, .inl (cI, 4, .inl fo11)), (o12, .inl (cI, 4, .inl fo12))]) [11, 0, 1, 2, 3, 4, 5, 6, 7, 8, 9, 10] (by decide +kernel) rfl
          exact W.vret hx hb hr (fun t ht hW => ⟨⟨(fun _ => 0), rfl, trivial, ⟨fnu, fo5, fo6, fo7, fo8, fo9, fo10, fo11, fo12, i59, i61, bl, mm, k60, st, nq, nh, by omega, by omega, by omega, by omega, by rw [ht]; exact hP9, hD9⟩⟩, hS.F ht⟩) hS.2.2 dX7_readClause_219
      by_cases c79 : r1 = 113
      · refine lv_lookup (tgt := 109) (off := 77) hx hb dX7_readClause_32 (by decide) (by rw [c79]; decide) (by decide) ?_
        refine lv_aload_n hx hb dX7_readClause_109 rfl (lv_at hl 1 rfl) ?_
        refine lv_aload_n hx hb dX7_readClause_110 rfl (lv_at hl 1 rfl) ?_
        refine va_get (D := (dC, dI)) (ci := 7) (v := .ref dr) (C := RX7) (T := TX7) (N := 7) hx hb hts hi_X7 hown hK hP 0 rfl rfl 0 (by decide) (hts (.fieldLink RX7 12 "LeftQuills$Reader" "draft" "LLeftQuills$Office;") (wmx 1 rfl)) (fun _ h9 => h9) rfl dX7_readClause_111 ?_
        refine va_get (D := (dC, dI)) (ci := 5) (v := .int (nI nq)) (C := RX5) (T := TX5) (N := 13) hx hb hts hi_X5 hown hK hP 3 rfl rfl 3 (by decide) (hts (.fieldLink RX7 92 "LeftQuills$Office" "quills" "I") (wmx 7 rfl)) (fun _ h9 => h9) rfl dX7_readClause_114 ?_
        refine lv_bipush (v := 8) hx hb dX7_readClause_117 (by decide) ?_
        refine lv_icmp_lt (tgt := 126) hx hb dX7_readClause_119 (by decide) (fun c80 => ?_) (fun c80 => ?_)
        ·
          have c80 : nq < 8 := (nI_ltI (a := nq) (b := 8) (by omega) (by omega)).mp c80
          refine lv_iconst (v := 0) hx hb dX7_readClause_126 (by decide) ?_
          have hPc := hP.sub (ws' := [(h0, .inr (7, [.ref dr, .int fa, .ref nu, .ref le, .int (nI ln), .int (nI at9), .int fu]))]) [0] rfl
          have hDc := hD.sub (ws' := [(h0, .inr (7, [.ref dr, .int fa, .ref nu, .ref le, .int (nI ln), .int (nI at9), .int fu]))]) [0] (by decide) rfl
          have hFc := va_free (wc := [(h0, .inr (7, [.ref dr, .int fa, .ref nu, .ref le, .int (nI ln), .int (nI at9), .int fu]))]) hD hS hA [0] rfl
          refine va_calli (va_runV (As := [.int 0]) (rest := []) ⟨hx, hb, hml, hown, hts⟩ (c_X7_startWord l dC dI cI cZ cQ h0 dr fa nu le ln at9 fu 0 H.size (by omega) (by omega)) (cwV 1 hts gX7_readClause_X7_startWord rfl rfl rfl (by decide +kernel) ⟨Nat.le_of_ble_eq_true rfl, Nat.le_of_ble_eq_true rfl⟩) ⟨fun a U g mk q => by obtain ⟨q0, q1, qP, qK, qD⟩ := q; exact ⟨q0, q1, qP, va_K.moved (u := U) (U := U.calling g mk a) (Vm.Alike.refl U.vm) qK, qD⟩, va_recv hK hP (ci := 7) (q0 := 0) rfl rfl, fun U hU hW => ⟨rfl, by rw [hU], by rw [hU]; exact hPc, va_K.moved hW.alike hK, hDc.weaken (fun _ _ _ _ => trivial)⟩⟩ rfl rfl hl.1 rfl (lv_room (Nat.le_of_ble_eq_true rfl)) dX7_readClause_127 ⟨Nat.le_of_ble_eq_true rfl, Nat.le_of_ble_eq_true rfl⟩) hS (fun q _ h => hFc q h) hFc (fun r81 u82 t H1 locs ht hvm hw83 hB hz1 hk1 hS => ?_)
          obtain ⟨i84, i86, k85, hk85, hP1, hD1⟩ := hB
          rw [ht] at hP1
          obtain ⟨hP, hD⟩ := va_join (wr := [(le, .inl (cI, 220, .inl fle)), (nu, .inl (cI, 5, .inl fnu)), (dr, .inr (5, [.int (nI st), .int bl, .int mm, .int (nI nq), .int (nI nh), .ref o5, .ref o6, .ref o7, .ref o8, .ref o9, .ref o10, .ref o11, .ref o12])), (o5, .inl (cI, 8, .inl fo5)), (o6, .inl (cI, 8, .inl fo6)), (o7, .inl (cI, 8, .inl fo7)), (o8, .inl (cI, 8, .inl fo8)), (o9, .inl (cI, 8, .inl fo9)), (o10, .inl (cI, 4, .inl fo10)), (o11, .inl (cI, 4, .inl fo11)), (o12, .inl (cI, 4, .inl fo12))]) (w1 := [(h0, .inr (7, [.ref dr, .int i84, .ref nu, .ref le, .int (nI ln), .int (nI k85), .int i86]))]) hP hD [0] [1, 2, 3, 4, 5, 6, 7, 8, 9, 10, 11] rfl rfl (by decide +kernel) (by decide +kernel) hk1 hFc hP1 hD1
          clear hP1 hD1
          clear hz1 hk1 hPc hDc hFc
          generalize H1 = H at hP hS ht ⊢
          have hP : va_P (dC, dI) vwCl [(le, .inl (cI, 220, .inl fle)), (nu, .inl (cI, 5, .inl fnu)), (dr, .inr (5, [.int (nI st), .int bl, .int mm, .int (nI nq), .int (nI nh), .ref o5, .ref o6, .ref o7, .ref o8, .ref o9, .ref o10, .ref o11, .ref o12])), (o5, .inl (cI, 8, .inl fo5)), (o6, .inl (cI, 8, .inl fo6)), (o7, .inl (cI, 8, .inl fo7)), (o8, .inl (cI, 8, .inl fo8)), (o9, .inl (cI, 8, .inl fo9)), (o10, .inl (cI, 4, .inl fo10)), (o11, .inl (cI, 4, .inl fo11)), (o12, .inl (cI, 4, .inl fo12)), (h0, .inr (7, [.ref dr, .int i84, .ref nu, .ref le, .int (nI ln), .int (nI k85), .int i86]))] H := hP
          have hD : va_D A [(le, .inl (cI, 220, .inl fle)), (nu, .inl (cI, 5, .inl fnu)), (dr, .inr (5, [.int (nI st), .int bl, .int mm, .int (nI nq), .int (nI nh), .ref o5, .ref o6, .ref o7, .ref o8, .ref o9, .ref o10, .ref o11, .ref o12])), (o5, .inl (cI, 8, .inl fo5)), (o6, .inl (cI, 8, .inl fo6)), (o7, .inl (cI, 8, .inl fo7)), (o8, .inl (cI, 8, .inl fo8)), (o9, .inl (cI, 8, .inl fo9)), (o10, .inl (cI, 4, .inl fo10)), (o11, .inl (cI, 4, .inl fo11)), (o12, .inl (cI, 4, .inl fo12)), (h0, .inr (7, [.ref dr, .int i84, .ref nu, .ref le, .int (nI ln), .int (nI k85), .int i86]))] := hD
          try dsimp only at hw83
          rcases hw83 with rfl | rfl
          ·
            refine lv_if_eq (tgt := 219) hx hb dX7_readClause_130 (by decide) (fun c87 => ?_) (fun c87 => ?_)
            · exact absurd c87 (by decide)
            clear c87
            refine lv_aload_n hx hb dX7_readClause_133 rfl (lv_at hl 1 rfl) ?_
            refine va_gets hx hb hZ_QUILL_LEAST hS hown (hts (.fieldLink RX7 95 "LeftQuills$Reader" "QUILL_LEAST" "[I") (wmx 8 rfl)) (fun _ h9 => h9) dX7_readClause_134 ?_
            refine va_gets hx hb hZ_QUILL_MOST hS hown (hts (.fieldLink RX7 98 "LeftQuills$Reader" "QUILL_MOST" "[I") (wmx 9 rfl)) (fun _ h9 => h9) dX7_readClause_137 ?_
            have hPc := hP.sub (ws' := [(h0, .inr (7, [.ref dr, .int i84, .ref nu, .ref le, .int (nI ln), .int (nI k85), .int i86])), (le, .inl (cI, 220, .inl fle)), (nu, .inl (cI, 5, .inl fnu))]) [11, 0, 1] rfl
            have hDc := hD.sub (ws' := [(h0, .inr (7, [.ref dr, .int i84, .ref nu, .ref le, .int (nI ln), .int (nI k85), .int i86])), (le, .inl (cI, 220, .inl fle)), (nu, .inl (cI, 5, .inl fnu))]) [11, 0, 1] (by decide) rfl
            have hFc := va_free (wc := [(h0, .inr (7, [.ref dr, .int i84, .ref nu, .ref le, .int (nI ln), .int (nI k85), .int i86])), (le, .inl (cI, 220, .inl fle)), (nu, .inl (cI, 5, .inl fnu))]) hD hS hA [11, 0, 1] rfl
            refine va_calli (va_runV (As := [.ref t_QUILL_LEAST, .ref t_QUILL_MOST]) (rest := []) ⟨hx, hb, hml, hown, hts⟩ (c_X7_readNumbers l dC dI cI cZ cQ h0 dr i84 nu le ln k85 i86 fle fnu t_QUILL_LEAST t_QUILL_MOST 5 g_QUILL_LEAST 5 g_QUILL_MOST H.size (by omega) (by omega) (by omega) (by omega)) (cwV 2 hts gX7_readClause_X7_readNumbers rfl rfl rfl (by decide +kernel) ⟨Nat.le_of_ble_eq_true rfl, Nat.le_of_ble_eq_true rfl⟩) ⟨fun a U g mk q => by obtain ⟨q0, q1, qP, qK, qD, qN, qT_t1, qT_t2⟩ := q; exact ⟨q0, q1, qP, va_K.moved (u := U) (U := U.calling g mk a) (Vm.Alike.refl U.vm) qK, qD, qN.calling, va_T.moved (u := U) (Vm.Alike.refl U.vm) qT_t1, va_T.moved (u := U) (Vm.Alike.refl U.vm) qT_t2⟩, va_recv hK hP (ci := 7) (q0 := 11) rfl rfl, fun U hU hW => ⟨rfl, by rw [hU], by rw [hU]; exact hPc, va_K.moved hW.alike hK, hDc.weaken (fun _ _ _ _ => trivial), hN.warm hW, by rw [hU]; exact va_T.moved hW.alike ((hT_t_QUILL_LEAST.kept hS.2.1).narrow hFc), by rw [hU]; exact va_T.moved hW.alike ((hT_t_QUILL_MOST.kept hS.2.1).narrow hFc)⟩⟩ rfl rfl hl.1 rfl (lv_room (Nat.le_of_ble_eq_true rfl)) dX7_readClause_140 ⟨Nat.le_of_ble_eq_true rfl, Nat.le_of_ble_eq_true rfl⟩) hS (fun q _ h => hFc q h) hFc (fun r88 u89 t H1 locs ht hvm hw90 hB hz1 hk1 hS => ?_)
            obtain ⟨f91, i92, i94, k93, hk93, hP1, hD1⟩ := hB
            rw [ht] at hP1
            obtain ⟨hP, hD⟩ := va_join (wr := [(dr, .inr (5, [.int (nI st), .int bl, .int mm, .int (nI nq), .int (nI nh), .ref o5, .ref o6, .ref o7, .ref o8, .ref o9, .ref o10, .ref o11, .ref o12])), (o5, .inl (cI, 8, .inl fo5)), (o6, .inl (cI, 8, .inl fo6)), (o7, .inl (cI, 8, .inl fo7)), (o8, .inl (cI, 8, .inl fo8)), (o9, .inl (cI, 8, .inl fo9)), (o10, .inl (cI, 4, .inl fo10)), (o11, .inl (cI, 4, .inl fo11)), (o12, .inl (cI, 4, .inl fo12))]) (w1 := [(h0, .inr (7, [.ref dr, .int i92, .ref nu, .ref le, .int (nI ln), .int (nI k93), .int i94])), (le, .inl (cI, 220, .inl fle)), (nu, .inl (cI, 5, .inl f91))]) hP hD [11, 0, 1] [2, 3, 4, 5, 6, 7, 8, 9, 10] rfl rfl (by decide +kernel) (by decide +kernel) hk1 hFc hP1 hD1
            clear hP1 hD1
            clear hz1 hk1 hPc hDc hFc
            generalize H1 = H at hP hS ht ⊢
            have hP : va_P (dC, dI) vwCl [(dr, .inr (5, [.int (nI st), .int bl, .int mm, .int (nI nq), .int (nI nh), .ref o5, .ref o6, .ref o7, .ref o8, .ref o9, .ref o10, .ref o11, .ref o12])), (o5, .inl (cI, 8, .inl fo5)), (o6, .inl (cI, 8, .inl fo6)), (o7, .inl (cI, 8, .inl fo7)), (o8, .inl (cI, 8, .inl fo8)), (o9, .inl (cI, 8, .inl fo9)), (o10, .inl (cI, 4, .inl fo10)), (o11, .inl (cI, 4, .inl fo11)), (o12, .inl (cI, 4, .inl fo12)), (h0, .inr (7, [.ref dr, .int i92, .ref nu, .ref le, .int (nI ln), .int (nI k93), .int i94])), (le, .inl (cI, 220, .inl fle)), (nu, .inl (cI, 5, .inl f91))] H := hP
            have hD : va_D A [(dr, .inr (5, [.int (nI st), .int bl, .int mm, .int (nI nq), .int (nI nh), .ref o5, .ref o6, .ref o7, .ref o8, .ref o9, .ref o10, .ref o11, .ref o12])), (o5, .inl (cI, 8, .inl fo5)), (o6, .inl (cI, 8, .inl fo6)), (o7, .inl (cI, 8, .inl fo7)), (o8, .inl (cI, 8, .inl fo8)), (o9, .inl (cI, 8, .inl fo9)), (o10, .inl (cI, 4, .inl fo10)), (o11, .inl (cI, 4, .inl fo11)), (o12, .inl (cI, 4, .inl fo12)), (h0, .inr (7, [.ref dr, .int i92, .ref nu, .ref le, .int (nI ln), .int (nI k93), .int i94])), (le, .inl (cI, 220, .inl fle)), (nu, .inl (cI, 5, .inl f91))] := hD
            try dsimp only at hw90
            rcases hw90 with rfl | rfl
            ·
              refine lv_if_eq (tgt := 219) hx hb dX7_readClause_143 (by decide) (fun c95 => ?_) (fun c95 => ?_)
              · exact absurd c95 (by decide)
              clear c95
              refine lv_aload_n hx hb dX7_readClause_146 rfl (lv_at hl 1 rfl) ?_
              refine va_get (D := (dC, dI)) (ci := 7) (v := .ref dr) (C := RX7) (T := TX7) (N := 7) hx hb hts hi_X7 hown hK hP 9 rfl rfl 0 (by decide) (hts (.fieldLink RX7 12 "LeftQuills$Reader" "draft" "LLeftQuills$Office;") (wmx 1 rfl)) (fun _ h9 => h9) rfl dX7_readClause_147 ?_
              refine lv_aload_n hx hb dX7_readClause_150 rfl (lv_at hl 1 rfl) ?_
              refine va_get (D := (dC, dI)) (ci := 7) (v := .ref nu) (C := RX7) (T := TX7) (N := 7) hx hb hts hi_X7 hown hK hP 9 rfl rfl 2 (by decide) (hts (.fieldLink RX7 22 "LeftQuills$Reader" "numbers" "[I") (wmx 6 rfl)) (fun _ h9 => h9) rfl dX7_readClause_151 ?_
              have hPc := hP.sub (ws' := [(dr, .inr (5, [.int (nI st), .int bl, .int mm, .int (nI nq), .int (nI nh), .ref o5, .ref o6, .ref o7, .ref o8, .ref o9, .ref o10, .ref o11, .ref o12])), (o5, .inl (cI, 8, .inl fo5)), (o6, .inl (cI, 8, .inl fo6)), (o7, .inl (cI, 8, .inl fo7)), (o8, .inl (cI, 8, .inl fo8)), (o9, .inl (cI, 8, .inl fo9)), (nu, .inl (cI, 5, .inl f91))]) [0, 1, 2, 3, 4, 5, 11] rfl
              have hDc := hD.sub (ws' := [(dr, .inr (5, [.int (nI st), .int bl, .int mm, .int (nI nq), .int (nI nh), .ref o5, .ref o6, .ref o7, .ref o8, .ref o9, .ref o10, .ref o11, .ref o12])), (o5, .inl (cI, 8, .inl fo5)), (o6, .inl (cI, 8, .inl fo6)), (o7, .inl (cI, 8, .inl fo7)), (o8, .inl (cI, 8, .inl fo8)), (o9, .inl (cI, 8, .inl fo9)), (nu, .inl (cI, 5, .inl f91))]) [0, 1, 2, 3, 4, 5, 11] (by decide) rfl
              have hFc := va_free (wc := [(dr, .inr (5, [.int (nI st), .int bl, .int mm, .int (nI nq), .int (nI nh), .ref o5, .ref o6, .ref o7, .ref o8, .ref o9, .ref o10, .ref o11, .ref o12])), (o5, .inl (cI, 8, .inl fo5)), (o6, .inl (cI, 8, .inl fo6)), (o7, .inl (cI, 8, .inl fo7)), (o8, .inl (cI, 8, .inl fo8)), (o9, .inl (cI, 8, .inl fo9)), (nu, .inl (cI, 5, .inl f91))]) hD hS hA [0, 1, 2, 3, 4, 5, 11] rfl
              refine va_callv (va_runV (As := [.ref nu]) (rest := []) ⟨hx, hb, hml, hown, hts⟩ (c_X5_addQuill l dC dI cI cZ cQ dr st bl mm nq nh o5 o6 o7 o8 o9 o10 o11 o12 fo5 fo6 fo7 fo8 fo9 nu f91 H.size (by omega) (by omega)) (cwV 1 hts gX7_readClause_X5_addQuill rfl rfl rfl (by decide +kernel) ⟨Nat.le_of_ble_eq_true rfl, Nat.le_of_ble_eq_true rfl⟩) ⟨fun a U g mk q => by obtain ⟨q0, q1, qP, qK, qD⟩ := q; exact ⟨q0, q1, qP, va_K.moved (u := U) (U := U.calling g mk a) (Vm.Alike.refl U.vm) qK, qD⟩, va_recv hK hP (ci := 5) (q0 := 0) rfl rfl, fun U hU hW => ⟨rfl, by rw [hU], by rw [hU]; exact hPc, va_K.moved hW.alike hK, hDc.weaken (fun _ _ _ _ => trivial)⟩⟩ rfl rfl hl.1 rfl (lv_room (Nat.le_of_ble_eq_true rfl)) dX7_readClause_154 ⟨Nat.le_of_ble_eq_true rfl, Nat.le_of_ble_eq_true rfl⟩) hS (fun q _ h => hFc q h) hFc (fun u97 t H1 locs ht hvm hw98 hB hz1 hk1 hS => ?_)
              obtain ⟨f99, f100, f101, f102, f103, k104, hk104, hP1, hD1⟩ := hB
              rw [ht] at hP1
              obtain ⟨hP, hD⟩ := va_join (wr := [(o10, .inl (cI, 4, .inl fo10)), (o11, .inl (cI, 4, .inl fo11)), (o12, .inl (cI, 4, .inl fo12)), (h0, .inr (7, [.ref dr, .int i92, .ref nu, .ref le, .int (nI ln), .int (nI k93), .int i94])), (le, .inl (cI, 220, .inl fle))]) (w1 := [(dr, .inr (5, [.int (nI st), .int bl, .int mm, .int (nI k104), .int (nI nh), .ref o5, .ref o6, .ref o7, .ref o8, .ref o9, .ref o10, .ref o11, .ref o12])), (o5, .inl (cI, 8, .inl f99)), (o6, .inl (cI, 8, .inl f100)), (o7, .inl (cI, 8, .inl f101)), (o8, .inl (cI, 8, .inl f102)), (o9, .inl (cI, 8, .inl f103)), (nu, .inl (cI, 5, .inl f91))]) hP hD [0, 1, 2, 3, 4, 5, 11] [6, 7, 8, 9, 10] rfl rfl (by decide +kernel) (by decide +kernel) hk1 hFc hP1 hD1
              clear hP1 hD1
              clear hz1 hk1 hPc hDc hFc
              generalize H1 = H at hP hS ht ⊢
              have hP : va_P (dC, dI) vwCl [(o10, .inl (cI, 4, .inl fo10)), (o11, .inl (cI, 4, .inl fo11)), (o12, .inl (cI, 4, .inl fo12)), (h0, .inr (7, [.ref dr, .int i92, .ref nu, .ref le, .int (nI ln), .int (nI k93), .int i94])), (le, .inl (cI, 220, .inl fle)), (dr, .inr (5, [.int (nI st), .int bl, .int mm, .int (nI k104), .int (nI nh), .ref o5, .ref o6, .ref o7, .ref o8, .ref o9, .ref o10, .ref o11, .ref o12])), (o5, .inl (cI, 8, .inl f99)), (o6, .inl (cI, 8, .inl f100)), (o7, .inl (cI, 8, .inl f101)), (o8, .inl (cI, 8, .inl f102)), (o9, .inl (cI, 8, .inl f103)), (nu, .inl (cI, 5, .inl f91))] H := hP
              have hD : va_D A [(o10, .inl (cI, 4, .inl fo10)), (o11, .inl (cI, 4, .inl fo11)), (o12, .inl (cI, 4, .inl fo12)), (h0, .inr (7, [.ref dr, .int i92, .ref nu, .ref le, .int (nI ln), .int (nI k93), .int i94])), (le, .inl (cI, 220, .inl fle)), (dr, .inr (5, [.int (nI st), .int bl, .int mm, .int (nI k104), .int (nI nh), .ref o5, .ref o6, .ref o7, .ref o8, .ref o9, .ref o10, .ref o11, .ref o12])), (o5, .inl (cI, 8, .inl f99)), (o6, .inl (cI, 8, .inl f100)), (o7, .inl (cI, 8, .inl f101)), (o8, .inl (cI, 8, .inl f102)), (o9, .inl (cI, 8, .inl f103)), (nu, .inl (cI, 5, .inl f91))] := hD
              try dsimp only at hw98
              refine lv_goto (tgt := 219) hx hb dX7_readClause_157 (by decide) ?_
              have hP9 := hP.sub (ws' := [(h0, .inr (7, [.ref dr, .int i92, .ref nu, .ref le, .int (nI ln), .int (nI k93), .int i94])), (le, .inl (cI, 220, .inl fle)), (nu, .inl (cI, 5, .inl f91)), (dr, .inr (5, [.int (nI st), .int bl, .int mm, .int (nI k104), .int (nI nh), .ref o5, .ref o6, .ref o7, .ref o8, .ref o9, .ref o10, .ref o11, .ref o12])), (o5, .inl (cI, 8, .inl f99)), (o6, .inl (cI, 8, .inl f100)), (o7, .inl (cI, 8, .inl f101)), (o8, .inl (cI, 8, .inl f102)), (o9, .inl (cI, 8, .inl f103)), (o10, .inl (cI, 4, .inl fo10)), (o11, .inl (cI, 4, .inl fo11)), (o12, .inl (cI, 4, .inl fo12))]) [3, 4, 11, 5, 6, 7, 8, 9, 10, 0, 1, 2] rfl
              have hD9 := hD.sub (ws' := [(h0, .inr (7, [.ref dr, .int i92, .ref nu, .ref le, .int (nI ln), .int (nI k93), .int i94])), (le, .inl (cI, 220, .inl fle)), (nu, .inl (cI, 5, .inl f91)), (dr, .inr (5, [.int (nI st), .int bl, .int mm, .int (nI k104), .int (nI nh), .ref o5, .ref o6, .ref o7, .ref o8, .ref o9, .ref o10, .ref o11, .ref o12])), (o5, .inl (cI, 8, .inl f99)), (o6, .inl (cI, 8, .inl f100)), (o7, .inl (cI, 8, .inl f101)), (o8, .inl (cI, 8, .inl f102)), (o9, .inl (cI, 8, .inl f103)), (o10, .inl (cI, 4, .inl fo10)), (o11, .inl (cI, 4, .inl fo11)), (o12, .inl (cI, 4, .inl fo12))]) [3, 4, 11, 5, 6, 7, 8, 9, 10, 0, 1, 2] (by decide +kernel) rfl
              exact W.vret hx hb hr (fun t ht hW => ⟨⟨(fun _ => 0), rfl, trivial, ⟨f91, f99, f100, f101, f102, f103, fo10, fo11, fo12, i92, i94, bl, mm, k93, st, k104, nh, by omega, by omega, by omega, by omega, by rw [ht]; exact hP9, hD9⟩⟩, hS.F ht⟩) hS.2.2 dX7_readClause_219
            ·
              refine lv_if_eq (tgt := 219) hx hb dX7_readClause_143 (by decide) (fun c105 => ?_) (fun c105 => ?_)
              rotate_left
              · exact absurd c105 (by decide)
              clear c105
              have hP9 := hP.sub (ws' := [(h0, .inr (7, [.ref dr, .int i92, .ref nu, .ref le, .int (nI ln), .int (nI k93), .int i94])), (le, .inl (cI, 220, .inl fle)), (nu, .inl (cI, 5, .inl f91)), (dr, .inr (5, [.int (nI st), .int bl, .int mm, .int (nI nq), .int (nI nh), .ref o5, .ref o6, .ref o7, .ref o8, .ref o9, .ref o10, .ref o11, .ref o12])), (o5, .inl (cI, 8, .inl fo5)), (o6, .inl (cI, 8, .inl fo6)), (o7, .inl (cI, 8, .inl fo7)), (o8, .inl (cI, 8, .inl fo8)), (o9, .inl (cI, 8, .inl fo9)), (o10, .inl (cI, 4, .inl fo10)), (o11, .inl (cI, 4, .inl fo11)), (o12, .inl (cI, 4, .inl fo12))]) [9, 10, 11, 0, 1, 2, 3, 4, 5, 6, 7, 8] rfl
              have hD9 := hD.sub (ws' := [(h0, .inr (7, [.ref dr, .int i92, .ref nu, .ref le, .int (nI ln), .int (nI k93), .int i94])), (le, .inl (cI, 220, .inl fle)), (nu, .inl (cI, 5, .inl f91)), (dr, .inr (5, [.int (nI st), .int bl, .int mm, .int (nI nq), .int (nI nh), .ref o5, .ref o6, .ref o7, .ref o8, .ref o9, .ref o10, .ref o11, .ref o12])), (o5, .inl (cI, 8, .inl fo5)), (o6, .inl (cI, 8, .inl fo6)), (o7, .inl (cI, 8, .inl fo7)), (o8, .inl (cI, 8, .inl fo8)), (o9, .inl (cI, 8, .inl fo9)), (o10, .inl (cI, 4, .inl fo10)), (o11, .inl (cI, 4, .inl fo11)), (o12, .inl (cI, 4, .inl fo12))]) [9, 10, 11, 0, 1, 2, 3, 4, 5, 6, 7, 8] (by decide +kernel) rfl
              exact W.vret hx hb hr (fun t ht hW => ⟨⟨(fun _ => 0), rfl, trivial, ⟨f91, fo5, fo6, fo7, fo8, fo9, fo10, fo11, fo12, i92, i94, bl, mm, k93, st, nq, nh, by omega, by omega, by omega, by omega, by rw [ht]; exact hP9, hD9⟩⟩, hS.F ht⟩) hS.2.2 dX7_readClause_219
          ·
            refine lv_if_eq (tgt := 219) hx hb dX7_readClause_130 (by decide) (fun c106 => ?_) (fun c106 => ?_)
            rotate_left
            · exact absurd c106 (by decide)
            clear c106
            have hP9 := hP.sub (ws' := [(h0, .inr (7, [.ref dr, .int i84, .ref nu, .ref le, .int (nI ln), .int (nI k85), .int i86])), (le, .inl (cI, 220, .inl fle)), (nu, .inl (cI, 5, .inl fnu)), (dr, .inr (5, [.int (nI st), .int bl, .int mm, .int (nI nq), .int (nI nh), .ref o5, .ref o6, .ref o7, .ref o8, .ref o9, .ref o10, .ref o11, .ref o12])), (o5, .inl (cI, 8, .inl fo5)), (o6, .inl (cI, 8, .inl fo6)), (o7, .inl (cI, 8, .inl fo7)), (o8, .inl (cI, 8, .inl fo8)), (o9, .inl (cI, 8, .inl fo9)), (o10, .inl (cI, 4, .inl fo10)), (o11, .inl (cI, 4, .inl fo11)), (o12, .inl (cI, 4, .inl fo12))]) [11, 0, 1, 2, 3, 4, 5, 6, 7, 8, 9, 10] rfl
            have hD9 := hD.sub (ws' := [(h0, .inr (7, [.ref dr, .int i84, .ref nu, .ref le, .int (nI ln), .int (nI k85), .int i86])), (le, .inl (cI, 220, .inl fle)), (nu, .inl (cI, 5, .inl fnu)), (dr, .inr (5, [.int (nI st), .int bl, .int mm, .int (nI nq), .int (nI nh), .ref o5, .ref o6, .ref o7, .ref o8, .ref o9, .ref o10, .ref o11, .ref o12])), (o5, .inl (cI, 8, .inl fo5)), (o6, .inl (cI, 8, .inl fo6)), (o7, .inl (cI, 8, .inl fo7)), (o8, .inl (cI, 8, .inl fo8)), (o9, .inl (cI, 8, .inl fo9)), (o10, .inl (cI, 4, .inl fo10)), (o11, .inl (cI, 4, .inl fo11)), (o12, .inl (cI, 4, .inl fo12))]) [11, 0, 1, 2, 3, 4, 5, 6, 7, 8, 9, 10] (by decide +kernel) rfl
            exact W.vret hx hb hr (fun t ht hW => ⟨⟨(fun _ => 0), rfl, trivial, ⟨fnu, fo5, fo6, fo7, fo8, fo9, fo10, fo11, fo12, i84, i86, bl, mm, k85, st, nq, nh, by omega, by omega, by omega, by omega, by rw [ht]; exact hP9, hD9⟩⟩, hS.F ht⟩) hS.2.2 dX7_readClause_219
        ·
          have c80 : ¬ nq < 8 := fun h => c80 ((nI_ltI (a := nq) (b := 8) (by omega) (by omega)).mpr h)
          refine lv_iconst (v := 1) hx hb dX7_readClause_122 (by decide) ?_
          refine lv_goto (tgt := 127) hx hb dX7_readClause_123 (by decide) ?_
          have hPc := hP.sub (ws' := [(h0, .inr (7, [.ref dr, .int fa, .ref nu, .ref le, .int (nI ln), .int (nI at9), .int fu]))]) [0] rfl
          have hDc := hD.sub (ws' := [(h0, .inr (7, [.ref dr, .int fa, .ref nu, .ref le, .int (nI ln), .int (nI at9), .int fu]))]) [0] (by decide) rfl
          have hFc := va_free (wc := [(h0, .inr (7, [.ref dr, .int fa, .ref nu, .ref le, .int (nI ln), .int (nI at9), .int fu]))]) hD hS hA [0] rfl
          refine va_calli (va_runV (As := [.int 1]) (rest := []) ⟨hx, hb, hml, hown, hts⟩ (c_X7_startWord l dC dI cI cZ cQ h0 dr fa nu le ln at9 fu 1 H.size (by omega) (by omega)) (cwV 1 hts gX7_readClause_X7_startWord rfl rfl rfl (by decide +kernel) ⟨Nat.le_of_ble_eq_true rfl, Nat.le_of_ble_eq_true rfl⟩) ⟨fun a U g mk q => by obtain ⟨q0, q1, qP, qK, qD⟩ := q; exact ⟨q0, q1, qP, va_K.moved (u := U) (U := U.calling g mk a) (Vm.Alike.refl U.vm) qK, qD⟩, va_recv hK hP (ci := 7) (q0 := 0) rfl rfl, fun U hU hW => ⟨rfl, by rw [hU], by rw [hU]; exact hPc, va_K.moved hW.alike hK, hDc.weaken (fun _ _ _ _ => trivial)⟩⟩ rfl rfl hl.1 rfl (lv_room (Nat.le_of_ble_eq_true rfl)) dX7_readClause_127 ⟨Nat.le_of_ble_eq_true rfl, Nat.le_of_ble_eq_true rfl⟩) hS (fun q _ h => hFc q h) hFc (fun r107 u108 t H1 locs ht hvm hw109 hB hz1 hk1 hS => ?_)
          obtain ⟨i110, i112, k111, hk111, hP1, hD1⟩ := hB
          rw [ht] at hP1
          obtain ⟨hP, hD⟩ := va_join (wr := [(le, .inl (cI, 220, .inl fle)), (nu, .inl (cI, 5, .inl fnu)), (dr, .inr (5, [.int (nI st), .int bl, .int mm, .int (nI nq), .int (nI nh), .ref o5, .ref o6, .ref o7, .ref o8, .ref o9, .ref o10, .ref o11, .ref o12])), (o5, .inl (cI, 8, .inl fo5)), (o6, .inl (cI, 8, .inl fo6)), (o7, .inl (cI, 8, .inl fo7)), (o8, .inl (cI, 8, .inl fo8)), (o9, .inl (cI, 8, .inl fo9)), (o10, .inl (cI, 4, .inl fo10)), (o11, .inl (cI, 4, .inl fo11)), (o12, .inl (cI, 4, .inl fo12))]) (w1 := [(h0, .inr (7, [.ref dr, .int i110, .ref nu, .ref le, .int (nI ln), .int (nI k111), .int i112]))]) hP hD [0] [1, 2, 3, 4, 5, 6, 7, 8, 9, 10, 11] rfl rfl (by decide +kernel) (by decide +kernel) hk1 hFc hP1 hD1
          clear hP1 hD1
          clear hz1 hk1 hPc hDc hFc
          generalize H1 = H at hP hS ht ⊢
          have hP : va_P (dC, dI) vwCl [(le, .inl (cI, 220, .inl fle)), (nu, .inl (cI, 5, .inl fnu)), (dr, .inr (5, [.int (nI st), .int bl, .int mm, .int (nI nq), .int (nI nh), .ref o5, .ref o6, .ref o7, .ref o8, .ref o9, .ref o10, .ref o11, .ref o12])), (o5, .inl (cI, 8, .inl fo5)), (o6, .inl (cI, 8, .inl fo6)), (o7, .inl (cI, 8, .inl fo7)), (o8, .inl (cI, 8, .inl fo8)), (o9, .inl (cI, 8, .inl fo9)), (o10, .inl (cI, 4, .inl fo10)), (o11, .inl (cI, 4, .inl fo11)), (o12, .inl (cI, 4, .inl fo12)), (h0, .inr (7, [.ref dr, .int i110, .ref nu, .ref le, .int (nI ln), .int (nI k111), .int i112]))] H := hP
          have hD : va_D A [(le, .inl (cI, 220, .inl fle)), (nu, .inl (cI, 5, .inl fnu)), (dr, .inr (5, [.int (nI st), .int bl, .int mm, .int (nI nq), .int (nI nh), .ref o5, .ref o6, .ref o7, .ref o8, .ref o9, .ref o10, .ref o11, .ref o12])), (o5, .inl (cI, 8, .inl fo5)), (o6, .inl (cI, 8, .inl fo6)), (o7, .inl (cI, 8, .inl fo7)), (o8, .inl (cI, 8, .inl fo8)), (o9, .inl (cI, 8, .inl fo9)), (o10, .inl (cI, 4, .inl fo10)), (o11, .inl (cI, 4, .inl fo11)), (o12, .inl (cI, 4, .inl fo12)), (h0, .inr (7, [.ref dr, .int i110, .ref nu, .ref le, .int (nI ln), .int (nI k111), .int i112]))] := hD
          try dsimp only at hw109
          rcases hw109 with rfl | rfl
          ·
            refine lv_if_eq (tgt := 219) hx hb dX7_readClause_130 (by decide) (fun c113 => ?_) (fun c113 => ?_)
            · exact absurd c113 (by decide)
            clear c113
            refine lv_aload_n hx hb dX7_readClause_133 rfl (lv_at hl 1 rfl) ?_
            refine va_gets hx hb hZ_QUILL_LEAST hS hown (hts (.fieldLink RX7 95 "LeftQuills$Reader" "QUILL_LEAST" "[I") (wmx 8 rfl)) (fun _ h9 => h9) dX7_readClause_134 ?_
            refine va_gets hx hb hZ_QUILL_MOST hS hown (hts (.fieldLink RX7 98 "LeftQuills$Reader" "QUILL_MOST" "[I") (wmx 9 rfl)) (fun _ h9 => h9) dX7_readClause_137 ?_
            have hPc := hP.sub (ws' := [(h0, .inr (7, [.ref dr, .int i110, .ref nu, .ref le, .int (nI ln), .int (nI k111), .int i112])), (le, .inl (cI, 220, .inl fle)), (nu, .inl (cI, 5, .inl fnu))]) [11, 0, 1] rfl
            have hDc := hD.sub (ws' := [(h0, .inr (7, [.ref dr, .int i110, .ref nu, .ref le, .int (nI ln), .int (nI k111), .int i112])), (le, .inl (cI, 220, .inl fle)), (nu, .inl (cI, 5, .inl fnu))]) [11, 0, 1] (by decide) rfl
            have hFc := va_free (wc := [(h0, .inr (7, [.ref dr, .int i110, .ref nu, .ref le, .int (nI ln), .int (nI k111), .int i112])), (le, .inl (cI, 220, .inl fle)), (nu, .inl (cI, 5, .inl fnu))]) hD hS hA [11, 0, 1] rfl
            refine va_calli (va_runV (As := [.ref t_QUILL_LEAST, .ref t_QUILL_MOST]) (rest := []) ⟨hx, hb, hml, hown, hts⟩ (c_X7_readNumbers l dC dI cI cZ cQ h0 dr i110 nu le ln k111 i112 fle fnu t_QUILL_LEAST t_QUILL_MOST 5 g_QUILL_LEAST 5 g_QUILL_MOST H.size (by omega) (by omega) (by omega) (by omega)) (cwV 2 hts gX7_readClause_X7_readNumbers rfl rfl rfl (by decide +kernel) ⟨Nat.le_of_ble_eq_true rfl, Nat.le_of_ble_eq_true rfl⟩) ⟨fun a U g mk q => by obtain ⟨q0, q1, qP, qK, qD, qN, qT_t1, qT_t2⟩ := q; exact ⟨q0, q1, qP, va_K.moved (u := U) (U := U.calling g mk a) (Vm.Alike.refl U.vm) qK, qD, qN.calling, va_T.moved (u := U) (Vm.Alike.refl U.vm) qT_t1, va_T.moved (u := U) (Vm.Alike.refl U.vm) qT_t2⟩, va_recv hK hP (ci := 7) (q0 := 11) rfl rfl, fun U hU hW => ⟨rfl, by rw [hU], by rw [hU]; exact hPc, va_K.moved hW.alike hK, hDc.weaken (fun _ _ _ _ => trivial), hN.warm hW, by rw [hU]; exact va_T.moved hW.alike ((hT_t_QUILL_LEAST.kept hS.2.1).narrow hFc), by rw [hU]; exact va_T.moved hW.alike ((hT_t_QUILL_MOST.kept hS.2.1).narrow hFc)⟩⟩ rfl rfl hl.1 rfl (lv_room (Nat.le_of_ble_eq_true rfl)) dX7_readClause_140 ⟨Nat.le_of_ble_eq_true rfl, Nat.le_of_ble_eq_true rfl⟩) hS (fun q _ h => hFc q h) hFc (fun r114 u115 t H1 locs ht hvm hw116 hB hz1 hk1 hS => ?_)
            obtain ⟨f117, i118, i120, k119, hk119, hP1, hD1⟩ := hB
            rw [ht] at hP1
            obtain ⟨hP, hD⟩ := va_join (wr := [(dr, .inr (5, [.int (nI st), .int bl, .int mm, .int (nI nq), .int (nI nh), .ref o5, .ref o6, .ref o7, .ref o8, .ref o9, .ref o10, .ref o11, .ref o12])), (o5, .inl (cI, 8, .inl fo5)), (o6, .inl (cI, 8, .inl fo6)), (o7, .inl (cI, 8, .inl fo7)), (o8, .inl (cI, 8, .inl fo8)), (o9, .inl (cI, 8, .inl fo9)), (o10, .inl (cI, 4, .inl fo10)), (o11, .inl (cI, 4, .inl fo11)), (o12, .inl (cI, 4, .inl fo12))]) (w1 := [(h0, .inr (7, [.ref dr, .int i118, .ref nu, .ref le, .int (nI ln), .int (nI k119), .int i120])), (le, .inl (cI, 220, .inl fle)), (nu, .inl (cI, 5, .inl f117))]) hP hD [11, 0, 1] [2, 3, 4, 5, 6, 7, 8, 9, 10] rfl rfl (by decide +kernel) (by decide +kernel) hk1 hFc hP1 hD1
            clear hP1 hD1
            clear hz1 hk1 hPc hDc hFc
            generalize H1 = H at hP hS ht ⊢
            have hP : va_P (dC, dI) vwCl [(dr, .inr (5, [.int (nI st), .int bl, .int mm, .int (nI nq), .int (nI nh), .ref o5, .ref o6, .ref o7, .ref o8, .ref o9, .ref o10, .ref o11, .ref o12])), (o5, .inl (cI, 8, .inl fo5)), (o6, .inl (cI, 8, .inl fo6)), (o7, .inl (cI, 8, .inl fo7)), (o8, .inl (cI, 8, .inl fo8)), (o9, .inl (cI, 8, .inl fo9)), (o10, .inl (cI, 4, .inl fo10)), (o11, .inl (cI, 4, .inl fo11)), (o12, .inl (cI, 4, .inl fo12)), (h0, .inr (7, [.ref dr, .int i118, .ref nu, .ref le, .int (nI ln), .int (nI k119), .int i120])), (le, .inl (cI, 220, .inl fle)), (nu, .inl (cI, 5, .inl f117))] H := hP
            have hD : va_D A [(dr, .inr (5, [.int (nI st), .int bl, .int mm, .int (nI nq), .int (nI nh), .ref o5, .ref o6, .ref o7, .ref o8, .ref o9, .ref o10, .ref o11, .ref o12])), (o5, .inl (cI, 8, .inl fo5)), (o6, .inl (cI, 8, .inl fo6)), (o7, .inl (cI, 8, .inl fo7)), (o8, .inl (cI, 8, .inl fo8)), (o9, .inl (cI, 8, .inl fo9)), (o10, .inl (cI, 4, .inl fo10)), (o11, .inl (cI, 4, .inl fo11)), (o12, .inl (cI, 4, .inl fo12)), (h0, .inr (7, [.ref dr, .int i118, .ref nu, .ref le, .int (nI ln), .int (nI k119), .int i120])), (le, .inl (cI, 220, .inl fle)), (nu, .inl (cI, 5, .inl f117))] := hD
            try dsimp only at hw116
            rcases hw116 with rfl | rfl
            ·
              refine lv_if_eq (tgt := 219) hx hb dX7_readClause_143 (by decide) (fun c121 => ?_) (fun c121 => ?_)
              · exact absurd c121 (by decide)
              clear c121
              refine lv_aload_n hx hb dX7_readClause_146 rfl (lv_at hl 1 rfl) ?_
              refine va_get (D := (dC, dI)) (ci := 7) (v := .ref dr) (C := RX7) (T := TX7) (N := 7) hx hb hts hi_X7 hown hK hP 9 rfl rfl 0 (by decide) (hts (.fieldLink RX7 12 "LeftQuills$Reader" "draft" "LLeftQuills$Office;") (wmx 1 rfl)) (fun _ h9 => h9) rfl dX7_readClause_147 ?_
              refine lv_aload_n hx hb dX7_readClause_150 rfl (lv_at hl 1 rfl) ?_
              refine va_get (D := (dC, dI)) (ci := 7) (v := .ref nu) (C := RX7) (T := TX7) (N := 7) hx hb hts hi_X7 hown hK hP 9 rfl rfl 2 (by decide) (hts (.fieldLink RX7 22 "LeftQuills$Reader" "numbers" "[I") (wmx 6 rfl)) (fun _ h9 => h9) rfl dX7_readClause_151 ?_
              have hPc := hP.sub (ws' := [(dr, .inr (5, [.int (nI st), .int bl, .int mm, .int (nI nq), .int (nI nh), .ref o5, .ref o6, .ref o7, .ref o8, .ref o9, .ref o10, .ref o11, .ref o12])), (o5, .inl (cI, 8, .inl fo5)), (o6, .inl (cI, 8, .inl fo6)), (o7, .inl (cI, 8, .inl fo7)), (o8, .inl (cI, 8, .inl fo8)), (o9, .inl (cI, 8, .inl fo9)), (nu, .inl (cI, 5, .inl f117))]) [0, 1, 2, 3, 4, 5, 11] rfl
              have hDc := hD.sub (ws' := [(dr, .inr (5, [.int (nI st), .int bl, .int mm, .int (nI nq), .int (nI nh), .ref o5, .ref o6, .ref o7, .ref o8, .ref o9, .ref o10, .ref o11, .ref o12])), (o5, .inl (cI, 8, .inl fo5)), (o6, .inl (cI, 8, .inl fo6)), (o7, .inl (cI, 8, .inl fo7)), (o8, .inl (cI, 8, .inl fo8)), (o9, .inl (cI, 8, .inl fo9)), (nu, .inl (cI, 5, .inl f117))]) [0, 1, 2, 3, 4, 5, 11] (by decide) rfl
              have hFc := va_free (wc := [(dr, .inr (5, [.int (nI st), .int bl, .int mm, .int (nI nq), .int (nI nh), .ref o5, .ref o6, .ref o7, .ref o8, .ref o9, .ref o10, .ref o11, .ref o12])), (o5, .inl (cI, 8, .inl fo5)), (o6, .inl (cI, 8, .inl fo6)), (o7, .inl (cI, 8, .inl fo7)), (o8, .inl (cI, 8, .inl fo8)), (o9, .inl (cI, 8, .inl fo9)), (nu, .inl (cI, 5, .inl f117))]) hD hS hA [0, 1, 2, 3, 4, 5, 11] rfl
              refine va_callv (va_runV (As := [.ref nu]) (rest := []) ⟨hx, hb, hml, hown, hts⟩ (c_X5_addQuill l dC dI cI cZ cQ dr st bl mm nq nh o5 o6 o7 o8 o9 o10 o11 o12 fo5 fo6 fo7 fo8 fo9 nu f117 H.size (by omega) (by omega)) (cwV 1 hts gX7_readClause_X5_addQuill rfl rfl rfl (by decide +kernel) ⟨Nat.le_of_ble_eq_true rfl, Nat.le_of_ble_eq_true rfl⟩) ⟨fun a U g mk q => by obtain ⟨q0, q1, qP, qK, qD⟩ := q; exact ⟨q0, q1, qP, va_K.moved (u := U) (U := U.calling g mk a) (Vm.Alike.refl U.vm) qK, qD⟩, va_recv hK hP (ci := 5) (q0 := 0) rfl rfl, fun U hU hW => ⟨rfl, by rw [hU], by rw [hU]; exact hPc, va_K.moved hW.alike hK, hDc.weaken (fun _ _ _ _ => trivial)⟩⟩ rfl rfl hl.1 rfl (lv_room (Nat.le_of_ble_eq_true rfl)) dX7_readClause_154 ⟨Nat.le_of_ble_eq_true rfl, Nat.le_of_ble_eq_true rfl⟩) hS (fun q _ h => hFc q h) hFc (fun u123 t H1 locs ht hvm hw124 hB hz1 hk1 hS => ?_)
              obtain ⟨f125, f126, f127, f128, f129, k130, hk130, hP1, hD1⟩ := hB
              rw [ht] at hP1
              obtain ⟨hP, hD⟩ := va_join (wr := [(o10, .inl (cI, 4, .inl fo10)), (o11, .inl (cI, 4, .inl fo11)), (o12, .inl (cI, 4, .inl fo12)), (h0, .inr (7, [.ref dr, .int i118, .ref nu, .ref le, .int (nI ln), .int (nI k119), .int i120])), (le, .inl (cI, 220, .inl fle))]) (w1 := [(dr, .inr (5, [.int (nI st), .int bl, .int mm, .int (nI k130), .int (nI nh), .ref o5, .ref o6, .ref o7, .ref o8, .ref o9, .ref o10, .ref o11, .ref o12])), (o5, .inl (cI, 8, .inl f125)), (o6, .inl (cI, 8, .inl f126)), (o7, .inl (cI, 8, .inl f127)), (o8, .inl (cI, 8, .inl f128)), (o9, .inl (cI, 8, .inl f129)), (nu, .inl (cI, 5, .inl f117))]) hP hD [0, 1, 2, 3, 4, 5, 11] [6, 7, 8, 9, 10] rfl rfl (by decide +kernel) (by decide +kernel) hk1 hFc hP1 hD1
              clear hP1 hD1
              clear hz1 hk1 hPc hDc hFc
              generalize H1 = H at hP hS ht ⊢
              have hP : va_P (dC, dI) vwCl [(o10, .inl (cI, 4, .inl fo10)), (o11, .inl (cI, 4, .inl fo11)), (o12, .inl (cI, 4, .inl fo12)), (h0, .inr (7, [.ref dr, .int i118, .ref nu, .ref le, .int (nI ln), .int (nI k119), .int i120])), (le, .inl (cI, 220, .inl fle)), (dr, .inr (5, [.int (nI st), .int bl, .int mm, .int (nI k130), .int (nI nh), .ref o5, .ref o6, .ref o7, .ref o8, .ref o9, .ref o10, .ref o11, .ref o12])), (o5, .inl (cI, 8, .inl f125)), (o6, .inl (cI, 8, .inl f126)), (o7, .inl (cI, 8, .inl f127)), (o8, .inl (cI, 8, .inl f128)), (o9, .inl (cI, 8, .inl f129)), (nu, .inl (cI, 5, .inl f117))] H := hP
              have hD : va_D A [(o10, .inl (cI, 4, .inl fo10)), (o11, .inl (cI, 4, .inl fo11)), (o12, .inl (cI, 4, .inl fo12)), (h0, .inr (7, [.ref dr, .int i118, .ref nu, .ref le, .int (nI ln), .int (nI k119), .int i120])), (le, .inl (cI, 220, .inl fle)), (dr, .inr (5, [.int (nI st), .int bl, .int mm, .int (nI k130), .int (nI nh), .ref o5, .ref o6, .ref o7, .ref o8, .ref o9, .ref o10, .ref o11, .ref o12])), (o5, .inl (cI, 8, .inl f125)), (o6, .inl (cI, 8, .inl f126)), (o7, .inl (cI, 8, .inl f127)), (o8, .inl (cI, 8, .inl f128)), (o9, .inl (cI, 8, .inl f129)), (nu, .inl (cI, 5, .inl f117))] := hD
              try dsimp only at hw124
              refine lv_goto (tgt := 219) hx hb dX7_readClause_157 (by decide) ?_
              have hP9 := hP.sub (ws' := [(h0, .inr (7, [.ref dr, .int i118, .ref nu, .ref le, .int (nI ln), .int (nI k119), .int i120])), (le, .inl (cI, 220, .inl fle)), (nu, .inl (cI, 5, .inl f117)), (dr, .inr (5, [.int (nI st), .int bl, .int mm, .int (nI k130), .int (nI nh), .ref o5, .ref o6, .ref o7, .ref o8, .ref o9, .ref o10, .ref o11, .ref o12])), (o5, .inl (cI, 8, .inl f125)), (o6, .inl (cI, 8, .inl f126)), (o7, .inl (cI, 8, .inl f127)), (o8, .inl (cI, 8, .inl f128)), (o9, .inl (cI, 8, .inl f129)), (o10, .inl (cI, 4, .inl fo10)), (o11, .inl (cI, 4, .inl fo11)), (o12, .inl (cI, 4, .inl fo12))]) [3, 4, 11, 5, 6, 7, 8, 9, 10, 0, 1, 2] rfl
              have hD9 := hD.sub (ws' := [(h0, .inr (7, [.ref dr, .int i118, .ref nu, .ref le, .int (nI ln), .int (nI k119), .int i120])), (le, .inl (cI, 220, .inl fle)), (nu, .inl (cI, 5, .inl f117)), (dr, .inr (5, [.int (nI st), .int bl, .int mm, .int (nI k130), .int (nI nh), .ref o5, .ref o6, .ref o7, .ref o8, .ref o9, .ref o10, .ref o11, .ref o12])), (o5, .inl (cI, 8, .inl f125)), (o6, .inl (cI, 8, .inl f126)), (o7, .inl (cI, 8, .inl f127)), (o8, .inl (cI, 8, .inl f128)), (o9, .inl (cI, 8, .inl f129)), (o10, .inl (cI, 4, .inl fo10)), (o11, .inl (cI, 4, .inl fo11)), (o12, .inl (cI, 4, .inl fo12))]) [3, 4, 11, 5, 6, 7, 8, 9, 10, 0, 1, 2] (by decide +kernel) rfl
              exact W.vret hx hb hr (fun t ht hW => ⟨⟨(fun _ => 0), rfl, trivial, ⟨f117, f125, f126, f127, f128, f129, fo10, fo11, fo12, i118, i120, bl, mm, k119, st, k130, nh, by omega, by omega, by omega, by omega, by rw [ht]; exact hP9, hD9⟩⟩, hS.F ht⟩) hS.2.2 dX7_readClause_219
            ·
              refine lv_if_eq (tgt := 219) hx hb dX7_readClause_143 (by decide) (fun c131 => ?_) (fun c131 => ?_)
              rotate_left
              · exact absurd c131 (by decide)
              clear c131
              have hP9 := hP.sub (ws' := [(h0, .inr (7, [.ref dr, .int i118, .ref nu, .ref le, .int (nI ln), .int (nI k119), .int i120])), (le, .inl (cI, 220, .inl fle)), (nu, .inl (cI, 5, .inl f117)), (dr, .inr (5, [.int (nI st), .int bl, .int mm, .int (nI nq), .int (nI nh), .ref o5, .ref o6, .ref o7, .ref o8, .ref o9, .ref o10, .ref o11, .ref o12])), (o5, .inl (cI, 8, .inl fo5)), (o6, .inl (cI, 8, .inl fo6)), (o7, .inl (cI, 8, .inl fo7)), (o8, .inl (cI, 8, .inl fo8)), (o9, .inl (cI, 8, .inl fo9)), (o10, .inl (cI, 4, .inl fo10)), (o11, .inl (cI, 4, .inl fo11)), (o12, .inl (cI, 4, .inl fo12))]) [9, 10, 11, 0, 1, 2, 3, 4, 5, 6, 7, 8] rfl
              have hD9 := hD.sub (ws' := [(h0, .inr (7, [.ref dr, .int i118, .ref nu, .ref le, .int (nI ln), .int (nI k119), .int i120])), (le, .inl (cI, 220, .inl fle)), (nu, .inl (cI, 5, .inl f117)), (dr, .inr (5, [.int (nI st), .int bl, .int mm, .int (nI nq), .int (nI nh), .ref o5, .ref o6, .ref o7, .ref o8, .ref o9, .ref o10, .ref o11, .ref o12])), (o5, .inl (cI, 8, .inl fo5)), (o6, .inl (cI, 8, .inl fo6)), (o7, .inl (cI, 8, .inl fo7)), (o8, .inl (cI, 8, .inl fo8)), (o9, .inl (cI, 8, .inl fo9)), (o10, .inl (cI, 4, .inl fo10)), (o11, .inl (cI, 4, .inl fo11)), (o12, .inl (cI, 4, .inl fo12))]) [9, 10, 11, 0, 1, 2, 3, 4, 5, 6, 7, 8] (by decide +kernel) rfl
              exact W.vret hx hb hr (fun t ht hW => ⟨⟨(fun _ => 0), rfl, trivial, ⟨f117, fo5, fo6, fo7, fo8, fo9, fo10, fo11, fo12, i118, i120, bl, mm, k119, st, nq, nh, by omega, by omega, by omega, by omega, by rw [ht]; exact hP9, hD9⟩⟩, hS.F ht⟩) hS.2.2 dX7_readClause_219
          ·
            refine lv_if_eq (tgt := 219) hx hb dX7_readClause_130 (by decide) (fun c132 => ?_) (fun c132 => ?_)
            rotate_left
            · exact absurd c132 (by decide)
            clear c132
            have hP9 := hP.sub (ws' := [(h0, .inr (7, [.ref dr, .int i110, .ref nu, .ref le, .int (nI ln), .int (nI k111), .int i112])), (le, .inl (cI, 220, .inl fle)), (nu, .inl (cI, 5, .inl fnu)), (dr, .inr (5, [.int (nI st), .int bl, .int mm, .int (nI nq), .int (nI nh), .ref o5, .ref o6, .ref o7, .ref o8, .ref o9, .ref o10, .ref o11, .ref o12])), (o5, .inl (cI, 8, .inl fo5)), (o6, .inl (cI, 8, .inl fo6)), (o7, .inl (cI, 8, .inl fo7)), (o8, .inl (cI, 8, .inl fo8)), (o9, .inl (cI, 8, .inl fo9)), (o10, .inl (cI, 4, .inl fo10)), (o11, .inl (cI, 4, .inl fo11)), (o12, .inl (cI, 4, .inl fo12))]) [11, 0, 1, 2, 3, 4, 5, 6, 7, 8, 9, 10] rfl
            have hD9 := hD.sub (ws' := [(h0, .inr (7, [.ref dr, .int i110, .ref nu, .ref le, .int (nI ln), .int (nI k111), .int i112])), (le, .inl (cI, 220, .inl fle)), (nu, .inl (cI, 5, .inl fnu)), (dr, .inr (5, [.int (nI st), .int bl, .int mm, .int (nI nq), .int (nI nh), .ref o5, .ref o6, .ref o7, .ref o8, .ref o9, .ref o10, .ref o11, .ref o12])), (o5, .inl (cI, 8, .inl fo5)), (o6, .inl (cI, 8, .inl fo6)), (o7, .inl (cI, 8, .inl fo7)), (o8, .inl (cI, 8, .inl fo8)), (o9, .inl (cI, 8, .inl fo9)), (o10, .inl (cI, 4, .inl fo10)), (o11, .inl (cI, 4, .inl fo11)), (o12, .inl (cI, 4, .inl fo12))]) [11, 0, 1, 2, 3, 4, 5, 6, 7, 8, 9, 10] (by decide +kernel) rfl
            exact W.vret hx hb hr (fun t ht hW => ⟨⟨(fun _ => 0), rfl, trivial, ⟨fnu, fo5, fo6, fo7, fo8, fo9, fo10, fo11, fo12, i110, i112, bl, mm, k111, st, nq, nh, by omega, by omega, by omega, by omega, by rw [ht]; exact hP9, hD9⟩⟩, hS.F ht⟩) hS.2.2 dX7_readClause_219
      refine lv_lookup (tgt := 210) (off := 178) hx hb dX7_readClause_32 (by decide) (x_lk3 c5 c55 c79) (by decide) ?_
      refine lv_aload_n hx hb dX7_readClause_210 rfl (lv_at hl 1 rfl) ?_
      refine lv_iconst (v := 1) hx hb dX7_readClause_211 (by decide) ?_
      refine lv_aload_n hx hb dX7_readClause_212 rfl (lv_at hl 1 rfl) ?_
      refine va_get (D := (dC, dI)) (ci := 7) (v := .int (nI at9)) (C := RX7) (T := TX7) (N := 7) hx hb hts hi_X7 hown hK hP 0 rfl rfl 5 (by decide) (hts (.fieldLink RX7 32 "LeftQuills$Reader" "at" "I") (wmx 3 rfl)) (fun _ h9 => h9) rfl dX7_readClause_213 ?_
      have hPc := hP.sub (ws' := [(h0, .inr (7, [.ref dr, .int fa, .ref nu, .ref le, .int (nI ln), .int (nI at9), .int fu]))]) [0] rfl
      have hDc := hD.sub (ws' := [(h0, .inr (7, [.ref dr, .int fa, .ref nu, .ref le, .int (nI ln), .int (nI at9), .int fu]))]) [0] (by decide) rfl
      have hFc := va_free (wc := [(h0, .inr (7, [.ref dr, .int fa, .ref nu, .ref le, .int (nI ln), .int (nI at9), .int fu]))]) hD hS hA [0] rfl
      refine va_callv (va_runV (As := [.int 1, .int (nI at9)]) (rest := []) ⟨hx, hb, hml, hown, hts⟩ (c_X7_fail l dC dI cI cZ cQ h0 dr fa nu le ln at9 fu 1 (nI at9) H.size ) (cwV 2 hts gX7_readClause_X7_fail rfl rfl rfl (by decide +kernel) ⟨Nat.le_of_ble_eq_true rfl, Nat.le_of_ble_eq_true rfl⟩) ⟨fun a U g mk q => by obtain ⟨q0, q1, qP, qK, qD⟩ := q; exact ⟨q0, q1, qP, va_K.moved (u := U) (U := U.calling g mk a) (Vm.Alike.refl U.vm) qK, qD⟩, va_recv hK hP (ci := 7) (q0 := 0) rfl rfl, fun U hU hW => ⟨rfl, by rw [hU], by rw [hU]; exact hPc, va_K.moved hW.alike hK, hDc.weaken (fun _ _ _ _ => trivial)⟩⟩ rfl rfl hl.1 rfl (lv_room (Nat.le_of_ble_eq_true rfl)) dX7_readClause_216 ⟨Nat.le_of_ble_eq_true rfl, Nat.le_of_ble_eq_true rfl⟩) hS (fun q _ h => hFc q h) hFc (fun u134 t H1 locs ht hvm hw135 hB hz1 hk1 hS => ?_)
      obtain ⟨i136, i137, hP1, hD1⟩ := hB
      rw [ht] at hP1
      obtain ⟨hP, hD⟩ := va_join (wr := [(le, .inl (cI, 220, .inl fle)), (nu, .inl (cI, 5, .inl fnu)), (dr, .inr (5, [.int (nI st), .int bl, .int mm, .int (nI nq), .int (nI nh), .ref o5, .ref o6, .ref o7, .ref o8, .ref o9, .ref o10, .ref o11, .ref o12])), (o5, .inl (cI, 8, .inl fo5)), (o6, .inl (cI, 8, .inl fo6)), (o7, .inl (cI, 8, .inl fo7)), (o8, .inl (cI, 8, .inl fo8)), (o9, .inl (cI, 8, .inl fo9)), (o10, .inl (cI, 4, .inl fo10)), (o11, .inl (cI, 4, .inl fo11)), (o12, .inl (cI, 4, .inl fo12))]) (w1 := [(h0, .inr (7, [.ref dr, .int i136, .ref nu, .ref le, .int (nI ln), .int (nI at9), .int i137]))]) hP hD [0] [1, 2, 3, 4, 5, 6, 7, 8, 9, 10, 11] rfl rfl (by decide +kernel) (by decide +kernel) hk1 hFc hP1 hD1
      clear hP1 hD1
      clear hz1 hk1 hPc hDc hFc
      generalize H1 = H at hP hS ht ⊢
      have hP : va_P (dC, dI) vwCl [(le, .inl (cI, 220, .inl fle)), (nu, .inl (cI, 5, .inl fnu)), (dr, .inr (5, [.int (nI st), .int bl, .int mm, .int (nI nq), .int (nI nh), .ref o5, .ref o6, .ref o7, .ref o8, .ref o9, .ref o10, .ref o11, .ref o12])), (o5, .inl (cI, 8, .inl fo5)), (o6, .inl (cI, 8, .inl fo6)), (o7, .inl (cI, 8, .inl fo7)), (o8, .inl (cI, 8, .inl fo8)), (o9, .inl (cI, 8, .inl fo9)), (o10, .inl (cI, 4, .inl fo10)), (o11, .inl (cI, 4, .inl fo11)), (o12, .inl (cI, 4, .inl fo12)), (h0, .inr (7, [.ref dr, .int i136, .ref nu, .ref le, .int (nI ln), .int (nI at9), .int i137]))] H := hP
      have hD : va_D A [(le, .inl (cI, 220, .inl fle)), (nu, .inl (cI, 5, .inl fnu)), (dr, .inr (5, [.int (nI st), .int bl, .int mm, .int (nI nq), .int (nI nh), .ref o5, .ref o6, .ref o7, .ref o8, .ref o9, .ref o10, .ref o11, .ref o12])), (o5, .inl (cI, 8, .inl fo5)), (o6, .inl (cI, 8, .inl fo6)), (o7, .inl (cI, 8, .inl fo7)), (o8, .inl (cI, 8, .inl fo8)), (o9, .inl (cI, 8, .inl fo9)), (o10, .inl (cI, 4, .inl fo10)), (o11, .inl (cI, 4, .inl fo11)), (o12, .inl (cI, 4, .inl fo12)), (h0, .inr (7, [.ref dr, .int i136, .ref nu, .ref le, .int (nI ln), .int (nI at9), .int i137]))] := hD
      try dsimp only at hw135
      have hP9 := hP.sub (ws' := [(h0, .inr (7, [.ref dr, .int i136, .ref nu, .ref le, .int (nI ln), .int (nI at9), .int i137])), (le, .inl (cI, 220, .inl fle)), (nu, .inl (cI, 5, .inl fnu)), (dr, .inr (5, [.int (nI st), .int bl, .int mm, .int (nI nq), .int (nI nh), .ref o5, .ref o6, .ref o7, .ref o8, .ref o9, .ref o10, .ref o11, .ref o12])), (o5, .inl (cI, 8, .inl fo5)), (o6, .inl (cI, 8, .inl fo6)), (o7, .inl (cI, 8, .inl fo7)), (o8, .inl (cI, 8, .inl fo8)), (o9, .inl (cI, 8, .inl fo9)), (o10, .inl (cI, 4, .inl fo10)), (o11, .inl (cI, 4, .inl fo11)), (o12, .inl (cI, 4, .inl fo12))]) [11, 0, 1, 2, 3, 4, 5, 6, 7, 8, 9, 10] rfl
      have hD9 := hD.sub (ws' := [(h0, .inr (7, [.ref dr, .int i136, .ref nu, .ref le, .int (nI ln), .int (nI at9), .int i137])), (le, .inl (cI, 220, .inl fle)), (nu, .inl (cI, 5, .inl fnu)), (dr, .inr (5, [.int (nI st), .int bl, .int mm, .int (nI nq), .int (nI nh), .ref o5, .ref o6, .ref o7, .ref o8, .ref o9, .ref o10, .ref o11, .ref o12])), (o5, .inl (cI, 8, .inl fo5)), (o6, .inl (cI, 8, .inl fo6)), (o7, .inl (cI, 8, .inl fo7)), (o8, .inl (cI, 8, .inl fo8)), (o9, .inl (cI, 8, .inl fo9)), (o10, .inl (cI, 4, .inl fo10)), (o11, .inl (cI, 4, .inl fo11)), (o12, .inl (cI, 4, .inl fo12))]) [11, 0, 1, 2, 3, 4, 5, 6, 7, 8, 9, 10] (by decide +kernel) rfl
      exact W.vret hx hb hr (fun t ht hW => ⟨⟨(fun _ => 0), rfl, trivial, ⟨fnu, fo5, fo6, fo7, fo8, fo9, fo10, fo11, fo12, i136, i137, bl, mm, at9, st, nq, nh, by omega, by omega, by omega, by omega, by rw [ht]; exact hP9, hD9⟩⟩, hS.F ht⟩) hS.2.2 dX7_readClause_219
    ·
      have c4 : st = 0 := (nI_eq (a := st) (b := 0) (by omega) (by omega)).mp c4
      refine lv_iload_n hx hb dX7_readClause_15 rfl (lv_at hl 0 rfl) ?_
      refine lv_bipush (v := 111) hx hb dX7_readClause_16 (by decide) ?_
      refine lv_icmp_eq (tgt := 31) hx hb dX7_readClause_18 (by decide) (fun c138 => ?_) (fun c138 => ?_)
      ·
        refine lv_iload_n hx hb dX7_readClause_31 rfl (lv_at hl 0 rfl) ?_
        by_cases c139 : r1 = 104
        · refine lv_lookup (tgt := 160) (off := 128) hx hb dX7_readClause_32 (by decide) (by rw [c139]; decide) (by decide) ?_
          refine lv_aload_n hx hb dX7_readClause_160 rfl (lv_at hl 1 rfl) ?_
          refine lv_aload_n hx hb dX7_readClause_161 rfl (lv_at hl 1 rfl) ?_
          refine va_get (D := (dC, dI)) (ci := 7) (v := .ref dr) (C := RX7) (T := TX7) (N := 7) hx hb hts hi_X7 hown hK hP 0 rfl rfl 0 (by decide) (hts (.fieldLink RX7 12 "LeftQuills$Reader" "draft" "LLeftQuills$Office;") (wmx 1 rfl)) (fun _ h9 => h9) rfl dX7_readClause_162 ?_
          refine va_get (D := (dC, dI)) (ci := 5) (v := .int (nI nh)) (C := RX5) (T := TX5) (N := 13) hx hb hts hi_X5 hown hK hP 3 rfl rfl 4 (by decide) (hts (.fieldLink RX7 104 "LeftQuills$Office" "hands" "I") (wmx 10 rfl)) (fun _ h9 => h9) rfl dX7_readClause_165 ?_
          refine lv_iconst (v := 4) hx hb dX7_readClause_168 (by decide) ?_
          refine lv_icmp_lt (tgt := 176) hx hb dX7_readClause_169 (by decide) (fun c140 => ?_) (fun c140 => ?_)
          ·
            have c140 : nh < 4 := (nI_ltI (a := nh) (b := 4) (by omega) (by omega)).mp c140
            refine lv_iconst (v := 0) hx hb dX7_readClause_176 (by decide) ?_
            have hPc := hP.sub (ws' := [(h0, .inr (7, [.ref dr, .int fa, .ref nu, .ref le, .int (nI ln), .int (nI at9), .int fu]))]) [0] rfl
            have hDc := hD.sub (ws' := [(h0, .inr (7, [.ref dr, .int fa, .ref nu, .ref le, .int (nI ln), .int (nI at9), .int fu]))]) [0] (by decide) rfl
            have hFc := va_free (wc := [(h0, .inr (7, [.ref dr, .int fa, .ref nu, .ref le, .int (nI ln), .int (nI at9), .int fu]))]) hD hS hA [0] rfl
            refine va_calli (va_runV (As := [.int 0]) (rest := []) ⟨hx, hb, hml, hown, hts⟩ (c_X7_startWord l dC dI cI cZ cQ h0 dr fa nu le ln at9 fu 0 H.size (by omega) (by omega)) (cwV 1 hts gX7_readClause_X7_startWord rfl rfl rfl (by decide +kernel) ⟨Nat.le_of_ble_eq_true rfl, Nat.le_of_ble_eq_true rfl⟩) ⟨fun a U g mk q => by obtain ⟨q0, q1, qP, qK, qD⟩ := q; exact ⟨q0, q1, qP, va_K.moved (u := U) (U := U.calling g mk a) (Vm.Alike.refl U.vm) qK, qD⟩, va_recv hK hP (ci := 7) (q0 := 0) rfl rfl, fun U hU hW => ⟨rfl, by rw [hU], by rw [hU]; exact hPc, va_K.moved hW.alike hK, hDc.weaken (fun _ _ _ _ => trivial)⟩⟩ rfl rfl hl.1 rfl (lv_room (Nat.le_of_ble_eq_true rfl)) dX7_readClause_177 ⟨Nat.le_of_ble_eq_true rfl, Nat.le_of_ble_eq_true rfl⟩) hS (fun q _ h => hFc q h) hFc (fun r141 u142 t H1 locs ht hvm hw143 hB hz1 hk1 hS => ?_)
            obtain ⟨i144, i146, k145, hk145, hP1, hD1⟩ := hB
            rw [ht] at hP1
            obtain ⟨hP, hD⟩ := va_join (wr := [(le, .inl (cI, 220, .inl fle)), (nu, .inl (cI, 5, .inl fnu)), (dr, .inr (5, [.int (nI st), .int bl, .int mm, .int (nI nq), .int (nI nh), .ref o5, .ref o6, .ref o7, .ref o8, .ref o9, .ref o10, .ref o11, .ref o12])), (o5, .inl (cI, 8, .inl fo5)), (o6, .inl (cI, 8, .inl fo6)), (o7, .inl (cI, 8, .inl fo7)), (o8, .inl (cI, 8, .inl fo8)), (o9, .inl (cI, 8, .inl fo9)), (o10, .inl (cI, 4, .inl fo10)), (o11, .inl (cI, 4, .inl fo11)), (o12, .inl (cI, 4, .inl fo12))]) (w1 := [(h0, .inr (7, [.ref dr, .int i144, .ref nu, .ref le, .int (nI ln), .int (nI k145), .int i146]))]) hP hD [0] [1, 2, 3, 4, 5, 6, 7, 8, 9, 10, 11] rfl rfl (by decide +kernel) (by decide +kernel) hk1 hFc hP1 hD1
            clear hP1 hD1
            clear hz1 hk1 hPc hDc hFc
            generalize H1 = H at hP hS ht ⊢
            have hP : va_P (dC, dI) vwCl [(le, .inl (cI, 220, .inl fle)), (nu, .inl (cI, 5, .inl fnu)), (dr, .inr (5, [.int (nI st), .int bl, .int mm, .int (nI nq), .int (nI nh), .ref o5, .ref o6, .ref o7, .ref o8, .ref o9, .ref o10, .ref o11, .ref o12])), (o5, .inl (cI, 8, .inl fo5)), (o6, .inl (cI, 8, .inl fo6)), (o7, .inl (cI, 8, .inl fo7)), (o8, .inl (cI, 8, .inl fo8)), (o9, .inl (cI, 8, .inl fo9)), (o10, .inl (cI, 4, .inl fo10)), (o11, .inl (cI, 4, .inl fo11)), (o12, .inl (cI, 4, .inl fo12)), (h0, .inr (7, [.ref dr, .int i144, .ref nu, .ref le, .int (nI ln), .int (nI k145), .int i146]))] H := hP
            have hD : va_D A [(le, .inl (cI, 220, .inl fle)), (nu, .inl (cI, 5, .inl fnu)), (dr, .inr (5, [.int (nI st), .int bl, .int mm, .int (nI nq), .int (nI nh), .ref o5, .ref o6, .ref o7, .ref o8, .ref o9, .ref o10, .ref o11, .ref o12])), (o5, .inl (cI, 8, .inl fo5)), (o6, .inl (cI, 8, .inl fo6)), (o7, .inl (cI, 8, .inl fo7)), (o8, .inl (cI, 8, .inl fo8)), (o9, .inl (cI, 8, .inl fo9)), (o10, .inl (cI, 4, .inl fo10)), (o11, .inl (cI, 4, .inl fo11)), (o12, .inl (cI, 4, .inl fo12)), (h0, .inr (7, [.ref dr, .int i144, .ref nu, .ref le, .int (nI ln), .int (nI k145), .int i146]))] := hD
            try dsimp only at hw143
            rcases hw143 with rfl | rfl
            ·
              refine lv_if_eq (tgt := 219) hx hb dX7_readClause_180 (by decide) (fun c147 => ?_) (fun c147 => ?_)
              · exact absurd c147 (by decide)
              clear c147
              refine lv_aload_n hx hb dX7_readClause_183 rfl (lv_at hl 1 rfl) ?_
              refine va_gets hx hb hZ_HAND_LEAST hS hown (hts (.fieldLink RX7 107 "LeftQuills$Reader" "HAND_LEAST" "[I") (wmx 11 rfl)) (fun _ h9 => h9) dX7_readClause_184 ?_
              refine va_gets hx hb hZ_HAND_MOST hS hown (hts (.fieldLink RX7 110 "LeftQuills$Reader" "HAND_MOST" "[I") (wmx 12 rfl)) (fun _ h9 => h9) dX7_readClause_187 ?_
              have hPc := hP.sub (ws' := [(h0, .inr (7, [.ref dr, .int i144, .ref nu, .ref le, .int (nI ln), .int (nI k145), .int i146])), (le, .inl (cI, 220, .inl fle)), (nu, .inl (cI, 5, .inl fnu))]) [11, 0, 1] rfl
              have hDc := hD.sub (ws' := [(h0, .inr (7, [.ref dr, .int i144, .ref nu, .ref le, .int (nI ln), .int (nI k145), .int i146])), (le, .inl (cI, 220, .inl fle)), (nu, .inl (cI, 5, .inl fnu))]) [11, 0, 1] (by decide) rfl
              have hFc := va_free (wc := [(h0, .inr (7, [.ref dr, .int i144, .ref nu, .ref le, .int (nI ln), .int (nI k145), .int i146])), (le, .inl (cI, 220, .inl fle)), (nu, .inl (cI, 5, .inl fnu))]) hD hS hA [11, 0, 1] rfl
              refine va_calli (va_runV (As := [.ref t_HAND_LEAST, .ref t_HAND_MOST]) (rest := []) ⟨hx, hb, hml, hown, hts⟩ (c_X7_readNumbers l dC dI cI cZ cQ h0 dr i144 nu le ln k145 i146 fle fnu t_HAND_LEAST t_HAND_MOST 3 g_HAND_LEAST 3 g_HAND_MOST H.size (by omega) (by omega) (by omega) (by omega)) (cwV 2 hts gX7_readClause_X7_readNumbers rfl rfl rfl (by decide +kernel) ⟨Nat.le_of_ble_eq_true rfl, Nat.le_of_ble_eq_true rfl⟩) ⟨fun a U g mk q => by obtain ⟨q0, q1, qP, qK, qD, qN, qT_t1, qT_t2⟩ := q; exact ⟨q0, q1, qP, va_K.moved (u := U) (U := U.calling g mk a) (Vm.Alike.refl U.vm) qK, qD, qN.calling, va_T.moved (u := U) (Vm.Alike.refl U.vm) qT_t1, va_T.moved (u := U) (Vm.Alike.refl U.vm) qT_t2⟩, va_recv hK hP (ci := 7) (q0 := 11) rfl rfl, fun U hU hW => ⟨rfl, by rw [hU], by rw [hU]; exact hPc, va_K.moved hW.alike hK, hDc.weaken (fun _ _ _ _ => trivial), hN.warm hW, by rw [hU]; exact va_T.moved hW.alike ((hT_t_HAND_LEAST.kept hS.2.1).narrow hFc), by rw [hU]; exact va_T.moved hW.alike ((hT_t_HAND_MOST.kept hS.2.1).narrow hFc)⟩⟩ rfl rfl hl.1 rfl (lv_room (Nat.le_of_ble_eq_true rfl)) dX7_readClause_190 ⟨Nat.le_of_ble_eq_true rfl, Nat.le_of_ble_eq_true rfl⟩) hS (fun q _ h => hFc q h) hFc (fun r148 u149 t H1 locs ht hvm hw150 hB hz1 hk1 hS => ?_)
              obtain ⟨f151, i152, i154, k153, hk153, hP1, hD1⟩ := hB
              rw [ht] at hP1
              obtain ⟨hP, hD⟩ := va_join (wr := [(dr, .inr (5, [.int (nI st), .int bl, .int mm, .int (nI nq), .int (nI nh), .ref o5, .ref o6, .ref o7, .ref o8, .ref o9, .ref o10, .ref o11, .ref o12])), (o5, .inl (cI, 8, .inl fo5)), (o6, .inl (cI, 8, .inl fo6)), (o7, .inl (cI, 8, .inl fo7)), (o8, .inl (cI, 8, .inl fo8)), (o9, .inl (cI, 8, .inl fo9)), (o10, .inl (cI, 4, .inl fo10)), (o11, .inl (cI, 4, .inl fo11)), (o12, .inl (cI, 4, .inl fo12))]) (w1 := [(h0, .inr (7, [.ref dr, .int i152, .ref nu, .ref le, .int (nI ln), .int (nI k153), .int i154])), (le, .inl (cI, 220, .inl fle)), (nu, .inl (cI, 5, .inl f151))]) hP hD [11, 0, 1] [2, 3, 4, 5, 6, 7, 8, 9, 10] rfl rfl (by decide +kernel) (by decide +kernel) hk1 hFc hP1 hD1
              clear hP1 hD1
              clear hz1 hk1 hPc hDc hFc
              generalize H1 = H at hP hS ht ⊢
              have hP : va_P (dC, dI) vwCl [(dr, .inr (5, [.int (nI st), .int bl, .int mm, .int (nI nq), .int (nI nh), .ref o5, .ref o6, .ref o7, .ref o8, .ref o9, .ref o10, .ref o11, .ref o12])), (o5, .inl (cI, 8, .inl fo5)), (o6, .inl (cI, 8, .inl fo6)), (o7, .inl (cI, 8, .inl fo7)), (o8, .inl (cI, 8, .inl fo8)), (o9, .inl (cI, 8, .inl fo9)), (o10, .inl (cI, 4, .inl fo10)), (o11, .inl (cI, 4, .inl fo11)), (o12, .inl (cI, 4, .inl fo12)), (h0, .inr (7, [.ref dr, .int i152, .ref nu, .ref le, .int (nI ln), .int (nI k153), .int i154])), (le, .inl (cI, 220, .inl fle)), (nu, .inl (cI, 5, .inl f151))] H := hP
              have hD : va_D A [(dr, .inr (5, [.int (nI st), .int bl, .int mm, .int (nI nq), .int (nI nh), .ref o5, .ref o6, .ref o7, .ref o8, .ref o9, .ref o10, .ref o11, .ref o12])), (o5, .inl (cI, 8, .inl fo5)), (o6, .inl (cI, 8, .inl fo6)), (o7, .inl (cI, 8, .inl fo7)), (o8, .inl (cI, 8, .inl fo8)), (o9, .inl (cI, 8, .inl fo9)), (o10, .inl (cI, 4, .inl fo10)), (o11, .inl (cI, 4, .inl fo11)), (o12, .inl (cI, 4, .inl fo12)), (h0, .inr (7, [.ref dr, .int i152, .ref nu, .ref le, .int (nI ln), .int (nI k153), .int i154])), (le, .inl (cI, 220, .inl fle)), (nu, .inl (cI, 5, .inl f151))] := hD
              try dsimp only at hw150
              rcases hw150 with rfl | rfl
              ·
                refine lv_if_eq (tgt := 219) hx hb dX7_readClause_193 (by decide) (fun c155 => ?_) (fun c155 => ?_)
                · exact absurd c155 (by decide)
                clear c155
                refine lv_aload_n hx hb dX7_readClause_196 rfl (lv_at hl 1 rfl) ?_
                refine va_get (D := (dC, dI)) (ci := 7) (v := .ref dr) (C := RX7) (T := TX7) (N := 7) hx hb hts hi_X7 hown hK hP 9 rfl rfl 0 (by decide) (hts (.fieldLink RX7 12 "LeftQuills$Reader" "draft" "LLeftQuills$Office;") (wmx 1 rfl)) (fun _ h9 => h9) rfl dX7_readClause_197 ?_
                refine lv_aload_n hx hb dX7_readClause_200 rfl (lv_at hl 1 rfl) ?_
                refine va_get (D := (dC, dI)) (ci := 7) (v := .ref nu) (C := RX7) (T := TX7) (N := 7) hx hb hts hi_X7 hown hK hP 9 rfl rfl 2 (by decide) (hts (.fieldLink RX7 22 "LeftQuills$Reader" "numbers" "[I") (wmx 6 rfl)) (fun _ h9 => h9) rfl dX7_readClause_201 ?_
                have hPc := hP.sub (ws' := [(dr, .inr (5, [.int (nI st), .int bl, .int mm, .int (nI nq), .int (nI nh), .ref o5, .ref o6, .ref o7, .ref o8, .ref o9, .ref o10, .ref o11, .ref o12])), (o10, .inl (cI, 4, .inl fo10)), (o11, .inl (cI, 4, .inl fo11)), (o12, .inl (cI, 4, .inl fo12)), (nu, .inl (cI, 5, .inl f151))]) [0, 6, 7, 8, 11] rfl
                have hDc := hD.sub (ws' := [(dr, .inr (5, [.int (nI st), .int bl, .int mm, .int (nI nq), .int (nI nh), .ref o5, .ref o6, .ref o7, .ref o8, .ref o9, .ref o10, .ref o11, .ref o12])), (o10, .inl (cI, 4, .inl fo10)), (o11, .inl (cI, 4, .inl fo11)), (o12, .inl (cI, 4, .inl fo12)), (nu, .inl (cI, 5, .inl f151))]) [0, 6, 7, 8, 11] (by decide) rfl
                have hFc := va_free (wc := [(dr, .inr (5, [.int (nI st), .int bl, .int mm, .int (nI nq), .int (nI nh), .ref o5, .ref o6, .ref o7, .ref o8, .ref o9, .ref o10, .ref o11, .ref o12])), (o10, .inl (cI, 4, .inl fo10)), (o11, .inl (cI, 4, .inl fo11)), (o12, .inl (cI, 4, .inl fo12)), (nu, .inl (cI, 5, .inl f151))]) hD hS hA [0, 6, 7, 8, 11] rfl
                refine va_callv (va_runV (As := [.ref nu]) (rest := []) ⟨hx, hb, hml, hown, hts⟩ (c_X5_addHand l dC dI cI cZ cQ dr st bl mm nq nh o5 o6 o7 o8 o9 o10 o11 o12 fo10 fo11 fo12 nu f151 H.size (by omega) (by omega)) (cwV 1 hts gX7_readClause_X5_addHand rfl rfl rfl (by decide +kernel) ⟨Nat.le_of_ble_eq_true rfl, Nat.le_of_ble_eq_true rfl⟩) ⟨fun a U g mk q => by obtain ⟨q0, q1, qP, qK, qD⟩ := q; exact ⟨q0, q1, qP, va_K.moved (u := U) (U := U.calling g mk a) (Vm.Alike.refl U.vm) qK, qD⟩, va_recv hK hP (ci := 5) (q0 := 0) rfl rfl, fun U hU hW => ⟨rfl, by rw [hU], by rw [hU]; exact hPc, va_K.moved hW.alike hK, hDc.weaken (fun _ _ _ _ => trivial)⟩⟩ rfl rfl hl.1 rfl (lv_room (Nat.le_of_ble_eq_true rfl)) dX7_readClause_204 ⟨Nat.le_of_ble_eq_true rfl, Nat.le_of_ble_eq_true rfl⟩) hS (fun q _ h => hFc q h) hFc (fun u157 t H1 locs ht hvm hw158 hB hz1 hk1 hS => ?_)
                obtain ⟨f159, f160, f161, k162, hk162, hP1, hD1⟩ := hB
                rw [ht] at hP1
                obtain ⟨hP, hD⟩ := va_join (wr := [(o5, .inl (cI, 8, .inl fo5)), (o6, .inl (cI, 8, .inl fo6)), (o7, .inl (cI, 8, .inl fo7)), (o8, .inl (cI, 8, .inl fo8)), (o9, .inl (cI, 8, .inl fo9)), (h0, .inr (7, [.ref dr, .int i152, .ref nu, .ref le, .int (nI ln), .int (nI k153), .int i154])), (le, .inl (cI, 220, .inl fle))]) (w1 := [(dr, .inr (5, [.int (nI st), .int bl, .int mm, .int (nI nq), .int (nI k162), .ref o5, .ref o6, .ref o7, .ref o8, .ref o9, .ref o10, .ref o11, .ref o12])), (o10, .inl (cI, 4, .inl f159)), (o11, .inl (cI, 4, .inl f160)), (o12, .inl (cI, 4, .inl f161)), (nu, .inl (cI, 5, .inl f151))]) hP hD [0, 6, 7, 8, 11] [1, 2, 3, 4, 5, 9, 10] rfl rfl (by decide +kernel) (by decide +kernel) hk1 hFc hP1 hD1
                clear hP1 hD1
                clear hz1 hk1 hPc hDc hFc
                generalize H1 = H at hP hS ht ⊢
                have hP : va_P (dC, dI) vwCl [(o5, .inl (cI, 8, .inl fo5)), (o6, .inl (cI, 8, .inl fo6)), (o7, .inl (cI, 8, .inl fo7)), (o8, .inl (cI, 8, .inl fo8)), (o9, .inl (cI, 8, .inl fo9)), (h0, .inr (7, [.ref dr, .int i152, .ref nu, .ref le, .int (nI ln), .int (nI k153), .int i154])), (le, .inl (cI, 220, .inl fle)), (dr, .inr (5, [.int (nI st), .int bl, .int mm, .int (nI nq), .int (nI k162), .ref o5, .ref o6, .ref o7, .ref o8, .ref o9, .ref o10, .ref o11, .ref o12])), (o10, .inl (cI, 4, .inl f159)), (o11, .inl (cI, 4, .inl f160)), (o12, .inl (cI, 4, .inl f161)), (nu, .inl (cI, 5, .inl f151))] H := hP
                have hD : va_D A [(o5, .inl (cI, 8, .inl fo5)), (o6, .inl (cI, 8, .inl fo6)), (o7, .inl (cI, 8, .inl fo7)), (o8, .inl (cI, 8, .inl fo8)), (o9, .inl (cI, 8, .inl fo9)), (h0, .inr (7, [.ref dr, .int i152, .ref nu, .ref le, .int (nI ln), .int (nI k153), .int i154])), (le, .inl (cI, 220, .inl fle)), (dr, .inr (5, [.int (nI st), .int bl, .int mm, .int (nI nq), .int (nI k162), .ref o5, .ref o6, .ref o7, .ref o8, .ref o9, .ref o10, .ref o11, .ref o12])), (o10, .inl (cI, 4, .inl f159)), (o11, .inl (cI, 4, .inl f160)), (o12, .inl (cI, 4, .inl f161)), (nu, .inl (cI, 5, .inl f151))] := hD
                try dsimp only at hw158
                refine lv_goto (tgt := 219) hx hb dX7_readClause_207 (by decide) ?_
                have hP9 := hP.sub (ws' := [(h0, .inr (7, [.ref dr, .int i152, .ref nu, .ref le, .int (nI ln), .int (nI k153), .int i154])), (le, .inl (cI, 220, .inl fle)), (nu, .inl (cI, 5, .inl f151)), (dr, .inr (5, [.int (nI st), .int bl, .int mm, .int (nI nq), .int (nI k162), .ref o5, .ref o6, .ref o7, .ref o8, .ref o9, .ref o10, .ref o11, .ref o12])), (o5, .inl (cI, 8, .inl fo5)), (o6, .inl (cI, 8, .inl fo6)), (o7, .inl (cI, 8, .inl fo7)), (o8, .inl (cI, 8, .inl fo8)), (o9, .inl (cI, 8, .inl fo9)), (o10, .inl (cI, 4, .inl f159)), (o11, .inl (cI, 4, .inl f160)), (o12, .inl (cI, 4, .inl f161))]) [5, 6, 11, 7, 0, 1, 2, 3, 4, 8, 9, 10] rfl
                have hD9 := hD.sub (ws' := [(h0, .inr (7, [.ref dr, .int i152, .ref nu, .ref le, .int (nI ln), .int (nI k153), .int i154])), (le, .inl (cI, 220, .inl fle)), (nu, .inl (cI, 5, .inl f151)), (dr, .inr (5, [.int (nI st), .int bl, .int mm, .int (nI nq), .int (nI k162), .ref o5, .ref o6, .ref o7, .ref o8, .ref o9, .ref o10, .ref o11, .ref o12])), (o5, .inl (cI, 8, .inl fo5)), (o6, .inl (cI, 8, .inl fo6)), (o7, .inl (cI, 8, .inl fo7)), (o8, .inl (cI, 8, .inl fo8)), (o9, .inl (cI, 8, .inl fo9)), (o10, .inl (cI, 4, .inl f159)), (o11, .inl (cI, 4, .inl f160)), (o12, .inl (cI, 4, .inl f161))]) [5, 6, 11, 7, 0, 1, 2, 3, 4, 8, 9, 10] (by decide +kernel) rfl
                exact W.vret hx hb hr (fun t ht hW => ⟨⟨(fun _ => 0), rfl, trivial, ⟨f151, fo5, fo6, fo7, fo8, fo9, f159, f160, f161, i152, i154, bl, mm, k153, st, nq, k162, by omega, by omega, by omega, by omega, by rw [ht]; exact hP9, hD9⟩⟩, hS.F ht⟩) hS.2.2 dX7_readClause_219
              ·
                refine lv_if_eq (tgt := 219) hx hb dX7_readClause_193 (by decide) (fun c163 => ?_) (fun c163 => ?_)
                rotate_left
                · exact absurd c163 (by decide)
                clear c163
                have hP9 := hP.sub (ws' := [(h0, .inr (7, [.ref dr, .int i152, .ref nu, .ref le, .int (nI ln), .int (nI k153), .int i154])), (le, .inl (cI, 220, .inl fle)), (nu, .inl (cI, 5, .inl f151)), (dr, .inr (5, [.int (nI st), .int bl, .int mm, .int (nI nq), .int (nI nh), .ref o5, .ref o6, .ref o7, .ref o8, .ref o9, .ref o10, .ref o11, .ref o12])), (o5, .inl (cI, 8, .inl fo5)), (o6, .inl (cI, 8, .inl fo6)), (o7, .inl (cI, 8, .inl fo7)), (o8, .inl (cI, 8, .inl fo8)), (o9, .inl (cI, 8, .inl fo9)), (o10, .inl (cI, 4, .inl fo10)), (o11, .inl (cI, 4, .inl fo11)), (o12, .inl (cI, 4, .inl fo12))]) [9, 10, 11, 0, 1, 2, 3, 4, 5, 6, 7, 8] rfl
                have hD9 := hD.sub (ws' := [(h0, .inr (7, [.ref dr, .int i152, .ref nu, .ref le, .int (nI ln), .int (nI k153), .int i154])), (le, .inl (cI, 220, .inl fle)), (nu, .inl (cI, 5, .inl f151)), (dr, .inr (5, [.int (nI st), .int bl, .int mm, .int (nI nq), .int (nI nh), .ref o5, .ref o6, .ref o7, .ref o8, .ref o9, .ref o10, .ref o11, .ref o12])), (o5, .inl (cI, 8, .inl fo5)), (o6, .inl (cI, 8, .inl fo6)), (o7, .inl (cI, 8, .inl fo7)), (o8, .inl (cI, 8, .inl fo8)), (o9, .inl (cI, 8, .inl fo9)), (o10, .inl (cI, 4, .inl fo10)), (o11, .inl (cI, 4, .inl fo11)), (o12, .inl (cI, 4, .inl fo12))]) [9, 10, 11, 0, 1, 2, 3, 4, 5, 6, 7, 8] (by decide +kernel) rfl
                exact W.vret hx hb hr (fun t ht hW => ⟨⟨(fun _ => 0), rfl, trivial, ⟨f151, fo5, fo6, fo7, fo8, fo9, fo10, fo11, fo12, i152, i154, bl, mm, k153, st, nq, nh, by omega, by omega, by omega, by omega, by rw [ht]; exact hP9, hD9⟩⟩, hS.F ht⟩) hS.2.2 dX7_readClause_219
            ·
              refine lv_if_eq (tgt := 219) hx hb dX7_readClause_180 (by decide) (fun c164 => ?_) (fun c164 => ?_)
              rotate_left
              · exact absurd c164 (by decide)
              clear c164
              have hP9 := hP.sub (ws' := [(h0, .inr (7, [.ref dr, .int i144, .ref nu, .ref le, .int (nI ln), .int (nI k145), .int i146])), (le, .inl (cI, 220, .inl fle)), (nu, .inl (cI, 5, .inl fnu)), (dr, .inr (5, [.int (nI st), .int bl, .int mm, .int (nI nq), .int (nI nh), .ref o5, .ref o6, .ref o7, .ref o8, .ref o9, .ref o10, .ref o11, .ref o12])), (o5, .inl (cI, 8, .inl fo5)), (o6, .inl (cI, 8, .inl fo6)), (o7, .inl (cI, 8, .inl fo7)), (o8, .inl (cI, 8, .inl fo8)), (o9, .inl (cI, 8, .inl fo9)), (o10, .inl (cI, 4, .inl fo10)), (o11, .inl (cI, 4, .inl fo11)), (o12, .inl (cI, 4, .inl fo12))]) [11, 0, 1, 2, 3, 4, 5, 6, 7, 8, 9, 10] rfl
              have hD9 := hD.sub (ws' := [(h0, .inr (7, [.ref dr, .int i144, .ref nu, .ref le, .int (nI ln), .int (nI k145), .int i146])), (le, .inl (cI, 220, .inl fle)), (nu, .inl (cI, 5, .inl fnu)), (dr, .inr (5, [.int (nI st), .int bl, .int mm, .int (nI nq), .int (nI nh), .ref o5, .ref o6, .ref o7, .ref o8, .ref o9, .ref o10, .ref o11, .ref o12])), (o5, .inl (cI, 8, .inl fo5)), (o6, .inl (cI, 8, .inl fo6)), (o7, .inl (cI, 8, .inl fo7)), (o8, .inl (cI, 8, .inl fo8)), (o9, .inl (cI, 8, .inl fo9)), (o10, .inl (cI, 4, .inl fo10)), (o11, .inl (cI, 4, .inl fo11)), (o12, .inl (cI, 4, .inl fo12))]) [11, 0, 1, 2, 3, 4, 5, 6, 7, 8, 9, 10] (by decide +kernel) rfl
              exact W.vret hx hb hr (fun t ht hW => ⟨⟨(fun _ => 0), rfl, trivial, ⟨fnu, fo5, fo6, fo7, fo8, fo9, fo10, fo11, fo12, i144, i146, bl, mm, k145, st, nq, nh, by omega, by omega, by omega, by omega, by rw [ht]; exact hP9, hD9⟩⟩, hS.F ht⟩) hS.2.2 dX7_readClause_219
          ·
            have c140 : ¬ nh < 4 := fun h => c140 ((nI_ltI (a := nh) (b := 4) (by omega) (by omega)).mpr h)
            refine lv_iconst (v := 1) hx hb dX7_readClause_172 (by decide) ?_
            refine lv_goto (tgt := 177) hx hb dX7_readClause_173 (by decide) ?_
            have hPc := hP.sub (ws' := [(h0, .inr (7, [.ref dr, .int fa, .ref nu, .ref le, .int (nI ln), .int (nI at9), .int fu]))]) [0] rfl
            have hDc := hD.sub (ws' := [(h0, .inr (7, [.ref dr, .int fa, .ref nu, .ref le, .int (nI ln), .int (nI at9), .int fu]))]) [0] (by decide) rfl
            have hFc := va_free (wc := [(h0, .inr (7, [.ref dr, .int fa, .ref nu, .ref le, .int (nI ln), .int (nI at9), .int fu]))]) hD hS hA [0] rfl
            refine va_calli (va_runV (As := [.int 1]) (rest := []) ⟨hx, hb, hml, hown, hts⟩ (c_X7_startWord l dC dI cI cZ cQ h0 dr fa nu le ln at9 fu 1 H.size (by omega) (by omega)) (cwV 1 hts gX7_readClause_X7_startWord rfl rfl rfl (by decide +kernel) ⟨Nat.le_of_ble_eq_true rfl, Nat.le_of_ble_eq_true rfl⟩) ⟨fun a U g mk q => by obtain ⟨q0, q1, qP, qK, qD⟩ := q; exact ⟨q0, q1, qP, va_K.moved (u := U) (U := U.calling g mk a) (Vm.Alike.refl U.vm) qK, qD⟩, va_recv hK hP (ci := 7) (q0 := 0) rfl rfl, fun U hU hW => ⟨rfl, by rw [hU], by rw [hU]; exact hPc, va_K.moved hW.alike hK, hDc.weaken (fun _ _ _ _ => trivial)⟩⟩ rfl rfl hl.1 rfl (lv_room (Nat.le_of_ble_eq_true rfl)) dX7_readClause_177 ⟨Nat.le_of_ble_eq_true rfl, Nat.le_of_ble_eq_true rfl⟩) hS (fun q _ h => hFc q h) hFc (fun r165 u166 t H1 locs ht hvm hw167 hB hz1 hk1 hS => ?_)
            obtain ⟨i168, i170, k169, hk169, hP1, hD1⟩ := hB
            rw [ht] at hP1
            obtain ⟨hP, hD⟩ := va_join (wr := [(le, .inl (cI, 220, .inl fle)), (nu, .inl (cI, 5, .inl fnu)), (dr, .inr (5, [.int (nI st), .int bl, .int mm, .int (nI nq), .int (nI nh), .ref o5, .ref o6, .ref o7, .ref o8, .ref o9, .ref o10, .ref o11, .ref o12])), (o5, .inl (cI, 8, .inl fo5)), (o6, .inl (cI, 8, .inl fo6)), (o7, .inl (cI, 8, .inl fo7)), (o8, .inl (cI, 8, .inl fo8)), (o9, .inl (cI, 8, .inl fo9)), (o10, .inl (cI, 4, .inl fo10)), (o11, .inl (cI, 4, .inl fo11)), (o12, .inl (cI, 4, .inl fo12))]) (w1 := [(h0, .inr (7, [.ref dr, .int i168, .ref nu, .ref le, .int (nI ln), .int (nI k169), .int i170]))]) hP hD [0] [1, 2, 3, 4, 5, 6, 7, 8, 9, 10, 11] rfl rfl (by decide +kernel) (by decide +kernel) hk1 hFc hP1 hD1
            clear hP1 hD1
            clear hz1 hk1 hPc hDc hFc
            generalize H1 = H at hP hS ht ⊢
            have hP : va_P (dC, dI) vwCl [(le, .inl (cI, 220, .inl fle)), (nu, .inl (cI, 5, .inl fnu)), (dr, .inr (5, [.int (nI st), .int bl, .int mm, .int (nI nq), .int (nI nh), .ref o5, .ref o6, .ref o7, .ref o8, .ref o9, .ref o10, .ref o11, .ref o12])), (o5, .inl (cI, 8, .inl fo5)), (o6, .inl (cI, 8, .inl fo6)), (o7, .inl (cI, 8, .inl fo7)), (o8, .inl (cI, 8, .inl fo8)), (o9, .inl (cI, 8, .inl fo9)), (o10, .inl (cI, 4, .inl fo10)), (o11, .inl (cI, 4, .inl fo11)), (o12, .inl (cI, 4, .inl fo12)), (h0, .inr (7, [.ref dr, .int i168, .ref nu, .ref le, .int (nI ln), .int (nI k169), .int i170]))] H := hP
            have hD : va_D A [(le, .inl (cI, 220, .inl fle)), (nu, .inl (cI, 5, .inl fnu)), (dr, .inr (5, [.int (nI st), .int bl, .int mm, .int (nI nq), .int (nI nh), .ref o5, .ref o6, .ref o7, .ref o8, .ref o9, .ref o10, .ref o11, .ref o12])), (o5, .inl (cI, 8, .inl fo5)), (o6, .inl (cI, 8, .inl fo6)), (o7, .inl (cI, 8, .inl fo7)), (o8, .inl (cI, 8, .inl fo8)), (o9, .inl (cI, 8, .inl fo9)), (o10, .inl (cI, 4, .inl fo10)), (o11, .inl (cI, 4, .inl fo11)), (o12, .inl (cI, 4, .inl fo12)), (h0, .inr (7, [.ref dr, .int i168, .ref nu, .ref le, .int (nI ln), .int (nI k169), .int i170]))] := hD
            try dsimp only at hw167
            rcases hw167 with rfl | rfl
            ·
              refine lv_if_eq (tgt := 219) hx hb dX7_readClause_180 (by decide) (fun c171 => ?_) (fun c171 => ?_)
              · exact absurd c171 (by decide)
              clear c171
              refine lv_aload_n hx hb dX7_readClause_183 rfl (lv_at hl 1 rfl) ?_
              refine va_gets hx hb hZ_HAND_LEAST hS hown (hts (.fieldLink RX7 107 "LeftQuills$Reader" "HAND_LEAST" "[I") (wmx 11 rfl)) (fun _ h9 => h9) dX7_readClause_184 ?_
              refine va_gets hx hb hZ_HAND_MOST hS hown (hts (.fieldLink RX7 110 "LeftQuills$Reader" "HAND_MOST" "[I") (wmx 12 rfl)) (fun _ h9 => h9) dX7_readClause_187 ?_
              have hPc := hP.sub (ws' := [(h0, .inr (7, [.ref dr, .int i168, .ref nu, .ref le, .int (nI ln), .int (nI k169), .int i170])), (le, .inl (cI, 220, .inl fle)), (nu, .inl (cI, 5, .inl fnu))]) [11, 0, 1] rfl
              have hDc := hD.sub (ws' := [(h0, .inr (7, [.ref dr, .int i168, .ref nu, .ref le, .int (nI ln), .int (nI k169), .int i170])), (le, .inl (cI, 220, .inl fle)), (nu, .inl (cI, 5, .inl fnu))]) [11, 0, 1] (by decide) rfl
              have hFc := va_free (wc := [(h0, .inr (7, [.ref dr, .int i168, .ref nu, .ref le, .int (nI ln), .int (nI k169), .int i170])), (le, .inl (cI, 220, .inl fle)), (nu, .inl (cI, 5, .inl fnu))]) hD hS hA [11, 0, 1] rfl
              refine va_calli (va_runV (As := [.ref t_HAND_LEAST, .ref t_HAND_MOST]) (rest := []) ⟨hx, hb, hml, hown, hts⟩ (c_X7_readNumbers l dC dI cI cZ cQ h0 dr i168 nu le ln k169 i170 fle fnu t_HAND_LEAST t_HAND_MOST 3 g_HAND_LEAST 3 g_HAND_MOST H.size (by omega) (by omega) (by omega) (by omega)) (cwV 2 hts gX7_readClause_X7_readNumbers rfl rfl rfl (by decide +kernel) ⟨Nat.le_of_ble_eq_true rfl, Nat.le_of_ble_eq_true rfl⟩) ⟨fun a U g mk q => by obtain ⟨q0, q1, qP, qK, qD, qN, qT_t1, qT_t2⟩ := q; exact ⟨q0, q1, qP, va_K.moved (u := U) (U := U.calling g mk a) (Vm.Alike.refl U.vm) qK, qD, qN.calling, va_T.moved (u := U) (Vm.Alike.refl U.vm) qT_t1, va_T.moved (u := U) (Vm.Alike.refl U.vm) qT_t2⟩, va_recv hK hP (ci := 7) (q0 := 11) rfl rfl, fun U hU hW => ⟨rfl, by rw [hU], by rw [hU]; exact hPc, va_K.moved hW.alike hK, hDc.weaken (fun _ _ _ _ => trivial), hN.warm hW, by rw [hU]; exact va_T.moved hW.alike ((hT_t_HAND_LEAST.kept hS.2.1).narrow hFc), by rw [hU]; exact va_T.moved hW.alike ((hT_t_HAND_MOST.kept hS.2.1).narrow hFc)⟩⟩ rfl rfl hl.1 rfl (lv_room (Nat.le_of_ble_eq_true rfl)) dX7_readClause_190 ⟨Nat.le_of_ble_eq_true rfl, Nat.le_of_ble_eq_true rfl⟩) hS (fun q _ h => hFc q h) hFc (fun r172 u173 t H1 locs ht hvm hw174 hB hz1 hk1 hS => ?_)
              obtain ⟨f175, i176, i178, k177, hk177, hP1, hD1⟩ := hB
              rw [ht] at hP1
              obtain ⟨hP, hD⟩ := va_join (wr := [(dr, .inr (5, [.int (nI st), .int bl, .int mm, .int (nI nq), .int (nI nh), .ref o5, .ref o6, .ref o7, .ref o8, .ref o9, .ref o10, .ref o11, .ref o12])), (o5, .inl (cI, 8, .inl fo5)), (o6, .inl (cI, 8, .inl fo6)), (o7, .inl (cI, 8, .inl fo7)), (o8, .inl (cI, 8, .inl fo8)), (o9, .inl (cI, 8, .inl fo9)), (o10, .inl (cI, 4, .inl fo10)), (o11, .inl (cI, 4, .inl fo11)), (o12, .inl (cI, 4, .inl fo12))]) (w1 := [(h0, .inr (7, [.ref dr, .int i176, .ref nu, .ref le, .int (nI ln), .int (nI k177), .int i178])), (le, .inl (cI, 220, .inl fle)), (nu, .inl (cI, 5, .inl f175))]) hP hD [11, 0, 1] [2, 3, 4, 5, 6, 7, 8, 9, 10] rfl rfl (by decide +kernel) (by decide +kernel) hk1 hFc hP1 hD1
              clear hP1 hD1
              clear hz1 hk1 hPc hDc hFc
              generalize H1 = H at hP hS ht ⊢
              have hP : va_P (dC, dI) vwCl [(dr, .inr (5, [.int (nI st), .int bl, .int mm, .int (nI nq), .int (nI nh), .ref o5, .ref o6, .ref o7, .ref o8, .ref o9, .ref o10, .ref o11, .ref o12])), (o5, .inl (cI, 8, .inl fo5)), (o6, .inl (cI, 8, .inl fo6)), (o7, .inl (cI, 8, .inl fo7)), (o8, .inl (cI, 8, .inl fo8)), (o9, .inl (cI, 8, .inl fo9)), (o10, .inl (cI, 4, .inl fo10)), (o11, .inl (cI, 4, .inl fo11)), (o12, .inl (cI, 4, .inl fo12)), (h0, .inr (7, [.ref dr, .int i176, .ref nu, .ref le, .int (nI ln), .int (nI k177), .int i178])), (le, .inl (cI, 220, .inl fle)), (nu, .inl (cI, 5, .inl f175))] H := hP
              have hD : va_D A [(dr, .inr (5, [.int (nI st), .int bl, .int mm, .int (nI nq), .int (nI nh), .ref o5, .ref o6, .ref o7, .ref o8, .ref o9, .ref o10, .ref o11, .ref o12])), (o5, .inl (cI, 8, .inl fo5)), (o6, .inl (cI, 8, .inl fo6)), (o7, .inl (cI, 8, .inl fo7)), (o8, .inl (cI, 8, .inl fo8)), (o9, .inl (cI, 8, .inl fo9)), (o10, .inl (cI, 4, .inl fo10)), (o11, .inl (cI, 4, .inl fo11)), (o12, .inl (cI, 4, .inl fo12)), (h0, .inr (7, [.ref dr, .int i176, .ref nu, .ref le, .int (nI ln), .int (nI k177), .int i178])), (le, .inl (cI, 220, .inl fle)), (nu, .inl (cI, 5, .inl f175))] := hD
              try dsimp only at hw174
              rcases hw174 with rfl | rfl
              ·
                refine lv_if_eq (tgt := 219) hx hb dX7_readClause_193 (by decide) (fun c179 => ?_) (fun c179 => ?_)
                · exact absurd c179 (by decide)
                clear c179
                refine lv_aload_n hx hb dX7_readClause_196 rfl (lv_at hl 1 rfl) ?_
                refine va_get (D := (dC, dI)) (ci := 7) (v := .ref dr) (C := RX7) (T := TX7) (N := 7) hx hb hts hi_X7 hown hK hP 9 rfl rfl 0 (by decide) (hts (.fieldLink RX7 12 "LeftQuills$Reader" "draft" "LLeftQuills$Office;") (wmx 1 rfl)) (fun _ h9 => h9) rfl dX7_readClause_197 ?_
                refine lv_aload_n hx hb dX7_readClause_200 rfl (lv_at hl 1 rfl) ?_
                refine va_get (D := (dC, dI)) (ci := 7) (v := .ref nu) (C := RX7) (T := TX7) (N := 7) hx hb hts hi_X7 hown hK hP 9 rfl rfl 2 (by decide) (hts (.fieldLink RX7 22 "LeftQuills$Reader" "numbers" "[I") (wmx 6 rfl)) (fun _ h9 => h9) rfl dX7_readClause_201 ?_
                have hPc := hP.sub (ws' := [(dr, .inr (5, [.int (nI st), .int bl, .int mm, .int (nI nq), .int (nI nh), .ref o5, .ref o6, .ref o7, .ref o8, .ref o9, .ref o10, .ref o11, .ref o12])), (o10, .inl (cI, 4, .inl fo10)), (o11, .inl (cI, 4, .inl fo11)), (o12, .inl (cI, 4, .inl fo12)), (nu, .inl (cI, 5, .inl f175))]) [0, 6, 7, 8, 11] rfl
                have hDc := hD.sub (ws' := [(dr, .inr (5, [.int (nI st), .int bl, .int mm, .int (nI nq), .int (nI nh), .ref o5, .ref o6, .ref o7, .ref o8, .ref o9, .ref o10, .ref o11, .ref o12])), (o10, .inl (cI, 4, .inl fo10)), (o11, .inl (cI, 4, .inl fo11)), (o12, .inl (cI, 4, .inl fo12)), (nu, .inl (cI, 5, .inl f175))]) [0, 6, 7, 8, 11] (by decide) rfl
                have hFc := va_free (wc := [(dr, .inr (5, [.int (nI st), .int bl, .int mm, .int (nI nq), .int (nI nh), .ref o5, .ref o6, .ref o7, .ref o8, .ref o9, .ref o10, .ref o11, .ref o12])), (o10, .inl (cI, 4, .inl fo10)), (o11, .inl (cI, 4, .inl fo11)), (o12, .inl (cI, 4, .inl fo12)), (nu, .inl (cI, 5, .inl f175))]) hD hS hA [0, 6, 7, 8, 11] rfl
                refine va_callv (va_runV (As := [.ref nu]) (rest := []) ⟨hx, hb, hml, hown, hts⟩ (c_X5_addHand l dC dI cI cZ cQ dr st bl mm nq nh o5 o6 o7 o8 o9 o10 o11 o12 fo10 fo11 fo12 nu f175 H.size (by omega) (by omega)) (cwV 1 hts gX7_readClause_X5_addHand rfl rfl rfl (by decide +kernel) ⟨Nat.le_of_ble_eq_true rfl, Nat.le_of_ble_eq_true rfl⟩) ⟨fun a U g mk q => by obtain ⟨q0, q1, qP, qK, qD⟩ := q; exact ⟨q0, q1, qP, va_K.moved (u := U) (U := U.calling g mk a) (Vm.Alike.refl U.vm) qK, qD⟩, va_recv hK hP (ci := 5) (q0 := 0) rfl rfl, fun U hU hW => ⟨rfl, by rw [hU], by rw [hU]; exact hPc, va_K.moved hW.alike hK, hDc.weaken (fun _ _ _ _ => trivial)⟩⟩ rfl rfl hl.1 rfl (lv_room (Nat.le_of_ble_eq_true rfl)) dX7_readClause_204 ⟨Nat.le_of_ble_eq_true rfl, Nat.le_of_ble_eq_true rfl⟩) hS (fun q _ h => hFc q h) hFc (fun u181 t H1 locs ht hvm hw182 hB hz1 hk1 hS => ?_)
                obtain ⟨f183, f184, f185, k186, hk186, hP1, hD1⟩ := hB
                rw [ht] at hP1
                obtain ⟨hP, hD⟩ := va_join (wr := [(o5, .inl (cI, 8, .inl fo5)), (o6, .inl (cI, 8, .inl fo6)), (o7, .inl (cI, 8, .inl fo7)), (o8, .inl (cI, 8, .inl fo8)), (o9, .inl (cI, 8, .inl fo9)), (h0, .inr (7, [.ref dr, .int i176, .ref nu, .ref le, .int (nI ln), .int (nI k177), .int i178])), (le, .inl (cI, 220, .inl fle))]) (w1 := [(dr, .inr (5, [.int (nI st), .int bl, .int mm, .int (nI nq), .int (nI k186), .ref o5, .ref o6, .ref o7, .ref o8, .ref o9, .ref o10, .ref o11, .ref o12])), (o10, .inl (cI, 4, .inl f183)), (o11, .inl (cI, 4, .inl f184)), (o12, .inl (cI, 4, .inl f185)), (nu, .inl (cI, 5, .inl f175))]) hP hD [0, 6, 7, 8, 11] [1, 2, 3, 4, 5, 9, 10] rfl rfl (by decide +kernel) (by decide +kernel) hk1 hFc hP1 hD1
                clear hP1 hD1
                clear hz1 hk1 hPc hDc hFc
                generalize H1 = H at hP hS ht ⊢
                have hP : va_P (dC, dI) vwCl [(o5, .inl (cI, 8, .inl fo5)), (o6, .inl (cI, 8, .inl fo6)), (o7, .inl (cI, 8, .inl fo7)), (o8, .inl (cI, 8, .inl fo8)), (o9, .inl (cI, 8, .inl fo9)), (h0, .inr (7, [.ref dr, .int i176, .ref nu, .ref le, .int (nI ln), .int (nI k177), .int i178])), (le, .inl (cI, 220, .inl fle)), (dr, .inr (5, [.int (nI st), .int bl, .int mm, .int (nI nq), .int (nI k186), .ref o5, .ref o6, .ref o7, .ref o8, .ref o9, .ref o10, .ref o11, .ref o12])), (o10, .inl (cI, 4, .inl f183)), (o11, .inl (cI, 4, .inl f184)), (o12, .inl (cI, 4, .inl f185)), (nu, .inl (cI, 5, .inl f175))] H := hP
                have hD : va_D A [(o5, .inl (cI, 8, .inl fo5)), (o6, .inl (cI, 8, .inl fo6)), (o7, .inl (cI, 8, .inl fo7)), (o8, .inl (cI, 8, .inl fo8)), (o9, .inl (cI, 8, .inl fo9)), (h0, .inr (7, [.ref dr, .int i176, .ref nu, .ref le, .int (nI ln), .int (nI k177), .int i178])), (le, .inl (cI, 220, .inl fle)), (dr, .inr (5, [.int (nI st), .int bl, .int mm, .int (nI nq), .int (nI k186), .ref o5, .ref o6, .ref o7, .ref o8, .ref o9, .ref o10, .ref o11, .ref o12])), (o10, .inl (cI, 4, .inl f183)), (o11, .inl (cI, 4, .inl f184)), (o12, .inl (cI, 4, .inl f185)), (nu, .inl (cI, 5, .inl f175))] := hD
                try dsimp only at hw182
                refine lv_goto (tgt := 219) hx hb dX7_readClause_207 (by decide) ?_
                have hP9 := hP.sub (ws' := [(h0, .inr (7, [.ref dr, .int i176, .ref nu, .ref le, .int (nI ln), .int (nI k177), .int i178])), (le, .inl (cI, 220, .inl fle)), (nu, .inl (cI, 5, .inl f175)), (dr, .inr (5, [.int (nI st), .int bl, .int mm, .int (nI nq), .int (nI k186), .ref o5, .ref o6, .ref o7, .ref o8, .ref o9, .ref o10, .ref o11, .ref o12])), (o5, .inl (cI, 8, .inl fo5)), (o6, .inl (cI, 8, .inl fo6)), (o7, .inl (cI, 8, .inl fo7)), (o8, .inl (cI, 8, .inl fo8)), (o9, .inl (cI, 8, .inl fo9)), (o10, .inl (cI, 4, .inl f183)), (o11, .inl (cI, 4, .inl f184)), (o12, .inl (cI, 4, .inl f185))]) [5, 6, 11, 7, 0, 1, 2, 3, 4, 8, 9, 10] rfl
                have hD9 := hD.sub (ws' := [(h0, .inr (7, [.ref dr, .int i176, .ref nu, .ref le, .int (nI ln), .int (nI k177), .int i178])), (le, .inl (cI, 220, .inl fle)), (nu, .inl (cI, 5, .inl f175)), (dr, .inr (5, [.int (nI st), .int bl, .int mm, .int (nI nq), .int (nI k186), .ref o5, .ref o6, .ref o7, .ref o8, .ref o9, .ref o10, .ref o11, .ref o12])), (o5, .inl (cI, 8, .inl fo5)), (o6, .inl (cI, 8, .inl fo6)), (o7, .inl (cI, 8, .inl fo7)), (o8, .inl (cI, 8, .inl fo8)), (o9, .inl (cI, 8, .inl fo9)), (o10, .inl (cI, 4, .inl f183)), (o11, .inl (cI, 4, .inl f184)), (o12, .inl (cI, 4, .inl f185))]) [5, 6, 11, 7, 0, 1, 2, 3, 4, 8, 9, 10] (by decide +kernel) rfl
                exact W.vret hx hb hr (fun t ht hW => ⟨⟨(fun _ => 0), rfl, trivial, ⟨f175, fo5, fo6, fo7, fo8, fo9, f183, f184, f185, i176, i178, bl, mm, k177, st, nq, k186, by omega, by omega, by omega, by omega, by rw [ht]; exact hP9, hD9⟩⟩, hS.F ht⟩) hS.2.2 dX7_readClause_219
              ·
                refine lv_if_eq (tgt := 219) hx hb dX7_readClause_193 (by decide) (fun c187 => ?_) (fun c187 => ?_)
                rotate_left
                · exact absurd c187 (by decide)
                clear c187
                have hP9 := hP.sub (ws' := [(h0, .inr (7, [.ref dr, .int i176, .ref nu, .ref le, .int (nI ln), .int (nI k177), .int i178])), (le, .inl (cI, 220, .inl fle)), (nu, .inl (cI, 5, .inl f175)), (dr, .inr (5, [.int (nI st), .int bl, .int mm, .int (nI nq), .int (nI nh), .ref o5, .ref o6, .ref o7, .ref o8, .ref o9, .ref o10, .ref o11, .ref o12])), (o5, .inl (cI, 8, .inl fo5)), (o6, .inl (cI, 8, .inl fo6)), (o7, .inl (cI, 8, .inl fo7)), (o8, .inl (cI, 8, .inl fo8)), (o9, .inl (cI, 8, .inl fo9)), (o10, .inl (cI, 4, .inl fo10)), (o11, .inl (cI, 4, .inl fo11)), (o12, .inl (cI, 4, .inl fo12))]) [9, 10, 11, 0, 1, 2, 3, 4, 5, 6, 7, 8] rfl
                have hD9 := hD.sub (ws' := [(h0, .inr (7, [.ref dr, .int i176, .ref nu, .ref le, .int (nI ln), .int (nI k177), .int i178])), (le, .inl (cI, 220, .inl fle)), (nu, .inl (cI, 5, .inl f175)), (dr, .inr (5, [.int (nI st), .int bl, .int mm, .int (nI nq), .int (nI nh), .ref o5, .ref o6, .ref o7, .ref o8, .ref o9, .ref o10, .ref o11, .ref o12])), (o5, .inl (cI, 8, .inl fo5)), (o6, .inl (cI, 8, .inl fo6)), (o7, .inl (cI, 8, .inl fo7)), (o8, .inl (cI, 8, .inl fo8)), (o9, .inl (cI, 8, .inl fo9)), (o10, .inl (cI, 4, .inl fo10)), (o11, .inl (cI, 4, .inl fo11)), (o12, .inl (cI, 4, .inl fo12))]) [9, 10, 11, 0, 1, 2, 3, 4, 5, 6, 7, 8] (by decide +kernel) rfl
                exact W.vret hx hb hr (fun t ht hW => ⟨⟨(fun _ => 0), rfl, trivial, ⟨f175, fo5, fo6, fo7, fo8, fo9, fo10, fo11, fo12, i176, i178, bl, mm, k177, st, nq, nh, by omega, by omega, by omega, by omega, by rw [ht]; exact hP9, hD9⟩⟩, hS.F ht⟩) hS.2.2 dX7_readClause_219
            ·
              refine lv_if_eq (tgt := 219) hx hb dX7_readClause_180 (by decide) (fun c188 => ?_) (fun c188 => ?_)
              rotate_left
              · exact absurd c188 (by decide)
              clear c188
              have hP9 := hP.sub (ws' := [(h0, .inr (7, [.ref dr, .int i168, .ref nu, .ref le, .int (nI ln), .int (nI k169), .int i170])), (le, .inl (cI, 220, .inl fle)), (nu, .inl (cI, 5, .inl fnu)), (dr, .inr (5, [.int (nI st), .int bl, .int mm, .int (nI nq), .int (nI nh), .ref o5, .ref o6, .ref o7, .ref o8, .ref o9, .ref o10, .ref o11, .ref o12])), (o5, .inl (cI, 8, .inl fo5)), (o6, .inl (cI, 8, .inl fo6)), (o7, .inl (cI, 8, .inl fo7)), (o8, .inl (cI, 8, .inl fo8)), (o9, .inl (cI, 8, .inl fo9)), (o10, .inl (cI, 4, .inl fo10)), (o11, .inl (cI, 4, .inl fo11)), (o12, .inl (cI, 4, .inl fo12))]) [11, 0, 1, 2, 3, 4, 5, 6, 7, 8, 9, 10] rfl
              have hD9 := hD.sub (ws' := [(h0, .inr (7, [.ref dr, .int i168, .ref nu, .ref le, .int (nI ln), .int (nI k169), .int i170])), (le, .inl (cI, 220, .inl fle)), (nu, .inl (cI, 5, .inl fnu)), (dr, .inr (5, [.int (nI st), .int bl, .int mm, .int (nI nq), .int (nI nh), .ref o5, .ref o6, .ref o7, .ref o8, .ref o9, .ref o10, .ref o11, .ref o12])), (o5, .inl (cI, 8, .inl fo5)), (o6, .inl (cI, 8, .inl fo6)), (o7, .inl (cI, 8, .inl fo7)), (o8, .inl (cI, 8, .inl fo8)), (o9, .inl (cI, 8, .inl fo9)), (o10, .inl (cI, 4, .inl fo10)), (o11, .inl (cI, 4, .inl fo11)), (o12, .inl (cI, 4, .inl fo12))]) [11, 0, 1, 2, 3, 4, 5, 6, 7, 8, 9, 10] (by decide +kernel) rfl
              exact W.vret hx hb hr (fun t ht hW => ⟨⟨(fun _ => 0), rfl, trivial, ⟨fnu, fo5, fo6, fo7, fo8, fo9, fo10, fo11, fo12, i168, i170, bl, mm, k169, st, nq, nh, by omega, by omega, by omega, by omega, by rw [ht]; exact hP9, hD9⟩⟩, hS.F ht⟩) hS.2.2 dX7_readClause_219
        by_cases c189 : r1 = 111
        · refine lv_lookup (tgt := 68) (off := 36) hx hb dX7_readClause_32 (by decide) (by rw [c189]; decide) (by decide) ?_
          refine lv_aload_n hx hb dX7_readClause_68 rfl (lv_at hl 1 rfl) ?_
          refine lv_aload_n hx hb dX7_readClause_69 rfl (lv_at hl 1 rfl) ?_
          refine va_get (D := (dC, dI)) (ci := 7) (v := .ref dr) (C := RX7) (T := TX7) (N := 7) hx hb hts hi_X7 hown hK hP 0 rfl rfl 0 (by decide) (hts (.fieldLink RX7 12 "LeftQuills$Reader" "draft" "LLeftQuills$Office;") (wmx 1 rfl)) (fun _ h9 => h9) rfl dX7_readClause_70 ?_
          refine va_get (D := (dC, dI)) (ci := 5) (v := .int (nI st)) (C := RX5) (T := TX5) (N := 13) hx hb hts hi_X5 hown hK hP 3 rfl rfl 0 (by decide) (hts (.fieldLink RX7 66 "LeftQuills$Office" "stands" "Z") (wmx 2 rfl)) (fun _ h9 => h9) rfl dX7_readClause_73 ?_
          have hPc := hP.sub (ws' := [(h0, .inr (7, [.ref dr, .int fa, .ref nu, .ref le, .int (nI ln), .int (nI at9), .int fu]))]) [0] rfl
          have hDc := hD.sub (ws' := [(h0, .inr (7, [.ref dr, .int fa, .ref nu, .ref le, .int (nI ln), .int (nI at9), .int fu]))]) [0] (by decide) rfl
          have hFc := va_free (wc := [(h0, .inr (7, [.ref dr, .int fa, .ref nu, .ref le, .int (nI ln), .int (nI at9), .int fu]))]) hD hS hA [0] rfl
          refine va_calli (va_runV (As := [.int (nI st)]) (rest := []) ⟨hx, hb, hml, hown, hts⟩ (c_X7_startWord l dC dI cI cZ cQ h0 dr fa nu le ln at9 fu (nI st) H.size (by omega) (by omega)) (cwV 1 hts gX7_readClause_X7_startWord rfl rfl rfl (by decide +kernel) ⟨Nat.le_of_ble_eq_true rfl, Nat.le_of_ble_eq_true rfl⟩) ⟨fun a U g mk q => by obtain ⟨q0, q1, qP, qK, qD⟩ := q; exact ⟨q0, q1, qP, va_K.moved (u := U) (U := U.calling g mk a) (Vm.Alike.refl U.vm) qK, qD⟩, va_recv hK hP (ci := 7) (q0 := 0) rfl rfl, fun U hU hW => ⟨rfl, by rw [hU], by rw [hU]; exact hPc, va_K.moved hW.alike hK, hDc.weaken (fun _ _ _ _ => trivial)⟩⟩ rfl rfl hl.1 rfl (lv_room (Nat.le_of_ble_eq_true rfl)) dX7_readClause_76 ⟨Nat.le_of_ble_eq_true rfl, Nat.le_of_ble_eq_true rfl⟩) hS (fun q _ h => hFc q h) hFc (fun r190 u191 t H1 locs ht hvm hw192 hB hz1 hk1 hS => ?_)
          obtain ⟨i193, i195, k194, hk194, hP1, hD1⟩ := hB
          rw [ht] at hP1
          obtain ⟨hP, hD⟩ := va_join (wr := [(le, .inl (cI, 220, .inl fle)), (nu, .inl (cI, 5, .inl fnu)), (dr, .inr (5, [.int (nI st), .int bl, .int mm, .int (nI nq), .int (nI nh), .ref o5, .ref o6, .ref o7, .ref o8, .ref o9, .ref o10, .ref o11, .ref o12])), (o5, .inl (cI, 8, .inl fo5)), (o6, .inl (cI, 8, .inl fo6)), (o7, .inl (cI, 8, .inl fo7)), (o8, .inl (cI, 8, .inl fo8)), (o9, .inl (cI, 8, .inl fo9)), (o10, .inl (cI, 4, .inl fo10)), (o11, .inl (cI, 4, .inl fo11)), (o12, .inl (cI, 4, .inl fo12))]) (w1 := [(h0, .inr (7, [.ref dr, .int i193, .ref nu, .ref le, .int (nI ln), .int (nI k194), .int i195]))]) hP hD [0] [1, 2, 3, 4, 5, 6, 7, 8, 9, 10, 11] rfl rfl (by decide +kernel) (by decide +kernel) hk1 hFc hP1 hD1
          clear hP1 hD1
          clear hz1 hk1 hPc hDc hFc
          generalize H1 = H at hP hS ht ⊢
          have hP : va_P (dC, dI) vwCl [(le, .inl (cI, 220, .inl fle)), (nu, .inl (cI, 5, .inl fnu)), (dr, .inr (5, [.int (nI st), .int bl, .int mm, .int (nI nq), .int (nI nh), .ref o5, .ref o6, .ref o7, .ref o8, .ref o9, .ref o10, .ref o11, .ref o12])), (o5, .inl (cI, 8, .inl fo5)), (o6, .inl (cI, 8, .inl fo6)), (o7, .inl (cI, 8, .inl fo7)), (o8, .inl (cI, 8, .inl fo8)), (o9, .inl (cI, 8, .inl fo9)), (o10, .inl (cI, 4, .inl fo10)), (o11, .inl (cI, 4, .inl fo11)), (o12, .inl (cI, 4, .inl fo12)), (h0, .inr (7, [.ref dr, .int i193, .ref nu, .ref le, .int (nI ln), .int (nI k194), .int i195]))] H := hP
          have hD : va_D A [(le, .inl (cI, 220, .inl fle)), (nu, .inl (cI, 5, .inl fnu)), (dr, .inr (5, [.int (nI st), .int bl, .int mm, .int (nI nq), .int (nI nh), .ref o5, .ref o6, .ref o7, .ref o8, .ref o9, .ref o10, .ref o11, .ref o12])), (o5, .inl (cI, 8, .inl fo5)), (o6, .inl (cI, 8, .inl fo6)), (o7, .inl (cI, 8, .inl fo7)), (o8, .inl (cI, 8, .inl fo8)), (o9, .inl (cI, 8, .inl fo9)), (o10, .inl (cI, 4, .inl fo10)), (o11, .inl (cI, 4, .inl fo11)), (o12, .inl (cI, 4, .inl fo12)), (h0, .inr (7, [.ref dr, .int i193, .ref nu, .ref le, .int (nI ln), .int (nI k194), .int i195]))] := hD
          try dsimp only at hw192
          rcases hw192 with rfl | rfl
          ·
            refine lv_if_eq (tgt := 219) hx hb dX7_readClause_79 (by decide) (fun c196 => ?_) (fun c196 => ?_)
            · exact absurd c196 (by decide)
            clear c196
            refine lv_aload_n hx hb dX7_readClause_82 rfl (lv_at hl 1 rfl) ?_
            refine va_gets hx hb hZ_BLADE_LEAST hS hown (hts (.fieldLink RX7 78 "LeftQuills$Reader" "BLADE_LEAST" "[I") (wmx 4 rfl)) (fun _ h9 => h9) dX7_readClause_83 ?_
            refine va_gets hx hb hZ_BLADE_MOST hS hown (hts (.fieldLink RX7 81 "LeftQuills$Reader" "BLADE_MOST" "[I") (wmx 5 rfl)) (fun _ h9 => h9) dX7_readClause_86 ?_
            have hPc := hP.sub (ws' := [(h0, .inr (7, [.ref dr, .int i193, .ref nu, .ref le, .int (nI ln), .int (nI k194), .int i195])), (le, .inl (cI, 220, .inl fle)), (nu, .inl (cI, 5, .inl fnu))]) [11, 0, 1] rfl
            have hDc := hD.sub (ws' := [(h0, .inr (7, [.ref dr, .int i193, .ref nu, .ref le, .int (nI ln), .int (nI k194), .int i195])), (le, .inl (cI, 220, .inl fle)), (nu, .inl (cI, 5, .inl fnu))]) [11, 0, 1] (by decide) rfl
            have hFc := va_free (wc := [(h0, .inr (7, [.ref dr, .int i193, .ref nu, .ref le, .int (nI ln), .int (nI k194), .int i195])), (le, .inl (cI, 220, .inl fle)), (nu, .inl (cI, 5, .inl fnu))]) hD hS hA [11, 0, 1] rfl
            refine va_calli (va_runV (As := [.ref t_BLADE_LEAST, .ref t_BLADE_MOST]) (rest := []) ⟨hx, hb, hml, hown, hts⟩ (c_X7_readNumbers l dC dI cI cZ cQ h0 dr i193 nu le ln k194 i195 fle fnu t_BLADE_LEAST t_BLADE_MOST 2 g_BLADE_LEAST 2 g_BLADE_MOST H.size (by omega) (by omega) (by omega) (by omega)) (cwV 2 hts gX7_readClause_X7_readNumbers rfl rfl rfl (by decide +kernel) ⟨Nat.le_of_ble_eq_true rfl, Nat.le_of_ble_eq_true rfl⟩) ⟨fun a U g mk q => by obtain ⟨q0, q1, qP, qK, qD, qN, qT_t1, qT_t2⟩ := q; exact ⟨q0, q1, qP, va_K.moved (u := U) (U := U.calling g mk a) (Vm.Alike.refl U.vm) qK, qD, qN.calling, va_T.moved (u := U) (Vm.Alike.refl U.vm) qT_t1, va_T.moved (u := U) (Vm.Alike.refl U.vm) qT_t2⟩, va_recv hK hP (ci := 7) (q0 := 11) rfl rfl, fun U hU hW => ⟨rfl, by rw [hU], by rw [hU]; exact hPc, va_K.moved hW.alike hK, hDc.weaken (fun _ _ _ _ => trivial), hN.warm hW, by rw [hU]; exact va_T.moved hW.alike ((hT_t_BLADE_LEAST.kept hS.2.1).narrow hFc), by rw [hU]; exact va_T.moved hW.alike ((hT_t_BLADE_MOST.kept hS.2.1).narrow hFc)⟩⟩ rfl rfl hl.1 rfl (lv_room (Nat.le_of_ble_eq_true rfl)) dX7_readClause_89 ⟨Nat.le_of_ble_eq_true rfl, Nat.le_of_ble_eq_true rfl⟩) hS (fun q _ h => hFc q h) hFc (fun r197 u198 t H1 locs ht hvm hw199 hB hz1 hk1 hS => ?_)
            obtain ⟨f200, i201, i203, k202, hk202, hP1, hD1⟩ := hB
            rw [ht] at hP1
            obtain ⟨hP, hD⟩ := va_join (wr := [(dr, .inr (5, [.int (nI st), .int bl, .int mm, .int (nI nq), .int (nI nh), .ref o5, .ref o6, .ref o7, .ref o8, .ref o9, .ref o10, .ref o11, .ref o12])), (o5, .inl (cI, 8, .inl fo5)), (o6, .inl (cI, 8, .inl fo6)), (o7, .inl (cI, 8, .inl fo7)), (o8, .inl (cI, 8, .inl fo8)), (o9, .inl (cI, 8, .inl fo9)), (o10, .inl (cI, 4, .inl fo10)), (o11, .inl (cI, 4, .inl fo11)), (o12, .inl (cI, 4, .inl fo12))]) (w1 := [(h0, .inr (7, [.ref dr, .int i201, .ref nu, .ref le, .int (nI ln), .int (nI k202), .int i203])), (le, .inl (cI, 220, .inl fle)), (nu, .inl (cI, 5, .inl f200))]) hP hD [11, 0, 1] [2, 3, 4, 5, 6, 7, 8, 9, 10] rfl rfl (by decide +kernel) (by decide +kernel) hk1 hFc hP1 hD1
            clear hP1 hD1
            clear hz1 hk1 hPc hDc hFc
            generalize H1 = H at hP hS ht ⊢
            have hP : va_P (dC, dI) vwCl [(dr, .inr (5, [.int (nI st), .int bl, .int mm, .int (nI nq), .int (nI nh), .ref o5, .ref o6, .ref o7, .ref o8, .ref o9, .ref o10, .ref o11, .ref o12])), (o5, .inl (cI, 8, .inl fo5)), (o6, .inl (cI, 8, .inl fo6)), (o7, .inl (cI, 8, .inl fo7)), (o8, .inl (cI, 8, .inl fo8)), (o9, .inl (cI, 8, .inl fo9)), (o10, .inl (cI, 4, .inl fo10)), (o11, .inl (cI, 4, .inl fo11)), (o12, .inl (cI, 4, .inl fo12)), (h0, .inr (7, [.ref dr, .int i201, .ref nu, .ref le, .int (nI ln), .int (nI k202), .int i203])), (le, .inl (cI, 220, .inl fle)), (nu, .inl (cI, 5, .inl f200))] H := hP
            have hD : va_D A [(dr, .inr (5, [.int (nI st), .int bl, .int mm, .int (nI nq), .int (nI nh), .ref o5, .ref o6, .ref o7, .ref o8, .ref o9, .ref o10, .ref o11, .ref o12])), (o5, .inl (cI, 8, .inl fo5)), (o6, .inl (cI, 8, .inl fo6)), (o7, .inl (cI, 8, .inl fo7)), (o8, .inl (cI, 8, .inl fo8)), (o9, .inl (cI, 8, .inl fo9)), (o10, .inl (cI, 4, .inl fo10)), (o11, .inl (cI, 4, .inl fo11)), (o12, .inl (cI, 4, .inl fo12)), (h0, .inr (7, [.ref dr, .int i201, .ref nu, .ref le, .int (nI ln), .int (nI k202), .int i203])), (le, .inl (cI, 220, .inl fle)), (nu, .inl (cI, 5, .inl f200))] := hD
            try dsimp only at hw199
            rcases hw199 with rfl | rfl
            ·
              refine lv_if_eq (tgt := 219) hx hb dX7_readClause_92 (by decide) (fun c204 => ?_) (fun c204 => ?_)
              · exact absurd c204 (by decide)
              clear c204
              refine lv_aload_n hx hb dX7_readClause_95 rfl (lv_at hl 1 rfl) ?_
              refine va_get (D := (dC, dI)) (ci := 7) (v := .ref dr) (C := RX7) (T := TX7) (N := 7) hx hb hts hi_X7 hown hK hP 9 rfl rfl 0 (by decide) (hts (.fieldLink RX7 12 "LeftQuills$Reader" "draft" "LLeftQuills$Office;") (wmx 1 rfl)) (fun _ h9 => h9) rfl dX7_readClause_96 ?_
              refine lv_aload_n hx hb dX7_readClause_99 rfl (lv_at hl 1 rfl) ?_
              refine va_get (D := (dC, dI)) (ci := 7) (v := .ref nu) (C := RX7) (T := TX7) (N := 7) hx hb hts hi_X7 hown hK hP 9 rfl rfl 2 (by decide) (hts (.fieldLink RX7 22 "LeftQuills$Reader" "numbers" "[I") (wmx 6 rfl)) (fun _ h9 => h9) rfl dX7_readClause_100 ?_
              have hPc := hP.sub (ws' := [(dr, .inr (5, [.int (nI st), .int bl, .int mm, .int (nI nq), .int (nI nh), .ref o5, .ref o6, .ref o7, .ref o8, .ref o9, .ref o10, .ref o11, .ref o12])), (nu, .inl (cI, 5, .inl f200))]) [0, 11] rfl
              have hDc := hD.sub (ws' := [(dr, .inr (5, [.int (nI st), .int bl, .int mm, .int (nI nq), .int (nI nh), .ref o5, .ref o6, .ref o7, .ref o8, .ref o9, .ref o10, .ref o11, .ref o12])), (nu, .inl (cI, 5, .inl f200))]) [0, 11] (by decide) rfl
              have hFc := va_free (wc := [(dr, .inr (5, [.int (nI st), .int bl, .int mm, .int (nI nq), .int (nI nh), .ref o5, .ref o6, .ref o7, .ref o8, .ref o9, .ref o10, .ref o11, .ref o12])), (nu, .inl (cI, 5, .inl f200))]) hD hS hA [0, 11] rfl
              refine va_callv (va_runV (As := [.ref nu]) (rest := []) ⟨hx, hb, hml, hown, hts⟩ (c_X5_setBlade l dC dI cI cZ cQ dr st bl mm nq nh o5 o6 o7 o8 o9 o10 o11 o12 nu f200 H.size ) (cwV 1 hts gX7_readClause_X5_setBlade rfl rfl rfl (by decide +kernel) ⟨Nat.le_of_ble_eq_true rfl, Nat.le_of_ble_eq_true rfl⟩) ⟨fun a U g mk q => by obtain ⟨q0, q1, qP, qK, qD⟩ := q; exact ⟨q0, q1, qP, va_K.moved (u := U) (U := U.calling g mk a) (Vm.Alike.refl U.vm) qK, qD⟩, va_recv hK hP (ci := 5) (q0 := 0) rfl rfl, fun U hU hW => ⟨rfl, by rw [hU], by rw [hU]; exact hPc, va_K.moved hW.alike hK, hDc.weaken (fun _ _ _ _ => trivial)⟩⟩ rfl rfl hl.1 rfl (lv_room (Nat.le_of_ble_eq_true rfl)) dX7_readClause_103 ⟨Nat.le_of_ble_eq_true rfl, Nat.le_of_ble_eq_true rfl⟩) hS (fun q _ h => hFc q h) hFc (fun u206 t H1 locs ht hvm hw207 hB hz1 hk1 hS => ?_)
              obtain ⟨i209, i210, k208, hk208, hP1, hD1⟩ := hB
              rw [ht] at hP1
              obtain ⟨hP, hD⟩ := va_join (wr := [(o5, .inl (cI, 8, .inl fo5)), (o6, .inl (cI, 8, .inl fo6)), (o7, .inl (cI, 8, .inl fo7)), (o8, .inl (cI, 8, .inl fo8)), (o9, .inl (cI, 8, .inl fo9)), (o10, .inl (cI, 4, .inl fo10)), (o11, .inl (cI, 4, .inl fo11)), (o12, .inl (cI, 4, .inl fo12)), (h0, .inr (7, [.ref dr, .int i201, .ref nu, .ref le, .int (nI ln), .int (nI k202), .int i203])), (le, .inl (cI, 220, .inl fle))]) (w1 := [(dr, .inr (5, [.int (nI k208), .int i209, .int i210, .int (nI nq), .int (nI nh), .ref o5, .ref o6, .ref o7, .ref o8, .ref o9, .ref o10, .ref o11, .ref o12])), (nu, .inl (cI, 5, .inl f200))]) hP hD [0, 11] [1, 2, 3, 4, 5, 6, 7, 8, 9, 10] rfl rfl (by decide +kernel) (by decide +kernel) hk1 hFc hP1 hD1
              clear hP1 hD1
              clear hz1 hk1 hPc hDc hFc
              generalize H1 = H at hP hS ht ⊢
              have hP : va_P (dC, dI) vwCl [(o5, .inl (cI, 8, .inl fo5)), (o6, .inl (cI, 8, .inl fo6)), (o7, .inl (cI, 8, .inl fo7)), (o8, .inl (cI, 8, .inl fo8)), (o9, .inl (cI, 8, .inl fo9)), (o10, .inl (cI, 4, .inl fo10)), (o11, .inl (cI, 4, .inl fo11)), (o12, .inl (cI, 4, .inl fo12)), (h0, .inr (7, [.ref dr, .int i201, .ref nu, .ref le, .int (nI ln), .int (nI k202), .int i203])), (le, .inl (cI, 220, .inl fle)), (dr, .inr (5, [.int (nI k208), .int i209, .int i210, .int (nI nq), .int (nI nh), .ref o5, .ref o6, .ref o7, .ref o8, .ref o9, .ref o10, .ref o11, .ref o12])), (nu, .inl (cI, 5, .inl f200))] H := hP
              have hD : va_D A [(o5, .inl (cI, 8, .inl fo5)), (o6, .inl (cI, 8, .inl fo6)), (o7, .inl (cI, 8, .inl fo7)), (o8, .inl (cI, 8, .inl fo8)), (o9, .inl (cI, 8, .inl fo9)), (o10, .inl (cI, 4, .inl fo10)), (o11, .inl (cI, 4, .inl fo11)), (o12, .inl (cI, 4, .inl fo12)), (h0, .inr (7, [.ref dr, .int i201, .ref nu, .ref le, .int (nI ln), .int (nI k202), .int i203])), (le, .inl (cI, 220, .inl fle)), (dr, .inr (5, [.int (nI k208), .int i209, .int i210, .int (nI nq), .int (nI nh), .ref o5, .ref o6, .ref o7, .ref o8, .ref o9, .ref o10, .ref o11, .ref o12])), (nu, .inl (cI, 5, .inl f200))] := hD
              try dsimp only at hw207
              refine lv_goto (tgt := 219) hx hb dX7_readClause_106 (by decide) ?_
              have hP9 := hP.sub (ws' := [(h0, .inr (7, [.ref dr, .int i201, .ref nu, .ref le, .int (nI ln), .int (nI k202), .int i203])), (le, .inl (cI, 220, .inl fle)), (nu, .inl (cI, 5, .inl f200)), (dr, .inr (5, [.int (nI k208), .int i209, .int i210, .int (nI nq), .int (nI nh), .ref o5, .ref o6, .ref o7, .ref o8, .ref o9, .ref o10, .ref o11, .ref o12])), (o5, .inl (cI, 8, .inl fo5)), (o6, .inl (cI, 8, .inl fo6)), (o7, .inl (cI, 8, .inl fo7)), (o8, .inl (cI, 8, .inl fo8)), (o9, .inl (cI, 8, .inl fo9)), (o10, .inl (cI, 4, .inl fo10)), (o11, .inl (cI, 4, .inl fo11)), (o12, .inl (cI, 4, .inl fo12))]) [8, 9, 11, 10, 0, 1, 2, 3, 4, 5, 6, 7] rfl
              have hD9 := hD.sub (ws' := [(h0, .inr (7, [.ref dr, .int i201, .ref nu, .ref le, .int (nI ln), .int (nI k202), .int i203])), (le, .inl (cI, 220, .inl fle)), (nu, .inl (cI, 5, .inl f200)), (dr, .inr (5, [.int (nI k208), .int i209, .int i210, .int (nI nq), .int (nI nh), .ref o5, .ref o6, .ref o7, .ref o8, .ref o9, .ref o10, .ref o11, .ref o12])), (o5, .inl (cI, 8, .inl fo5)), (o6, .inl (cI, 8, .inl fo6)), (o7, .inl (cI, 8, .inl fo7)), (o8, .inl (cI, 8, .inl fo8)), (o9, .inl (cI, 8, .inl fo9)), (o10, .inl (cI, 4, .inl fo10)), (o11, .inl (cI, 4, .inl fo11)), (o12, .inl (cI, 4, .inl fo12))]) [8, 9, 11, 10, 0, 1, 2, 3, 4, 5, 6, 7] (by decide +kernel) rfl
              exact W.vret hx hb hr (fun t ht hW => ⟨⟨(fun _ => 0), rfl, trivial, ⟨f200, fo5, fo6, fo7, fo8, fo9, fo10, fo11, fo12, i201, i203, i209, i210, k202, k208, nq, nh, by omega, by omega, by omega, by omega, by rw [ht]; exact hP9, hD9⟩⟩, hS.F ht⟩) hS.2.2 dX7_readClause_219
            ·
              refine lv_if_eq (tgt := 219) hx hb dX7_readClause_92 (by decide) (fun c211 => ?_) (fun c211 => ?_)
              rotate_left
              · exact absurd c211 (by decide)
              clear c211
              have hP9 := hP.sub (ws' := [(h0, .inr (7, [.ref dr, .int i201, .ref nu, .ref le, .int (nI ln), .int (nI k202), .int i203])), (le, .inl (cI, 220, .inl fle)), (nu, .inl (cI, 5, .inl f200)), (dr, .inr (5, [.int (nI st), .int bl, .int mm, .int (nI nq), .int (nI nh), .ref o5, .ref o6, .ref o7, .ref o8, .ref o9, .ref o10, .ref o11, .ref o12])), (o5, .inl (cI, 8, .inl fo5)), (o6, .inl (cI, 8, .inl fo6)), (o7, .inl (cI, 8, .inl fo7)), (o8, .inl (cI, 8, .inl fo8)), (o9, .inl (cI, 8, .inl fo9)), (o10, .inl (cI, 4, .inl fo10)), (o11, .inl (cI, 4, .inl fo11)), (o12, .inl (cI, 4, .inl fo12))]) [9, 10, 11, 0, 1, 2, 3, 4, 5, 6, 7, 8] rfl
              have hD9 := hD.sub (ws' := [(h0, .inr (7, [.ref dr, .int i201, .ref nu, .ref le, .int (nI ln), .int (nI k202), .int i203])), (le, .inl (cI, 220, .inl fle)), (nu, .inl (cI, 5, .inl f200)), (dr, .inr (5, [.int (nI st), .int bl, .int mm, .int (nI nq), .int (nI nh), .ref o5, .ref o6, .ref o7, .ref o8, .ref o9, .ref o10, .ref o11, .ref o12])), (o5, .inl (cI, 8, .inl fo5)), (o6, .inl (cI, 8, .inl fo6)), (o7, .inl (cI, 8, .inl fo7)), (o8, .inl (cI, 8, .inl fo8)), (o9, .inl (cI, 8, .inl fo9)), (o10, .inl (cI, 4, .inl fo10)), (o11, .inl (cI, 4, .inl fo11)), (o12, .inl (cI, 4, .inl fo12))]) [9, 10, 11, 0, 1, 2, 3, 4, 5, 6, 7, 8] (by decide +kernel) rfl
              exact W.vret hx hb hr (fun t ht hW => ⟨⟨(fun _ => 0), rfl, trivial, ⟨f200, fo5, fo6, fo7, fo8, fo9, fo10, fo11, fo12, i201, i203, bl, mm, k202, st, nq, nh, by omega, by omega, by omega, by omega, by rw [ht]; exact hP9, hD9⟩⟩, hS.F ht⟩) hS.2.2 dX7_readClause_219
          ·
            refine lv_if_eq (tgt := 219) hx hb dX7_readClause_79 (by decide) (fun c212 => ?_) (fun c212 => ?_)
            rotate_left
            · exact absurd c212 (by decide)
            clear c212
            have hP9 := hP.sub (ws' := [(h0, .inr (7, [.ref dr, .int i193, .ref nu, .ref le, .int (nI ln), .int (nI k194), .int i195])), (le, .inl (cI, 220, .inl fle)), (nu, .inl (cI, 5, .inl fnu)), (dr, .inr (5, [.int (nI st), .int bl, .int mm, .int (nI nq), .int (nI nh), .ref o5, .ref o6, .ref o7, .ref o8, .ref o9, .ref o10, .ref o11, .ref o12])), (o5, .inl (cI, 8, .inl fo5)), (o6, .inl (cI, 8, .inl fo6)), (o7, .inl (cI, 8, .inl fo7)), (o8, .inl (cI, 8, .inl fo8)), (o9, .inl (cI, 8, .inl fo9)), (o10, .inl (cI, 4, .inl fo10)), (o11, .inl (cI, 4, .inl fo11)), (o12, .inl (cI, 4, .inl fo12))]) [11, 0, 1, 2, 3, 4, 5, 6, 7, 8, 9, 10] rfl
            have hD9 := hD.sub (ws' := [(h0, .inr (7, [.ref dr, .int i193, .ref nu, .ref le, .int (nI ln), .int (nI k194), .int i195])), (le, .inl (cI, 220, .inl fle)), (nu, .inl (cI, 5, .inl fnu)), (dr, .inr (5, [.int (nI st), .int bl, .int mm, .int (nI nq), .int (nI nh), .ref o5, .ref o6, .ref o7, .ref o8, .ref o9, .ref o10, .ref o11, .ref o12])), (o5, .inl (cI, 8, .inl fo5)), (o6, .inl (cI, 8, .inl fo6)), (o7, .inl (cI, 8, .inl fo7)), (o8, .inl (cI, 8, .inl fo8)), (o9, .inl (cI, 8, .inl fo9)), (o10, .inl (cI, 4, .inl fo10)), (o11, .inl (cI, 4, .inl fo11)), (o12, .inl (cI, 4, .inl fo12))]) [11, 0, 1, 2, 3, 4, 5, 6, 7, 8, 9, 10] (by decide +kernel) rfl
            exact W.vret hx hb hr (fun t ht hW => ⟨⟨(fun _ => 0), rfl, trivial, ⟨fnu, fo5, fo6, fo7, fo8, fo9, fo10, fo11, fo12, i193, i195, bl, mm, k194, st, nq, nh, by omega, by omega, by omega, by omega, by rw [ht]; exact hP9, hD9⟩⟩, hS.F ht⟩) hS.2.2 dX7_readClause_219
        by_cases c213 : r1 = 113
        · refine lv_lookup (tgt := 109) (off := 77) hx hb dX7_readClause_32 (by decide) (by rw [c213]; decide) (by decide) ?_
          refine lv_aload_n hx hb dX7_readClause_109 rfl (lv_at hl 1 rfl) ?_
          refine lv_aload_n hx hb dX7_readClause_110 rfl (lv_at hl 1 rfl) ?_
          refine va_get (D := (dC, dI)) (ci := 7) (v := .ref dr) (C := RX7) (T := TX7) (N := 7) hx hb hts hi_X7 hown hK hP 0 rfl rfl 0 (by decide) (hts (.fieldLink RX7 12 "LeftQuills$Reader" "draft" "LLeftQuills$Office;") (wmx 1 rfl)) (fun _ h9 => h9) rfl dX7_readClause_111 ?_
          refine va_get (D := (dC, dI)) (ci := 5) (v := .int (nI nq)) (C := RX5) (T := TX5) (N := 13) hx hb hts hi_X5 hown hK hP 3 rfl rfl 3 (by decide) (hts (.fieldLink RX7 92 "LeftQuills$Office" "quills" "I") (wmx 7 rfl)) (fun _ h9 => h9) rfl dX7_readClause_114 ?_
          refine lv_bipush (v := 8) hx hb dX7_readClause_117 (by decide) ?_
          refine lv_icmp_lt (tgt := 126) hx hb dX7_readClause_119 (by decide) (fun c214 => ?_) (fun c214 => ?_)
          ·
            have c214 : nq < 8 := (nI_ltI (a := nq) (b := 8) (by omega) (by omega)).mp c214
            refine lv_iconst (v := 0) hx hb dX7_readClause_126 (by decide) ?_
            have hPc := hP.sub (ws' := [(h0, .inr (7, [.ref dr, .int fa, .ref nu, .ref le, .int (nI ln), .int (nI at9), .int fu]))]) [0] rfl
            have hDc := hD.sub (ws' := [(h0, .inr (7, [.ref dr, .int fa, .ref nu, .ref le, .int (nI ln), .int (nI at9), .int fu]))]) [0] (by decide) rfl
            have hFc := va_free (wc := [(h0, .inr (7, [.ref dr, .int fa, .ref nu, .ref le, .int (nI ln), .int (nI at9), .int fu]))]) hD hS hA [0] rfl
            refine va_calli (va_runV (As := [.int 0]) (rest := []) ⟨hx, hb, hml, hown, hts⟩ (c_X7_startWord l dC dI cI cZ cQ h0 dr fa nu le ln at9 fu 0 H.size (by omega) (by omega)) (cwV 1 hts gX7_readClause_X7_startWord rfl rfl rfl (by decide +kernel) ⟨Nat.le_of_ble_eq_true rfl, Nat.le_of_ble_eq_true rfl⟩) ⟨fun a U g mk q => by obtain ⟨q0, q1, qP, qK, qD⟩ := q; exact ⟨q0, q1, qP, va_K.moved (u := U) (U := U.calling g mk a) (Vm.Alike.refl U.vm) qK, qD⟩, va_recv hK hP (ci := 7) (q0 := 0) rfl rfl, fun U hU hW => ⟨rfl, by rw [hU], by rw [hU]; exact hPc, va_K.moved hW.alike hK, hDc.weaken (fun _ _ _ _ => trivial)⟩⟩ rfl rfl hl.1 rfl (lv_room (Nat.le_of_ble_eq_true rfl)) dX7_readClause_127 ⟨Nat.le_of_ble_eq_true rfl, Nat.le_of_ble_eq_true rfl⟩) hS (fun q _ h => hFc q h) hFc (fun r215 u216 t H1 locs ht hvm hw217 hB hz1 hk1 hS => ?_)
            obtain ⟨i218, i220, k219, hk219, hP1, hD1⟩ := hB
            rw [ht] at hP1
            obtain ⟨hP, hD⟩ := va_join (wr := [(le, .inl (cI, 220, .inl fle)), (nu, .inl (cI, 5, .inl fnu)), (dr, .inr (5, [.int (nI st), .int bl, .int mm, .int (nI nq), .int (nI nh), .ref o5, .ref o6, .ref o7, .ref o8, .ref o9, .ref o10, .ref o11, .ref o12])), (o5, .inl (cI, 8, .inl fo5)), (o6, .inl (cI, 8, .inl fo6)), (o7, .inl (cI, 8, .inl fo7)), (o8, .inl (cI, 8, .inl fo8)), (o9, .inl (cI, 8, .inl fo9)), (o10, .inl (cI, 4, .inl fo10)), (o11, .inl (cI, 4, .inl fo11)), (o12, .inl (cI, 4, .inl fo12))]) (w1 := [(h0, .inr (7, [.ref dr, .int i218, .ref nu, .ref le, .int (nI ln), .int (nI k219), .int i220]))]) hP hD [0] [1, 2, 3, 4, 5, 6, 7, 8, 9, 10, 11] rfl rfl (by decide +kernel) (by decide +kernel) hk1 hFc hP1 hD1
            clear hP1 hD1
            clear hz1 hk1 hPc hDc hFc
            generalize H1 = H at hP hS ht ⊢
            have hP : va_P (dC, dI) vwCl [(le, .inl (cI, 220, .inl fle)), (nu, .inl (cI, 5, .inl fnu)), (dr, .inr (5, [.int (nI st), .int bl, .int mm, .int (nI nq), .int (nI nh), .ref o5, .ref o6, .ref o7, .ref o8, .ref o9, .ref o10, .ref o11, .ref o12])), (o5, .inl (cI, 8, .inl fo5)), (o6, .inl (cI, 8, .inl fo6)), (o7, .inl (cI, 8, .inl fo7)), (o8, .inl (cI, 8, .inl fo8)), (o9, .inl (cI, 8, .inl fo9)), (o10, .inl (cI, 4, .inl fo10)), (o11, .inl (cI, 4, .inl fo11)), (o12, .inl (cI, 4, .inl fo12)), (h0, .inr (7, [.ref dr, .int i218, .ref nu, .ref le, .int (nI ln), .int (nI k219), .int i220]))] H := hP
            have hD : va_D A [(le, .inl (cI, 220, .inl fle)), (nu, .inl (cI, 5, .inl fnu)), (dr, .inr (5, [.int (nI st), .int bl, .int mm, .int (nI nq), .int (nI nh), .ref o5, .ref o6, .ref o7, .ref o8, .ref o9, .ref o10, .ref o11, .ref o12])), (o5, .inl (cI, 8, .inl fo5)), (o6, .inl (cI, 8, .inl fo6)), (o7, .inl (cI, 8, .inl fo7)), (o8, .inl (cI, 8, .inl fo8)), (o9, .inl (cI, 8, .inl fo9)), (o10, .inl (cI, 4, .inl fo10)), (o11, .inl (cI, 4, .inl fo11)), (o12, .inl (cI, 4, .inl fo12)), (h0, .inr (7, [.ref dr, .int i218, .ref nu, .ref le, .int (nI ln), .int (nI k219), .int i220]))] := hD
            try dsimp only at hw217
            rcases hw217 with rfl | rfl
            ·
              refine lv_if_eq (tgt := 219) hx hb dX7_readClause_130 (by decide) (fun c221 => ?_) (fun c221 => ?_)
              · exact absurd c221 (by decide)
              clear c221
              refine lv_aload_n hx hb dX7_readClause_133 rfl (lv_at hl 1 rfl) ?_
              refine va_gets hx hb hZ_QUILL_LEAST hS hown (hts (.fieldLink RX7 95 "LeftQuills$Reader" "QUILL_LEAST" "[I") (wmx 8 rfl)) (fun _ h9 => h9) dX7_readClause_134 ?_
              refine va_gets hx hb hZ_QUILL_MOST hS hown (hts (.fieldLink RX7 98 "LeftQuills$Reader" "QUILL_MOST" "[I") (wmx 9 rfl)) (fun _ h9 => h9) dX7_readClause_137 ?_
              have hPc := hP.sub (ws' := [(h0, .inr (7, [.ref dr, .int i218, .ref nu, .ref le, .int (nI ln), .int (nI k219), .int i220])), (le, .inl (cI, 220, .inl fle)), (nu, .inl (cI, 5, .inl fnu))]) [11, 0, 1] rfl
              have hDc := hD.sub (ws' := [(h0, .inr (7, [.ref dr, .int i218, .ref nu, .ref le, .int (nI ln), .int (nI k219), .int i220])), (le, .inl (cI, 220, .inl fle)), (nu, .inl (cI, 5, .inl fnu))]) [11, 0, 1] (by decide) rfl
              have hFc := va_free (wc := [(h0, .inr (7, [.ref dr, .int i218, .ref nu, .ref le, .int (nI ln), .int (nI k219), .int i220])), (le, .inl (cI, 220, .inl fle)), (nu, .inl (cI, 5, .inl fnu))]) hD hS hA [11, 0, 1] rfl
              refine va_calli (va_runV (As := [.ref t_QUILL_LEAST, .ref t_QUILL_MOST]) (rest := []) ⟨hx, hb, hml, hown, hts⟩ (c_X7_readNumbers l dC dI cI cZ cQ h0 dr i218 nu le ln k219 i220 fle fnu t_QUILL_LEAST t_QUILL_MOST 5 g_QUILL_LEAST 5 g_QUILL_MOST H.size (by omega) (by omega) (by omega) (by omega)) (cwV 2 hts gX7_readClause_X7_readNumbers rfl rfl rfl (by decide +kernel) ⟨Nat.le_of_ble_eq_true rfl, Nat.le_of_ble_eq_true rfl⟩) ⟨fun a U g mk q => by obtain ⟨q0, q1, qP, qK, qD, qN, qT_t1, qT_t2⟩ := q; exact ⟨q0, q1, qP, va_K.moved (u := U) (U := U.calling g mk a) (Vm.Alike.refl U.vm) qK, qD, qN.calling, va_T.moved (u := U) (Vm.Alike.refl U.vm) qT_t1, va_T.moved (u := U) (Vm.Alike.refl U.vm) qT_t2⟩, va_recv hK hP (ci := 7) (q0 := 11) rfl rfl, fun U hU hW => ⟨rfl, by rw [hU], by rw [hU]; exact hPc, va_K.moved hW.alike hK, hDc.weaken (fun _ _ _ _ => trivial), hN.warm hW, by rw [hU]; exact va_T.moved hW.alike ((hT_t_QUILL_LEAST.kept hS.2.1).narrow hFc), by rw [hU]; exact va_T.moved hW.alike ((hT_t_QUILL_MOST.kept hS.2.1).narrow hFc)⟩⟩ rfl rfl hl.1 rfl (lv_room (Nat.le_of_ble_eq_true rfl)) dX7_readClause_140 ⟨Nat.le_of_ble_eq_true rfl, Nat.le_of_ble_eq_true rfl⟩) hS (fun q _ h => hFc q h) hFc (fun r222 u223 t H1 locs ht hvm hw224 hB hz1 hk1 hS => ?_)
              obtain ⟨f225, i226, i228, k227, hk227, hP1, hD1⟩ := hB
              rw [ht] at hP1
              obtain ⟨hP, hD⟩ := va_join (wr := [(dr, .inr (5, [.int (nI st), .int bl, .int mm, .int (nI nq), .int (nI nh), .ref o5, .ref o6, .ref o7, .ref o8, .ref o9, .ref o10, .ref o11, .ref o12])), (o5, .inl (cI, 8, .inl fo5)), (o6, .inl (cI, 8, .inl fo6)), (o7, .inl (cI, 8, .inl fo7)), (o8, .inl (cI, 8, .inl fo8)), (o9, .inl (cI, 8, .inl fo9)), (o10, .inl (cI, 4, .inl fo10)), (o11, .inl (cI, 4, .inl fo11)), (o12, .inl (cI, 4, .inl fo12))]) (w1 := [(h0, .inr (7, [.ref dr, .int i226, .ref nu, .ref le, .int (nI ln), .int (nI k227), .int i228])), (le, .inl (cI, 220, .inl fle)), (nu, .inl (cI, 5, .inl f225))]) hP hD [11, 0, 1] [2, 3, 4, 5, 6, 7, 8, 9, 10] rfl rfl (by decide +kernel) (by decide +kernel) hk1 hFc hP1 hD1
              clear hP1 hD1
              clear hz1 hk1 hPc hDc hFc
              generalize H1 = H at hP hS ht ⊢
              have hP : va_P (dC, dI) vwCl [(dr, .inr (5, [.int (nI st), .int bl, .int mm, .int (nI nq), .int (nI nh), .ref o5, .ref o6, .ref o7, .ref o8, .ref o9, .ref o10, .ref o11, .ref o12])), (o5, .inl (cI, 8, .inl fo5)), (o6, .inl (cI, 8, .inl fo6)), (o7, .inl (cI, 8, .inl fo7)), (o8, .inl (cI, 8, .inl fo8)), (o9, .inl (cI, 8, .inl fo9)), (o10, .inl (cI, 4, .inl fo10)), (o11, .inl (cI, 4, .inl fo11)), (o12, .inl (cI, 4, .inl fo12)), (h0, .inr (7, [.ref dr, .int i226, .ref nu, .ref le, .int (nI ln), .int (nI k227), .int i228])), (le, .inl (cI, 220, .inl fle)), (nu, .inl (cI, 5, .inl f225))] H := hP
              have hD : va_D A [(dr, .inr (5, [.int (nI st), .int bl, .int mm, .int (nI nq), .int (nI nh), .ref o5, .ref o6, .ref o7, .ref o8, .ref o9, .ref o10, .ref o11, .ref o12])), (o5, .inl (cI, 8, .inl fo5)), (o6, .inl (cI, 8, .inl fo6)), (o7, .inl (cI, 8, .inl fo7)), (o8, .inl (cI, 8, .inl fo8)), (o9, .inl (cI, 8, .inl fo9)), (o10, .inl (cI, 4, .inl fo10)), (o11, .inl (cI, 4, .inl fo11)), (o12, .inl (cI, 4, .inl fo12)), (h0, .inr (7, [.ref dr, .int i226, .ref nu, .ref le, .int (nI ln), .int (nI k227), .int i228])), (le, .inl (cI, 220, .inl fle)), (nu, .inl (cI, 5, .inl f225))] := hD
              try dsimp only at hw224
              rcases hw224 with rfl | rfl
              ·
                refine lv_if_eq (tgt := 219) hx hb dX7_readClause_143 (by decide) (fun c229 => ?_) (fun c229 => ?_)
                · exact absurd c229 (by decide)
                clear c229
                refine lv_aload_n hx hb dX7_readClause_146 rfl (lv_at hl 1 rfl) ?_
                refine va_get (D := (dC, dI)) (ci := 7) (v := .ref dr) (C := RX7) (T := TX7) (N := 7) hx hb hts hi_X7 hown hK hP 9 rfl rfl 0 (by decide) (hts (.fieldLink RX7 12 "LeftQuills$Reader" "draft" "LLeftQuills$Office;") (wmx 1 rfl)) (fun _ h9 => h9) rfl dX7_readClause_147 ?_
                refine lv_aload_n hx hb dX7_readClause_150 rfl (lv_at hl 1 rfl) ?_
                refine va_get (D := (dC, dI)) (ci := 7) (v := .ref nu) (C := RX7) (T := TX7) (N := 7) hx hb hts hi_X7 hown hK hP 9 rfl rfl 2 (by decide) (hts (.fieldLink RX7 22 "LeftQuills$Reader" "numbers" "[I") (wmx 6 rfl)) (fun _ h9 => h9) rfl dX7_readClause_151 ?_
                have hPc := hP.sub (ws' := [(dr, .inr (5, [.int (nI st), .int bl, .int mm, .int (nI nq), .int (nI nh), .ref o5, .ref o6, .ref o7, .ref o8, .ref o9, .ref o10, .ref o11, .ref o12])), (o5, .inl (cI, 8, .inl fo5)), (o6, .inl (cI, 8, .inl fo6)), (o7, .inl (cI, 8, .inl fo7)), (o8, .inl (cI, 8, .inl fo8)), (o9, .inl (cI, 8, .inl fo9)), (nu, .inl (cI, 5, .inl f225))]) [0, 1, 2, 3, 4, 5, 11] rfl
                have hDc := hD.sub (ws' := [(dr, .inr (5, [.int (nI st), .int bl, .int mm, .int (nI nq), .int (nI nh), .ref o5, .ref o6, .ref o7, .ref o8, .ref o9, .ref o10, .ref o11, .ref o12])), (o5, .inl (cI, 8, .inl fo5)), (o6, .inl (cI, 8, .inl fo6)), (o7, .inl (cI, 8, .inl fo7)), (o8, .inl (cI, 8, .inl fo8)), (o9, .inl (cI, 8, .inl fo9)), (nu, .inl (cI, 5, .inl f225))]) [0, 1, 2, 3, 4, 5, 11] (by decide) rfl
                have hFc := va_free (wc := [(dr, .inr (5, [.int (nI st), .int bl, .int mm, .int (nI nq), .int (nI nh), .ref o5, .ref o6, .ref o7, .ref o8, .ref o9, .ref o10, .ref o11, .ref o12])), (o5, .inl (cI, 8, .inl fo5)), (o6, .inl (cI, 8, .inl fo6)), (o7, .inl (cI, 8, .inl fo7)), (o8, .inl (cI, 8, .inl fo8)), (o9, .inl (cI, 8, .inl fo9)), (nu, .inl (cI, 5, .inl f225))]) hD hS hA [0, 1, 2, 3, 4, 5, 11] rfl
                refine va_callv (va_runV (As := [.ref nu]) (rest := []) ⟨hx, hb, hml, hown, hts⟩ (c_X5_addQuill l dC dI cI cZ cQ dr st bl mm nq nh o5 o6 o7 o8 o9 o10 o11 o12 fo5 fo6 fo7 fo8 fo9 nu f225 H.size (by omega) (by omega)) (cwV 1 hts gX7_readClause_X5_addQuill rfl rfl rfl (by decide +kernel) ⟨Nat.le_of_ble_eq_true rfl, Nat.le_of_ble_eq_true rfl⟩) ⟨fun a U g mk q => by obtain ⟨q0, q1, qP, qK, qD⟩ := q; exact ⟨q0, q1, qP, va_K.moved (u := U) (U := U.calling g mk a) (Vm.Alike.refl U.vm) qK, qD⟩, va_recv hK hP (ci := 5) (q0 := 0) rfl rfl, fun U hU hW => ⟨rfl, by rw [hU], by rw [hU]; exact hPc, va_K.moved hW.alike hK, hDc.weaken (fun _ _ _ _ => trivial)⟩⟩ rfl rfl hl.1 rfl (lv_room (Nat.le_of_ble_eq_true rfl)) dX7_readClause_154 ⟨Nat.le_of_ble_eq_true rfl, Nat.le_of_ble_eq_true rfl⟩) hS (fun q _ h => hFc q h) hFc (fun u231 t H1 locs ht hvm hw232 hB hz1 hk1 hS => ?_)
                obtain ⟨f233, f234, f235, f236, f237, k238, hk238, hP1, hD1⟩ := hB
                rw [ht] at hP1
                obtain ⟨hP, hD⟩ := va_join (wr := [(o10, .inl (cI, 4, .inl fo10)), (o11, .inl (cI, 4, .inl fo11)), (o12, .inl (cI, 4, .inl fo12)), (h0, .inr (7, [.ref dr, .int i226, .ref nu, .ref le, .int (nI ln), .int (nI k227), .int i228])), (le, .inl (cI, 220, .inl fle))]) (w1 := [(dr, .inr (5, [.int (nI st), .int bl, .int mm, .int (nI k238), .int (nI nh), .ref o5, .ref o6, .ref o7, .ref o8, .ref o9, .ref o10, .ref o11, .ref o12])), (o5, .inl (cI, 8, .inl f233)), (o6, .inl (cI, 8, .inl f234)), (o7, .inl (cI, 8, .inl f235)), (o8, .inl (cI, 8, .inl f236)), (o9, .inl (cI, 8, .inl f237)), (nu, .inl (cI, 5, .inl f225))]) hP hD [0, 1, 2, 3, 4, 5, 11] [6, 7, 8, 9, 10] rfl rfl (by decide +kernel) (by decide +kernel) hk1 hFc hP1 hD1
                clear hP1 hD1
                clear hz1 hk1 hPc hDc hFc
                generalize H1 = H at hP hS ht ⊢
                have hP : va_P (dC, dI) vwCl [(o10, .inl (cI, 4, .inl fo10)), (o11, .inl (cI, 4, .inl fo11)), (o12, .inl (cI, 4, .inl fo12)), (h0, .inr (7, [.ref dr, .int i226, .ref nu, .ref le, .int (nI ln), .int (nI k227), .int i228])), (le, .inl (cI, 220, .inl fle)), (dr, .inr (5, [.int (nI st), .int bl, .int mm, .int (nI k238), .int (nI nh), .ref o5, .ref o6, .ref o7, .ref o8, .ref o9, .ref o10, .ref o11, .ref o12])), (o5, .inl (cI, 8, .inl f233)), (o6, .inl (cI, 8, .inl f234)), (o7, .inl (cI, 8, .inl f235)), (o8, .inl (cI, 8, .inl f236)), (o9, .inl (cI, 8, .inl f237)), (nu, .inl (cI, 5, .inl f225))] H := hP
                have hD : va_D A [(o10, .inl (cI, 4, .inl fo10)), (o11, .inl (cI, 4, .inl fo11)), (o12, .inl (cI, 4, .inl fo12)), (h0, .inr (7, [.ref dr, .int i226, .ref nu, .ref le, .int (nI ln), .int (nI k227), .int i228])), (le, .inl (cI, 220, .inl fle)), (dr, .inr (5, [.int (nI st), .int bl, .int mm, .int (nI k238), .int (nI nh), .ref o5, .ref o6, .ref o7, .ref o8, .ref o9, .ref o10, .ref o11, .ref o12])), (o5, .inl (cI, 8, .inl f233)), (o6, .inl (cI, 8, .inl f234)), (o7, .inl (cI, 8, .inl f235)), (o8, .inl (cI, 8, .inl f236)), (o9, .inl (cI, 8, .inl f237)), (nu, .inl (cI, 5, .inl f225))] := hD
                try dsimp only at hw232
                refine lv_goto (tgt := 219) hx hb dX7_readClause_157 (by decide) ?_
                have hP9 := hP.sub (ws' := [(h0, .inr (7, [.ref dr, .int i226, .ref nu, .ref le, .int (nI ln), .int (nI k227), .int i228])), (le, .inl (cI, 220, .inl fle)), (nu, .inl (cI, 5, .inl f225)), (dr, .inr (5, [.int (nI st), .int bl, .int mm, .int (nI k238), .int (nI nh), .ref o5, .ref o6, .ref o7, .ref o8, .ref o9, .ref o10, .ref o11, .ref o12])), (o5, .inl (cI, 8, .inl f233)), (o6, .inl (cI, 8, .inl f234)), (o7, .inl (cI, 8, .inl f235)), (o8, .inl (cI, 8, .inl f236)), (o9, .inl (cI, 8, .inl f237)), (o10, .inl (cI, 4, .inl fo10)), (o11, .inl (cI, 4, .inl fo11)), (o12, .inl (cI, 4, .inl fo12))]) [3, 4, 11, 5, 6, 7, 8, 9, 10, 0, 1, 2] rfl
                have hD9 := hD.sub (ws' := [(h0, .inr (7, [.ref dr, .int i226, .ref nu, .ref le, .int (nI ln), .int (nI k227), .int i228])), (le, .inl (cI, 220, .inl fle)), (nu, .inl (cI, 5, .inl f225)), (dr, .inr (5, [.int (nI st), .int bl, .int mm, .int (nI k238), .int (nI nh), .ref o5, .ref o6, .ref o7, .ref o8, .ref o9, .ref o10, .ref o11, .ref o12])), (o5, .inl (cI, 8, .inl f233)), (o6, .inl (cI, 8, .inl f234)), (o7, .inl (cI, 8, .inl f235)), (o8, .inl (cI, 8, .inl f236)), (o9, .inl (cI, 8, .inl f237)), (o10, .inl (cI, 4, .inl fo10)), (o11, .inl (cI, 4, .inl fo11)), (o12, .inl (cI, 4, .inl fo12))]) [3, 4, 11, 5, 6, 7, 8, 9, 10, 0, 1, 2] (by decide +kernel) rfl
                exact W.vret hx hb hr (fun t ht hW => ⟨⟨(fun _ => 0), rfl, trivial, ⟨f225, f233, f234, f235, f236, f237, fo10, fo11, fo12, i226, i228, bl, mm, k227, st, k238, nh, by omega, by omega, by omega, by omega, by rw [ht]; exact hP9, hD9⟩⟩, hS.F ht⟩) hS.2.2 dX7_readClause_219
              ·
                refine lv_if_eq (tgt := 219) hx hb dX7_readClause_143 (by decide) (fun c239 => ?_) (fun c239 => ?_)
                rotate_left
                · exact absurd c239 (by decide)
                clear c239
                have hP9 := hP.sub (ws' := [(h0, .inr (7, [.ref dr, .int i226, .ref nu, .ref le, .int (nI ln), .int (nI k227), .int i228])), (le, .inl (cI, 220, .inl fle)), (nu, .inl (cI, 5, .inl f225)), (dr, .inr (5, [.int (nI st), .int bl, .int mm, .int (nI nq), .int (nI nh), .ref o5, .ref o6, .ref o7, .ref o8, .ref o9, .ref o10, .ref o11, .ref o12])), (o5, .inl (cI, 8, .inl fo5)), (o6, .inl (cI, 8, .inl fo6)), (o7, .inl (cI, 8, .inl fo7)), (o8, .inl (cI, 8, .inl fo8)), (o9, .inl (cI, 8, .inl fo9)), (o10, .inl (cI, 4, .inl fo10)), (o11, .inl (cI, 4, .inl fo11)), (o12, .inl (cI, 4, .inl fo12))]) [9, 10, 11, 0, 1, 2, 3, 4, 5, 6, 7, 8] rfl
                have hD9 := hD.sub (ws' := [(h0, .inr (7, [.ref dr, .int i226, .ref nu, .ref le, .int (nI ln), .int (nI k227), .int i228])), (le, .inl (cI, 220, .inl fle)), (nu, .inl (cI, 5, .inl f225)), (dr, .inr (5, [.int (nI st), .int bl, .int mm, .int (nI nq), .int (nI nh), .ref o5, .ref o6, .ref o7, .ref o8, .ref o9, .ref o10, .ref o11, .ref o12])), (o5, .inl (cI, 8, .inl fo5)), (o6, .inl (cI, 8, .inl fo6)), (o7, .inl (cI, 8, .inl fo7)), (o8, .inl (cI, 8, .inl fo8)), (o9, .inl (cI, 8, .inl fo9)), (o10, .inl (cI, 4, .inl fo10)), (o11, .inl (cI, 4, .inl fo11)), (o12, .inl (cI, 4, .inl fo12))]) [9, 10, 11, 0, 1, 2, 3, 4, 5, 6, 7, 8] (by decide +kernel) rfl
                exact W.vret hx hb hr (fun t ht hW => ⟨⟨(fun _ => 0), rfl, trivial, ⟨f225, fo5, fo6, fo7, fo8, fo9, fo10, fo11, fo12, i226, i228, bl, mm, k227, st, nq, nh, by omega, by omega, by omega, by omega, by rw [ht]; exact hP9, hD9⟩⟩, hS.F ht⟩) hS.2.2 dX7_readClause_219
            ·
              refine lv_if_eq (tgt := 219) hx hb dX7_readClause_130 (by decide) (fun c240 => ?_) (fun c240 => ?_)
              rotate_left
              · exact absurd c240 (by decide)
              clear c240
              have hP9 := hP.sub (ws' := [(h0, .inr (7, [.ref dr, .int i218, .ref nu, .ref le, .int (nI ln), .int (nI k219), .int i220])), (le, .inl (cI, 220, .inl fle)), (nu, .inl (cI, 5, .inl fnu)), (dr, .inr (5, [.int (nI st), .int bl, .int mm, .int (nI nq), .int (nI nh), .ref o5, .ref o6, .ref o7, .ref o8, .ref o9, .ref o10, .ref o11, .ref o12])), (o5, .inl (cI, 8, .inl fo5)), (o6, .inl (cI, 8, .inl fo6)), (o7, .inl (cI, 8, .inl fo7)), (o8, .inl (cI, 8, .inl fo8)), (o9, .inl (cI, 8, .inl fo9)), (o10, .inl (cI, 4, .inl fo10)), (o11, .inl (cI, 4, .inl fo11)), (o12, .inl (cI, 4, .inl fo12))]) [11, 0, 1, 2, 3, 4, 5, 6, 7, 8, 9, 10] rfl
              have hD9 := hD.sub (ws' := [(h0, .inr (7, [.ref dr, .int i218, .ref nu, .ref le, .int (nI ln), .int (nI k219), .int i220])), (le, .inl (cI, 220, .inl fle)), (nu, .inl (cI, 5, .inl fnu)), (dr, .inr (5, [.int (nI st), .int bl, .int mm, .int (nI nq), .int (nI nh), .ref o5, .ref o6, .ref o7, .ref o8, .ref o9, .ref o10, .ref o11, .ref o12])), (o5, .inl (cI, 8, .inl fo5)), (o6, .inl (cI, 8, .inl fo6)), (o7, .inl (cI, 8, .inl fo7)), (o8, .inl (cI, 8, .inl fo8)), (o9, .inl (cI, 8, .inl fo9)), (o10, .inl (cI, 4, .inl fo10)), (o11, .inl (cI, 4, .inl fo11)), (o12, .inl (cI, 4, .inl fo12))]) [11, 0, 1, 2, 3, 4, 5, 6, 7, 8, 9, 10] (by decide +kernel) rfl
              exact W.vret hx hb hr (fun t ht hW => ⟨⟨(fun _ => 0), rfl, trivial, ⟨fnu, fo5, fo6, fo7, fo8, fo9, fo10, fo11, fo12, i218, i220, bl, mm, k219, st, nq, nh, by omega, by omega, by omega, by omega, by rw [ht]; exact hP9, hD9⟩⟩, hS.F ht⟩) hS.2.2 dX7_readClause_219
          ·
            have c214 : ¬ nq < 8 := fun h => c214 ((nI_ltI (a := nq) (b := 8) (by omega) (by omega)).mpr h)
            refine lv_iconst (v := 1) hx hb dX7_readClause_122 (by decide) ?_
            refine lv_goto (tgt := 127) hx hb dX7_readClause_123 (by decide) ?_
            have hPc := hP.sub (ws' := [(h0, .inr (7, [.ref dr, .int fa, .ref nu, .ref le, .int (nI ln), .int (nI at9), .int fu]))]) [0] rfl
            have hDc := hD.sub (ws' := [(h0, .inr (7, [.ref dr, .int fa, .ref nu, .ref le, .int (nI ln), .int (nI at9), .int fu]))]) [0] (by decide) rfl
            have hFc := va_free (wc := [(h0, .inr (7, [.ref dr, .int fa, .ref nu, .ref le, .int (nI ln), .int (nI at9), .int fu]))]) hD hS hA [0] rfl
            refine va_calli (va_runV (As := [.int 1]) (rest := []) ⟨hx, hb, hml, hown, hts⟩ (c_X7_startWord l dC dI cI cZ cQ h0 dr fa nu le ln at9 fu 1 H.size (by omega) (by omega)) (cwV 1 hts gX7_readClause_X7_startWord rfl rfl rfl (by decide +kernel) ⟨Nat.le_of_ble_eq_true rfl, Nat.le_of_ble_eq_true rfl⟩) ⟨fun a U g mk q => by obtain ⟨q0, q1, qP, qK, qD⟩ := q; exact ⟨q0, q1, qP, va_K.moved (u := U) (U := U.calling g mk a) (Vm.Alike.refl U.vm) qK, qD⟩, va_recv hK hP (ci := 7) (q0 := 0) rfl rfl, fun U hU hW => ⟨rfl, by rw [hU], by rw [hU]; exact hPc, va_K.moved hW.alike hK, hDc.weaken (fun _ _ _ _ => trivial)⟩⟩ rfl rfl hl.1 rfl (lv_room (Nat.le_of_ble_eq_true rfl)) dX7_readClause_127 ⟨Nat.le_of_ble_eq_true rfl, Nat.le_of_ble_eq_true rfl⟩) hS (fun q _ h => hFc q h) hFc (fun r241 u242 t H1 locs ht hvm hw243 hB hz1 hk1 hS => ?_)
            obtain ⟨i244, i246, k245, hk245, hP1, hD1⟩ := hB
            rw [ht] at hP1
            obtain ⟨hP, hD⟩ := va_join (wr := [(le, .inl (cI, 220, .inl fle)), (nu, .inl (cI, 5, .inl fnu)), (dr, .inr (5, [.int (nI st), .int bl, .int mm, .int (nI nq), .int (nI nh), .ref o5, .ref o6, .ref o7, .ref o8, .ref o9, .ref o10, .ref o11, .ref o12])), (o5, .inl (cI, 8, .inl fo5)), (o6, .inl (cI, 8, .inl fo6)), (o7, .inl (cI, 8, .inl fo7)), (o8, .inl (cI, 8, .inl fo8)), (o9, .inl (cI, 8, .inl fo9)), (o10, .inl (cI, 4, .inl fo10)), (o11, .inl (cI, 4, .inl fo11)), (o12, .inl (cI, 4, .inl fo12))]) (w1 := [(h0, .inr (7, [.ref dr, .int i244, .ref nu, .ref le, .int (nI ln), .int (nI k245), .int i246]))]) hP hD [0] [1, 2, 3, 4, 5, 6, 7, 8, 9, 10, 11] rfl rfl (by decide +kernel) (by decide +kernel) hk1 hFc hP1 hD1
            clear hP1 hD1
            clear hz1 hk1 hPc hDc hFc
            generalize H1 = H at hP hS ht ⊢
            have hP : va_P (dC, dI) vwCl [(le, .inl (cI, 220, .inl fle)), (nu, .inl (cI, 5, .inl fnu)), (dr, .inr (5, [.int (nI st), .int bl, .int mm, .int (nI nq), .int (nI nh), .ref o5, .ref o6, .ref o7, .ref o8, .ref o9, .ref o10, .ref o11, .ref o12])), (o5, .inl (cI, 8, .inl fo5)), (o6, .inl (cI, 8, .inl fo6)), (o7, .inl (cI, 8, .inl fo7)), (o8, .inl (cI, 8, .inl fo8)), (o9, .inl (cI, 8, .inl fo9)), (o10, .inl (cI, 4, .inl fo10)), (o11, .inl (cI, 4, .inl fo11)), (o12, .inl (cI, 4, .inl fo12)), (h0, .inr (7, [.ref dr, .int i244, .ref nu, .ref le, .int (nI ln), .int (nI k245), .int i246]))] H := hP
            have hD : va_D A [(le, .inl (cI, 220, .inl fle)), (nu, .inl (cI, 5, .inl fnu)), (dr, .inr (5, [.int (nI st), .int bl, .int mm, .int (nI nq), .int (nI nh), .ref o5, .ref o6, .ref o7, .ref o8, .ref o9, .ref o10, .ref o11, .ref o12])), (o5, .inl (cI, 8, .inl fo5)), (o6, .inl (cI, 8, .inl fo6)), (o7, .inl (cI, 8, .inl fo7)), (o8, .inl (cI, 8, .inl fo8)), (o9, .inl (cI, 8, .inl fo9)), (o10, .inl (cI, 4, .inl fo10)), (o11, .inl (cI, 4, .inl fo11)), (o12, .inl (cI, 4, .inl fo12)), (h0, .inr (7, [.ref dr, .int i244, .ref nu, .ref le, .int (nI ln), .int (nI k245), .int i246]))] := hD
            try dsimp only at hw243
            rcases hw243 with rfl | rfl
            ·
              refine lv_if_eq (tgt := 219) hx hb dX7_readClause_130 (by decide) (fun c247 => ?_) (fun c247 => ?_)
              · exact absurd c247 (by decide)
              clear c247
              refine lv_aload_n hx hb dX7_readClause_133 rfl (lv_at hl 1 rfl) ?_
              refine va_gets hx hb hZ_QUILL_LEAST hS hown (hts (.fieldLink RX7 95 "LeftQuills$Reader" "QUILL_LEAST" "[I") (wmx 8 rfl)) (fun _ h9 => h9) dX7_readClause_134 ?_
              refine va_gets hx hb hZ_QUILL_MOST hS hown (hts (.fieldLink RX7 98 "LeftQuills$Reader" "QUILL_MOST" "[I") (wmx 9 rfl)) (fun _ h9 => h9) dX7_readClause_137 ?_
              have hPc := hP.sub (ws' := [(h0, .inr (7, [.ref dr, .int i244, .ref nu, .ref le, .int (nI ln), .int (nI k245), .int i246])), (le, .inl (cI, 220, .inl fle)), (nu, .inl (cI, 5, .inl fnu))]) [11, 0, 1] rfl
              have hDc := hD.sub (ws' := [(h0, .inr (7, [.ref dr, .int i244, .ref nu, .ref le, .int (nI ln), .int (nI k245), .int i246])), (le, .inl (cI, 220, .inl fle)), (nu, .inl (cI, 5, .inl fnu))]) [11, 0, 1] (by decide) rfl
              have hFc := va_free (wc := [(h0, .inr (7, [.ref dr, .int i244, .ref nu, .ref le, .int (nI ln), .int (nI k245), .int i246])), (le, .inl (cI, 220, .inl fle)), (nu, .inl (cI, 5, .inl fnu))]) hD hS hA [11, 0, 1] rfl
              refine va_calli (va_runV (As := [.ref t_QUILL_LEAST, .ref t_QUILL_MOST]) (rest := []) ⟨hx, hb, hml, hown, hts⟩ (c_X7_readNumbers l dC dI cI cZ cQ h0 dr i244 nu le ln k245 i246 fle fnu t_QUILL_LEAST t_QUILL_MOST 5 g_QUILL_LEAST 5 g_QUILL_MOST H.size (by omega) (by omega) (by omega) (by omega)) (cwV 2 hts gX7_readClause_X7_readNumbers rfl rfl rfl (by decide +kernel) ⟨Nat.le_of_ble_eq_true rfl, Nat.le_of_ble_eq_true rfl⟩) ⟨fun a U g mk q => by obtain ⟨q0, q1, qP, qK, qD, qN, qT_t1, qT_t2⟩ := q; exact ⟨q0, q1, qP, va_K.moved (u := U) (U := U.calling g mk a) (Vm.Alike.refl U.vm) qK, qD, qN.calling, va_T.moved (u := U) (Vm.Alike.refl U.vm) qT_t1, va_T.moved (u := U) (Vm.Alike.refl U.vm) qT_t2⟩, va_recv hK hP (ci := 7) (q0 := 11) rfl rfl, fun U hU hW => ⟨rfl, by rw [hU], by rw [hU]; exact hPc, va_K.moved hW.alike hK, hDc.weaken (fun _ _ _ _ => trivial), hN.warm hW, by rw [hU]; exact va_T.moved hW.alike ((hT_t_QUILL_LEAST.kept hS.2.1).narrow hFc), by rw [hU]; exact va_T.moved hW.alike ((hT_t_QUILL_MOST.kept hS.2.1).narrow hFc)⟩⟩ rfl rfl hl.1 rfl (lv_room (Nat.le_of_ble_eq_true rfl)) dX7_readClause_140 ⟨Nat.le_of_ble_eq_true rfl, Nat.le_of_ble_eq_true rfl⟩) hS (fun q _ h => hFc q h) hFc (fun r248 u249 t H1 locs ht hvm hw250 hB hz1 hk1 hS => ?_)
              obtain ⟨f251, i252, i254, k253, hk253, hP1, hD1⟩ := hB
              rw [ht] at hP1
              obtain ⟨hP, hD⟩ := va_join (wr := [(dr, .inr (5, [.int (nI st), .int bl, .int mm, .int (nI nq), .int (nI nh), .ref o5, .ref o6, .ref o7, .ref o8, .ref o9, .ref o10, .ref o11, .ref o12])), (o5, .inl (cI, 8, .inl fo5)), (o6, .inl (cI, 8, .inl fo6)), (o7, .inl (cI, 8, .inl fo7)), (o8, .inl (cI, 8, .inl fo8)), (o9, .inl (cI, 8, .inl fo9)), (o10, .inl (cI, 4, .inl fo10)), (o11, .inl (cI, 4, .inl fo11)), (o12, .inl (cI, 4, .inl fo12))]) (w1 := [(h0, .inr (7, [.ref dr, .int i252, .ref nu, .ref le, .int (nI ln), .int (nI k253), .int i254])), (le, .inl (cI, 220, .inl fle)), (nu, .inl (cI, 5, .inl f251))]) hP hD [11, 0, 1] [2, 3, 4, 5, 6, 7, 8, 9, 10] rfl rfl (by decide +kernel) (by decide +kernel) hk1 hFc hP1 hD1
              clear hP1 hD1
              clear hz1 hk1 hPc hDc hFc
              generalize H1 = H at hP hS ht ⊢
              have hP : va_P (dC, dI) vwCl [(dr, .inr (5, [.int (nI st), .int bl, .int mm, .int (nI nq), .int (nI nh), .ref o5, .ref o6, .ref o7, .ref o8, .ref o9, .ref o10, .ref o11, .ref o12])), (o5, .inl (cI, 8, .inl fo5)), (o6, .inl (cI, 8, .inl fo6)), (o7, .inl (cI, 8, .inl fo7)), (o8, .inl (cI, 8, .inl fo8)), (o9, .inl (cI, 8, .inl fo9)), (o10, .inl (cI, 4, .inl fo10)), (o11, .inl (cI, 4, .inl fo11)), (o12, .inl (cI, 4, .inl fo12)), (h0, .inr (7, [.ref dr, .int i252, .ref nu, .ref le, .int (nI ln), .int (nI k253), .int i254])), (le, .inl (cI, 220, .inl fle)), (nu, .inl (cI, 5, .inl f251))] H := hP
              have hD : va_D A [(dr, .inr (5, [.int (nI st), .int bl, .int mm, .int (nI nq), .int (nI nh), .ref o5, .ref o6, .ref o7, .ref o8, .ref o9, .ref o10, .ref o11, .ref o12])), (o5, .inl (cI, 8, .inl fo5)), (o6, .inl (cI, 8, .inl fo6)), (o7, .inl (cI, 8, .inl fo7)), (o8, .inl (cI, 8, .inl fo8)), (o9, .inl (cI, 8, .inl fo9)), (o10, .inl (cI, 4, .inl fo10)), (o11, .inl (cI, 4, .inl fo11)), (o12, .inl (cI, 4, .inl fo12)), (h0, .inr (7, [.ref dr, .int i252, .ref nu, .ref le, .int (nI ln), .int (nI k253), .int i254])), (le, .inl (cI, 220, .inl fle)), (nu, .inl (cI, 5, .inl f251))] := hD
              try dsimp only at hw250
              rcases hw250 with rfl | rfl
              ·
                refine lv_if_eq (tgt := 219) hx hb dX7_readClause_143 (by decide) (fun c255 => ?_) (fun c255 => ?_)
                · exact absurd c255 (by decide)
                clear c255
                refine lv_aload_n hx hb dX7_readClause_146 rfl (lv_at hl 1 rfl) ?_
                refine va_get (D := (dC, dI)) (ci := 7) (v := .ref dr) (C := RX7) (T := TX7) (N := 7) hx hb hts hi_X7 hown hK hP 9 rfl rfl 0 (by decide) (hts (.fieldLink RX7 12 "LeftQuills$Reader" "draft" "LLeftQuills$Office;") (wmx 1 rfl)) (fun _ h9 => h9) rfl dX7_readClause_147 ?_
                refine lv_aload_n hx hb dX7_readClause_150 rfl (lv_at hl 1 rfl) ?_
                refine va_get (D := (dC, dI)) (ci := 7) (v := .ref nu) (C := RX7) (T := TX7) (N := 7) hx hb hts hi_X7 hown hK hP 9 rfl rfl 2 (by decide) (hts (.fieldLink RX7 22 "LeftQuills$Reader" "numbers" "[I") (wmx 6 rfl)) (fun _ h9 => h9) rfl dX7_readClause_151 ?_
                have hPc := hP.sub (ws' := [(dr, .inr (5, [.int (nI st), .int bl, .int mm, .int (nI nq), .int (nI nh), .ref o5, .ref o6, .ref o7, .ref o8, .ref o9, .ref o10, .ref o11, .ref o12])), (o5, .inl (cI, 8, .inl fo5)), (o6, .inl (cI, 8, .inl fo6)), (o7, .inl (cI, 8, .inl fo7)), (o8, .inl (cI, 8, .inl fo8)), (o9, .inl (cI, 8, .inl fo9)), (nu, .inl (cI, 5, .inl f251))]) [0, 1, 2, 3, 4, 5, 11] rfl
                have hDc := hD.sub (ws' := [(dr, .inr (5, [.int (nI st), .int bl, .int mm, .int (nI nq), .int (nI nh), .ref o5, .ref o6, .ref o7, .ref o8, .ref o9, .ref o10, .ref o11, .ref o12])), (o5, .inl (cI, 8, .inl fo5)), (o6, .inl (cI, 8, .inl fo6)), (o7, .inl (cI, 8, .inl fo7)), (o8, .inl (cI, 8, .inl fo8)), (o9, .inl (cI, 8, .inl fo9)), (nu, .inl (cI, 5, .inl f251))]) [0, 1, 2, 3, 4, 5, 11] (by decide) rfl
                have hFc := va_free (wc := [(dr, .inr (5, [.int (nI st), .int bl, .int mm, .int (nI nq), .int (nI nh), .ref o5, .ref o6, .ref o7, .ref o8, .ref o9, .ref o10, .ref o11, .ref o12])), (o5, .inl (cI, 8, .inl fo5)), (o6, .inl (cI, 8, .inl fo6)), (o7, .inl (cI, 8, .inl fo7)), (o8, .inl (cI, 8, .inl fo8)), (o9, .inl (cI, 8, .inl fo9)), (nu, .inl (cI, 5, .inl f251))]) hD hS hA [0, 1, 2, 3, 4, 5, 11] rfl
                refine va_callv (va_runV (As := [.ref nu]) (rest := []) ⟨hx, hb, hml, hown, hts⟩ (c_X5_addQuill l dC dI cI cZ cQ dr st bl mm nq nh o5 o6 o7 o8 o9 o10 o11 o12 fo5 fo6 fo7 fo8 fo9 nu f251 H.size (by omega) (by omega)) (cwV 1 hts gX7_readClause_X5_addQuill rfl rfl rfl (by decide +kernel) ⟨Nat.le_of_ble_eq_true rfl, Nat.le_of_ble_eq_true rfl⟩) ⟨fun a U g mk q => by obtain ⟨q0, q1, qP, qK, qD⟩ := q; exact ⟨q0, q1, qP, va_K.moved (u := U) (U := U.calling g mk a) (Vm.Alike.refl U.vm) qK, qD⟩, va_recv hK hP (ci := 5) (q0 := 0) rfl rfl, fun U hU hW => ⟨rfl, by rw [hU], by rw [hU]; exact hPc, va_K.moved hW.alike hK, hDc.weaken (fun _ _ _ _ => trivial)⟩⟩ rfl rfl hl.1 rfl (lv_room (Nat.le_of_ble_eq_true rfl)) dX7_readClause_154 ⟨Nat.le_of_ble_eq_true rfl, Nat.le_of_ble_eq_true rfl⟩) hS (fun q _ h => hFc q h) hFc (fun u257 t H1 locs ht hvm hw258 hB hz1 hk1 hS => ?_)
                obtain ⟨f259, f260, f261, f262, f263, k264, hk264, hP1, hD1⟩ := hB
                rw [ht] at hP1
                obtain ⟨hP, hD⟩ := va_join (wr := [(o10, .inl (cI, 4, .inl fo10)), (o11, .inl (cI, 4, .inl fo11)), (o12, .inl (cI, 4, .inl fo12)), (h0, .inr (7, [.ref dr, .int i252, .ref nu, .ref le, .int (nI ln), .int (nI k253), .int i254])), (le, .inl (cI, 220, .inl fle))]) (w1 := [(dr, .inr (5, [.int (nI st), .int bl, .int mm, .int (nI k264), .int (nI nh), .ref o5, .ref o6, .ref o7, .ref o8, .ref o9, .ref o10, .ref o11, .ref o12])), (o5, .inl (cI, 8, .inl f259)), (o6, .inl (cI, 8, .inl f260)), (o7, .inl (cI, 8, .inl f261)), (o8, .inl (cI, 8, .inl f262)), (o9, .inl (cI, 8, .inl f263)), (nu, .inl (cI, 5, .inl f251))]) hP hD [0, 1, 2, 3, 4, 5, 11] [6, 7, 8, 9, 10] rfl rfl (by decide +kernel) (by decide +kernel) hk1 hFc hP1 hD1
                clear hP1 hD1
                clear hz1 hk1 hPc hDc hFc
                generalize H1 = H at hP hS ht ⊢
                have hP : va_P (dC, dI) vwCl [(o10, .inl (cI, 4, .inl fo10)), (o11, .inl (cI, 4, .inl fo11)), (o12, .inl (cI, 4, .inl fo12)), (h0, .inr (7, [.ref dr, .int i252, .ref nu, .ref le, .int (nI ln), .int (nI k253), .int i254])), (le, .inl (cI, 220, .inl fle)), (dr, .inr (5, [.int (nI st), .int bl, .int mm, .int (nI k264), .int (nI nh), .ref o5, .ref o6, .ref o7, .ref o8, .ref o9, .ref o10, .ref o11, .ref o12])), (o5, .inl (cI, 8, .inl f259)), (o6, .inl (cI, 8, .inl f260)), (o7, .inl (cI, 8, .inl f261)), (o8, .inl (cI, 8, .inl f262)), (o9, .inl (cI, 8, .inl f263)), (nu, .inl (cI, 5, .inl f251))] H := hP
                have hD : va_D A [(o10, .inl (cI, 4, .inl fo10)), (o11, .inl (cI, 4, .inl fo11)), (o12, .inl (cI, 4, .inl fo12)), (h0, .inr (7, [.ref dr, .int i252, .ref nu, .ref le, .int (nI ln), .int (nI k253), .int i254])), (le, .inl (cI, 220, .inl fle)), (dr, .inr (5, [.int (nI st), .int bl, .int mm, .int (nI k264), .int (nI nh), .ref o5, .ref o6, .ref o7, .ref o8, .ref o9, .ref o10, .ref o11, .ref o12])), (o5, .inl (cI, 8, .inl f259)), (o6, .inl (cI, 8, .inl f260)), (o7, .inl (cI, 8, .inl f261)), (o8, .inl (cI, 8, .inl f262)), (o9, .inl (cI, 8, .inl f263)), (nu, .inl (cI, 5, .inl f251))] := hD
                try dsimp only at hw258
                refine lv_goto (tgt := 219) hx hb dX7_readClause_157 (by decide) ?_
                have hP9 := hP.sub (ws' := [(h0, .inr (7, [.ref dr, .int i252, .ref nu, .ref le, .int (nI ln), .int (nI k253), .int i254])), (le, .inl (cI, 220, .inl fle)), (nu, .inl (cI, 5, .inl f251)), (dr, .inr (5, [.int (nI st), .int bl, .int mm, .int (nI k264), .int (nI nh), .ref o5, .ref o6, .ref o7, .ref o8, .ref o9, .ref o10, .ref o11, .ref o12])), (o5, .inl (cI, 8, .inl f259)), (o6, .inl (cI, 8, .inl f260)), (o7, .inl (cI, 8, .inl f261)), (o8, .inl (cI, 8, .inl f262)), (o9, .inl (cI, 8, .inl f263)), (o10, .inl (cI, 4, .inl fo10)), (o11, .inl (cI, 4, .inl fo11)), (o12, .inl (cI, 4, .inl fo12))]) [3, 4, 11, 5, 6, 7, 8, 9, 10, 0, 1, 2] rfl
                have hD9 := hD.sub (ws' := [(h0, .inr (7, [.ref dr, .int i252, .ref nu, .ref le, .int (nI ln), .int (nI k253), .int i254])), (le, .inl (cI, 220, .inl fle)), (nu, .inl (cI, 5, .inl f251)), (dr, .inr (5, [.int (nI st), .int bl, .int mm, .int (nI k264), .int (nI nh), .ref o5, .ref o6, .ref o7, .ref o8, .ref o9, .ref o10, .ref o11, .ref o12])), (o5, .inl (cI, 8, .inl f259)), (o6, .inl (cI, 8, .inl f260)), (o7, .inl (cI, 8, .inl f261)), (o8, .inl (cI, 8, .inl f262)), (o9, .inl (cI, 8, .inl f263)), (o10, .inl (cI, 4, .inl fo10)), (o11, .inl (cI, 4, .inl fo11)), (o12, .inl (cI, 4, .inl fo12))]) [3, 4, 11, 5, 6, 7, 8, 9, 10, 0, 1, 2] (by decide +kernel) rfl
                exact W.vret hx hb hr (fun t ht hW => ⟨⟨(fun _ => 0), rfl, trivial, ⟨f251, f259, f260, f261, f262, f263, fo10, fo11, fo12, i252, i254, bl, mm, k253, st, k264, nh, by omega, by omega, by omega, by omega, by rw [ht]; exact hP9, hD9⟩⟩, hS.F ht⟩) hS.2.2 dX7_readClause_219
              ·
                refine lv_if_eq (tgt := 219) hx hb dX7_readClause_143 (by decide) (fun c265 => ?_) (fun c265 => ?_)
                rotate_left
                · exact absurd c265 (by decide)
                clear c265
                have hP9 := hP.sub (ws' := [(h0, .inr (7, [.ref dr, .int i252, .ref nu, .ref le, .int (nI ln), .int (nI k253), .int i254])), (le, .inl (cI, 220, .inl fle)), (nu, .inl (cI, 5, .inl f251)), (dr, .inr (5, [.int (nI st), .int bl, .int mm, .int (nI nq), .int (nI nh), .ref o5, .ref o6, .ref o7, .ref o8, .ref o9, .ref o10, .ref o11, .ref o12])), (o5, .inl (cI, 8, .inl fo5)), (o6, .inl (cI, 8, .inl fo6)), (o7, .inl (cI, 8, .inl fo7)), (o8, .inl (cI, 8, .inl fo8)), (o9, .inl (cI, 8, .inl fo9)), (o10, .inl (cI, 4, .inl fo10)), (o11, .inl (cI, 4, .inl fo11)), (o12, .inl (cI, 4, .inl fo12))]) [9, 10, 11, 0, 1, 2, 3, 4, 5, 6, 7, 8] rfl
                have hD9 := hD.sub (ws' := [(h0, .inr (7, [.ref dr, .int i252, .ref nu, .ref le, .int (nI ln), .int (nI k253), .int i254])), (le, .inl (cI, 220, .inl fle)), (nu, .inl (cI, 5, .inl f251)), (dr, .inr (5, [.int (nI st), .int bl, .int mm, .int (nI nq), .int (nI nh), .ref o5, .ref o6, .ref o7, .ref o8, .ref o9, .ref o10, .ref o11, .ref o12])), (o5, .inl (cI, 8, .inl fo5)), (o6, .inl (cI, 8, .inl fo6)), (o7, .inl (cI, 8, .inl fo7)), (o8, .inl (cI, 8, .inl fo8)), (o9, .inl (cI, 8, .inl fo9)), (o10, .inl (cI, 4, .inl fo10)), (o11, .inl (cI, 4, .inl fo11)), (o12, .inl (cI, 4, .inl fo12))]) [9, 10, 11, 0, 1, 2, 3, 4, 5, 6, 7, 8] (by decide +kernel) rfl
                exact W.vret hx hb hr (fun t ht hW => ⟨⟨(fun _ => 0), rfl, trivial, ⟨f251, fo5, fo6, fo7, fo8, fo9, fo10, fo11, fo12, i252, i254, bl, mm, k253, st, nq, nh, by omega, by omega, by omega, by omega, by rw [ht]; exact hP9, hD9⟩⟩, hS.F ht⟩) hS.2.2 dX7_readClause_219
            ·
              refine lv_if_eq (tgt := 219) hx hb dX7_readClause_130 (by decide) (fun c266 => ?_) (fun c266 => ?_)
              rotate_left
              · exact absurd c266 (by decide)
              clear c266
              have hP9 := hP.sub (ws' := [(h0, .inr (7, [.ref dr, .int i244, .ref nu, .ref le, .int (nI ln), .int (nI k245), .int i246])), (le, .inl (cI, 220, .inl fle)), (nu, .inl (cI, 5, .inl fnu)), (dr, .inr (5, [.int (nI st), .int bl, .int mm, .int (nI nq), .int (nI nh), .ref o5, .ref o6, .ref o7, .ref o8, .ref o9, .ref o10, .ref o11, .ref o12])), (o5, .inl (cI, 8, .inl fo5)), (o6, .inl (cI, 8, .inl fo6)), (o7, .inl (cI, 8, .inl fo7)), (o8, .inl (cI, 8, .inl fo8)), (o9, .inl (cI, 8, .inl fo9)), (o10, .inl (cI, 4, .inl fo10)), (o11, .inl (cI, 4, .inl fo11)), (o12, .inl (cI, 4, .inl fo12))]) [11, 0, 1, 2, 3, 4, 5, 6, 7, 8, 9, 10] rfl
              have hD9 := hD.sub (ws' := [(h0, .inr (7, [.ref dr, .int i244, .ref nu, .ref le, .int (nI ln), .int (nI k245), .int i246])), (le, .inl (cI, 220, .inl fle)), (nu, .inl (cI, 5, .inl fnu)), (dr, .inr (5, [.int (nI st), .int bl, .int mm, .int (nI nq), .int (nI nh), .ref o5, .ref o6, .ref o7, .ref o8, .ref o9, .ref o10, .ref o11, .ref o12])), (o5, .inl (cI, 8, .inl fo5)), (o6, .inl (cI, 8, .inl fo6)), (o7, .inl (cI, 8, .inl fo7)), (o8, .inl (cI, 8, .inl fo8)), (o9, .inl (cI, 8, .inl fo9)), (o10, .inl (cI, 4, .inl fo10)), (o11, .inl (cI, 4, .inl fo11)), (o12, .inl (cI, 4, .inl fo12))]) [11, 0, 1, 2, 3, 4, 5, 6, 7, 8, 9, 10] (by decide +kernel) rfl
              exact W.vret hx hb hr (fun t ht hW => ⟨⟨(fun _ => 0), rfl, trivial, ⟨fnu, fo5, fo6, fo7, fo8, fo9, fo10, fo11, fo12, i244, i246, bl, mm, k245, st, nq, nh, by omega, by omega, by omega, by omega, by rw [ht]; exact hP9, hD9⟩⟩, hS.F ht⟩) hS.2.2 dX7_readClause_219
        refine lv_lookup (tgt := 210) (off := 178) hx hb dX7_readClause_32 (by decide) (x_lk3 c139 c189 c213) (by decide) ?_
        refine lv_aload_n hx hb dX7_readClause_210 rfl (lv_at hl 1 rfl) ?_
        refine lv_iconst (v := 1) hx hb dX7_readClause_211 (by decide) ?_
        refine lv_aload_n hx hb dX7_readClause_212 rfl (lv_at hl 1 rfl) ?_
        refine va_get (D := (dC, dI)) (ci := 7) (v := .int (nI at9)) (C := RX7) (T := TX7) (N := 7) hx hb hts hi_X7 hown hK hP 0 rfl rfl 5 (by decide) (hts (.fieldLink RX7 32 "LeftQuills$Reader" "at" "I") (wmx 3 rfl)) (fun _ h9 => h9) rfl dX7_readClause_213 ?_
        have hPc := hP.sub (ws' := [(h0, .inr (7, [.ref dr, .int fa, .ref nu, .ref le, .int (nI ln), .int (nI at9), .int fu]))]) [0] rfl
        have hDc := hD.sub (ws' := [(h0, .inr (7, [.ref dr, .int fa, .ref nu, .ref le, .int (nI ln), .int (nI at9), .int fu]))]) [0] (by decide) rfl
        have hFc := va_free (wc := [(h0, .inr (7, [.ref dr, .int fa, .ref nu, .ref le, .int (nI ln), .int (nI at9), .int fu]))]) hD hS hA [0] rfl
        refine va_callv (va_runV (As := [.int 1, .int (nI at9)]) (rest := []) ⟨hx, hb, hml, hown, hts⟩ (c_X7_fail l dC dI cI cZ cQ h0 dr fa nu le ln at9 fu 1 (nI at9) H.size ) (cwV 2 hts gX7_readClause_X7_fail rfl rfl rfl (by decide +kernel) ⟨Nat.le_of_ble_eq_true rfl, Nat.le_of_ble_eq_true rfl⟩) ⟨fun a U g mk q => by obtain ⟨q0, q1, qP, qK, qD⟩ := q; exact ⟨q0, q1, qP, va_K.moved (u := U) (U := U.calling g mk a) (Vm.Alike.refl U.vm) qK, qD⟩, va_recv hK hP (ci := 7) (q0 := 0) rfl rfl, fun U hU hW => ⟨rfl, by rw [hU], by rw [hU]; exact hPc, va_K.moved hW.alike hK, hDc.weaken (fun _ _ _ _ => trivial)⟩⟩ rfl rfl hl.1 rfl (lv_room (Nat.le_of_ble_eq_true rfl)) dX7_readClause_216 ⟨Nat.le_of_ble_eq_true rfl, Nat.le_of_ble_eq_true rfl⟩) hS (fun q _ h => hFc q h) hFc (fun u268 t H1 locs ht hvm hw269 hB hz1 hk1 hS => ?_)
        obtain ⟨i270, i271, hP1, hD1⟩ := hB
        rw [ht] at hP1
        obtain ⟨hP, hD⟩ := va_join (wr := [(le, .inl (cI, 220, .inl fle)), (nu, .inl (cI, 5, .inl fnu)), (dr, .inr (5, [.int (nI st), .int bl, .int mm, .int (nI nq), .int (nI nh), .ref o5, .ref o6, .ref o7, .ref o8, .ref o9, .ref o10, .ref o11, .ref o12])), (o5, .inl (cI, 8, .inl fo5)), (o6, .inl (cI, 8, .inl fo6)), (o7, .inl (cI, 8, .inl fo7)), (o8, .inl (cI, 8, .inl fo8)), (o9, .inl (cI, 8, .inl fo9)), (o10, .inl (cI, 4, .inl fo10)), (o11, .inl (cI, 4, .inl fo11)), (o12, .inl (cI, 4, .inl fo12))]) (w1 := [(h0, .inr (7, [.ref dr, .int i270, .ref nu, .ref le, .int (nI ln), .int (nI at9), .int i271]))]) hP hD [0] [1, 2, 3, 4, 5, 6, 7, 8, 9, 10, 11] rfl rfl (by decide +kernel) (by decide +kernel) hk1 hFc hP1 hD1
        clear hP1 hD1
        clear hz1 hk1 hPc hDc hFc
        generalize H1 = H at hP hS ht ⊢
        have hP : va_P (dC, dI) vwCl [(le, .inl (cI, 220, .inl fle)), (nu, .inl (cI, 5, .inl fnu)), (dr, .inr (5, [.int (nI st), .int bl, .int mm, .int (nI nq), .int (nI nh), .ref o5, .ref o6, .ref o7, .ref o8, .ref o9, .ref o10, .ref o11, .ref o12])), (o5, .inl (cI, 8, .inl fo5)), (o6, .inl (cI, 8, .inl fo6)), (o7, .inl (cI, 8, .inl fo7)), (o8, .inl (cI, 8, .inl fo8)), (o9, .inl (cI, 8, .inl fo9)), (o10, .inl (cI, 4, .inl fo10)), (o11, .inl (cI, 4, .inl fo11)), (o12, .inl (cI, 4, .inl fo12)), (h0, .inr (7, [.ref dr, .int i270, .ref nu, .ref le, .int (nI ln), .int (nI at9), .int i271]))] H := hP
        have hD : va_D A [(le, .inl (cI, 220, .inl fle)), (nu, .inl (cI, 5, .inl fnu)), (dr, .inr (5, [.int (nI st), .int bl, .int mm, .int (nI nq), .int (nI nh), .ref o5, .ref o6, .ref o7, .ref o8, .ref o9, .ref o10, .ref o11, .ref o12])), (o5, .inl (cI, 8, .inl fo5)), (o6, .inl (cI, 8, .inl fo6)), (o7, .inl (cI, 8, .inl fo7)), (o8, .inl (cI, 8, .inl fo8)), (o9, .inl (cI, 8, .inl fo9)), (o10, .inl (cI, 4, .inl fo10)), (o11, .inl (cI, 4, .inl fo11)), (o12, .inl (cI, 4, .inl fo12)), (h0, .inr (7, [.ref dr, .int i270, .ref nu, .ref le, .int (nI ln), .int (nI at9), .int i271]))] := hD
        try dsimp only at hw269
        have hP9 := hP.sub (ws' := [(h0, .inr (7, [.ref dr, .int i270, .ref nu, .ref le, .int (nI ln), .int (nI at9), .int i271])), (le, .inl (cI, 220, .inl fle)), (nu, .inl (cI, 5, .inl fnu)), (dr, .inr (5, [.int (nI st), .int bl, .int mm, .int (nI nq), .int (nI nh), .ref o5, .ref o6, .ref o7, .ref o8, .ref o9, .ref o10, .ref o11, .ref o12])), (o5, .inl (cI, 8, .inl fo5)), (o6, .inl (cI, 8, .inl fo6)), (o7, .inl (cI, 8, .inl fo7)), (o8, .inl (cI, 8, .inl fo8)), (o9, .inl (cI, 8, .inl fo9)), (o10, .inl (cI, 4, .inl fo10)), (o11, .inl (cI, 4, .inl fo11)), (o12, .inl (cI, 4, .inl fo12))]) [11, 0, 1, 2, 3, 4, 5, 6, 7, 8, 9, 10] rfl
        have hD9 := hD.sub (ws' := [(h0, .inr (7, [.ref dr, .int i270, .ref nu, .ref le, .int (nI ln), .int (nI at9), .int i271])), (le, .inl (cI, 220, .inl fle)), (nu, .inl (cI, 5, .inl fnu)), (dr, .inr (5, [.int (nI st), .int bl, .int mm, .int (nI nq), .int (nI nh), .ref o5, .ref o6, .ref o7, .ref o8, .ref o9, .ref o10, .ref o11, .ref o12])), (o5, .inl (cI, 8, .inl fo5)), (o6, .inl (cI, 8, .inl fo6)), (o7, .inl (cI, 8, .inl fo7)), (o8, .inl (cI, 8, .inl fo8)), (o9, .inl (cI, 8, .inl fo9)), (o10, .inl (cI, 4, .inl fo10)), (o11, .inl (cI, 4, .inl fo11)), (o12, .inl (cI, 4, .inl fo12))]) [11, 0, 1, 2, 3, 4, 5, 6, 7, 8, 9, 10] (by decide +kernel) rfl
        exact W.vret hx hb hr (fun t ht hW => ⟨⟨(fun _ => 0), rfl, trivial, ⟨fnu, fo5, fo6, fo7, fo8, fo9, fo10, fo11, fo12, i270, i271, bl, mm, at9, st, nq, nh, by omega, by omega, by omega, by omega, by rw [ht]; exact hP9, hD9⟩⟩, hS.F ht⟩) hS.2.2 dX7_readClause_219
      ·
        refine lv_aload_n hx hb dX7_readClause_21 rfl (lv_at hl 1 rfl) ?_
        refine lv_iconst (v := 1) hx hb dX7_readClause_22 (by decide) ?_
        refine lv_aload_n hx hb dX7_readClause_23 rfl (lv_at hl 1 rfl) ?_
        refine va_get (D := (dC, dI)) (ci := 7) (v := .int (nI at9)) (C := RX7) (T := TX7) (N := 7) hx hb hts hi_X7 hown hK hP 0 rfl rfl 5 (by decide) (hts (.fieldLink RX7 32 "LeftQuills$Reader" "at" "I") (wmx 3 rfl)) (fun _ h9 => h9) rfl dX7_readClause_24 ?_
        have hPc := hP.sub (ws' := [(h0, .inr (7, [.ref dr, .int fa, .ref nu, .ref le, .int (nI ln), .int (nI at9), .int fu]))]) [0] rfl
        have hDc := hD.sub (ws' := [(h0, .inr (7, [.ref dr, .int fa, .ref nu, .ref le, .int (nI ln), .int (nI at9), .int fu]))]) [0] (by decide) rfl
        have hFc := va_free (wc := [(h0, .inr (7, [.ref dr, .int fa, .ref nu, .ref le, .int (nI ln), .int (nI at9), .int fu]))]) hD hS hA [0] rfl
        refine va_callv (va_runV (As := [.int 1, .int (nI at9)]) (rest := []) ⟨hx, hb, hml, hown, hts⟩ (c_X7_fail l dC dI cI cZ cQ h0 dr fa nu le ln at9 fu 1 (nI at9) H.size ) (cwV 2 hts gX7_readClause_X7_fail rfl rfl rfl (by decide +kernel) ⟨Nat.le_of_ble_eq_true rfl, Nat.le_of_ble_eq_true rfl⟩) ⟨fun a U g mk q => by obtain ⟨q0, q1, qP, qK, qD⟩ := q; exact ⟨q0, q1, qP, va_K.moved (u := U) (U := U.calling g mk a) (Vm.Alike.refl U.vm) qK, qD⟩, va_recv hK hP (ci := 7) (q0 := 0) rfl rfl, fun U hU hW => ⟨rfl, by rw [hU], by rw [hU]; exact hPc, va_K.moved hW.alike hK, hDc.weaken (fun _ _ _ _ => trivial)⟩⟩ rfl rfl hl.1 rfl (lv_room (Nat.le_of_ble_eq_true rfl)) dX7_readClause_27 ⟨Nat.le_of_ble_eq_true rfl, Nat.le_of_ble_eq_true rfl⟩) hS (fun q _ h => hFc q h) hFc (fun u273 t H1 locs ht hvm hw274 hB hz1 hk1 hS => ?_)
        obtain ⟨i275, i276, hP1, hD1⟩ := hB
        rw [ht] at hP1
        obtain ⟨hP, hD⟩ := va_join (wr := [(le, .inl (cI, 220, .inl fle)), (nu, .inl (cI, 5, .inl fnu)), (dr, .inr (5, [.int (nI st), .int bl, .int mm, .int (nI nq), .int (nI nh), .ref o5, .ref o6, .ref o7, .ref o8, .ref o9, .ref o10, .ref o11, .ref o12])), (o5, .inl (cI, 8, .inl fo5)), (o6, .inl (cI, 8, .inl fo6)), (o7, .inl (cI, 8, .inl fo7)), (o8, .inl (cI, 8, .inl fo8)), (o9, .inl (cI, 8, .inl fo9)), (o10, .inl (cI, 4, .inl fo10)), (o11, .inl (cI, 4, .inl fo11)), (o12, .inl (cI, 4, .inl fo12))]) (w1 := [(h0, .inr (7, [.ref dr, .int i275, .ref nu, .ref le, .int (nI ln), .int (nI at9), .int i276]))]) hP hD [0] [1, 2, 3, 4, 5, 6, 7, 8, 9, 10, 11] rfl rfl (by decide +kernel) (by decide +kernel) hk1 hFc hP1 hD1
        clear hP1 hD1
        clear hz1 hk1 hPc hDc hFc
        generalize H1 = H at hP hS ht ⊢
        have hP : va_P (dC, dI) vwCl [(le, .inl (cI, 220, .inl fle)), (nu, .inl (cI, 5, .inl fnu)), (dr, .inr (5, [.int (nI st), .int bl, .int mm, .int (nI nq), .int (nI nh), .ref o5, .ref o6, .ref o7, .ref o8, .ref o9, .ref o10, .ref o11, .ref o12])), (o5, .inl (cI, 8, .inl fo5)), (o6, .inl (cI, 8, .inl fo6)), (o7, .inl (cI, 8, .inl fo7)), (o8, .inl (cI, 8, .inl fo8)), (o9, .inl (cI, 8, .inl fo9)), (o10, .inl (cI, 4, .inl fo10)), (o11, .inl (cI, 4, .inl fo11)), (o12, .inl (cI, 4, .inl fo12)), (h0, .inr (7, [.ref dr, .int i275, .ref nu, .ref le, .int (nI ln), .int (nI at9), .int i276]))] H := hP
        have hD : va_D A [(le, .inl (cI, 220, .inl fle)), (nu, .inl (cI, 5, .inl fnu)), (dr, .inr (5, [.int (nI st), .int bl, .int mm, .int (nI nq), .int (nI nh), .ref o5, .ref o6, .ref o7, .ref o8, .ref o9, .ref o10, .ref o11, .ref o12])), (o5, .inl (cI, 8, .inl fo5)), (o6, .inl (cI, 8, .inl fo6)), (o7, .inl (cI, 8, .inl fo7)), (o8, .inl (cI, 8, .inl fo8)), (o9, .inl (cI, 8, .inl fo9)), (o10, .inl (cI, 4, .inl fo10)), (o11, .inl (cI, 4, .inl fo11)), (o12, .inl (cI, 4, .inl fo12)), (h0, .inr (7, [.ref dr, .int i275, .ref nu, .ref le, .int (nI ln), .int (nI at9), .int i276]))] := hD
        try dsimp only at hw274
        have hP9 := hP.sub (ws' := [(h0, .inr (7, [.ref dr, .int i275, .ref nu, .ref le, .int (nI ln), .int (nI at9), .int i276])), (le, .inl (cI, 220, .inl fle)), (nu, .inl (cI, 5, .inl fnu)), (dr, .inr (5, [.int (nI st), .int bl, .int mm, .int (nI nq), .int (nI nh), .ref o5, .ref o6, .ref o7, .ref o8, .ref o9, .ref o10, .ref o11, .ref o12])), (o5, .inl (cI, 8, .inl fo5)), (o6, .inl (cI, 8, .inl fo6)), (o7, .inl (cI, 8, .inl fo7)), (o8, .inl (cI, 8, .inl fo8)), (o9, .inl (cI, 8, .inl fo9)), (o10, .inl (cI, 4, .inl fo10)), (o11, .inl (cI, 4, .inl fo11)), (o12, .inl (cI, 4, .inl fo12))]) [11, 0, 1, 2, 3, 4, 5, 6, 7, 8, 9, 10] rfl
        have hD9 := hD.sub (ws' := [(h0, .inr (7, [.ref dr, .int i275, .ref nu, .ref le, .int (nI ln), .int (nI at9), .int i276])), (le, .inl (cI, 220, .inl fle)), (nu, .inl (cI, 5, .inl fnu)), (dr, .inr (5, [.int (nI st), .int bl, .int mm, .int (nI nq), .int (nI nh), .ref o5, .ref o6, .ref o7, .ref o8, .ref o9, .ref o10, .ref o11, .ref o12])), (o5, .inl (cI, 8, .inl fo5)), (o6, .inl (cI, 8, .inl fo6)), (o7, .inl (cI, 8, .inl fo7)), (o8, .inl (cI, 8, .inl fo8)), (o9, .inl (cI, 8, .inl fo9)), (o10, .inl (cI, 4, .inl fo10)), (o11, .inl (cI, 4, .inl fo11)), (o12, .inl (cI, 4, .inl fo12))]) [11, 0, 1, 2, 3, 4, 5, 6, 7, 8, 9, 10] (by decide +kernel) rfl
        exact W.vret hx hb hr (fun t ht hW => ⟨⟨(fun _ => 0), rfl, trivial, ⟨fnu, fo5, fo6, fo7, fo8, fo9, fo10, fo11, fo12, i275, i276, bl, mm, at9, st, nq, nh, by omega, by omega, by omega, by omega, by rw [ht]; exact hP9, hD9⟩⟩, hS.F ht⟩) hS.2.2 dX7_readClause_30
  ·
    refine lv_istore_n (lv' := [(1, .int (-1)), (0, .ref h0)]) hx hb dX7_readClause_4 rfl hl (by decide) rfl (fun ls hl => ?_)
    refine lv_aload_n hx hb dX7_readClause_5 rfl (lv_at hl 1 rfl) ?_
    refine va_get (D := (dC, dI)) (ci := 7) (v := .ref dr) (C := RX7) (T := TX7) (N := 7) hx hb hts hi_X7 hown hK hP 0 rfl rfl 0 (by decide) (hts (.fieldLink RX7 12 "LeftQuills$Reader" "draft" "LLeftQuills$Office;") (wmx 1 rfl)) (fun _ h9 => h9) rfl dX7_readClause_6 ?_
    refine va_get (D := (dC, dI)) (ci := 5) (v := .int (nI st)) (C := RX5) (T := TX5) (N := 13) hx hb hts hi_X5 hown hK hP 3 rfl rfl 0 (by decide) (hts (.fieldLink RX7 66 "LeftQuills$Office" "stands" "Z") (wmx 2 rfl)) (fun _ h9 => h9) rfl dX7_readClause_9 ?_
    refine lv_if_ne (tgt := 31) hx hb dX7_readClause_12 (by decide) (fun c277 => ?_) (fun c277 => ?_)
    ·
      have c277 : ¬ st = 0 := fun h => c277 ((nI_eq (a := st) (b := 0) (by omega) (by omega)).mpr h)
      refine lv_iload_n hx hb dX7_readClause_31 rfl (lv_at hl 0 rfl) ?_
      refine lv_lookup (tgt := 210) hx hb dX7_readClause_32 (by decide) (off := 178) (by decide) (by decide) ?_
      refine lv_aload_n hx hb dX7_readClause_210 rfl (lv_at hl 1 rfl) ?_
      refine lv_iconst (v := 1) hx hb dX7_readClause_211 (by decide) ?_
      refine lv_aload_n hx hb dX7_readClause_212 rfl (lv_at hl 1 rfl) ?_
      refine va_get (D := (dC, dI)) (ci := 7) (v := .int (nI at9)) (C := RX7) (T := TX7) (N := 7) hx hb hts hi_X7 hown hK hP 0 rfl rfl 5 (by decide) (hts (.fieldLink RX7 32 "LeftQuills$Reader" "at" "I") (wmx 3 rfl)) (fun _ h9 => h9) rfl dX7_readClause_213 ?_
      have hPc := hP.sub (ws' := [(h0, .inr (7, [.ref dr, .int fa, .ref nu, .ref le, .int (nI ln), .int (nI at9), .int fu]))]) [0] rfl
      have hDc := hD.sub (ws' := [(h0, .inr (7, [.ref dr, .int fa, .ref nu, .ref le, .int (nI ln), .int (nI at9), .int fu]))]) [0] (by decide) rfl
      have hFc := va_free (wc := [(h0, .inr (7, [.ref dr, .int fa, .ref nu, .ref le, .int (nI ln), .int (nI at9), .int fu]))]) hD hS hA [0] rfl
      refine va_callv (va_runV (As := [.int 1, .int (nI at9)]) (rest := []) ⟨hx, hb, hml, hown, hts⟩ (c_X7_fail l dC dI cI cZ cQ h0 dr fa nu le ln at9 fu 1 (nI at9) H.size ) (cwV 2 hts gX7_readClause_X7_fail rfl rfl rfl (by decide +kernel) ⟨Nat.le_of_ble_eq_true rfl, Nat.le_of_ble_eq_true rfl⟩) ⟨fun a U g mk q => by obtain ⟨q0, q1, qP, qK, qD⟩ := q; exact ⟨q0, q1, qP, va_K.moved (u := U) (U := U.calling g mk a) (Vm.Alike.refl U.vm) qK, qD⟩, va_recv hK hP (ci := 7) (q0 := 0) rfl rfl, fun U hU hW => ⟨rfl, by rw [hU], by rw [hU]; exact hPc, va_K.moved hW.alike hK, hDc.weaken (fun _ _ _ _ => trivial)⟩⟩ rfl rfl hl.1 rfl (lv_room (Nat.le_of_ble_eq_true rfl)) dX7_readClause_216 ⟨Nat.le_of_ble_eq_true rfl, Nat.le_of_ble_eq_true rfl⟩) hS (fun q _ h => hFc q h) hFc (fun u279 t H1 locs ht hvm hw280 hB hz1 hk1 hS => ?_)
      obtain ⟨i281, i282, hP1, hD1⟩ := hB
      rw [ht] at hP1
      obtain ⟨hP, hD⟩ := va_join (wr := [(le, .inl (cI, 220, .inl fle)), (nu, .inl (cI, 5, .inl fnu)), (dr, .inr (5, [.int (nI st), .int bl, .int mm, .int (nI nq), .int (nI nh), .ref o5, .ref o6, .ref o7, .ref o8, .ref o9, .ref o10, .ref o11, .ref o12])), (o5, .inl (cI, 8, .inl fo5)), (o6, .inl (cI, 8, .inl fo6)), (o7, .inl (cI, 8, .inl fo7)), (o8, .inl (cI, 8, .inl fo8)), (o9, .inl (cI, 8, .inl fo9)), (o10, .inl (cI, 4, .inl fo10)), (o11, .inl (cI, 4, .inl fo11)), (o12, .inl (cI, 4, .inl fo12))]) (w1 := [(h0, .inr (7, [.ref dr, .int i281, .ref nu, .ref le, .int (nI ln), .int (nI at9), .int i282]))]) hP hD [0] [1, 2, 3, 4, 5, 6, 7, 8, 9, 10, 11] rfl rfl (by decide +kernel) (by decide +kernel) hk1 hFc hP1 hD1
      clear hP1 hD1
      clear hz1 hk1 hPc hDc hFc
      generalize H1 = H at hP hS ht ⊢
      have hP : va_P (dC, dI) vwCl [(le, .inl (cI, 220, .inl fle)), (nu, .inl (cI, 5, .inl fnu)), (dr, .inr (5, [.int (nI st), .int bl, .int mm, .int (nI nq), .int (nI nh), .ref o5, .ref o6, .ref o7, .ref o8, .ref o9, .ref o10, .ref o11, .ref o12])), (o5, .inl (cI, 8, .inl fo5)), (o6, .inl (cI, 8, .inl fo6)), (o7, .inl (cI, 8, .inl fo7)), (o8, .inl (cI, 8, .inl fo8)), (o9, .inl (cI, 8, .inl fo9)), (o10, .inl (cI, 4, .inl fo10)), (o11, .inl (cI, 4, .inl fo11)), (o12, .inl (cI, 4, .inl fo12)), (h0, .inr (7, [.ref dr, .int i281, .ref nu, .ref le, .int (nI ln), .int (nI at9), .int i282]))] H := hP
      have hD : va_D A [(le, .inl (cI, 220, .inl fle)), (nu, .inl (cI, 5, .inl fnu)), (dr, .inr (5, [.int (nI st), .int bl, .int mm, .int (nI nq), .int (nI nh), .ref o5, .ref o6, .ref o7, .ref o8, .ref o9, .ref o10, .ref o11, .ref o12])), (o5, .inl (cI, 8, .inl fo5)), (o6, .inl (cI, 8, .inl fo6)), (o7, .inl (cI, 8, .inl fo7)), (o8, .inl (cI, 8, .inl fo8)), (o9, .inl (cI, 8, .inl fo9)), (o10, .inl (cI, 4, .inl fo10)), (o11, .inl (cI, 4, .inl fo11)), (o12, .inl (cI, 4, .inl fo12)), (h0, .inr (7, [.ref dr, .int i281, .ref nu, .ref le, .int (nI ln), .int (nI at9), .int i282]))] := hD
      try dsimp only at hw280
      have hP9 := hP.sub (ws' := [(h0, .inr (7, [.ref dr, .int i281, .ref nu, .ref le, .int (nI ln), .int (nI at9), .int i282])), (le, .inl (cI, 220, .inl fle)), (nu, .inl (cI, 5, .inl fnu)), (dr, .inr (5, [.int (nI st), .int bl, .int mm, .int (nI nq), .int (nI nh), .ref o5, .ref o6, .ref o7, .ref o8, .ref o9, .ref o10, .ref o11, .ref o12])), (o5, .inl (cI, 8, .inl fo5)), (o6, .inl (cI, 8, .inl fo6)), (o7, .inl (cI, 8, .inl fo7)), (o8, .inl (cI, 8, .inl fo8)), (o9, .inl (cI, 8, .inl fo9)), (o10, .inl (cI, 4, .inl fo10)), (o11, .inl (cI, 4, .inl fo11)), (o12, .inl (cI, 4, .inl fo12))]) [11, 0, 1, 2, 3, 4, 5, 6, 7, 8, 9, 10] rfl
      have hD9 := hD.sub (ws' := [(h0, .inr (7, [.ref dr, .int i281, .ref nu, .ref le, .int (nI ln), .int (nI at9), .int i282])), (le, .inl (cI, 220, .inl fle)), (nu, .inl (cI, 5, .inl fnu)), (dr, .inr (5, [.int (nI st), .int bl, .int mm, .int (nI nq), .int (nI nh), .ref o5, .ref o6, .ref o7, .ref o8, .ref o9, .ref o10, .ref o11, .ref o12])), (o5, .inl (cI, 8, .inl fo5)), (o6, .inl (cI, 8, .inl fo6)), (o7, .inl (cI, 8, .inl fo7)), (o8, .inl (cI, 8, .inl fo8)), (o9, .inl (cI, 8, .inl fo9)), (o10, .inl (cI, 4, .inl fo10)), (o11, .inl (cI, 4, .inl fo11)), (o12, .inl (cI, 4, .inl fo12))]) [11, 0, 1, 2, 3, 4, 5, 6, 7, 8, 9, 10] (by decide +kernel) rfl
      exact W.vret hx hb hr (fun t ht hW => ⟨⟨(fun _ => 0), rfl, trivial, ⟨fnu, fo5, fo6, fo7, fo8, fo9, fo10, fo11, fo12, i281, i282, bl, mm, at9, st, nq, nh, by omega, by omega, by omega, by omega, by rw [ht]; exact hP9, hD9⟩⟩, hS.F ht⟩) hS.2.2 dX7_readClause_219
    ·
      have c277 : st = 0 := (nI_eq (a := st) (b := 0) (by omega) (by omega)).mp c277
      refine lv_iload_n hx hb dX7_readClause_15 rfl (lv_at hl 0 rfl) ?_
      refine lv_bipush (v := 111) hx hb dX7_readClause_16 (by decide) ?_
      refine lv_icmp_eq (tgt := 31) hx hb dX7_readClause_18 (by decide) (fun c283 => ?_) (fun c283 => ?_)
      · exact absurd c283 (by decide)
      clear c283
      refine lv_aload_n hx hb dX7_readClause_21 rfl (lv_at hl 1 rfl) ?_
      refine lv_iconst (v := 1) hx hb dX7_readClause_22 (by decide) ?_
      refine lv_aload_n hx hb dX7_readClause_23 rfl (lv_at hl 1 rfl) ?_
      refine va_get (D := (dC, dI)) (ci := 7) (v := .int (nI at9)) (C := RX7) (T := TX7) (N := 7) hx hb hts hi_X7 hown hK hP 0 rfl rfl 5 (by decide) (hts (.fieldLink RX7 32 "LeftQuills$Reader" "at" "I") (wmx 3 rfl)) (fun _ h9 => h9) rfl dX7_readClause_24 ?_
      have hPc := hP.sub (ws' := [(h0, .inr (7, [.ref dr, .int fa, .ref nu, .ref le, .int (nI ln), .int (nI at9), .int fu]))]) [0] rfl
      have hDc := hD.sub (ws' := [(h0, .inr (7, [.ref dr, .int fa, .ref nu, .ref le, .int (nI ln), .int (nI at9), .int fu]))]) [0] (by decide) rfl
      have hFc := va_free (wc := [(h0, .inr (7, [.ref dr, .int fa, .ref nu, .ref le, .int (nI ln), .int (nI at9), .int fu]))]) hD hS hA [0] rfl
      refine va_callv (va_runV (As := [.int 1, .int (nI at9)]) (rest := []) ⟨hx, hb, hml, hown, hts⟩ (c_X7_fail l dC dI cI cZ cQ h0 dr fa nu le ln at9 fu 1 (nI at9) H.size ) (cwV 2 hts gX7_readClause_X7_fail rfl rfl rfl (by decide +kernel) ⟨Nat.le_of_ble_eq_true rfl, Nat.le_of_ble_eq_true rfl⟩) ⟨fun a U g mk q => by obtain ⟨q0, q1, qP, qK, qD⟩ := q; exact ⟨q0, q1, qP, va_K.moved (u := U) (U := U.calling g mk a) (Vm.Alike.refl U.vm) qK, qD⟩, va_recv hK hP (ci := 7) (q0 := 0) rfl rfl, fun U hU hW => ⟨rfl, by rw [hU], by rw [hU]; exact hPc, va_K.moved hW.alike hK, hDc.weaken (fun _ _ _ _ => trivial)⟩⟩ rfl rfl hl.1 rfl (lv_room (Nat.le_of_ble_eq_true rfl)) dX7_readClause_27 ⟨Nat.le_of_ble_eq_true rfl, Nat.le_of_ble_eq_true rfl⟩) hS (fun q _ h => hFc q h) hFc (fun u285 t H1 locs ht hvm hw286 hB hz1 hk1 hS => ?_)
      obtain ⟨i287, i288, hP1, hD1⟩ := hB
      rw [ht] at hP1
      obtain ⟨hP, hD⟩ := va_join (wr := [(le, .inl (cI, 220, .inl fle)), (nu, .inl (cI, 5, .inl fnu)), (dr, .inr (5, [.int (nI st), .int bl, .int mm, .int (nI nq), .int (nI nh), .ref o5, .ref o6, .ref o7, .ref o8, .ref o9, .ref o10, .ref o11, .ref o12])), (o5, .inl (cI, 8, .inl fo5)), (o6, .inl (cI, 8, .inl fo6)), (o7, .inl (cI, 8, .inl fo7)), (o8, .inl (cI, 8, .inl fo8)), (o9, .inl (cI, 8, .inl fo9)), (o10, .inl (cI, 4, .inl fo10)), (o11, .inl (cI, 4, .inl fo11)), (o12, .inl (cI, 4, .inl fo12))]) (w1 := [(h0, .inr (7, [.ref dr, .int i287, .ref nu, .ref le, .int (nI ln), .int (nI at9), .int i288]))]) hP hD [0] [1, 2, 3, 4, 5, 6, 7, 8, 9, 10, 11] rfl rfl (by decide +kernel) (by decide +kernel) hk1 hFc hP1 hD1
      clear hP1 hD1
      clear hz1 hk1 hPc hDc hFc
      generalize H1 = H at hP hS ht ⊢
      have hP : va_P (dC, dI) vwCl [(le, .inl (cI, 220, .inl fle)), (nu, .inl (cI, 5, .inl fnu)), (dr, .inr (5, [.int (nI st), .int bl, .int mm, .int (nI nq), .int (nI nh), .ref o5, .ref o6, .ref o7, .ref o8, .ref o9, .ref o10, .ref o11, .ref o12])), (o5, .inl (cI, 8, .inl fo5)), (o6, .inl (cI, 8, .inl fo6)), (o7, .inl (cI, 8, .inl fo7)), (o8, .inl (cI, 8, .inl fo8)), (o9, .inl (cI, 8, .inl fo9)), (o10, .inl (cI, 4, .inl fo10)), (o11, .inl (cI, 4, .inl fo11)), (o12, .inl (cI, 4, .inl fo12)), (h0, .inr (7, [.ref dr, .int i287, .ref nu, .ref le, .int (nI ln), .int (nI at9), .int i288]))] H := hP
      have hD : va_D A [(le, .inl (cI, 220, .inl fle)), (nu, .inl (cI, 5, .inl fnu)), (dr, .inr (5, [.int (nI st), .int bl, .int mm, .int (nI nq), .int (nI nh), .ref o5, .ref o6, .ref o7, .ref o8, .ref o9, .ref o10, .ref o11, .ref o12])), (o5, .inl (cI, 8, .inl fo5)), (o6, .inl (cI, 8, .inl fo6)), (o7, .inl (cI, 8, .inl fo7)), (o8, .inl (cI, 8, .inl fo8)), (o9, .inl (cI, 8, .inl fo9)), (o10, .inl (cI, 4, .inl fo10)), (o11, .inl (cI, 4, .inl fo11)), (o12, .inl (cI, 4, .inl fo12)), (h0, .inr (7, [.ref dr, .int i287, .ref nu, .ref le, .int (nI ln), .int (nI at9), .int i288]))] := hD
      try dsimp only at hw286
      have hP9 := hP.sub (ws' := [(h0, .inr (7, [.ref dr, .int i287, .ref nu, .ref le, .int (nI ln), .int (nI at9), .int i288])), (le, .inl (cI, 220, .inl fle)), (nu, .inl (cI, 5, .inl fnu)), (dr, .inr (5, [.int (nI st), .int bl, .int mm, .int (nI nq), .int (nI nh), .ref o5, .ref o6, .ref o7, .ref o8, .ref o9, .ref o10, .ref o11, .ref o12])), (o5, .inl (cI, 8, .inl fo5)), (o6, .inl (cI, 8, .inl fo6)), (o7, .inl (cI, 8, .inl fo7)), (o8, .inl (cI, 8, .inl fo8)), (o9, .inl (cI, 8, .inl fo9)), (o10, .inl (cI, 4, .inl fo10)), (o11, .inl (cI, 4, .inl fo11)), (o12, .inl (cI, 4, .inl fo12))]) [11, 0, 1, 2, 3, 4, 5, 6, 7, 8, 9, 10] rfl
      have hD9 := hD.sub (ws' := [(h0, .inr (7, [.ref dr, .int i287, .ref nu, .ref le, .int (nI ln), .int (nI at9), .int i288])), (le, .inl (cI, 220, .inl fle)), (nu, .inl (cI, 5, .inl fnu)), (dr, .inr (5, [.int (nI st), .int bl, .int mm, .int (nI nq), .int (nI nh), .ref o5, .ref o6, .ref o7, .ref o8, .ref o9, .ref o10, .ref o11, .ref o12])), (o5, .inl (cI, 8, .inl fo5)), (o6, .inl (cI, 8, .inl fo6)), (o7, .inl (cI, 8, .inl fo7)), (o8, .inl (cI, 8, .inl fo8)), (o9, .inl (cI, 8, .inl fo9)), (o10, .inl (cI, 4, .inl fo10)), (o11, .inl (cI, 4, .inl fo11)), (o12, .inl (cI, 4, .inl fo12))]) [11, 0, 1, 2, 3, 4, 5, 6, 7, 8, 9, 10] (by decide +kernel) rfl
      exact W.vret hx hb hr (fun t ht hW => ⟨⟨(fun _ => 0), rfl, trivial, ⟨fnu, fo5, fo6, fo7, fo8, fo9, fo10, fo11, fo12, i287, i288, bl, mm, at9, st, nq, nh, by omega, by omega, by omega, by omega, by rw [ht]; exact hP9, hD9⟩⟩, hS.F ht⟩) hS.2.2 dX7_readClause_30
set_option maxHeartbeats 4000000 in
set_option maxRecDepth 100000 in
theorem c_X7_readText (l : Launch) (dC : Nat → ClassId) (dI : Nat → Nat → Nat) (cI cZ cQ : ClassId) (h0 : Nat) (dr : Nat) (fa : Int32) (nu : Nat) (le : Nat) (ln : Nat) (at9 : Nat) (fu : Int32) (hx9 : Nat) (fhx : Nat → Int32) (fle : Nat → Int32) (fnu : Nat → Int32) (st : Nat) (bl : Int32) (mm : Int32) (nq : Nat) (nh : Nat) (o5 : Nat) (o6 : Nat) (o7 : Nat) (o8 : Nat) (o9 : Nat) (o10 : Nat) (o11 : Nat) (o12 : Nat) (fo5 : Nat → Int32) (fo6 : Nat → Int32) (fo7 : Nat → Int32) (fo8 : Nat → Int32) (fo9 : Nat → Int32) (fo10 : Nat → Int32) (fo11 : Nat → Int32) (fo12 : Nat → Int32) (tl : Nat) (sz : Nat) (htl : tl ≤ 220) (hnq : nq ≤ 8) (hnh : nh ≤ 4) : Met l yX7_readText wsX7_readText ({ frames := 4, cells := 0, slots := 0, locals := 132 }) (va_Pc [.ref h0, .ref hx9, .int (nI tl)] (fun U => U.heap.size = sz ∧ va_P (dC, dI) vwCl [(h0, .inr (7, [.ref dr, .int fa, .ref nu, .ref le, .int (nI ln), .int (nI at9), .int fu])), (hx9, .inl (cI, 220, .inl fhx)), (le, .inl (cI, 220, .inl fle)), (nu, .inl (cI, 5, .inl fnu)), (dr, .inr (5, [.int (nI st), .int bl, .int mm, .int (nI nq), .int (nI nh), .ref o5, .ref o6, .ref o7, .ref o8, .ref o9, .ref o10, .ref o11, .ref o12])), (o5, .inl (cI, 8, .inl fo5)), (o6, .inl (cI, 8, .inl fo6)), (o7, .inl (cI, 8, .inl fo7)), (o8, .inl (cI, 8, .inl fo8)), (o9, .inl (cI, 8, .inl fo9)), (o10, .inl (cI, 4, .inl fo10)), (o11, .inl (cI, 4, .inl fo11)), (o12, .inl (cI, 4, .inl fo12))] U.heap ∧ va_K (dC, dI) vwCl (tys0 cI cZ cQ) U ∧ va_D (fun _ => True) [(h0, .inr (7, [.ref dr, .int fa, .ref nu, .ref le, .int (nI ln), .int (nI at9), .int fu])), (hx9, .inl (cI, 220, .inl fhx)), (le, .inl (cI, 220, .inl fle)), (nu, .inl (cI, 5, .inl fnu)), (dr, .inr (5, [.int (nI st), .int bl, .int mm, .int (nI nq), .int (nI nh), .ref o5, .ref o6, .ref o7, .ref o8, .ref o9, .ref o10, .ref o11, .ref o12])), (o5, .inl (cI, 8, .inl fo5)), (o6, .inl (cI, 8, .inl fo6)), (o7, .inl (cI, 8, .inl fo7)), (o8, .inl (cI, 8, .inl fo8)), (o9, .inl (cI, 8, .inl fo9)), (o10, .inl (cI, 4, .inl fo10)), (o11, .inl (cI, 4, .inl fo11)), (o12, .inl (cI, 4, .inl fo12))] ∧ xN U ∧ xS (va_A [(h0, .inr (7, [.ref dr, .int fa, .ref nu, .ref le, .int (nI ln), .int (nI at9), .int fu])), (hx9, .inl (cI, 220, .inl fhx)), (le, .inl (cI, 220, .inl fle)), (nu, .inl (cI, 5, .inl fnu)), (dr, .inr (5, [.int (nI st), .int bl, .int mm, .int (nI nq), .int (nI nh), .ref o5, .ref o6, .ref o7, .ref o8, .ref o9, .ref o10, .ref o11, .ref o12])), (o5, .inl (cI, 8, .inl fo5)), (o6, .inl (cI, 8, .inl fo6)), (o7, .inl (cI, 8, .inl fo7)), (o8, .inl (cI, 8, .inl fo8)), (o9, .inl (cI, 8, .inl fo9)), (o10, .inl (cI, 4, .inl fo10)), (o11, .inl (cI, 4, .inl fo11)), (o12, .inl (cI, 4, .inl fo12))] sz) U U.heap)) (va_Qi (fun (r : Int32) (u : Nat → Nat) => True) (fun (_ : Nat → Nat) (t : State) => ∃ (gg0 gg1 gg2 gg3 gg4 gg5 gg6 gg7 gg8 gg9 : Nat → Int32) (ii0 ii3 ii5 ii6 : Int32) (kk1 kk2 kk4 kk7 kk8 : Nat), kk1 ≤ 220 ∧ kk2 ≤ 220 ∧ kk4 ≤ 1 ∧ kk7 ≤ 8 ∧ kk8 ≤ 4 ∧ va_P (dC, dI) vwCl [(h0, .inr (7, [.ref dr, .int ii0, .ref nu, .ref le, .int (nI kk1), .int (nI kk2), .int ii3])), (hx9, .inl (cI, 220, .inl fhx)), (le, .inl (cI, 220, .inl gg0)), (nu, .inl (cI, 5, .inl gg1)), (dr, .inr (5, [.int (nI kk4), .int ii5, .int ii6, .int (nI kk7), .int (nI kk8), .ref o5, .ref o6, .ref o7, .ref o8, .ref o9, .ref o10, .ref o11, .ref o12])), (o5, .inl (cI, 8, .inl gg2)), (o6, .inl (cI, 8, .inl gg3)), (o7, .inl (cI, 8, .inl gg4)), (o8, .inl (cI, 8, .inl gg5)), (o9, .inl (cI, 8, .inl gg6)), (o10, .inl (cI, 4, .inl gg7)), (o11, .inl (cI, 4, .inl gg8)), (o12, .inl (cI, 4, .inl gg9))] t.heap ∧ va_D (va_A [(h0, .inr (7, [.ref dr, .int fa, .ref nu, .ref le, .int (nI ln), .int (nI at9), .int fu])), (hx9, .inl (cI, 220, .inl fhx)), (le, .inl (cI, 220, .inl fle)), (nu, .inl (cI, 5, .inl fnu)), (dr, .inr (5, [.int (nI st), .int bl, .int mm, .int (nI nq), .int (nI nh), .ref o5, .ref o6, .ref o7, .ref o8, .ref o9, .ref o10, .ref o11, .ref o12])), (o5, .inl (cI, 8, .inl fo5)), (o6, .inl (cI, 8, .inl fo6)), (o7, .inl (cI, 8, .inl fo7)), (o8, .inl (cI, 8, .inl fo8)), (o9, .inl (cI, 8, .inl fo9)), (o10, .inl (cI, 4, .inl fo10)), (o11, .inl (cI, 4, .inl fo11)), (o12, .inl (cI, 4, .inl fo12))] sz) [(h0, .inr (7, [.ref dr, .int ii0, .ref nu, .ref le, .int (nI kk1), .int (nI kk2), .int ii3])), (hx9, .inl (cI, 220, .inl fhx)), (le, .inl (cI, 220, .inl gg0)), (nu, .inl (cI, 5, .inl gg1)), (dr, .inr (5, [.int (nI kk4), .int ii5, .int ii6, .int (nI kk7), .int (nI kk8), .ref o5, .ref o6, .ref o7, .ref o8, .ref o9, .ref o10, .ref o11, .ref o12])), (o5, .inl (cI, 8, .inl gg2)), (o6, .inl (cI, 8, .inl gg3)), (o7, .inl (cI, 8, .inl gg4)), (o8, .inl (cI, 8, .inl gg5)), (o9, .inl (cI, 8, .inl gg6)), (o10, .inl (cI, 4, .inl gg7)), (o11, .inl (cI, 4, .inl gg8)), (o12, .inl (cI, 4, .inl gg9))]) (va_A [(h0, .inr (7, [.ref dr, .int fa, .ref nu, .ref le, .int (nI ln), .int (nI at9), .int fu])), (hx9, .inl (cI, 220, .inl fhx)), (le, .inl (cI, 220, .inl fle)), (nu, .inl (cI, 5, .inl fnu)), (dr, .inr (5, [.int (nI st), .int bl, .int mm, .int (nI nq), .int (nI nh), .ref o5, .ref o6, .ref o7, .ref o8, .ref o9, .ref o10, .ref o11, .ref o12])), (o5, .inl (cI, 8, .inl fo5)), (o6, .inl (cI, 8, .inl fo6)), (o7, .inl (cI, 8, .inl fo7)), (o8, .inl (cI, 8, .inl fo8)), (o9, .inl (cI, 8, .inl fo9)), (o10, .inl (cI, 4, .inl fo10)), (o11, .inl (cI, 4, .inl fo11)), (o12, .inl (cI, 4, .inl fo12))] sz)) 0 0 (va_A [(h0, .inr (7, [.ref dr, .int fa, .ref nu, .ref le, .int (nI ln), .int (nI at9), .int fu])), (hx9, .inl (cI, 220, .inl fhx)), (le, .inl (cI, 220, .inl fle)), (nu, .inl (cI, 5, .inl fnu)), (dr, .inr (5, [.int (nI st), .int bl, .int mm, .int (nI nq), .int (nI nh), .ref o5, .ref o6, .ref o7, .ref o8, .ref o9, .ref o10, .ref o11, .ref o12])), (o5, .inl (cI, 8, .inl fo5)), (o6, .inl (cI, 8, .inl fo6)), (o7, .inl (cI, 8, .inl fo7)), (o8, .inl (cI, 8, .inl fo8)), (o9, .inl (cI, 8, .inl fo9)), (o10, .inl (cI, 4, .inl fo10)), (o11, .inl (cI, 4, .inl fo11)), (o12, .inl (cI, 4, .inl fo12))] sz) := by
  refine Met.ofW (cc := cX7_readText) (maxL := 4) (ret := (some .int)) (by decide) rfl ?_
  intro p e s m args below meth c s₁ B hml hv
  obtain ⟨rfl, hsz, hP, hK, hD0, hN, hXS⟩ := hv
  have hx := B.exec
  have hb := B.bytes
  have hr := B.returns
  have hts := atoms_spec (ws := wsX7_readText) B.pre
  have hown : s.vm.findClass RX7 = some m.cls := findClass_of_methodNamed B.named
  have hlocks := B.notSynchronized
  have hi_X7 : ∀ w ∈ u_ws RX7 TX7 7, w ∈ wsX7_readText := by decide +kernel
  subst hsz
  have hD := hD0.self (sz := s.heap.size)
  generalize hAe : va_A [(h0, .inr (7, [.ref dr, .int fa, .ref nu, .ref le, .int (nI ln), .int (nI at9), .int fu])), (hx9, .inl (cI, 220, .inl fhx)), (le, .inl (cI, 220, .inl fle)), (nu, .inl (cI, 5, .inl fnu)), (dr, .inr (5, [.int (nI st), .int bl, .int mm, .int (nI nq), .int (nI nh), .ref o5, .ref o6, .ref o7, .ref o8, .ref o9, .ref o10, .ref o11, .ref o12])), (o5, .inl (cI, 8, .inl fo5)), (o6, .inl (cI, 8, .inl fo6)), (o7, .inl (cI, 8, .inl fo7)), (o8, .inl (cI, 8, .inl fo8)), (o9, .inl (cI, 8, .inl fo9)), (o10, .inl (cI, 4, .inl fo10)), (o11, .inl (cI, 4, .inl fo11)), (o12, .inl (cI, 4, .inl fo12))] s.heap.size = A at hD hXS ⊢
  obtain ⟨t_BLADE_LEAST, g_BLADE_LEAST, hZ_BLADE_LEAST, hT_t_BLADE_LEAST⟩ := hXS.1
  obtain ⟨t_BLADE_MOST, g_BLADE_MOST, hZ_BLADE_MOST, hT_t_BLADE_MOST⟩ := hXS.2.1
  obtain ⟨t_QUILL_LEAST, g_QUILL_LEAST, hZ_QUILL_LEAST, hT_t_QUILL_LEAST⟩ := hXS.2.2.1
  obtain ⟨t_QUILL_MOST, g_QUILL_MOST, hZ_QUILL_MOST, hT_t_QUILL_MOST⟩ := hXS.2.2.2.1
  obtain ⟨t_HAND_LEAST, g_HAND_LEAST, hZ_HAND_LEAST, hT_t_HAND_LEAST⟩ := hXS.2.2.2.2.1
  obtain ⟨t_HAND_MOST, g_HAND_MOST, hZ_HAND_MOST, hT_t_HAND_MOST⟩ := hXS.2.2.2.2.2
  have hA : ∀ q : Nat, s.heap.size ≤ q → A q := fun q h => by rw [← hAe]; exact Or.inr h
  have hS : va_S A s.heap s.heap [] := va_S.rf
  have hl := lv_entry ([.ref h0, .ref hx9, .int (nI tl)]) (n := 4) (Nat.le_of_ble_eq_true rfl)
  rw [lg_entry_eq]
  generalize (lg_sl ([.ref h0, .ref hx9, .int (nI tl)]) ++ List.replicate (4 - (lg_sl ([.ref h0, .ref hx9, .int (nI tl)])).length) Slot.unset).toArray = ls at hl ⊢
  have hl : lv_has ls 4 [(0, .ref h0), (1, .ref hx9), (2, .int (nI tl))] := hl
  refine lv_aload_n hx hb dX7_readText_0 rfl (lv_at hl 0 rfl) ?_
  refine va_get (D := (dC, dI)) (ci := 7) (v := .ref dr) (C := RX7) (T := TX7) (N := 7) hx hb hts hi_X7 hown hK hP 0 rfl rfl 0 (by decide) (hts (.fieldLink RX7 12 "LeftQuills$Reader" "draft" "LLeftQuills$Office;") (wmx 1 rfl)) (fun _ h9 => h9) rfl dX7_readText_1 ?_
  have hPc := hP.sub (ws' := [(dr, .inr (5, [.int (nI st), .int bl, .int mm, .int (nI nq), .int (nI nh), .ref o5, .ref o6, .ref o7, .ref o8, .ref o9, .ref o10, .ref o11, .ref o12]))]) [4] rfl
  have hDc := hD.sub (ws' := [(dr, .inr (5, [.int (nI st), .int bl, .int mm, .int (nI nq), .int (nI nh), .ref o5, .ref o6, .ref o7, .ref o8, .ref o9, .ref o10, .ref o11, .ref o12]))]) [4] (by decide) rfl
  have hFc := va_free (wc := [(dr, .inr (5, [.int (nI st), .int bl, .int mm, .int (nI nq), .int (nI nh), .ref o5, .ref o6, .ref o7, .ref o8, .ref o9, .ref o10, .ref o11, .ref o12]))]) hD hS hA [4] rfl
  refine va_callv (va_runV (As := []) (rest := []) ⟨hx, hb, hml, hown, hts⟩ (c_X5_clear l dC dI cI cZ cQ dr st bl mm nq nh o5 o6 o7 o8 o9 o10 o11 o12 s.heap.size ) (cwV 0 hts gX7_readText_X5_clear rfl rfl rfl (by decide +kernel) ⟨Nat.le_of_ble_eq_true rfl, Nat.le_of_ble_eq_true rfl⟩) ⟨fun a U g mk q => by obtain ⟨q0, q1, qP, qK, qD⟩ := q; exact ⟨q0, q1, qP, va_K.moved (u := U) (U := U.calling g mk a) (Vm.Alike.refl U.vm) qK, qD⟩, va_recv hK hP (ci := 5) (q0 := 4) rfl rfl, fun U hU hW => ⟨rfl, by rw [hU], by rw [hU]; exact hPc, va_K.moved hW.alike hK, hDc.weaken (fun _ _ _ _ => trivial)⟩⟩ rfl rfl hl.1 rfl (lv_room (Nat.le_of_ble_eq_true rfl)) dX7_readText_4 ⟨Nat.le_of_ble_eq_true rfl, Nat.le_of_ble_eq_true rfl⟩) hS (fun q _ h => hFc q h) hFc (fun u2 t H1 locs ht hvm hw3 hB hz1 hk1 hS => ?_)
  obtain ⟨i5, i6, k4, k7, k8, hk4, hk7, hk8, hP1, hD1⟩ := hB
  rw [ht] at hP1
  obtain ⟨hP, hD⟩ := va_join (wr := [(h0, .inr (7, [.ref dr, .int fa, .ref nu, .ref le, .int (nI ln), .int (nI at9), .int fu])), (hx9, .inl (cI, 220, .inl fhx)), (le, .inl (cI, 220, .inl fle)), (nu, .inl (cI, 5, .inl fnu)), (o5, .inl (cI, 8, .inl fo5)), (o6, .inl (cI, 8, .inl fo6)), (o7, .inl (cI, 8, .inl fo7)), (o8, .inl (cI, 8, .inl fo8)), (o9, .inl (cI, 8, .inl fo9)), (o10, .inl (cI, 4, .inl fo10)), (o11, .inl (cI, 4, .inl fo11)), (o12, .inl (cI, 4, .inl fo12))]) (w1 := [(dr, .inr (5, [.int (nI k4), .int i5, .int i6, .int (nI k7), .int (nI k8), .ref o5, .ref o6, .ref o7, .ref o8, .ref o9, .ref o10, .ref o11, .ref o12]))]) hP hD [4] [0, 1, 2, 3, 5, 6, 7, 8, 9, 10, 11, 12] rfl rfl (by decide +kernel) (by decide +kernel) hk1 hFc hP1 hD1
  clear hP1 hD1
  clear hz1 hk1 hPc hDc hFc
  generalize H1 = H at hP hS ht ⊢
  have hP : va_P (dC, dI) vwCl [(h0, .inr (7, [.ref dr, .int fa, .ref nu, .ref le, .int (nI ln), .int (nI at9), .int fu])), (hx9, .inl (cI, 220, .inl fhx)), (le, .inl (cI, 220, .inl fle)), (nu, .inl (cI, 5, .inl fnu)), (o5, .inl (cI, 8, .inl fo5)), (o6, .inl (cI, 8, .inl fo6)), (o7, .inl (cI, 8, .inl fo7)), (o8, .inl (cI, 8, .inl fo8)), (o9, .inl (cI, 8, .inl fo9)), (o10, .inl (cI, 4, .inl fo10)), (o11, .inl (cI, 4, .inl fo11)), (o12, .inl (cI, 4, .inl fo12)), (dr, .inr (5, [.int (nI k4), .int i5, .int i6, .int (nI k7), .int (nI k8), .ref o5, .ref o6, .ref o7, .ref o8, .ref o9, .ref o10, .ref o11, .ref o12]))] H := hP
  have hD : va_D A [(h0, .inr (7, [.ref dr, .int fa, .ref nu, .ref le, .int (nI ln), .int (nI at9), .int fu])), (hx9, .inl (cI, 220, .inl fhx)), (le, .inl (cI, 220, .inl fle)), (nu, .inl (cI, 5, .inl fnu)), (o5, .inl (cI, 8, .inl fo5)), (o6, .inl (cI, 8, .inl fo6)), (o7, .inl (cI, 8, .inl fo7)), (o8, .inl (cI, 8, .inl fo8)), (o9, .inl (cI, 8, .inl fo9)), (o10, .inl (cI, 4, .inl fo10)), (o11, .inl (cI, 4, .inl fo11)), (o12, .inl (cI, 4, .inl fo12)), (dr, .inr (5, [.int (nI k4), .int i5, .int i6, .int (nI k7), .int (nI k8), .ref o5, .ref o6, .ref o7, .ref o8, .ref o9, .ref o10, .ref o11, .ref o12]))] := hD
  try dsimp only at hw3
  refine lv_aload_n hx hb dX7_readText_7 rfl (lv_at hl 0 rfl) ?_
  refine lv_iconst (v := 0) hx hb dX7_readText_8 (by decide) ?_
  refine va_put (D := (dC, dI)) (ci := 7) (v := .int 0) (ty := .int) (C := RX7) (T := TX7) (N := 7) hx hb hts hi_X7 tyX7 tyX7_ok nmX7 hown hK hP hD hS 0 rfl rfl 5 (by decide) (hts (.fieldLink RX7 32 "LeftQuills$Reader" "at" "I") (wmx 2 rfl)) (fun _ h9 => h9) rfl (by decide +kernel) rfl rfl (Nat.le_of_ble_eq_true rfl) dX7_readText_9 (fun H locs hP hD hS => ?_)
  have hP : va_P (dC, dI) vwCl [(h0, .inr (7, [.ref dr, .int fa, .ref nu, .ref le, .int (nI ln), .int 0, .int fu])), (hx9, .inl (cI, 220, .inl fhx)), (le, .inl (cI, 220, .inl fle)), (nu, .inl (cI, 5, .inl fnu)), (o5, .inl (cI, 8, .inl fo5)), (o6, .inl (cI, 8, .inl fo6)), (o7, .inl (cI, 8, .inl fo7)), (o8, .inl (cI, 8, .inl fo8)), (o9, .inl (cI, 8, .inl fo9)), (o10, .inl (cI, 4, .inl fo10)), (o11, .inl (cI, 4, .inl fo11)), (o12, .inl (cI, 4, .inl fo12)), (dr, .inr (5, [.int (nI k4), .int i5, .int i6, .int (nI k7), .int (nI k8), .ref o5, .ref o6, .ref o7, .ref o8, .ref o9, .ref o10, .ref o11, .ref o12]))] H := hP
  have hD : va_D A [(h0, .inr (7, [.ref dr, .int fa, .ref nu, .ref le, .int (nI ln), .int 0, .int fu])), (hx9, .inl (cI, 220, .inl fhx)), (le, .inl (cI, 220, .inl fle)), (nu, .inl (cI, 5, .inl fnu)), (o5, .inl (cI, 8, .inl fo5)), (o6, .inl (cI, 8, .inl fo6)), (o7, .inl (cI, 8, .inl fo7)), (o8, .inl (cI, 8, .inl fo8)), (o9, .inl (cI, 8, .inl fo9)), (o10, .inl (cI, 4, .inl fo10)), (o11, .inl (cI, 4, .inl fo11)), (o12, .inl (cI, 4, .inl fo12)), (dr, .inr (5, [.int (nI k4), .int i5, .int i6, .int (nI k7), .int (nI k8), .ref o5, .ref o6, .ref o7, .ref o8, .ref o9, .ref o10, .ref o11, .ref o12]))] := hD
  refine lv_aload_n hx hb dX7_readText_12 rfl (lv_at hl 0 rfl) ?_
  refine lv_iconst (v := 0) hx hb dX7_readText_13 (by decide) ?_
  refine va_put (D := (dC, dI)) (ci := 7) (v := .int 0) (ty := .int) (C := RX7) (T := TX7) (N := 7) hx hb hts hi_X7 tyX7 tyX7_ok nmX7 hown hK hP hD hS 0 rfl rfl 6 (by decide) (hts (.fieldLink RX7 35 "LeftQuills$Reader" "fault" "I") (wmx 3 rfl)) (fun _ h9 => h9) rfl (by decide +kernel) rfl rfl (Nat.le_of_ble_eq_true rfl) dX7_readText_14 (fun H locs hP hD hS => ?_)
  have hP : va_P (dC, dI) vwCl [(h0, .inr (7, [.ref dr, .int fa, .ref nu, .ref le, .int (nI ln), .int 0, .int 0])), (hx9, .inl (cI, 220, .inl fhx)), (le, .inl (cI, 220, .inl fle)), (nu, .inl (cI, 5, .inl fnu)), (o5, .inl (cI, 8, .inl fo5)), (o6, .inl (cI, 8, .inl fo6)), (o7, .inl (cI, 8, .inl fo7)), (o8, .inl (cI, 8, .inl fo8)), (o9, .inl (cI, 8, .inl fo9)), (o10, .inl (cI, 4, .inl fo10)), (o11, .inl (cI, 4, .inl fo11)), (o12, .inl (cI, 4, .inl fo12)), (dr, .inr (5, [.int (nI k4), .int i5, .int i6, .int (nI k7), .int (nI k8), .ref o5, .ref o6, .ref o7, .ref o8, .ref o9, .ref o10, .ref o11, .ref o12]))] H := hP
  have hD : va_D A [(h0, .inr (7, [.ref dr, .int fa, .ref nu, .ref le, .int (nI ln), .int 0, .int 0])), (hx9, .inl (cI, 220, .inl fhx)), (le, .inl (cI, 220, .inl fle)), (nu, .inl (cI, 5, .inl fnu)), (o5, .inl (cI, 8, .inl fo5)), (o6, .inl (cI, 8, .inl fo6)), (o7, .inl (cI, 8, .inl fo7)), (o8, .inl (cI, 8, .inl fo8)), (o9, .inl (cI, 8, .inl fo9)), (o10, .inl (cI, 4, .inl fo10)), (o11, .inl (cI, 4, .inl fo11)), (o12, .inl (cI, 4, .inl fo12)), (dr, .inr (5, [.int (nI k4), .int i5, .int i6, .int (nI k7), .int (nI k8), .ref o5, .ref o6, .ref o7, .ref o8, .ref o9, .ref o10, .ref o11, .ref o12]))] := hD
  refine lv_aload_n hx hb dX7_readText_17 rfl (lv_at hl 0 rfl) ?_
  refine lv_iconst (v := (-1)) hx hb dX7_readText_18 (by decide) ?_
  refine va_put (D := (dC, dI)) (ci := 7) (v := .int (-1)) (ty := .int) (C := RX7) (T := TX7) (N := 7) hx hb hts hi_X7 tyX7 tyX7_ok nmX7 hown hK hP hD hS 0 rfl rfl 1 (by decide) (hts (.fieldLink RX7 18 "LeftQuills$Reader" "faultAt" "I") (wmx 4 rfl)) (fun _ h9 => h9) rfl (by decide +kernel) rfl rfl (Nat.le_of_ble_eq_true rfl) dX7_readText_19 (fun H locs hP hD hS => ?_)
  have hP : va_P (dC, dI) vwCl [(h0, .inr (7, [.ref dr, .int (-1), .ref nu, .ref le, .int (nI ln), .int 0, .int 0])), (hx9, .inl (cI, 220, .inl fhx)), (le, .inl (cI, 220, .inl fle)), (nu, .inl (cI, 5, .inl fnu)), (o5, .inl (cI, 8, .inl fo5)), (o6, .inl (cI, 8, .inl fo6)), (o7, .inl (cI, 8, .inl fo7)), (o8, .inl (cI, 8, .inl fo8)), (o9, .inl (cI, 8, .inl fo9)), (o10, .inl (cI, 4, .inl fo10)), (o11, .inl (cI, 4, .inl fo11)), (o12, .inl (cI, 4, .inl fo12)), (dr, .inr (5, [.int (nI k4), .int i5, .int i6, .int (nI k7), .int (nI k8), .ref o5, .ref o6, .ref o7, .ref o8, .ref o9, .ref o10, .ref o11, .ref o12]))] H := hP
  have hD : va_D A [(h0, .inr (7, [.ref dr, .int (-1), .ref nu, .ref le, .int (nI ln), .int 0, .int 0])), (hx9, .inl (cI, 220, .inl fhx)), (le, .inl (cI, 220, .inl fle)), (nu, .inl (cI, 5, .inl fnu)), (o5, .inl (cI, 8, .inl fo5)), (o6, .inl (cI, 8, .inl fo6)), (o7, .inl (cI, 8, .inl fo7)), (o8, .inl (cI, 8, .inl fo8)), (o9, .inl (cI, 8, .inl fo9)), (o10, .inl (cI, 4, .inl fo10)), (o11, .inl (cI, 4, .inl fo11)), (o12, .inl (cI, 4, .inl fo12)), (dr, .inr (5, [.int (nI k4), .int i5, .int i6, .int (nI k7), .int (nI k8), .ref o5, .ref o6, .ref o7, .ref o8, .ref o9, .ref o10, .ref o11, .ref o12]))] := hD
  refine lv_aload_n hx hb dX7_readText_22 rfl (lv_at hl 0 rfl) ?_
  refine lv_iconst (v := 0) hx hb dX7_readText_23 (by decide) ?_
  refine lv_iload_n hx hb dX7_readText_24 rfl (lv_at hl 2 rfl) ?_
  refine lv_aload_n hx hb dX7_readText_25 rfl (lv_at hl 1 rfl) ?_
  refine va_alen (v := 220) hx hb hK hP 1 0 rfl rfl rfl dX7_readText_26 ?_
  refine lv_sipush (v := 220) hx hb dX7_readText_27 (by decide) ?_
  refine va_mmin hx hb (hml.trans hl.1.symm) hown (hts (.methodLink RX7 41 Lib.Math.min.name) (wmx 5 rfl)) (hts (.static Lib.Math.min.name) (wmx 6 rfl)) (hts (.initialized "java/lang/Math") (wmx 7 rfl)) (hts (.code Lib.Math.min.name Lib.Math.min.code 2 (some .int)) (wmx 8 rfl)) (Nat.le_of_ble_eq_true rfl) (Nat.le_of_ble_eq_true rfl) (Nat.le_of_ble_eq_true rfl) (Nat.le_of_ble_eq_true rfl) dX7_readText_30 ?_
  refine lv_topi (fun z9 ez9 => ?_)
  obtain rfl : z9 = 220 := ez9.trans (by decide)
  refine va_mmin hx hb (hml.trans hl.1.symm) hown (hts (.methodLink RX7 41 Lib.Math.min.name) (wmx 5 rfl)) (hts (.static Lib.Math.min.name) (wmx 6 rfl)) (hts (.initialized "java/lang/Math") (wmx 7 rfl)) (hts (.code Lib.Math.min.name Lib.Math.min.code 2 (some .int)) (wmx 8 rfl)) (Nat.le_of_ble_eq_true rfl) (Nat.le_of_ble_eq_true rfl) (Nat.le_of_ble_eq_true rfl) (Nat.le_of_ble_eq_true rfl) dX7_readText_33 ?_
  refine lv_topi (fun z10 ez10 => ?_)
  obtain rfl : z10 = nI (min tl 220) := ez10.trans (x_minN (a := tl) (b := 220) (by omega) (by omega))
  refine va_mmax hx hb (hml.trans hl.1.symm) hown (hts (.methodLink RX7 47 Lib.Math.max.name) (wmx 9 rfl)) (hts (.static Lib.Math.max.name) (wmx 10 rfl)) (hts (.initialized "java/lang/Math") (wmx 7 rfl)) (hts (.code Lib.Math.max.name Lib.Math.max.code 2 (some .int)) (wmx 11 rfl)) (Nat.le_of_ble_eq_true rfl) (Nat.le_of_ble_eq_true rfl) (Nat.le_of_ble_eq_true rfl) (Nat.le_of_ble_eq_true rfl) dX7_readText_36 ?_
  refine lv_topi (fun z11 ez11 => ?_)
  obtain rfl : z11 = nI (max 0 (min tl 220)) := ez11.trans (x_maxN (a := 0) (b := min tl 220) (by omega) (by omega))
  refine va_put (D := (dC, dI)) (ci := 7) (v := .int (nI (max 0 (min tl 220)))) (ty := .int) (C := RX7) (T := TX7) (N := 7) hx hb hts hi_X7 tyX7 tyX7_ok nmX7 hown hK hP hD hS 0 rfl rfl 4 (by decide) (hts (.fieldLink RX7 29 "LeftQuills$Reader" "length" "I") (wmx 12 rfl)) (fun _ h9 => h9) rfl (by decide +kernel) rfl rfl (Nat.le_of_ble_eq_true rfl) dX7_readText_39 (fun H locs hP hD hS => ?_)
  have hP : va_P (dC, dI) vwCl [(h0, .inr (7, [.ref dr, .int (-1), .ref nu, .ref le, .int (nI (max 0 (min tl 220))), .int 0, .int 0])), (hx9, .inl (cI, 220, .inl fhx)), (le, .inl (cI, 220, .inl fle)), (nu, .inl (cI, 5, .inl fnu)), (o5, .inl (cI, 8, .inl fo5)), (o6, .inl (cI, 8, .inl fo6)), (o7, .inl (cI, 8, .inl fo7)), (o8, .inl (cI, 8, .inl fo8)), (o9, .inl (cI, 8, .inl fo9)), (o10, .inl (cI, 4, .inl fo10)), (o11, .inl (cI, 4, .inl fo11)), (o12, .inl (cI, 4, .inl fo12)), (dr, .inr (5, [.int (nI k4), .int i5, .int i6, .int (nI k7), .int (nI k8), .ref o5, .ref o6, .ref o7, .ref o8, .ref o9, .ref o10, .ref o11, .ref o12]))] H := hP
  have hD : va_D A [(h0, .inr (7, [.ref dr, .int (-1), .ref nu, .ref le, .int (nI (max 0 (min tl 220))), .int 0, .int 0])), (hx9, .inl (cI, 220, .inl fhx)), (le, .inl (cI, 220, .inl fle)), (nu, .inl (cI, 5, .inl fnu)), (o5, .inl (cI, 8, .inl fo5)), (o6, .inl (cI, 8, .inl fo6)), (o7, .inl (cI, 8, .inl fo7)), (o8, .inl (cI, 8, .inl fo8)), (o9, .inl (cI, 8, .inl fo9)), (o10, .inl (cI, 4, .inl fo10)), (o11, .inl (cI, 4, .inl fo11)), (o12, .inl (cI, 4, .inl fo12)), (dr, .inr (5, [.int (nI k4), .int i5, .int i6, .int (nI k7), .int (nI k8), .ref o5, .ref o6, .ref o7, .ref o8, .ref o9, .ref o10, .ref o11, .ref o12]))] := hD
  refine lv_aload_n hx hb dX7_readText_42 rfl (lv_at hl 1 rfl) ?_
  refine lv_iconst (v := 0) hx hb dX7_readText_43 (by decide) ?_
  refine lv_aload_n hx hb dX7_readText_44 rfl (lv_at hl 0 rfl) ?_
  refine va_get (D := (dC, dI)) (ci := 7) (v := .ref le) (C := RX7) (T := TX7) (N := 7) hx hb hts hi_X7 hown hK hP 0 rfl rfl 3 (by decide) (hts (.fieldLink RX7 26 "LeftQuills$Reader" "letters" "[I") (wmx 13 rfl)) (fun _ h9 => h9) rfl dX7_readText_45 ?_
  refine lv_iconst (v := 0) hx hb dX7_readText_48 (by decide) ?_
  refine lv_aload_n hx hb dX7_readText_49 rfl (lv_at hl 0 rfl) ?_
  refine va_get (D := (dC, dI)) (ci := 7) (v := .int (nI (max 0 (min tl 220)))) (C := RX7) (T := TX7) (N := 7) hx hb hts hi_X7 hown hK hP 0 rfl rfl 4 (by decide) (hts (.fieldLink RX7 29 "LeftQuills$Reader" "length" "I") (wmx 12 rfl)) (fun _ h9 => h9) rfl dX7_readText_50 ?_
  refine va_copyi hx hb (hml.trans hl.1.symm) hown (hts (.methodLink RX7 50 arraycopyName) (wmx 14 rfl)) (hts (.native arraycopyName) (wmx 15 rfl)) (hts (.static arraycopyName) (wmx 16 rfl)) (hts (.initialized "java/lang/System") (wmx 17 rfl)) hK hP hD hS 1 2 0 0 rfl rfl rfl rfl rfl (by decide) (by decide) (nI_pos (n := max 0 (min tl 220)) (by omega)) (by have e0 : ((0 : Int32)).toNatClampNeg = 0 := (by decide); have e1 := nI_clamp (n := max 0 (min tl 220)) (by omega); omega) (by have e0 : ((0 : Int32)).toNatClampNeg = 0 := (by decide); have e1 := nI_clamp (n := max 0 (min tl 220)) (by omega); omega) (fun _ _ => rfl) (Nat.le_of_ble_eq_true rfl) (Nat.le_of_ble_eq_true rfl) dX7_readText_53 (fun H locs hP hD hS => ?_)
  generalize hgf12 : va_cpy _ _ _ _ _ = f12 at hP hD
  have hP : va_P (dC, dI) vwCl [(h0, .inr (7, [.ref dr, .int (-1), .ref nu, .ref le, .int (nI (max 0 (min tl 220))), .int 0, .int 0])), (hx9, .inl (cI, 220, .inl fhx)), (le, .inl (cI, 220, .inl f12)), (nu, .inl (cI, 5, .inl fnu)), (o5, .inl (cI, 8, .inl fo5)), (o6, .inl (cI, 8, .inl fo6)), (o7, .inl (cI, 8, .inl fo7)), (o8, .inl (cI, 8, .inl fo8)), (o9, .inl (cI, 8, .inl fo9)), (o10, .inl (cI, 4, .inl fo10)), (o11, .inl (cI, 4, .inl fo11)), (o12, .inl (cI, 4, .inl fo12)), (dr, .inr (5, [.int (nI k4), .int i5, .int i6, .int (nI k7), .int (nI k8), .ref o5, .ref o6, .ref o7, .ref o8, .ref o9, .ref o10, .ref o11, .ref o12]))] H := hP
  have hD : va_D A [(h0, .inr (7, [.ref dr, .int (-1), .ref nu, .ref le, .int (nI (max 0 (min tl 220))), .int 0, .int 0])), (hx9, .inl (cI, 220, .inl fhx)), (le, .inl (cI, 220, .inl f12)), (nu, .inl (cI, 5, .inl fnu)), (o5, .inl (cI, 8, .inl fo5)), (o6, .inl (cI, 8, .inl fo6)), (o7, .inl (cI, 8, .inl fo7)), (o8, .inl (cI, 8, .inl fo8)), (o9, .inl (cI, 8, .inl fo9)), (o10, .inl (cI, 4, .inl fo10)), (o11, .inl (cI, 4, .inl fo11)), (o12, .inl (cI, 4, .inl fo12)), (dr, .inr (5, [.int (nI k4), .int i5, .int i6, .int (nI k7), .int (nI k8), .ref o5, .ref o6, .ref o7, .ref o8, .ref o9, .ref o10, .ref o11, .ref o12]))] := hD
  refine lv_iconst (v := 0) hx hb dX7_readText_56 (by decide) ?_
  refine lv_istore_n (lv' := [(3, .int 0), (0, .ref h0), (1, .ref hx9), (2, .int (nI tl))]) hx hb dX7_readText_57 rfl hl (by decide) rfl (fun ls hl => ?_)
  refine (fun (K : ∀ (d58 : Nat) (k58 : Nat) (f58_nu : Nat → Int32) (f58_o5 : Nat → Int32) (f58_o6 : Nat → Int32) (f58_o7 : Nat → Int32) (f58_o8 : Nat → Int32) (f58_o9 : Nat → Int32) (f58_o10 : Nat → Int32) (f58_o11 : Nat → Int32) (f58_o12 : Nat → Int32) (i58_h0_1 : Int32) (i58_h0_5 : Nat) (i58_h0_6 : Int32) (i58_dr_0 : Nat) (i58_dr_1 : Int32) (i58_dr_2 : Int32) (i58_dr_3 : Nat) (i58_dr_4 : Nat) (H : Heap) (locs : List Loc) (ls : Array Slot), k58 + d58 = max 0 (min tl 220) + 1 → i58_h0_5 ≤ max 0 (min tl 220) → i58_dr_0 ≤ 1 → i58_dr_3 ≤ 8 → i58_dr_4 ≤ 4 → va_P (dC, dI) vwCl [(h0, .inr (7, [.ref dr, .int i58_h0_1, .ref nu, .ref le, .int (nI (max 0 (min tl 220))), .int (nI i58_h0_5), .int i58_h0_6])), (hx9, .inl (cI, 220, .inl fhx)), (le, .inl (cI, 220, .inl f12)), (nu, .inl (cI, 5, .inl f58_nu)), (o5, .inl (cI, 8, .inl f58_o5)), (o6, .inl (cI, 8, .inl f58_o6)), (o7, .inl (cI, 8, .inl f58_o7)), (o8, .inl (cI, 8, .inl f58_o8)), (o9, .inl (cI, 8, .inl f58_o9)), (o10, .inl (cI, 4, .inl f58_o10)), (o11, .inl (cI, 4, .inl f58_o11)), (o12, .inl (cI, 4, .inl f58_o12)), (dr, .inr (5, [.int (nI i58_dr_0), .int i58_dr_1, .int i58_dr_2, .int (nI i58_dr_3), .int (nI i58_dr_4), .ref o5, .ref o6, .ref o7, .ref o8, .ref o9, .ref o10, .ref o11, .ref o12]))] H → va_D A [(h0, .inr (7, [.ref dr, .int i58_h0_1, .ref nu, .ref le, .int (nI (max 0 (min tl 220))), .int (nI i58_h0_5), .int i58_h0_6])), (hx9, .inl (cI, 220, .inl fhx)), (le, .inl (cI, 220, .inl f12)), (nu, .inl (cI, 5, .inl f58_nu)), (o5, .inl (cI, 8, .inl f58_o5)), (o6, .inl (cI, 8, .inl f58_o6)), (o7, .inl (cI, 8, .inl f58_o7)), (o8, .inl (cI, 8, .inl f58_o8)), (o9, .inl (cI, 8, .inl f58_o9)), (o10, .inl (cI, 4, .inl f58_o10)), (o11, .inl (cI, 4, .inl f58_o11)), (o12, .inl (cI, 4, .inl f58_o12)), (dr, .inr (5, [.int (nI i58_dr_0), .int i58_dr_1, .int i58_dr_2, .int (nI i58_dr_3), .int (nI i58_dr_4), .ref o5, .ref o6, .ref o7, .ref o8, .ref o9, .ref o10, .ref o11, .ref o12]))] → va_S A s.heap H locs → lv_has ls 4 [(3, .int (nI k58)), (0, .ref h0), (1, .ref hx9), (2, .int (nI tl))] → W p l e _ s m _ below meth c H locs _ _ _ (F0 m 58 ls [])) => K (max 0 (min tl 220) + 1) 0 fnu fo5 fo6 fo7 fo8 fo9 fo10 fo11 fo12 (-1) 0 0 k4 i5 i6 k7 k8 _ _ _ (by omega) (by omega) (by omega) (by omega) (by omega) hP hD hS (lv_sub hl [0, 1, 2, 3] rfl)) ?_
  intro d58
  induction d58 with
  | zero =>
    intro k58 f58_nu f58_o5 f58_o6 f58_o7 f58_o8 f58_o9 f58_o10 f58_o11 f58_o12 i58_h0_1 i58_h0_5 i58_h0_6 i58_dr_0 i58_dr_1 i58_dr_2 i58_dr_3 i58_dr_4 H locs ls hk58 hf58_h0_5 hf58_dr_0 hf58_dr_3 hf58_dr_4 hP hD hS hl
    refine lv_iload_n hx hb dX7_readText_58 rfl (lv_at hl 0 rfl) ?_
    refine lv_aload_n hx hb dX7_readText_59 rfl (lv_at hl 1 rfl) ?_
    refine va_get (D := (dC, dI)) (ci := 7) (v := .int (nI (max 0 (min tl 220)))) (C := RX7) (T := TX7) (N := 7) hx hb hts hi_X7 hown hK hP 0 rfl rfl 4 (by decide) (hts (.fieldLink RX7 29 "LeftQuills$Reader" "length" "I") (wmx 12 rfl)) (fun _ h9 => h9) rfl dX7_readText_60 ?_
    refine lv_icmp_gt (tgt := 101) hx hb dX7_readText_63 (by decide) (fun c13 => ?_) (fun c13 => ?_)
    ·
      have c13 : (max 0 (min tl 220)) < k58 := (nI_ltI (a := max 0 (min tl 220)) (b := k58) (by omega) (by omega)).mp c13
      refine lv_aload_n hx hb dX7_readText_101 rfl (lv_at hl 1 rfl) ?_
      refine va_get (D := (dC, dI)) (ci := 7) (v := .int i58_h0_6) (C := RX7) (T := TX7) (N := 7) hx hb hts hi_X7 hown hK hP 0 rfl rfl 6 (by decide) (hts (.fieldLink RX7 35 "LeftQuills$Reader" "fault" "I") (wmx 3 rfl)) (fun _ h9 => h9) rfl dX7_readText_102 ?_
      have hP9 := hP.sub (ws' := [(h0, .inr (7, [.ref dr, .int i58_h0_1, .ref nu, .ref le, .int (nI (max 0 (min tl 220))), .int (nI i58_h0_5), .int i58_h0_6])), (hx9, .inl (cI, 220, .inl fhx)), (le, .inl (cI, 220, .inl f12)), (nu, .inl (cI, 5, .inl f58_nu)), (dr, .inr (5, [.int (nI i58_dr_0), .int i58_dr_1, .int i58_dr_2, .int (nI i58_dr_3), .int (nI i58_dr_4), .ref o5, .ref o6, .ref o7, .ref o8, .ref o9, .ref o10, .ref o11, .ref o12])), (o5, .inl (cI, 8, .inl f58_o5)), (o6, .inl (cI, 8, .inl f58_o6)), (o7, .inl (cI, 8, .inl f58_o7)), (o8, .inl (cI, 8, .inl f58_o8)), (o9, .inl (cI, 8, .inl f58_o9)), (o10, .inl (cI, 4, .inl f58_o10)), (o11, .inl (cI, 4, .inl f58_o11)), (o12, .inl (cI, 4, .inl f58_o12))]) [0, 1, 2, 3, 12, 4, 5, 6, 7, 8, 9, 10, 11] rfl
      have hD9 := hD.sub (ws' := [(h0, .inr (7, [.ref dr, .int i58_h0_1, .ref nu, .ref le, .int (nI (max 0 (min tl 220))), .int (nI i58_h0_5), .int i58_h0_6])), (hx9, .inl (cI, 220, .inl fhx)), (le, .inl (cI, 220, .inl f12)), (nu, .inl (cI, 5, .inl f58_nu)), (dr, .inr (5, [.int (nI i58_dr_0), .int i58_dr_1, .int i58_dr_2, .int (nI i58_dr_3), .int (nI i58_dr_4), .ref o5, .ref o6, .ref o7, .ref o8, .ref o9, .ref o10, .ref o11, .ref o12])), (o5, .inl (cI, 8, .inl f58_o5)), (o6, .inl (cI, 8, .inl f58_o6)), (o7, .inl (cI, 8, .inl f58_o7)), (o8, .inl (cI, 8, .inl f58_o8)), (o9, .inl (cI, 8, .inl f58_o9)), (o10, .inl (cI, 4, .inl f58_o10)), (o11, .inl (cI, 4, .inl f58_o11)), (o12, .inl (cI, 4, .inl f58_o12))]) [0, 1, 2, 3, 12, 4, 5, 6, 7, 8, 9, 10, 11] (by decide +kernel) rfl
      exact W.iret (v := i58_h0_6) hx hb hr (fun t ht hW => ⟨⟨i58_h0_6, (fun _ => 0), rfl, trivial, ⟨f12, f58_nu, f58_o5, f58_o6, f58_o7, f58_o8, f58_o9, f58_o10, f58_o11, f58_o12, i58_h0_1, i58_h0_6, i58_dr_1, i58_dr_2, (max 0 (min tl 220)), i58_h0_5, i58_dr_0, i58_dr_3, i58_dr_4, by omega, by omega, by omega, by omega, by omega, by rw [ht]; exact hP9, hD9⟩⟩, hS.F ht⟩) hS.2.2 dX7_readText_105
    ·
      have c13 : ¬ (max 0 (min tl 220)) < k58 := fun h => c13 ((nI_ltI (a := max 0 (min tl 220)) (b := k58) (by omega) (by omega)).mpr h)
      omega
  | succ d58 ih58 =>
    intro k58 f58_nu f58_o5 f58_o6 f58_o7 f58_o8 f58_o9 f58_o10 f58_o11 f58_o12 i58_h0_1 i58_h0_5 i58_h0_6 i58_dr_0 i58_dr_1 i58_dr_2 i58_dr_3 i58_dr_4 H locs ls hk58 hf58_h0_5 hf58_dr_0 hf58_dr_3 hf58_dr_4 hP hD hS hl
    refine lv_iload_n hx hb dX7_readText_58 rfl (lv_at hl 0 rfl) ?_
    refine lv_aload_n hx hb dX7_readText_59 rfl (lv_at hl 1 rfl) ?_
    refine va_get (D := (dC, dI)) (ci := 7) (v := .int (nI (max 0 (min tl 220)))) (C := RX7) (T := TX7) (N := 7) hx hb hts hi_X7 hown hK hP 0 rfl rfl 4 (by decide) (hts (.fieldLink RX7 29 "LeftQuills$Reader" "length" "I") (wmx 12 rfl)) (fun _ h9 => h9) rfl dX7_readText_60 ?_
    refine lv_icmp_gt (tgt := 101) hx hb dX7_readText_63 (by decide) (fun c14 => ?_) (fun c14 => ?_)
    ·
      have c14 : (max 0 (min tl 220)) < k58 := (nI_ltI (a := max 0 (min tl 220)) (b := k58) (by omega) (by omega)).mp c14
      omega
    ·
      have c14 : ¬ (max 0 (min tl 220)) < k58 := fun h => c14 ((nI_ltI (a := max 0 (min tl 220)) (b := k58) (by omega) (by omega)).mpr h)
      refine lv_aload_n hx hb dX7_readText_66 rfl (lv_at hl 1 rfl) ?_
      have hPc := hP.sub (ws' := [(h0, .inr (7, [.ref dr, .int i58_h0_1, .ref nu, .ref le, .int (nI (max 0 (min tl 220))), .int (nI i58_h0_5), .int i58_h0_6])), (le, .inl (cI, 220, .inl f12))]) [0, 2] rfl
      have hDc := hD.sub (ws' := [(h0, .inr (7, [.ref dr, .int i58_h0_1, .ref nu, .ref le, .int (nI (max 0 (min tl 220))), .int (nI i58_h0_5), .int i58_h0_6])), (le, .inl (cI, 220, .inl f12))]) [0, 2] (by decide) rfl
      have hFc := va_free (wc := [(h0, .inr (7, [.ref dr, .int i58_h0_1, .ref nu, .ref le, .int (nI (max 0 (min tl 220))), .int (nI i58_h0_5), .int i58_h0_6])), (le, .inl (cI, 220, .inl f12))]) hD hS hA [0, 2] rfl
      refine va_callv (va_runV (As := []) (rest := []) ⟨hx, hb, hml, hown, hts⟩ (c_X7_skipBlanks l dC dI cI cZ cQ h0 dr i58_h0_1 nu le (max 0 (min tl 220)) i58_h0_5 i58_h0_6 f12 H.size (by omega) (by omega)) (cwV 0 hts gX7_readText_X7_skipBlanks rfl rfl rfl (by decide +kernel) ⟨Nat.le_of_ble_eq_true rfl, Nat.le_of_ble_eq_true rfl⟩) ⟨fun a U g mk q => by obtain ⟨q0, q1, qP, qK, qD⟩ := q; exact ⟨q0, q1, qP, va_K.moved (u := U) (U := U.calling g mk a) (Vm.Alike.refl U.vm) qK, qD⟩, va_recv hK hP (ci := 7) (q0 := 0) rfl rfl, fun U hU hW => ⟨rfl, by rw [hU], by rw [hU]; exact hPc, va_K.moved hW.alike hK, hDc.weaken (fun _ _ _ _ => trivial)⟩⟩ rfl rfl hl.1 rfl (lv_room (Nat.le_of_ble_eq_true rfl)) dX7_readText_67 ⟨Nat.le_of_ble_eq_true rfl, Nat.le_of_ble_eq_true rfl⟩) hS (fun q _ h => hFc q h) hFc (fun u16 t H1 locs ht hvm hw17 hB hz1 hk1 hS => ?_)
      obtain ⟨k18, hk18, hP1, hD1⟩ := hB
      rw [ht] at hP1
      obtain ⟨hP, hD⟩ := va_join (wr := [(hx9, .inl (cI, 220, .inl fhx)), (nu, .inl (cI, 5, .inl f58_nu)), (o5, .inl (cI, 8, .inl f58_o5)), (o6, .inl (cI, 8, .inl f58_o6)), (o7, .inl (cI, 8, .inl f58_o7)), (o8, .inl (cI, 8, .inl f58_o8)), (o9, .inl (cI, 8, .inl f58_o9)), (o10, .inl (cI, 4, .inl f58_o10)), (o11, .inl (cI, 4, .inl f58_o11)), (o12, .inl (cI, 4, .inl f58_o12)), (dr, .inr (5, [.int (nI i58_dr_0), .int i58_dr_1, .int i58_dr_2, .int (nI i58_dr_3), .int (nI i58_dr_4), .ref o5, .ref o6, .ref o7, .ref o8, .ref o9, .ref o10, .ref o11, .ref o12]))]) (w1 := [(h0, .inr (7, [.ref dr, .int i58_h0_1, .ref nu, .ref le, .int (nI (max 0 (min tl 220))), .int (nI k18), .int i58_h0_6])), (le, .inl (cI, 220, .inl f12))]) hP hD [0, 2] [1, 3, 4, 5, 6, 7, 8, 9, 10, 11, 12] rfl rfl (by decide +kernel) (by decide +kernel) hk1 hFc hP1 hD1
      clear hP1 hD1
      clear hz1 hk1 hPc hDc hFc
      generalize H1 = H at hP hS ht ⊢
      have hP : va_P (dC, dI) vwCl [(hx9, .inl (cI, 220, .inl fhx)), (nu, .inl (cI, 5, .inl f58_nu)), (o5, .inl (cI, 8, .inl f58_o5)), (o6, .inl (cI, 8, .inl f58_o6)), (o7, .inl (cI, 8, .inl f58_o7)), (o8, .inl (cI, 8, .inl f58_o8)), (o9, .inl (cI, 8, .inl f58_o9)), (o10, .inl (cI, 4, .inl f58_o10)), (o11, .inl (cI, 4, .inl f58_o11)), (o12, .inl (cI, 4, .inl f58_o12)), (dr, .inr (5, [.int (nI i58_dr_0), .int i58_dr_1, .int i58_dr_2, .int (nI i58_dr_3), .int (nI i58_dr_4), .ref o5, .ref o6, .ref o7, .ref o8, .ref o9, .ref o10, .ref o11, .ref o12])), (h0, .inr (7, [.ref dr, .int i58_h0_1, .ref nu, .ref le, .int (nI (max 0 (min tl 220))), .int (nI k18), .int i58_h0_6])), (le, .inl (cI, 220, .inl f12))] H := hP
      have hD : va_D A [(hx9, .inl (cI, 220, .inl fhx)), (nu, .inl (cI, 5, .inl f58_nu)), (o5, .inl (cI, 8, .inl f58_o5)), (o6, .inl (cI, 8, .inl f58_o6)), (o7, .inl (cI, 8, .inl f58_o7)), (o8, .inl (cI, 8, .inl f58_o8)), (o9, .inl (cI, 8, .inl f58_o9)), (o10, .inl (cI, 4, .inl f58_o10)), (o11, .inl (cI, 4, .inl f58_o11)), (o12, .inl (cI, 4, .inl f58_o12)), (dr, .inr (5, [.int (nI i58_dr_0), .int i58_dr_1, .int i58_dr_2, .int (nI i58_dr_3), .int (nI i58_dr_4), .ref o5, .ref o6, .ref o7, .ref o8, .ref o9, .ref o10, .ref o11, .ref o12])), (h0, .inr (7, [.ref dr, .int i58_h0_1, .ref nu, .ref le, .int (nI (max 0 (min tl 220))), .int (nI k18), .int i58_h0_6])), (le, .inl (cI, 220, .inl f12))] := hD
      try dsimp only at hw17
      refine lv_aload_n hx hb dX7_readText_70 rfl (lv_at hl 1 rfl) ?_
      refine va_get (D := (dC, dI)) (ci := 7) (v := .int i58_h0_6) (C := RX7) (T := TX7) (N := 7) hx hb hts hi_X7 hown hK hP 11 rfl rfl 6 (by decide) (hts (.fieldLink RX7 35 "LeftQuills$Reader" "fault" "I") (wmx 3 rfl)) (fun _ h9 => h9) rfl dX7_readText_71 ?_
      refine lv_if_ne (tgt := 101) hx hb dX7_readText_74 (by decide) (fun c19 => ?_) (fun c19 => ?_)
      ·
        refine lv_aload_n hx hb dX7_readText_101 rfl (lv_at hl 1 rfl) ?_
        refine va_get (D := (dC, dI)) (ci := 7) (v := .int i58_h0_6) (C := RX7) (T := TX7) (N := 7) hx hb hts hi_X7 hown hK hP 11 rfl rfl 6 (by decide) (hts (.fieldLink RX7 35 "LeftQuills$Reader" "fault" "I") (wmx 3 rfl)) (fun _ h9 => h9) rfl dX7_readText_102 ?_
        have hP9 := hP.sub (ws' := [(h0, .inr (7, [.ref dr, .int i58_h0_1, .ref nu, .ref le, .int (nI (max 0 (min tl 220))), .int (nI k18), .int i58_h0_6])), (hx9, .inl (cI, 220, .inl fhx)), (le, .inl (cI, 220, .inl f12)), (nu, .inl (cI, 5, .inl f58_nu)), (dr, .inr (5, [.int (nI i58_dr_0), .int i58_dr_1, .int i58_dr_2, .int (nI i58_dr_3), .int (nI i58_dr_4), .ref o5, .ref o6, .ref o7, .ref o8, .ref o9, .ref o10, .ref o11, .ref o12])), (o5, .inl (cI, 8, .inl f58_o5)), (o6, .inl (cI, 8, .inl f58_o6)), (o7, .inl (cI, 8, .inl f58_o7)), (o8, .inl (cI, 8, .inl f58_o8)), (o9, .inl (cI, 8, .inl f58_o9)), (o10, .inl (cI, 4, .inl f58_o10)), (o11, .inl (cI, 4, .inl f58_o11)), (o12, .inl (cI, 4, .inl f58_o12))]) [11, 0, 12, 1, 10, 2, 3, 4, 5, 6, 7, 8, 9] rfl
        have hD9 := hD.sub (ws' := [(h0, .inr (7, [.ref dr, .int i58_h0_1, .ref nu, .ref le, .int (nI (max 0 (min tl 220))), .int (nI k18), .int i58_h0_6])), (hx9, .inl (cI, 220, .inl fhx)), (le, .inl (cI, 220, .inl f12)), (nu, .inl (cI, 5, .inl f58_nu)), (dr, .inr (5, [.int (nI i58_dr_0), .int i58_dr_1, .int i58_dr_2, .int (nI i58_dr_3), .int (nI i58_dr_4), .ref o5, .ref o6, .ref o7, .ref o8, .ref o9, .ref o10, .ref o11, .ref o12])), (o5, .inl (cI, 8, .inl f58_o5)), (o6, .inl (cI, 8, .inl f58_o6)), (o7, .inl (cI, 8, .inl f58_o7)), (o8, .inl (cI, 8, .inl f58_o8)), (o9, .inl (cI, 8, .inl f58_o9)), (o10, .inl (cI, 4, .inl f58_o10)), (o11, .inl (cI, 4, .inl f58_o11)), (o12, .inl (cI, 4, .inl f58_o12))]) [11, 0, 12, 1, 10, 2, 3, 4, 5, 6, 7, 8, 9] (by decide +kernel) rfl
        exact W.iret (v := i58_h0_6) hx hb hr (fun t ht hW => ⟨⟨i58_h0_6, (fun _ => 0), rfl, trivial, ⟨f12, f58_nu, f58_o5, f58_o6, f58_o7, f58_o8, f58_o9, f58_o10, f58_o11, f58_o12, i58_h0_1, i58_h0_6, i58_dr_1, i58_dr_2, (max 0 (min tl 220)), k18, i58_dr_0, i58_dr_3, i58_dr_4, by omega, by omega, by omega, by omega, by omega, by rw [ht]; exact hP9, hD9⟩⟩, hS.F ht⟩) hS.2.2 dX7_readText_105
      ·
        refine lv_aload_n hx hb dX7_readText_77 rfl (lv_at hl 1 rfl) ?_
        refine va_get (D := (dC, dI)) (ci := 7) (v := .int (nI k18)) (C := RX7) (T := TX7) (N := 7) hx hb hts hi_X7 hown hK hP 11 rfl rfl 5 (by decide) (hts (.fieldLink RX7 32 "LeftQuills$Reader" "at" "I") (wmx 2 rfl)) (fun _ h9 => h9) rfl dX7_readText_78 ?_
        refine lv_aload_n hx hb dX7_readText_81 rfl (lv_at hl 1 rfl) ?_
        refine va_get (D := (dC, dI)) (ci := 7) (v := .int (nI (max 0 (min tl 220)))) (C := RX7) (T := TX7) (N := 7) hx hb hts hi_X7 hown hK hP 11 rfl rfl 4 (by decide) (hts (.fieldLink RX7 29 "LeftQuills$Reader" "length" "I") (wmx 12 rfl)) (fun _ h9 => h9) rfl dX7_readText_82 ?_
        refine lv_icmp_lt (tgt := 91) hx hb dX7_readText_85 (by decide) (fun c20 => ?_) (fun c20 => ?_)
        ·
          have c20 : k18 < (max 0 (min tl 220)) := (nI_ltI (a := k18) (b := max 0 (min tl 220)) (by omega) (by omega)).mp c20
          refine lv_aload_n hx hb dX7_readText_91 rfl (lv_at hl 1 rfl) ?_
          have hPc := hP.sub (ws' := [(h0, .inr (7, [.ref dr, .int i58_h0_1, .ref nu, .ref le, .int (nI (max 0 (min tl 220))), .int (nI k18), .int i58_h0_6])), (le, .inl (cI, 220, .inl f12)), (nu, .inl (cI, 5, .inl f58_nu)), (dr, .inr (5, [.int (nI i58_dr_0), .int i58_dr_1, .int i58_dr_2, .int (nI i58_dr_3), .int (nI i58_dr_4), .ref o5, .ref o6, .ref o7, .ref o8, .ref o9, .ref o10, .ref o11, .ref o12])), (o5, .inl (cI, 8, .inl f58_o5)), (o6, .inl (cI, 8, .inl f58_o6)), (o7, .inl (cI, 8, .inl f58_o7)), (o8, .inl (cI, 8, .inl f58_o8)), (o9, .inl (cI, 8, .inl f58_o9)), (o10, .inl (cI, 4, .inl f58_o10)), (o11, .inl (cI, 4, .inl f58_o11)), (o12, .inl (cI, 4, .inl f58_o12))]) [11, 12, 1, 10, 2, 3, 4, 5, 6, 7, 8, 9] rfl
          have hDc := hD.sub (ws' := [(h0, .inr (7, [.ref dr, .int i58_h0_1, .ref nu, .ref le, .int (nI (max 0 (min tl 220))), .int (nI k18), .int i58_h0_6])), (le, .inl (cI, 220, .inl f12)), (nu, .inl (cI, 5, .inl f58_nu)), (dr, .inr (5, [.int (nI i58_dr_0), .int i58_dr_1, .int i58_dr_2, .int (nI i58_dr_3), .int (nI i58_dr_4), .ref o5, .ref o6, .ref o7, .ref o8, .ref o9, .ref o10, .ref o11, .ref o12])), (o5, .inl (cI, 8, .inl f58_o5)), (o6, .inl (cI, 8, .inl f58_o6)), (o7, .inl (cI, 8, .inl f58_o7)), (o8, .inl (cI, 8, .inl f58_o8)), (o9, .inl (cI, 8, .inl f58_o9)), (o10, .inl (cI, 4, .inl f58_o10)), (o11, .inl (cI, 4, .inl f58_o11)), (o12, .inl (cI, 4, .inl f58_o12))]) [11, 12, 1, 10, 2, 3, 4, 5, 6, 7, 8, 9] (by decide) rfl
          have hFc := va_free (wc := [(h0, .inr (7, [.ref dr, .int i58_h0_1, .ref nu, .ref le, .int (nI (max 0 (min tl 220))), .int (nI k18), .int i58_h0_6])), (le, .inl (cI, 220, .inl f12)), (nu, .inl (cI, 5, .inl f58_nu)), (dr, .inr (5, [.int (nI i58_dr_0), .int i58_dr_1, .int i58_dr_2, .int (nI i58_dr_3), .int (nI i58_dr_4), .ref o5, .ref o6, .ref o7, .ref o8, .ref o9, .ref o10, .ref o11, .ref o12])), (o5, .inl (cI, 8, .inl f58_o5)), (o6, .inl (cI, 8, .inl f58_o6)), (o7, .inl (cI, 8, .inl f58_o7)), (o8, .inl (cI, 8, .inl f58_o8)), (o9, .inl (cI, 8, .inl f58_o9)), (o10, .inl (cI, 4, .inl f58_o10)), (o11, .inl (cI, 4, .inl f58_o11)), (o12, .inl (cI, 4, .inl f58_o12))]) hD hS hA [11, 12, 1, 10, 2, 3, 4, 5, 6, 7, 8, 9] rfl
          refine va_callv (va_runV (As := []) (rest := []) ⟨hx, hb, hml, hown, hts⟩ (c_X7_readClause l dC dI cI cZ cQ h0 dr i58_h0_1 nu le (max 0 (min tl 220)) k18 i58_h0_6 f12 f58_nu i58_dr_0 i58_dr_1 i58_dr_2 i58_dr_3 i58_dr_4 o5 o6 o7 o8 o9 o10 o11 o12 f58_o5 f58_o6 f58_o7 f58_o8 f58_o9 f58_o10 f58_o11 f58_o12 H.size (by omega) (by omega) (by omega) (by omega) (by omega)) (cwV 0 hts gX7_readText_X7_readClause rfl rfl rfl (by decide +kernel) ⟨Nat.le_of_ble_eq_true rfl, Nat.le_of_ble_eq_true rfl⟩) ⟨fun a U g mk q => by obtain ⟨q0, q1, qP, qK, qD, qN, qXS⟩ := q; exact ⟨q0, q1, qP, va_K.moved (u := U) (U := U.calling g mk a) (Vm.Alike.refl U.vm) qK, qD, qN.calling, xS.moved (u := U) (Vm.Alike.refl U.vm) qXS⟩, va_recv hK hP (ci := 7) (q0 := 11) rfl rfl, fun U hU hW => ⟨rfl, by rw [hU], by rw [hU]; exact hPc, va_K.moved hW.alike hK, hDc.weaken (fun _ _ _ _ => trivial), hN.warm hW, by rw [hU]; exact xS.moved hW.alike (xS.narrow (xS.kept hXS hS.2.1) hFc)⟩⟩ rfl rfl hl.1 rfl (lv_room (Nat.le_of_ble_eq_true rfl)) dX7_readText_92 ⟨Nat.le_of_ble_eq_true rfl, Nat.le_of_ble_eq_true rfl⟩) hS (fun q _ h => hFc q h) hFc (fun u22 t H1 locs ht hvm hw23 hB hz1 hk1 hS => ?_)
          obtain ⟨f24, f25, f26, f27, f28, f29, f30, f31, f32, i33, i35, i37, i38, k34, k36, k39, k40, hk34, hk36, hk39, hk40, hP1, hD1⟩ := hB
          rw [ht] at hP1
          obtain ⟨hP, hD⟩ := va_join (wr := [(hx9, .inl (cI, 220, .inl fhx))]) (w1 := [(h0, .inr (7, [.ref dr, .int i33, .ref nu, .ref le, .int (nI (max 0 (min tl 220))), .int (nI k34), .int i35])), (le, .inl (cI, 220, .inl f12)), (nu, .inl (cI, 5, .inl f24)), (dr, .inr (5, [.int (nI k36), .int i37, .int i38, .int (nI k39), .int (nI k40), .ref o5, .ref o6, .ref o7, .ref o8, .ref o9, .ref o10, .ref o11, .ref o12])), (o5, .inl (cI, 8, .inl f25)), (o6, .inl (cI, 8, .inl f26)), (o7, .inl (cI, 8, .inl f27)), (o8, .inl (cI, 8, .inl f28)), (o9, .inl (cI, 8, .inl f29)), (o10, .inl (cI, 4, .inl f30)), (o11, .inl (cI, 4, .inl f31)), (o12, .inl (cI, 4, .inl f32))]) hP hD [11, 12, 1, 10, 2, 3, 4, 5, 6, 7, 8, 9] [0] rfl rfl (by decide +kernel) (by decide +kernel) hk1 hFc hP1 hD1
          clear hP1 hD1
          clear hz1 hk1 hPc hDc hFc
          generalize H1 = H at hP hS ht ⊢
          have hP : va_P (dC, dI) vwCl [(hx9, .inl (cI, 220, .inl fhx)), (h0, .inr (7, [.ref dr, .int i33, .ref nu, .ref le, .int (nI (max 0 (min tl 220))), .int (nI k34), .int i35])), (le, .inl (cI, 220, .inl f12)), (nu, .inl (cI, 5, .inl f24)), (dr, .inr (5, [.int (nI k36), .int i37, .int i38, .int (nI k39), .int (nI k40), .ref o5, .ref o6, .ref o7, .ref o8, .ref o9, .ref o10, .ref o11, .ref o12])), (o5, .inl (cI, 8, .inl f25)), (o6, .inl (cI, 8, .inl f26)), (o7, .inl (cI, 8, .inl f27)), (o8, .inl (cI, 8, .inl f28)), (o9, .inl (cI, 8, .inl f29)), (o10, .inl (cI, 4, .inl f30)), (o11, .inl (cI, 4, .inl f31)), (o12, .inl (cI, 4, .inl f32))] H := hP
          have hD : va_D A [(hx9, .inl (cI, 220, .inl fhx)), (h0, .inr (7, [.ref dr, .int i33, .ref nu, .ref le, .int (nI (max 0 (min tl 220))), .int (nI k34), .int i35])), (le, .inl (cI, 220, .inl f12)), (nu, .inl (cI, 5, .inl f24)), (dr, .inr (5, [.int (nI k36), .int i37, .int i38, .int (nI k39), .int (nI k40), .ref o5, .ref o6, .ref o7, .ref o8, .ref o9, .ref o10, .ref o11, .ref o12])), (o5, .inl (cI, 8, .inl f25)), (o6, .inl (cI, 8, .inl f26)), (o7, .inl (cI, 8, .inl f27)), (o8, .inl (cI, 8, .inl f28)), (o9, .inl (cI, 8, .inl f29)), (o10, .inl (cI, 4, .inl f30)), (o11, .inl (cI, 4, .inl f31)), (o12, .inl (cI, 4, .inl f32))] := hD
          try dsimp only at hw23
          refine lv_iinc (v := nI (k58 + 1)) (lv' := [(3, .int (nI (k58 + 1))), (0, .ref h0), (1, .ref hx9), (2, .int (nI tl))]) hx hb dX7_readText_95 hl (k := 0) rfl ((rfl : nI k58 + Int32.ofInt 1 = nI k58 + 1).trans (nI_add k58 1)) (by decide) rfl (fun ls hl => ?_)
          refine lv_goto (tgt := 58) hx hb dX7_readText_98 (by decide) ?_
          exact ih58 (k58 + 1) f24 f25 f26 f27 f28 f29 f30 f31 f32 i33 k34 i35 k36 i37 i38 k39 k40 _ _ _ (by omega) (by omega) (by omega) (by omega) (by omega) (hP.sub [1, 0, 2, 3, 5, 6, 7, 8, 9, 10, 11, 12, 4] rfl) (hD.sub [1, 0, 2, 3, 5, 6, 7, 8, 9, 10, 11, 12, 4] (by decide +kernel) rfl) hS (lv_sub hl [0, 1, 2, 3] rfl)
        ·
          have c20 : ¬ k18 < (max 0 (min tl 220)) := fun h => c20 ((nI_ltI (a := k18) (b := max 0 (min tl 220)) (by omega) (by omega)).mpr h)
          refine lv_goto (tgt := 101) hx hb dX7_readText_88 (by decide) ?_
          refine lv_aload_n hx hb dX7_readText_101 rfl (lv_at hl 1 rfl) ?_
          refine va_get (D := (dC, dI)) (ci := 7) (v := .int i58_h0_6) (C := RX7) (T := TX7) (N := 7) hx hb hts hi_X7 hown hK hP 11 rfl rfl 6 (by decide) (hts (.fieldLink RX7 35 "LeftQuills$Reader" "fault" "I") (wmx 3 rfl)) (fun _ h9 => h9) rfl dX7_readText_102 ?_
          have hP9 := hP.sub (ws' := [(h0, .inr (7, [.ref dr, .int i58_h0_1, .ref nu, .ref le, .int (nI (max 0 (min tl 220))), .int (nI k18), .int i58_h0_6])), (hx9, .inl (cI, 220, .inl fhx)), (le, .inl (cI, 220, .inl f12)), (nu, .inl (cI, 5, .inl f58_nu)), (dr, .inr (5, [.int (nI i58_dr_0), .int i58_dr_1, .int i58_dr_2, .int (nI i58_dr_3), .int (nI i58_dr_4), .ref o5, .ref o6, .ref o7, .ref o8, .ref o9, .ref o10, .ref o11, .ref o12])), (o5, .inl (cI, 8, .inl f58_o5)), (o6, .inl (cI, 8, .inl f58_o6)), (o7, .inl (cI, 8, .inl f58_o7)), (o8, .inl (cI, 8, .inl f58_o8)), (o9, .inl (cI, 8, .inl f58_o9)), (o10, .inl (cI, 4, .inl f58_o10)), (o11, .inl (cI, 4, .inl f58_o11)), (o12, .inl (cI, 4, .inl f58_o12))]) [11, 0, 12, 1, 10, 2, 3, 4, 5, 6, 7, 8, 9] rfl
          have hD9 := hD.sub (ws' := [(h0, .inr (7, [.ref dr, .int i58_h0_1, .ref nu, .ref le, .int (nI (max 0 (min tl 220))), .int (nI k18), .int i58_h0_6])), (hx9, .inl (cI, 220, .inl fhx)), (le, .inl (cI, 220, .inl f12)), (nu, .inl (cI, 5, .inl f58_nu)), (dr, .inr (5, [.int (nI i58_dr_0), .int i58_dr_1, .int i58_dr_2, .int (nI i58_dr_3), .int (nI i58_dr_4), .ref o5, .ref o6, .ref o7, .ref o8, .ref o9, .ref o10, .ref o11, .ref o12])), (o5, .inl (cI, 8, .inl f58_o5)), (o6, .inl (cI, 8, .inl f58_o6)), (o7, .inl (cI, 8, .inl f58_o7)), (o8, .inl (cI, 8, .inl f58_o8)), (o9, .inl (cI, 8, .inl f58_o9)), (o10, .inl (cI, 4, .inl f58_o10)), (o11, .inl (cI, 4, .inl f58_o11)), (o12, .inl (cI, 4, .inl f58_o12))]) [11, 0, 12, 1, 10, 2, 3, 4, 5, 6, 7, 8, 9] (by decide +kernel) rfl
          exact W.iret (v := i58_h0_6) hx hb hr (fun t ht hW => ⟨⟨i58_h0_6, (fun _ => 0), rfl, trivial, ⟨f12, f58_nu, f58_o5, f58_o6, f58_o7, f58_o8, f58_o9, f58_o10, f58_o11, f58_o12, i58_h0_1, i58_h0_6, i58_dr_1, i58_dr_2, (max 0 (min tl 220)), k18, i58_dr_0, i58_dr_3, i58_dr_4, by omega, by omega, by omega, by omega, by omega, by rw [ht]; exact hP9, hD9⟩⟩, hS.F ht⟩) hS.2.2 dX7_readText_105
set_option maxHeartbeats 4000000 in
set_option maxRecDepth 100000 in
theorem c_X5_copyFrom (l : Launch) (dC : Nat → ClassId) (dI : Nat → Nat → Nat) (cI cZ cQ : ClassId) (h0 : Nat) (stu : Nat) (blu : Int32) (mmu : Int32) (nqu : Nat) (nhu : Nat) (u5 : Nat) (u6 : Nat) (u7 : Nat) (u8 : Nat) (u9 : Nat) (u10 : Nat) (u11 : Nat) (u12 : Nat) (fu5 : Nat → Int32) (fu6 : Nat → Int32) (fu7 : Nat → Int32) (fu8 : Nat → Int32) (fu9 : Nat → Int32) (fu10 : Nat → Int32) (fu11 : Nat → Int32) (fu12 : Nat → Int32) (hq : Nat) (stw : Nat) (blw : Int32) (mmw : Int32) (nqw : Nat) (nhw : Nat) (w5 : Nat) (w6 : Nat) (w7 : Nat) (w8 : Nat) (w9 : Nat) (w10 : Nat) (w11 : Nat) (w12 : Nat) (fw5 : Nat → Int32) (fw6 : Nat → Int32) (fw7 : Nat → Int32) (fw8 : Nat → Int32) (fw9 : Nat → Int32) (fw10 : Nat → Int32) (fw11 : Nat → Int32) (fw12 : Nat → Int32) (sz : Nat) (hnq : nqw ≤ 8) (hnh : nhw ≤ 4) (hst : stw ≤ 1) : Met l yX5_copyFrom wsX5_copyFrom ({ frames := 1, cells := 0, slots := 0, locals := 40 }) (va_Pc [.ref h0, .ref hq] (fun U => U.heap.size = sz ∧ va_P (dC, dI) vwCl [(h0, .inr (5, [.int (nI stu), .int blu, .int mmu, .int (nI nqu), .int (nI nhu), .ref u5, .ref u6, .ref u7, .ref u8, .ref u9, .ref u10, .ref u11, .ref u12])), (u5, .inl (cI, 8, .inl fu5)), (u6, .inl (cI, 8, .inl fu6)), (u7, .inl (cI, 8, .inl fu7)), (u8, .inl (cI, 8, .inl fu8)), (u9, .inl (cI, 8, .inl fu9)), (u10, .inl (cI, 4, .inl fu10)), (u11, .inl (cI, 4, .inl fu11)), (u12, .inl (cI, 4, .inl fu12)), (hq, .inr (5, [.int (nI stw), .int blw, .int mmw, .int (nI nqw), .int (nI nhw), .ref w5, .ref w6, .ref w7, .ref w8, .ref w9, .ref w10, .ref w11, .ref w12])), (w5, .inl (cI, 8, .inl fw5)), (w6, .inl (cI, 8, .inl fw6)), (w7, .inl (cI, 8, .inl fw7)), (w8, .inl (cI, 8, .inl fw8)), (w9, .inl (cI, 8, .inl fw9)), (w10, .inl (cI, 4, .inl fw10)), (w11, .inl (cI, 4, .inl fw11)), (w12, .inl (cI, 4, .inl fw12))] U.heap ∧ va_K (dC, dI) vwCl (tys0 cI cZ cQ) U ∧ va_D (fun _ => True) [(h0, .inr (5, [.int (nI stu), .int blu, .int mmu, .int (nI nqu), .int (nI nhu), .ref u5, .ref u6, .ref u7, .ref u8, .ref u9, .ref u10, .ref u11, .ref u12])), (u5, .inl (cI, 8, .inl fu5)), (u6, .inl (cI, 8, .inl fu6)), (u7, .inl (cI, 8, .inl fu7)), (u8, .inl (cI, 8, .inl fu8)), (u9, .inl (cI, 8, .inl fu9)), (u10, .inl (cI, 4, .inl fu10)), (u11, .inl (cI, 4, .inl fu11)), (u12, .inl (cI, 4, .inl fu12)), (hq, .inr (5, [.int (nI stw), .int blw, .int mmw, .int (nI nqw), .int (nI nhw), .ref w5, .ref w6, .ref w7, .ref w8, .ref w9, .ref w10, .ref w11, .ref w12])), (w5, .inl (cI, 8, .inl fw5)), (w6, .inl (cI, 8, .inl fw6)), (w7, .inl (cI, 8, .inl fw7)), (w8, .inl (cI, 8, .inl fw8)), (w9, .inl (cI, 8, .inl fw9)), (w10, .inl (cI, 4, .inl fw10)), (w11, .inl (cI, 4, .inl fw11)), (w12, .inl (cI, 4, .inl fw12))])) (va_Qv (fun (u : Nat → Nat) => True) (fun (_ : Nat → Nat) (t : State) => ∃ (gg0 gg1 gg2 gg3 gg4 gg5 gg6 gg7 : Nat → Int32) (ii1 ii2 : Int32) (kk0 kk3 kk4 : Nat), kk0 ≤ 1 ∧ kk3 ≤ 8 ∧ kk4 ≤ 4 ∧ va_P (dC, dI) vwCl [(h0, .inr (5, [.int (nI kk0), .int ii1, .int ii2, .int (nI kk3), .int (nI kk4), .ref u5, .ref u6, .ref u7, .ref u8, .ref u9, .ref u10, .ref u11, .ref u12])), (u5, .inl (cI, 8, .inl gg0)), (u6, .inl (cI, 8, .inl gg1)), (u7, .inl (cI, 8, .inl gg2)), (u8, .inl (cI, 8, .inl gg3)), (u9, .inl (cI, 8, .inl gg4)), (u10, .inl (cI, 4, .inl gg5)), (u11, .inl (cI, 4, .inl gg6)), (u12, .inl (cI, 4, .inl gg7)), (hq, .inr (5, [.int (nI stw), .int blw, .int mmw, .int (nI nqw), .int (nI nhw), .ref w5, .ref w6, .ref w7, .ref w8, .ref w9, .ref w10, .ref w11, .ref w12])), (w5, .inl (cI, 8, .inl fw5)), (w6, .inl (cI, 8, .inl fw6)), (w7, .inl (cI, 8, .inl fw7)), (w8, .inl (cI, 8, .inl fw8)), (w9, .inl (cI, 8, .inl fw9)), (w10, .inl (cI, 4, .inl fw10)), (w11, .inl (cI, 4, .inl fw11)), (w12, .inl (cI, 4, .inl fw12))] t.heap ∧ va_D (va_A [(h0, .inr (5, [.int (nI stu), .int blu, .int mmu, .int (nI nqu), .int (nI nhu), .ref u5, .ref u6, .ref u7, .ref u8, .ref u9, .ref u10, .ref u11, .ref u12])), (u5, .inl (cI, 8, .inl fu5)), (u6, .inl (cI, 8, .inl fu6)), (u7, .inl (cI, 8, .inl fu7)), (u8, .inl (cI, 8, .inl fu8)), (u9, .inl (cI, 8, .inl fu9)), (u10, .inl (cI, 4, .inl fu10)), (u11, .inl (cI, 4, .inl fu11)), (u12, .inl (cI, 4, .inl fu12)), (hq, .inr (5, [.int (nI stw), .int blw, .int mmw, .int (nI nqw), .int (nI nhw), .ref w5, .ref w6, .ref w7, .ref w8, .ref w9, .ref w10, .ref w11, .ref w12])), (w5, .inl (cI, 8, .inl fw5)), (w6, .inl (cI, 8, .inl fw6)), (w7, .inl (cI, 8, .inl fw7)), (w8, .inl (cI, 8, .inl fw8)), (w9, .inl (cI, 8, .inl fw9)), (w10, .inl (cI, 4, .inl fw10)), (w11, .inl (cI, 4, .inl fw11)), (w12, .inl (cI, 4, .inl fw12))] sz) [(h0, .inr (5, [.int (nI kk0), .int ii1, .int ii2, .int (nI kk3), .int (nI kk4), .ref u5, .ref u6, .ref u7, .ref u8, .ref u9, .ref u10, .ref u11, .ref u12])), (u5, .inl (cI, 8, .inl gg0)), (u6, .inl (cI, 8, .inl gg1)), (u7, .inl (cI, 8, .inl gg2)), (u8, .inl (cI, 8, .inl gg3)), (u9, .inl (cI, 8, .inl gg4)), (u10, .inl (cI, 4, .inl gg5)), (u11, .inl (cI, 4, .inl gg6)), (u12, .inl (cI, 4, .inl gg7)), (hq, .inr (5, [.int (nI stw), .int blw, .int mmw, .int (nI nqw), .int (nI nhw), .ref w5, .ref w6, .ref w7, .ref w8, .ref w9, .ref w10, .ref w11, .ref w12])), (w5, .inl (cI, 8, .inl fw5)), (w6, .inl (cI, 8, .inl fw6)), (w7, .inl (cI, 8, .inl fw7)), (w8, .inl (cI, 8, .inl fw8)), (w9, .inl (cI, 8, .inl fw9)), (w10, .inl (cI, 4, .inl fw10)), (w11, .inl (cI, 4, .inl fw11)), (w12, .inl (cI, 4, .inl fw12))]) (va_A [(h0, .inr (5, [.int (nI stu), .int blu, .int mmu, .int (nI nqu), .int (nI nhu), .ref u5, .ref u6, .ref u7, .ref u8, .ref u9, .ref u10, .ref u11, .ref u12])), (u5, .inl (cI, 8, .inl fu5)), (u6, .inl (cI, 8, .inl fu6)), (u7, .inl (cI, 8, .inl fu7)), (u8, .inl (cI, 8, .inl fu8)), (u9, .inl (cI, 8, .inl fu9)), (u10, .inl (cI, 4, .inl fu10)), (u11, .inl (cI, 4, .inl fu11)), (u12, .inl (cI, 4, .inl fu12)), (hq, .inr (5, [.int (nI stw), .int blw, .int mmw, .int (nI nqw), .int (nI nhw), .ref w5, .ref w6, .ref w7, .ref w8, .ref w9, .ref w10, .ref w11, .ref w12])), (w5, .inl (cI, 8, .inl fw5)), (w6, .inl (cI, 8, .inl fw6)), (w7, .inl (cI, 8, .inl fw7)), (w8, .inl (cI, 8, .inl fw8)), (w9, .inl (cI, 8, .inl fw9)), (w10, .inl (cI, 4, .inl fw10)), (w11, .inl (cI, 4, .inl fw11)), (w12, .inl (cI, 4, .inl fw12))] sz)) 0 0 (va_A [(h0, .inr (5, [.int (nI stu), .int blu, .int mmu, .int (nI nqu), .int (nI nhu), .ref u5, .ref u6, .ref u7, .ref u8, .ref u9, .ref u10, .ref u11, .ref u12])), (u5, .inl (cI, 8, .inl fu5)), (u6, .inl (cI, 8, .inl fu6)), (u7, .inl (cI, 8, .inl fu7)), (u8, .inl (cI, 8, .inl fu8)), (u9, .inl (cI, 8, .inl fu9)), (u10, .inl (cI, 4, .inl fu10)), (u11, .inl (cI, 4, .inl fu11)), (u12, .inl (cI, 4, .inl fu12)), (hq, .inr (5, [.int (nI stw), .int blw, .int mmw, .int (nI nqw), .int (nI nhw), .ref w5, .ref w6, .ref w7, .ref w8, .ref w9, .ref w10, .ref w11, .ref w12])), (w5, .inl (cI, 8, .inl fw5)), (w6, .inl (cI, 8, .inl fw6)), (w7, .inl (cI, 8, .inl fw7)), (w8, .inl (cI, 8, .inl fw8)), (w9, .inl (cI, 8, .inl fw9)), (w10, .inl (cI, 4, .inl fw10)), (w11, .inl (cI, 4, .inl fw11)), (w12, .inl (cI, 4, .inl fw12))] sz) := by
  refine Met.ofW (cc := cX5_copyFrom) (maxL := 2) (ret := none) (by decide) rfl ?_
  intro p e s m args below meth c s₁ B hml hv
  obtain ⟨rfl, hsz, hP, hK, hD0⟩ := hv
  have hx := B.exec
  have hb := B.bytes
  have hr := B.returns
  have hts := atoms_spec (ws := wsX5_copyFrom) B.pre
  have hown : s.vm.findClass RX5 = some m.cls := findClass_of_methodNamed B.named
  have hlocks := B.notSynchronized
  have hi_X5 : ∀ w ∈ u_ws RX5 TX5 13, w ∈ wsX5_copyFrom := by decide +kernel
  subst hsz
  have hD := hD0.self (sz := s.heap.size)
  generalize hAe : va_A [(h0, .inr (5, [.int (nI stu), .int blu, .int mmu, .int (nI nqu), .int (nI nhu), .ref u5, .ref u6, .ref u7, .ref u8, .ref u9, .ref u10, .ref u11, .ref u12])), (u5, .inl (cI, 8, .inl fu5)), (u6, .inl (cI, 8, .inl fu6)), (u7, .inl (cI, 8, .inl fu7)), (u8, .inl (cI, 8, .inl fu8)), (u9, .inl (cI, 8, .inl fu9)), (u10, .inl (cI, 4, .inl fu10)), (u11, .inl (cI, 4, .inl fu11)), (u12, .inl (cI, 4, .inl fu12)), (hq, .inr (5, [.int (nI stw), .int blw, .int mmw, .int (nI nqw), .int (nI nhw), .ref w5, .ref w6, .ref w7, .ref w8, .ref w9, .ref w10, .ref w11, .ref w12])), (w5, .inl (cI, 8, .inl fw5)), (w6, .inl (cI, 8, .inl fw6)), (w7, .inl (cI, 8, .inl fw7)), (w8, .inl (cI, 8, .inl fw8)), (w9, .inl (cI, 8, .inl fw9)), (w10, .inl (cI, 4, .inl fw10)), (w11, .inl (cI, 4, .inl fw11)), (w12, .inl (cI, 4, .inl fw12))] s.heap.size = A at hD ⊢
  have hA : ∀ q : Nat, s.heap.size ≤ q → A q := fun q h => by rw [← hAe]; exact Or.inr h
  have hS : va_S A s.heap s.heap [] := va_S.rf
  have hl := lv_entry ([.ref h0, .ref hq]) (n := 2) (Nat.le_of_ble_eq_true rfl)
  rw [lg_entry_eq]
  generalize (lg_sl ([.ref h0, .ref hq]) ++ List.replicate (2 - (lg_sl ([.ref h0, .ref hq])).length) Slot.unset).toArray = ls at hl ⊢
  have hl : lv_has ls 2 [(0, .ref h0), (1, .ref hq)] := hl
  refine lv_aload_n hx hb dX5_copyFrom_0 rfl (lv_at hl 0 rfl) ?_
  refine lv_aload_n hx hb dX5_copyFrom_1 rfl (lv_at hl 1 rfl) ?_
  refine va_get (D := (dC, dI)) (ci := 5) (v := .int (nI stw)) (C := RX5) (T := TX5) (N := 13) hx hb hts hi_X5 hown hK hP 9 rfl rfl 0 (by decide) (hts (.fieldLink RX5 9 "LeftQuills$Office" "stands" "Z") (wmx 1 rfl)) (fun _ h9 => h9) rfl dX5_copyFrom_2 ?_
  refine va_put (D := (dC, dI)) (ci := 5) (v := .int (nI stw)) (ty := .boolean) (C := RX5) (T := TX5) (N := 13) hx hb hts hi_X5 tyX5 tyX5_ok nmX5 hown hK hP hD hS 0 rfl rfl 0 (by decide) (hts (.fieldLink RX5 9 "LeftQuills$Office" "stands" "Z") (wmx 1 rfl)) (fun _ h9 => h9) rfl (by decide +kernel) (x_fitsZ (n := stw) (by omega)).1 (x_fitsZ (n := stw) (by omega)).2 (Nat.le_of_ble_eq_true rfl) dX5_copyFrom_5 (fun H locs hP hD hS => ?_)
  have hP : va_P (dC, dI) vwCl [(h0, .inr (5, [.int (nI stw), .int blu, .int mmu, .int (nI nqu), .int (nI nhu), .ref u5, .ref u6, .ref u7, .ref u8, .ref u9, .ref u10, .ref u11, .ref u12])), (u5, .inl (cI, 8, .inl fu5)), (u6, .inl (cI, 8, .inl fu6)), (u7, .inl (cI, 8, .inl fu7)), (u8, .inl (cI, 8, .inl fu8)), (u9, .inl (cI, 8, .inl fu9)), (u10, .inl (cI, 4, .inl fu10)), (u11, .inl (cI, 4, .inl fu11)), (u12, .inl (cI, 4, .inl fu12)), (hq, .inr (5, [.int (nI stw), .int blw, .int mmw, .int (nI nqw), .int (nI nhw), .ref w5, .ref w6, .ref w7, .ref w8, .ref w9, .ref w10, .ref w11, .ref w12])), (w5, .inl (cI, 8, .inl fw5)), (w6, .inl (cI, 8, .inl fw6)), (w7, .inl (cI, 8, .inl fw7)), (w8, .inl (cI, 8, .inl fw8)), (w9, .inl (cI, 8, .inl fw9)), (w10, .inl (cI, 4, .inl fw10)), (w11, .inl (cI, 4, .inl fw11)), (w12, .inl (cI, 4, .inl fw12))] H := hP
  have hD : va_D A [(h0, .inr (5, [.int (nI stw), .int blu, .int mmu, .int (nI nqu), .int (nI nhu), .ref u5, .ref u6, .ref u7, .ref u8, .ref u9, .ref u10, .ref u11, .ref u12])), (u5, .inl (cI, 8, .inl fu5)), (u6, .inl (cI, 8, .inl fu6)), (u7, .inl (cI, 8, .inl fu7)), (u8, .inl (cI, 8, .inl fu8)), (u9, .inl (cI, 8, .inl fu9)), (u10, .inl (cI, 4, .inl fu10)), (u11, .inl (cI, 4, .inl fu11)), (u12, .inl (cI, 4, .inl fu12)), (hq, .inr (5, [.int (nI stw), .int blw, .int mmw, .int (nI nqw), .int (nI nhw), .ref w5, .ref w6, .ref w7, .ref w8, .ref w9, .ref w10, .ref w11, .ref w12])), (w5, .inl (cI, 8, .inl fw5)), (w6, .inl (cI, 8, .inl fw6)), (w7, .inl (cI, 8, .inl fw7)), (w8, .inl (cI, 8, .inl fw8)), (w9, .inl (cI, 8, .inl fw9)), (w10, .inl (cI, 4, .inl fw10)), (w11, .inl (cI, 4, .inl fw11)), (w12, .inl (cI, 4, .inl fw12))] := hD
  refine lv_aload_n hx hb dX5_copyFrom_8 rfl (lv_at hl 0 rfl) ?_
  refine lv_aload_n hx hb dX5_copyFrom_9 rfl (lv_at hl 1 rfl) ?_
  refine va_get (D := (dC, dI)) (ci := 5) (v := .int blw) (C := RX5) (T := TX5) (N := 13) hx hb hts hi_X5 hown hK hP 9 rfl rfl 1 (by decide) (hts (.fieldLink RX5 15 "LeftQuills$Office" "bluntBehind" "I") (wmx 2 rfl)) (fun _ h9 => h9) rfl dX5_copyFrom_10 ?_
  refine va_put (D := (dC, dI)) (ci := 5) (v := .int blw) (ty := .int) (C := RX5) (T := TX5) (N := 13) hx hb hts hi_X5 tyX5 tyX5_ok nmX5 hown hK hP hD hS 0 rfl rfl 1 (by decide) (hts (.fieldLink RX5 15 "LeftQuills$Office" "bluntBehind" "I") (wmx 2 rfl)) (fun _ h9 => h9) rfl (by decide +kernel) rfl rfl (Nat.le_of_ble_eq_true rfl) dX5_copyFrom_13 (fun H locs hP hD hS => ?_)
  have hP : va_P (dC, dI) vwCl [(h0, .inr (5, [.int (nI stw), .int blw, .int mmu, .int (nI nqu), .int (nI nhu), .ref u5, .ref u6, .ref u7, .ref u8, .ref u9, .ref u10, .ref u11, .ref u12])), (u5, .inl (cI, 8, .inl fu5)), (u6, .inl (cI, 8, .inl fu6)), (u7, .inl (cI, 8, .inl fu7)), (u8, .inl (cI, 8, .inl fu8)), (u9, .inl (cI, 8, .inl fu9)), (u10, .inl (cI, 4, .inl fu10)), (u11, .inl (cI, 4, .inl fu11)), (u12, .inl (cI, 4, .inl fu12)), (hq, .inr (5, [.int (nI stw), .int blw, .int mmw, .int (nI nqw), .int (nI nhw), .ref w5, .ref w6, .ref w7, .ref w8, .ref w9, .ref w10, .ref w11, .ref w12])), (w5, .inl (cI, 8, .inl fw5)), (w6, .inl (cI, 8, .inl fw6)), (w7, .inl (cI, 8, .inl fw7)), (w8, .inl (cI, 8, .inl fw8)), (w9, .inl (cI, 8, .inl fw9)), (w10, .inl (cI, 4, .inl fw10)), (w11, .inl (cI, 4, .inl fw11)), (w12, .inl (cI, 4, .inl fw12))] H := hP
  have hD : va_D A [(h0, .inr (5, [.int (nI stw), .int blw, .int mmu, .int (nI nqu), .int (nI nhu), .ref u5, .ref u6, .ref u7, .ref u8, .ref u9, .ref u10, .ref u11, .ref u12])), (u5, .inl (cI, 8, .inl fu5)), (u6, .inl (cI, 8, .inl fu6)), (u7, .inl (cI, 8, .inl fu7)), (u8, .inl (cI, 8, .inl fu8)), (u9, .inl (cI, 8, .inl fu9)), (u10, .inl (cI, 4, .inl fu10)), (u11, .inl (cI, 4, .inl fu11)), (u12, .inl (cI, 4, .inl fu12)), (hq, .inr (5, [.int (nI stw), .int blw, .int mmw, .int (nI nqw), .int (nI nhw), .ref w5, .ref w6, .ref w7, .ref w8, .ref w9, .ref w10, .ref w11, .ref w12])), (w5, .inl (cI, 8, .inl fw5)), (w6, .inl (cI, 8, .inl fw6)), (w7, .inl (cI, 8, .inl fw7)), (w8, .inl (cI, 8, .inl fw8)), (w9, .inl (cI, 8, .inl fw9)), (w10, .inl (cI, 4, .inl fw10)), (w11, .inl (cI, 4, .inl fw11)), (w12, .inl (cI, 4, .inl fw12))] := hD
  refine lv_aload_n hx hb dX5_copyFrom_16 rfl (lv_at hl 0 rfl) ?_
  refine lv_aload_n hx hb dX5_copyFrom_17 rfl (lv_at hl 1 rfl) ?_
  refine va_get (D := (dC, dI)) (ci := 5) (v := .int mmw) (C := RX5) (T := TX5) (N := 13) hx hb hts hi_X5 hown hK hP 9 rfl rfl 2 (by decide) (hts (.fieldLink RX5 19 "LeftQuills$Office" "mendMinutes" "I") (wmx 3 rfl)) (fun _ h9 => h9) rfl dX5_copyFrom_18 ?_
  refine va_put (D := (dC, dI)) (ci := 5) (v := .int mmw) (ty := .int) (C := RX5) (T := TX5) (N := 13) hx hb hts hi_X5 tyX5 tyX5_ok nmX5 hown hK hP hD hS 0 rfl rfl 2 (by decide) (hts (.fieldLink RX5 19 "LeftQuills$Office" "mendMinutes" "I") (wmx 3 rfl)) (fun _ h9 => h9) rfl (by decide +kernel) rfl rfl (Nat.le_of_ble_eq_true rfl) dX5_copyFrom_21 (fun H locs hP hD hS => ?_)
  have hP : va_P (dC, dI) vwCl [(h0, .inr (5, [.int (nI stw), .int blw, .int mmw, .int (nI nqu), .int (nI nhu), .ref u5, .ref u6, .ref u7, .ref u8, .ref u9, .ref u10, .ref u11, .ref u12])), (u5, .inl (cI, 8, .inl fu5)), (u6, .inl (cI, 8, .inl fu6)), (u7, .inl (cI, 8, .inl fu7)), (u8, .inl (cI, 8, .inl fu8)), (u9, .inl (cI, 8, .inl fu9)), (u10, .inl (cI, 4, .inl fu10)), (u11, .inl (cI, 4, .inl fu11)), (u12, .inl (cI, 4, .inl fu12)), (hq, .inr (5, [.int (nI stw), .int blw, .int mmw, .int (nI nqw), .int (nI nhw), .ref w5, .ref w6, .ref w7, .ref w8, .ref w9, .ref w10, .ref w11, .ref w12])), (w5, .inl (cI, 8, .inl fw5)), (w6, .inl (cI, 8, .inl fw6)), (w7, .inl (cI, 8, .inl fw7)), (w8, .inl (cI, 8, .inl fw8)), (w9, .inl (cI, 8, .inl fw9)), (w10, .inl (cI, 4, .inl fw10)), (w11, .inl (cI, 4, .inl fw11)), (w12, .inl (cI, 4, .inl fw12))] H := hP
  have hD : va_D A [(h0, .inr (5, [.int (nI stw), .int blw, .int mmw, .int (nI nqu), .int (nI nhu), .ref u5, .ref u6, .ref u7, .ref u8, .ref u9, .ref u10, .ref u11, .ref u12])), (u5, .inl (cI, 8, .inl fu5)), (u6, .inl (cI, 8, .inl fu6)), (u7, .inl (cI, 8, .inl fu7)), (u8, .inl (cI, 8, .inl fu8)), (u9, .inl (cI, 8, .inl fu9)), (u10, .inl (cI, 4, .inl fu10)), (u11, .inl (cI, 4, .inl fu11)), (u12, .inl (cI, 4, .inl fu12)), (hq, .inr (5, [.int (nI stw), .int blw, .int mmw, .int (nI nqw), .int (nI nhw), .ref w5, .ref w6, .ref w7, .ref w8, .ref w9, .ref w10, .ref w11, .ref w12])), (w5, .inl (cI, 8, .inl fw5)), (w6, .inl (cI, 8, .inl fw6)), (w7, .inl (cI, 8, .inl fw7)), (w8, .inl (cI, 8, .inl fw8)), (w9, .inl (cI, 8, .inl fw9)), (w10, .inl (cI, 4, .inl fw10)), (w11, .inl (cI, 4, .inl fw11)), (w12, .inl (cI, 4, .inl fw12))] := hD
  refine lv_aload_n hx hb dX5_copyFrom_24 rfl (lv_at hl 0 rfl) ?_
  refine lv_aload_n hx hb dX5_copyFrom_25 rfl (lv_at hl 1 rfl) ?_
  refine va_get (D := (dC, dI)) (ci := 5) (v := .int (nI nqw)) (C := RX5) (T := TX5) (N := 13) hx hb hts hi_X5 hown hK hP 9 rfl rfl 3 (by decide) (hts (.fieldLink RX5 22 "LeftQuills$Office" "quills" "I") (wmx 4 rfl)) (fun _ h9 => h9) rfl dX5_copyFrom_26 ?_
  refine va_put (D := (dC, dI)) (ci := 5) (v := .int (nI nqw)) (ty := .int) (C := RX5) (T := TX5) (N := 13) hx hb hts hi_X5 tyX5 tyX5_ok nmX5 hown hK hP hD hS 0 rfl rfl 3 (by decide) (hts (.fieldLink RX5 22 "LeftQuills$Office" "quills" "I") (wmx 4 rfl)) (fun _ h9 => h9) rfl (by decide +kernel) rfl rfl (Nat.le_of_ble_eq_true rfl) dX5_copyFrom_29 (fun H locs hP hD hS => ?_)
  have hP : va_P (dC, dI) vwCl [(h0, .inr (5, [.int (nI stw), .int blw, .int mmw, .int (nI nqw), .int (nI nhu), .ref u5, .ref u6, .ref u7, .ref u8, .ref u9, .ref u10, .ref u11, .ref u12])), (u5, .inl (cI, 8, .inl fu5)), (u6, .inl (cI, 8, .inl fu6)), (u7, .inl (cI, 8, .inl fu7)), (u8, .inl (cI, 8, .inl fu8)), (u9, .inl (cI, 8, .inl fu9)), (u10, .inl (cI, 4, .inl fu10)), (u11, .inl (cI, 4, .inl fu11)), (u12, .inl (cI, 4, .inl fu12)), (hq, .inr (5, [.int (nI stw), .int blw, .int mmw, .int (nI nqw), .int (nI nhw), .ref w5, .ref w6, .ref w7, .ref w8, .ref w9, .ref w10, .ref w11, .ref w12])), (w5, .inl (cI, 8, .inl fw5)), (w6, .inl (cI, 8, .inl fw6)), (w7, .inl (cI, 8, .inl fw7)), (w8, .inl (cI, 8, .inl fw8)), (w9, .inl (cI, 8, .inl fw9)), (w10, .inl (cI, 4, .inl fw10)), (w11, .inl (cI, 4, .inl fw11)), (w12, .inl (cI, 4, .inl fw12))] H := hP
  have hD : va_D A [(h0, .inr (5, [.int (nI stw), .int blw, .int mmw, .int (nI nqw), .int (nI nhu), .ref u5, .ref u6, .ref u7, .ref u8, .ref u9, .ref u10, .ref u11, .ref u12])), (u5, .inl (cI, 8, .inl fu5)), (u6, .inl (cI, 8, .inl fu6)), (u7, .inl (cI, 8, .inl fu7)), (u8, .inl (cI, 8, .inl fu8)), (u9, .inl (cI, 8, .inl fu9)), (u10, .inl (cI, 4, .inl fu10)), (u11, .inl (cI, 4, .inl fu11)), (u12, .inl (cI, 4, .inl fu12)), (hq, .inr (5, [.int (nI stw), .int blw, .int mmw, .int (nI nqw), .int (nI nhw), .ref w5, .ref w6, .ref w7, .ref w8, .ref w9, .ref w10, .ref w11, .ref w12])), (w5, .inl (cI, 8, .inl fw5)), (w6, .inl (cI, 8, .inl fw6)), (w7, .inl (cI, 8, .inl fw7)), (w8, .inl (cI, 8, .inl fw8)), (w9, .inl (cI, 8, .inl fw9)), (w10, .inl (cI, 4, .inl fw10)), (w11, .inl (cI, 4, .inl fw11)), (w12, .inl (cI, 4, .inl fw12))] := hD
  refine lv_aload_n hx hb dX5_copyFrom_32 rfl (lv_at hl 0 rfl) ?_
  refine lv_aload_n hx hb dX5_copyFrom_33 rfl (lv_at hl 1 rfl) ?_
  refine va_get (D := (dC, dI)) (ci := 5) (v := .int (nI nhw)) (C := RX5) (T := TX5) (N := 13) hx hb hts hi_X5 hown hK hP 9 rfl rfl 4 (by decide) (hts (.fieldLink RX5 25 "LeftQuills$Office" "hands" "I") (wmx 5 rfl)) (fun _ h9 => h9) rfl dX5_copyFrom_34 ?_
  refine va_put (D := (dC, dI)) (ci := 5) (v := .int (nI nhw)) (ty := .int) (C := RX5) (T := TX5) (N := 13) hx hb hts hi_X5 tyX5 tyX5_ok nmX5 hown hK hP hD hS 0 rfl rfl 4 (by decide) (hts (.fieldLink RX5 25 "LeftQuills$Office" "hands" "I") (wmx 5 rfl)) (fun _ h9 => h9) rfl (by decide +kernel) rfl rfl (Nat.le_of_ble_eq_true rfl) dX5_copyFrom_37 (fun H locs hP hD hS => ?_)
  have hP : va_P (dC, dI) vwCl [(h0, .inr (5, [.int (nI stw), .int blw, .int mmw, .int (nI nqw), .int (nI nhw), .ref u5, .ref u6, .ref u7, .ref u8, .ref u9, .ref u10, .ref u11, .ref u12])), (u5, .inl (cI, 8, .inl fu5)), (u6, .inl (cI, 8, .inl fu6)), (u7, .inl (cI, 8, .inl fu7)), (u8, .inl (cI, 8, .inl fu8)), (u9, .inl (cI, 8, .inl fu9)), (u10, .inl (cI, 4, .inl fu10)), (u11, .inl (cI, 4, .inl fu11)), (u12, .inl (cI, 4, .inl fu12)), (hq, .inr (5, [.int (nI stw), .int blw, .int mmw, .int (nI nqw), .int (nI nhw), .ref w5, .ref w6, .ref w7, .ref w8, .ref w9, .ref w10, .ref w11, .ref w12])), (w5, .inl (cI, 8, .inl fw5)), (w6, .inl (cI, 8, .inl fw6)), (w7, .inl (cI, 8, .inl fw7)), (w8, .inl (cI, 8, .inl fw8)), (w9, .inl (cI, 8, .inl fw9)), (w10, .inl (cI, 4, .inl fw10)), (w11, .inl (cI, 4, .inl fw11)), (w12, .inl (cI, 4, .inl fw12))] H := hP
  have hD : va_D A [(h0, .inr (5, [.int (nI stw), .int blw, .int mmw, .int (nI nqw), .int (nI nhw), .ref u5, .ref u6, .ref u7, .ref u8, .ref u9, .ref u10, .ref u11, .ref u12])), (u5, .inl (cI, 8, .inl fu5)), (u6, .inl (cI, 8, .inl fu6)), (u7, .inl (cI, 8, .inl fu7)), (u8, .inl (cI, 8, .inl fu8)), (u9, .inl (cI, 8, .inl fu9)), (u10, .inl (cI, 4, .inl fu10)), (u11, .inl (cI, 4, .inl fu11)), (u12, .inl (cI, 4, .inl fu12)), (hq, .inr (5, [.int (nI stw), .int blw, .int mmw, .int (nI nqw), .int (nI nhw), .ref w5, .ref w6, .ref w7, .ref w8, .ref w9, .ref w10, .ref w11, .ref w12])), (w5, .inl (cI, 8, .inl fw5)), (w6, .inl (cI, 8, .inl fw6)), (w7, .inl (cI, 8, .inl fw7)), (w8, .inl (cI, 8, .inl fw8)), (w9, .inl (cI, 8, .inl fw9)), (w10, .inl (cI, 4, .inl fw10)), (w11, .inl (cI, 4, .inl fw11)), (w12, .inl (cI, 4, .inl fw12))] := hD
  refine lv_aload_n hx hb dX5_copyFrom_40 rfl (lv_at hl 1 rfl) ?_
  refine va_get (D := (dC, dI)) (ci := 5) (v := .ref w5) (C := RX5) (T := TX5) (N := 13) hx hb hts hi_X5 hown hK hP 9 rfl rfl 5 (by decide) (hts (.fieldLink RX5 28 "LeftQuills$Office" "wing" "[I") (wmx 6 rfl)) (fun _ h9 => h9) rfl dX5_copyFrom_41 ?_
  refine lv_iconst (v := 0) hx hb dX5_copyFrom_44 (by decide) ?_
  refine lv_aload_n hx hb dX5_copyFrom_45 rfl (lv_at hl 0 rfl) ?_
  refine va_get (D := (dC, dI)) (ci := 5) (v := .ref u5) (C := RX5) (T := TX5) (N := 13) hx hb hts hi_X5 hown hK hP 0 rfl rfl 5 (by decide) (hts (.fieldLink RX5 28 "LeftQuills$Office" "wing" "[I") (wmx 6 rfl)) (fun _ h9 => h9) rfl dX5_copyFrom_46 ?_
  refine lv_iconst (v := 0) hx hb dX5_copyFrom_49 (by decide) ?_
  refine lv_bipush (v := 8) hx hb dX5_copyFrom_50 (by decide) ?_
  refine va_copyi hx hb (hml.trans hl.1.symm) hown (hts (.methodLink RX5 53 arraycopyName) (wmx 7 rfl)) (hts (.native arraycopyName) (wmx 8 rfl)) (hts (.static arraycopyName) (wmx 9 rfl)) (hts (.initialized "java/lang/System") (wmx 10 rfl)) hK hP hD hS 10 1 0 0 rfl rfl rfl rfl rfl (by decide) (by decide) (by decide) (by decide) (by decide) (fun _ _ => rfl) (Nat.le_of_ble_eq_true rfl) (Nat.le_of_ble_eq_true rfl) dX5_copyFrom_52 (fun H locs hP hD hS => ?_)
  generalize hgf1 : va_cpy _ _ _ _ _ = f1 at hP hD
  have hP : va_P (dC, dI) vwCl [(h0, .inr (5, [.int (nI stw), .int blw, .int mmw, .int (nI nqw), .int (nI nhw), .ref u5, .ref u6, .ref u7, .ref u8, .ref u9, .ref u10, .ref u11, .ref u12])), (u5, .inl (cI, 8, .inl f1)), (u6, .inl (cI, 8, .inl fu6)), (u7, .inl (cI, 8, .inl fu7)), (u8, .inl (cI, 8, .inl fu8)), (u9, .inl (cI, 8, .inl fu9)), (u10, .inl (cI, 4, .inl fu10)), (u11, .inl (cI, 4, .inl fu11)), (u12, .inl (cI, 4, .inl fu12)), (hq, .inr (5, [.int (nI stw), .int blw, .int mmw, .int (nI nqw), .int (nI nhw), .ref w5, .ref w6, .ref w7, .ref w8, .ref w9, .ref w10, .ref w11, .ref w12])), (w5, .inl (cI, 8, .inl fw5)), (w6, .inl (cI, 8, .inl fw6)), (w7, .inl (cI, 8, .inl fw7)), (w8, .inl (cI, 8, .inl fw8)), (w9, .inl (cI, 8, .inl fw9)), (w10, .inl (cI, 4, .inl fw10)), (w11, .inl (cI, 4, .inl fw11)), (w12, .inl (cI, 4, .inl fw12))] H := hP
  have hD : va_D A [(h0, .inr (5, [.int (nI stw), .int blw, .int mmw, .int (nI nqw), .int (nI nhw), .ref u5, .ref u6, .ref u7, .ref u8, .ref u9, .ref u10, .ref u11, .ref u12])), (u5, .inl (cI, 8, .inl f1)), (u6, .inl (cI, 8, .inl fu6)), (u7, .inl (cI, 8, .inl fu7)), (u8, .inl (cI, 8, .inl fu8)), (u9, .inl (cI, 8, .inl fu9)), (u10, .inl (cI, 4, .inl fu10)), (u11, .inl (cI, 4, .inl fu11)), (u12, .inl (cI, 4, .inl fu12)), (hq, .inr (5, [.int (nI stw), .int blw, .int mmw, .int (nI nqw), .int (nI nhw), .ref w5, .ref w6, .ref w7, .ref w8, .ref w9, .ref w10, .ref w11, .ref w12])), (w5, .inl (cI, 8, .inl fw5)), (w6, .inl (cI, 8, .inl fw6)), (w7, .inl (cI, 8, .inl fw7)), (w8, .inl (cI, 8, .inl fw8)), (w9, .inl (cI, 8, .inl fw9)), (w10, .inl (cI, 4, .inl fw10)), (w11, .inl (cI, 4, .inl fw11)), (w12, .inl (cI, 4, .inl fw12))] := hD
  refine lv_aload_n hx hb dX5_copyFrom_55 rfl (lv_at hl 1 rfl) ?_
  refine va_get (D := (dC, dI)) (ci := 5) (v := .ref w6) (C := RX5) (T := TX5) (N := 13) hx hb hts hi_X5 hown hK hP 9 rfl rfl 6 (by decide) (hts (.fieldLink RX5 32 "LeftQuills$Office" "place" "[I") (wmx 11 rfl)) (fun _ h9 => h9) rfl dX5_copyFrom_56 ?_
  refine lv_iconst (v := 0) hx hb dX5_copyFrom_59 (by decide) ?_
  refine lv_aload_n hx hb dX5_copyFrom_60 rfl (lv_at hl 0 rfl) ?_
  refine va_get (D := (dC, dI)) (ci := 5) (v := .ref u6) (C := RX5) (T := TX5) (N := 13) hx hb hts hi_X5 hown hK hP 0 rfl rfl 6 (by decide) (hts (.fieldLink RX5 32 "LeftQuills$Office" "place" "[I") (wmx 11 rfl)) (fun _ h9 => h9) rfl dX5_copyFrom_61 ?_
  refine lv_iconst (v := 0) hx hb dX5_copyFrom_64 (by decide) ?_
  refine lv_bipush (v := 8) hx hb dX5_copyFrom_65 (by decide) ?_
  refine va_copyi hx hb (hml.trans hl.1.symm) hown (hts (.methodLink RX5 53 arraycopyName) (wmx 7 rfl)) (hts (.native arraycopyName) (wmx 8 rfl)) (hts (.static arraycopyName) (wmx 9 rfl)) (hts (.initialized "java/lang/System") (wmx 10 rfl)) hK hP hD hS 11 2 0 0 rfl rfl rfl rfl rfl (by decide) (by decide) (by decide) (by decide) (by decide) (fun _ _ => rfl) (Nat.le_of_ble_eq_true rfl) (Nat.le_of_ble_eq_true rfl) dX5_copyFrom_67 (fun H locs hP hD hS => ?_)
  generalize hgf2 : va_cpy _ _ _ _ _ = f2 at hP hD
  have hP : va_P (dC, dI) vwCl [(h0, .inr (5, [.int (nI stw), .int blw, .int mmw, .int (nI nqw), .int (nI nhw), .ref u5, .ref u6, .ref u7, .ref u8, .ref u9, .ref u10, .ref u11, .ref u12])), (u5, .inl (cI, 8, .inl f1)), (u6, .inl (cI, 8, .inl f2)), (u7, .inl (cI, 8, .inl fu7)), (u8, .inl (cI, 8, .inl fu8)), (u9, .inl (cI, 8, .inl fu9)), (u10, .inl (cI, 4, .inl fu10)), (u11, .inl (cI, 4, .inl fu11)), (u12, .inl (cI, 4, .inl fu12)), (hq, .inr (5, [.int (nI stw), .int blw, .int mmw, .int (nI nqw), .int (nI nhw), .ref w5, .ref w6, .ref w7, .ref w8, .ref w9, .ref w10, .ref w11, .ref w12])), (w5, .inl (cI, 8, .inl fw5)), (w6, .inl (cI, 8, .inl fw6)), (w7, .inl (cI, 8, .inl fw7)), (w8, .inl (cI, 8, .inl fw8)), (w9, .inl (cI, 8, .inl fw9)), (w10, .inl (cI, 4, .inl fw10)), (w11, .inl (cI, 4, .inl fw11)), (w12, .inl (cI, 4, .inl fw12))] H := hP
  have hD : va_D A [(h0, .inr (5, [.int (nI stw), .int blw, .int mmw, .int (nI nqw), .int (nI nhw), .ref u5, .ref u6, .ref u7, .ref u8, .ref u9, .ref u10, .ref u11, .ref u12])), (u5, .inl (cI, 8, .inl f1)), (u6, .inl (cI, 8, .inl f2)), (u7, .inl (cI, 8, .inl fu7)), (u8, .inl (cI, 8, .inl fu8)), (u9, .inl (cI, 8, .inl fu9)), (u10, .inl (cI, 4, .inl fu10)), (u11, .inl (cI, 4, .inl fu11)), (u12, .inl (cI, 4, .inl fu12)), (hq, .inr (5, [.int (nI stw), .int blw, .int mmw, .int (nI nqw), .int (nI nhw), .ref w5, .ref w6, .ref w7, .ref w8, .ref w9, .ref w10, .ref w11, .ref w12])), (w5, .inl (cI, 8, .inl fw5)), (w6, .inl (cI, 8, .inl fw6)), (w7, .inl (cI, 8, .inl fw7)), (w8, .inl (cI, 8, .inl fw8)), (w9, .inl (cI, 8, .inl fw9)), (w10, .inl (cI, 4, .inl fw10)), (w11, .inl (cI, 4, .inl fw11)), (w12, .inl (cI, 4, .inl fw12))] := hD
  refine lv_aload_n hx hb dX5_copyFrom_70 rfl (lv_at hl 1 rfl) ?_
  refine va_get (D := (dC, dI)) (ci := 5) (v := .ref w7) (C := RX5) (T := TX5) (N := 13) hx hb hts hi_X5 hown hK hP 9 rfl rfl 7 (by decide) (hts (.fieldLink RX5 35 "LeftQuills$Office" "cooked" "[I") (wmx 12 rfl)) (fun _ h9 => h9) rfl dX5_copyFrom_71 ?_
  refine lv_iconst (v := 0) hx hb dX5_copyFrom_74 (by decide) ?_
  refine lv_aload_n hx hb dX5_copyFrom_75 rfl (lv_at hl 0 rfl) ?_
  refine va_get (D := (dC, dI)) (ci := 5) (v := .ref u7) (C := RX5) (T := TX5) (N := 13) hx hb hts hi_X5 hown hK hP 0 rfl rfl 7 (by decide) (hts (.fieldLink RX5 35 "LeftQuills$Office" "cooked" "[I") (wmx 12 rfl)) (fun _ h9 => h9) rfl dX5_copyFrom_76 ?_
  refine lv_iconst (v := 0) hx hb dX5_copyFrom_79 (by decide) ?_
  refine lv_bipush (v := 8) hx hb dX5_copyFrom_80 (by decide) ?_
  refine va_copyi hx hb (hml.trans hl.1.symm) hown (hts (.methodLink RX5 53 arraycopyName) (wmx 7 rfl)) (hts (.native arraycopyName) (wmx 8 rfl)) (hts (.static arraycopyName) (wmx 9 rfl)) (hts (.initialized "java/lang/System") (wmx 10 rfl)) hK hP hD hS 12 3 0 0 rfl rfl rfl rfl rfl (by decide) (by decide) (by decide) (by decide) (by decide) (fun _ _ => rfl) (Nat.le_of_ble_eq_true rfl) (Nat.le_of_ble_eq_true rfl) dX5_copyFrom_82 (fun H locs hP hD hS => ?_)
  generalize hgf3 : va_cpy _ _ _ _ _ = f3 at hP hD
  have hP : va_P (dC, dI) vwCl [(h0, .inr (5, [.int (nI stw), .int blw, .int mmw, .int (nI nqw), .int (nI nhw), .ref u5, .ref u6, .ref u7, .ref u8, .ref u9, .ref u10, .ref u11, .ref u12])), (u5, .inl (cI, 8, .inl f1)), (u6, .inl (cI, 8, .inl f2)), (u7, .inl (cI, 8, .inl f3)), (u8, .inl (cI, 8, .inl fu8)), (u9, .inl (cI, 8, .inl fu9)), (u10, .inl (cI, 4, .inl fu10)), (u11, .inl (cI, 4, .inl fu11)), (u12, .inl (cI, 4, .inl fu12)), (hq, .inr (5, [.int (nI stw), .int blw, .int mmw, .int (nI nqw), .int (nI nhw), .ref w5, .ref w6, .ref w7, .ref w8, .ref w9, .ref w10, .ref w11, .ref w12])), (w5, .inl (cI, 8, .inl fw5)), (w6, .inl (cI, 8, .inl fw6)), (w7, .inl (cI, 8, .inl fw7)), (w8, .inl (cI, 8, .inl fw8)), (w9, .inl (cI, 8, .inl fw9)), (w10, .inl (cI, 4, .inl fw10)), (w11, .inl (cI, 4, .inl fw11)), (w12, .inl (cI, 4, .inl fw12))] H := hP
  have hD : va_D A [(h0, .inr (5, [.int (nI stw), .int blw, .int mmw, .int (nI nqw), .int (nI nhw), .ref u5, .ref u6, .ref u7, .ref u8, .ref u9, .ref u10, .ref u11, .ref u12])), (u5, .inl (cI, 8, .inl f1)), (u6, .inl (cI, 8, .inl f2)), (u7, .inl (cI, 8, .inl f3)), (u8, .inl (cI, 8, .inl fu8)), (u9, .inl (cI, 8, .inl fu9)), (u10, .inl (cI, 4, .inl fu10)), (u11, .inl (cI, 4, .inl fu11)), (u12, .inl (cI, 4, .inl fu12)), (hq, .inr (5, [.int (nI stw), .int blw, .int mmw, .int (nI nqw), .int (nI nhw), .ref w5, .ref w6, .ref w7, .ref w8, .ref w9, .ref w10, .ref w11, .ref w12])), (w5, .inl (cI, 8, .inl fw5)), (w6, .inl (cI, 8, .inl fw6)), (w7, .inl (cI, 8, .inl fw7)), (w8, .inl (cI, 8, .inl fw8)), (w9, .inl (cI, 8, .inl fw9)), (w10, .inl (cI, 4, .inl fw10)), (w11, .inl (cI, 4, .inl fw11)), (w12, .inl (cI, 4, .inl fw12))] := hD
  refine lv_aload_n hx hb dX5_copyFrom_85 rfl (lv_at hl 1 rfl) ?_
  refine va_get (D := (dC, dI)) (ci := 5) (v := .ref w8) (C := RX5) (T := TX5) (N := 13) hx hb hts hi_X5 hown hK hP 9 rfl rfl 8 (by decide) (hts (.fieldLink RX5 38 "LeftQuills$Office" "toldLength" "[I") (wmx 13 rfl)) (fun _ h9 => h9) rfl dX5_copyFrom_86 ?_
  refine lv_iconst (v := 0) hx hb dX5_copyFrom_89 (by decide) ?_
  refine lv_aload_n hx hb dX5_copyFrom_90 rfl (lv_at hl 0 rfl) ?_
  refine va_get (D := (dC, dI)) (ci := 5) (v := .ref u8) (C := RX5) (T := TX5) (N := 13) hx hb hts hi_X5 hown hK hP 0 rfl rfl 8 (by decide) (hts (.fieldLink RX5 38 "LeftQuills$Office" "toldLength" "[I") (wmx 13 rfl)) (fun _ h9 => h9) rfl dX5_copyFrom_91 ?_
  refine lv_iconst (v := 0) hx hb dX5_copyFrom_94 (by decide) ?_
  refine lv_bipush (v := 8) hx hb dX5_copyFrom_95 (by decide) ?_
  refine va_copyi hx hb (hml.trans hl.1.symm) hown (hts (.methodLink RX5 53 arraycopyName) (wmx 7 rfl)) (hts (.native arraycopyName) (wmx 8 rfl)) (hts (.static arraycopyName) (wmx 9 rfl)) (hts (.initialized "java/lang/System") (wmx 10 rfl)) hK hP hD hS 13 4 0 0 rfl rfl rfl rfl rfl (by decide) (by decide) (by decide) (by decide) (by decide) (fun _ _ => rfl) (Nat.le_of_ble_eq_true rfl) (Nat.le_of_ble_eq_true rfl) dX5_copyFrom_97 (fun H locs hP hD hS => ?_)
  generalize hgf4 : va_cpy _ _ _ _ _ = f4 at hP hD
  have hP : va_P (dC, dI) vwCl [(h0, .inr (5, [.int (nI stw), .int blw, .int mmw, .int (nI nqw), .int (nI nhw), .ref u5, .ref u6, .ref u7, .ref u8, .ref u9, .ref u10, .ref u11, .ref u12])), (u5, .inl (cI, 8, .inl f1)), (u6, .inl (cI, 8, .inl f2)), (u7, .inl (cI, 8, .inl f3)), (u8, .inl (cI, 8, .inl f4)), (u9, .inl (cI, 8, .inl fu9)), (u10, .inl (cI, 4, .inl fu10)), (u11, .inl (cI, 4, .inl fu11)), (u12, .inl (cI, 4, .inl fu12)), (hq, .inr (5, [.int (nI stw), .int blw, .int mmw, .int (nI nqw), .int (nI nhw), .ref w5, .ref w6, .ref w7, .ref w8, .ref w9, .ref w10, .ref w11, .ref w12])), (w5, .inl (cI, 8, .inl fw5)), (w6, .inl (cI, 8, .inl fw6)), (w7, .inl (cI, 8, .inl fw7)), (w8, .inl (cI, 8, .inl fw8)), (w9, .inl (cI, 8, .inl fw9)), (w10, .inl (cI, 4, .inl fw10)), (w11, .inl (cI, 4, .inl fw11)), (w12, .inl (cI, 4, .inl fw12))] H := hP
  have hD : va_D A [(h0, .inr (5, [.int (nI stw), .int blw, .int mmw, .int (nI nqw), .int (nI nhw), .ref u5, .ref u6, .ref u7, .ref u8, .ref u9, .ref u10, .ref u11, .ref u12])), (u5, .inl (cI, 8, .inl f1)), (u6, .inl (cI, 8, .inl f2)), (u7, .inl (cI, 8, .inl f3)), (u8, .inl (cI, 8, .inl f4)), (u9, .inl (cI, 8, .inl fu9)), (u10, .inl (cI, 4, .inl fu10)), (u11, .inl (cI, 4, .inl fu11)), (u12, .inl (cI, 4, .inl fu12)), (hq, .inr (5, [.int (nI stw), .int blw, .int mmw, .int (nI nqw), .int (nI nhw), .ref w5, .ref w6, .ref w7, .ref w8, .ref w9, .ref w10, .ref w11, .ref w12])), (w5, .inl (cI, 8, .inl fw5)), (w6, .inl (cI, 8, .inl fw6)), (w7, .inl (cI, 8, .inl fw7)), (w8, .inl (cI, 8, .inl fw8)), (w9, .inl (cI, 8, .inl fw9)), (w10, .inl (cI, 4, .inl fw10)), (w11, .inl (cI, 4, .inl fw11)), (w12, .inl (cI, 4, .inl fw12))] := hD
  refine lv_aload_n hx hb dX5_copyFrom_100 rfl (lv_at hl 1 rfl) ?_
  refine va_get (D := (dC, dI)) (ci := 5) (v := .ref w9) (C := RX5) (T := TX5) (N := 13) hx hb hts hi_X5 hown hK hP 9 rfl rfl 9 (by decide) (hts (.fieldLink RX5 41 "LeftQuills$Office" "toldNib" "[I") (wmx 14 rfl)) (fun _ h9 => h9) rfl dX5_copyFrom_101 ?_
  refine lv_iconst (v := 0) hx hb dX5_copyFrom_104 (by decide) ?_
  refine lv_aload_n hx hb dX5_copyFrom_105 rfl (lv_at hl 0 rfl) ?_
  refine va_get (D := (dC, dI)) (ci := 5) (v := .ref u9) (C := RX5) (T := TX5) (N := 13) hx hb hts hi_X5 hown hK hP 0 rfl rfl 9 (by decide) (hts (.fieldLink RX5 41 "LeftQuills$Office" "toldNib" "[I") (wmx 14 rfl)) (fun _ h9 => h9) rfl dX5_copyFrom_106 ?_
  refine lv_iconst (v := 0) hx hb dX5_copyFrom_109 (by decide) ?_
  refine lv_bipush (v := 8) hx hb dX5_copyFrom_110 (by decide) ?_
  refine va_copyi hx hb (hml.trans hl.1.symm) hown (hts (.methodLink RX5 53 arraycopyName) (wmx 7 rfl)) (hts (.native arraycopyName) (wmx 8 rfl)) (hts (.static arraycopyName) (wmx 9 rfl)) (hts (.initialized "java/lang/System") (wmx 10 rfl)) hK hP hD hS 14 5 0 0 rfl rfl rfl rfl rfl (by decide) (by decide) (by decide) (by decide) (by decide) (fun _ _ => rfl) (Nat.le_of_ble_eq_true rfl) (Nat.le_of_ble_eq_true rfl) dX5_copyFrom_112 (fun H locs hP hD hS => ?_)
  generalize hgf5 : va_cpy _ _ _ _ _ = f5 at hP hD
  have hP : va_P (dC, dI) vwCl [(h0, .inr (5, [.int (nI stw), .int blw, .int mmw, .int (nI nqw), .int (nI nhw), .ref u5, .ref u6, .ref u7, .ref u8, .ref u9, .ref u10, .ref u11, .ref u12])), (u5, .inl (cI, 8, .inl f1)), (u6, .inl (cI, 8, .inl f2)), (u7, .inl (cI, 8, .inl f3)), (u8, .inl (cI, 8, .inl f4)), (u9, .inl (cI, 8, .inl f5)), (u10, .inl (cI, 4, .inl fu10)), (u11, .inl (cI, 4, .inl fu11)), (u12, .inl (cI, 4, .inl fu12)), (hq, .inr (5, [.int (nI stw), .int blw, .int mmw, .int (nI nqw), .int (nI nhw), .ref w5, .ref w6, .ref w7, .ref w8, .ref w9, .ref w10, .ref w11, .ref w12])), (w5, .inl (cI, 8, .inl fw5)), (w6, .inl (cI, 8, .inl fw6)), (w7, .inl (cI, 8, .inl fw7)), (w8, .inl (cI, 8, .inl fw8)), (w9, .inl (cI, 8, .inl fw9)), (w10, .inl (cI, 4, .inl fw10)), (w11, .inl (cI, 4, .inl fw11)), (w12, .inl (cI, 4, .inl fw12))] H := hP
  have hD : va_D A [(h0, .inr (5, [.int (nI stw), .int blw, .int mmw, .int (nI nqw), .int (nI nhw), .ref u5, .ref u6, .ref u7, .ref u8, .ref u9, .ref u10, .ref u11, .ref u12])), (u5, .inl (cI, 8, .inl f1)), (u6, .inl (cI, 8, .inl f2)), (u7, .inl (cI, 8, .inl f3)), (u8, .inl (cI, 8, .inl f4)), (u9, .inl (cI, 8, .inl f5)), (u10, .inl (cI, 4, .inl fu10)), (u11, .inl (cI, 4, .inl fu11)), (u12, .inl (cI, 4, .inl fu12)), (hq, .inr (5, [.int (nI stw), .int blw, .int mmw, .int (nI nqw), .int (nI nhw), .ref w5, .ref w6, .ref w7, .ref w8, .ref w9, .ref w10, .ref w11, .ref w12])), (w5, .inl (cI, 8, .inl fw5)), (w6, .inl (cI, 8, .inl fw6)), (w7, .inl (cI, 8, .inl fw7)), (w8, .inl (cI, 8, .inl fw8)), (w9, .inl (cI, 8, .inl fw9)), (w10, .inl (cI, 4, .inl fw10)), (w11, .inl (cI, 4, .inl fw11)), (w12, .inl (cI, 4, .inl fw12))] := hD
  refine lv_aload_n hx hb dX5_copyFrom_115 rfl (lv_at hl 1 rfl) ?_
  refine va_get (D := (dC, dI)) (ci := 5) (v := .ref w10) (C := RX5) (T := TX5) (N := 13) hx hb hts hi_X5 hown hK hP 9 rfl rfl 10 (by decide) (hts (.fieldLink RX5 44 "LeftQuills$Office" "side" "[I") (wmx 15 rfl)) (fun _ h9 => h9) rfl dX5_copyFrom_116 ?_
  refine lv_iconst (v := 0) hx hb dX5_copyFrom_119 (by decide) ?_
  refine lv_aload_n hx hb dX5_copyFrom_120 rfl (lv_at hl 0 rfl) ?_
  refine va_get (D := (dC, dI)) (ci := 5) (v := .ref u10) (C := RX5) (T := TX5) (N := 13) hx hb hts hi_X5 hown hK hP 0 rfl rfl 10 (by decide) (hts (.fieldLink RX5 44 "LeftQuills$Office" "side" "[I") (wmx 15 rfl)) (fun _ h9 => h9) rfl dX5_copyFrom_121 ?_
  refine lv_iconst (v := 0) hx hb dX5_copyFrom_124 (by decide) ?_
  refine lv_iconst (v := 4) hx hb dX5_copyFrom_125 (by decide) ?_
  refine va_copyi hx hb (hml.trans hl.1.symm) hown (hts (.methodLink RX5 53 arraycopyName) (wmx 7 rfl)) (hts (.native arraycopyName) (wmx 8 rfl)) (hts (.static arraycopyName) (wmx 9 rfl)) (hts (.initialized "java/lang/System") (wmx 10 rfl)) hK hP hD hS 15 6 0 0 rfl rfl rfl rfl rfl (by decide) (by decide) (by decide) (by decide) (by decide) (fun _ _ => rfl) (Nat.le_of_ble_eq_true rfl) (Nat.le_of_ble_eq_true rfl) dX5_copyFrom_126 (fun H locs hP hD hS => ?_)
  generalize hgf6 : va_cpy _ _ _ _ _ = f6 at hP hD
  have hP : va_P (dC, dI) vwCl [(h0, .inr (5, [.int (nI stw), .int blw, .int mmw, .int (nI nqw), .int (nI nhw), .ref u5, .ref u6, .ref u7, .ref u8, .ref u9, .ref u10, .ref u11, .ref u12])), (u5, .inl (cI, 8, .inl f1)), (u6, .inl (cI, 8, .inl f2)), (u7, .inl (cI, 8, .inl f3)), (u8, .inl (cI, 8, .inl f4)), (u9, .inl (cI, 8, .inl f5)), (u10, .inl (cI, 4, .inl f6)), (u11, .inl (cI, 4, .inl fu11)), (u12, .inl (cI, 4, .inl fu12)), (hq, .inr (5, [.int (nI stw), .int blw, .int mmw, .int (nI nqw), .int (nI nhw), .ref w5, .ref w6, .ref w7, .ref w8, .ref w9, .ref w10, .ref w11, .ref w12])), (w5, .inl (cI, 8, .inl fw5)), (w6, .inl (cI, 8, .inl fw6)), (w7, .inl (cI, 8, .inl fw7)), (w8, .inl (cI, 8, .inl fw8)), (w9, .inl (cI, 8, .inl fw9)), (w10, .inl (cI, 4, .inl fw10)), (w11, .inl (cI, 4, .inl fw11)), (w12, .inl (cI, 4, .inl fw12))] H := hP
  have hD : va_D A [(h0, .inr (5, [.int (nI stw), .int blw, .int mmw, .int (nI nqw), .int (nI nhw), .ref u5, .ref u6, .ref u7, .ref u8, .ref u9, .ref u10, .ref u11, .ref u12])), (u5, .inl (cI, 8, .inl f1)), (u6, .inl (cI, 8, .inl f2)), (u7, .inl (cI, 8, .inl f3)), (u8, .inl (cI, 8, .inl f4)), (u9, .inl (cI, 8, .inl f5)), (u10, .inl (cI, 4, .inl f6)), (u11, .inl (cI, 4, .inl fu11)), (u12, .inl (cI, 4, .inl fu12)), (hq, .inr (5, [.int (nI stw), .int blw, .int mmw, .int (nI nqw), .int (nI nhw), .ref w5, .ref w6, .ref w7, .ref w8, .ref w9, .ref w10, .ref w11, .ref w12])), (w5, .inl (cI, 8, .inl fw5)), (w6, .inl (cI, 8, .inl fw6)), (w7, .inl (cI, 8, .inl fw7)), (w8, .inl (cI, 8, .inl fw8)), (w9, .inl (cI, 8, .inl fw9)), (w10, .inl (cI, 4, .inl fw10)), (w11, .inl (cI, 4, .inl fw11)), (w12, .inl (cI, 4, .inl fw12))] := hD
  refine lv_aload_n hx hb dX5_copyFrom_129 rfl (lv_at hl 1 rfl) ?_
  refine va_get (D := (dC, dI)) (ci := 5) (v := .ref w11) (C := RX5) (T := TX5) (N := 13) hx hb hts hi_X5 hown hK hP 9 rfl rfl 11 (by decide) (hts (.fieldLink RX5 47 "LeftQuills$Office" "presses" "[I") (wmx 16 rfl)) (fun _ h9 => h9) rfl dX5_copyFrom_130 ?_
  refine lv_iconst (v := 0) hx hb dX5_copyFrom_133 (by decide) ?_
  refine lv_aload_n hx hb dX5_copyFrom_134 rfl (lv_at hl 0 rfl) ?_
  refine va_get (D := (dC, dI)) (ci := 5) (v := .ref u11) (C := RX5) (T := TX5) (N := 13) hx hb hts hi_X5 hown hK hP 0 rfl rfl 11 (by decide) (hts (.fieldLink RX5 47 "LeftQuills$Office" "presses" "[I") (wmx 16 rfl)) (fun _ h9 => h9) rfl dX5_copyFrom_135 ?_
  refine lv_iconst (v := 0) hx hb dX5_copyFrom_138 (by decide) ?_
  refine lv_iconst (v := 4) hx hb dX5_copyFrom_139 (by decide) ?_
  refine va_copyi hx hb (hml.trans hl.1.symm) hown (hts (.methodLink RX5 53 arraycopyName) (wmx 7 rfl)) (hts (.native arraycopyName) (wmx 8 rfl)) (hts (.static arraycopyName) (wmx 9 rfl)) (hts (.initialized "java/lang/System") (wmx 10 rfl)) hK hP hD hS 16 7 0 0 rfl rfl rfl rfl rfl (by decide) (by decide) (by decide) (by decide) (by decide) (fun _ _ => rfl) (Nat.le_of_ble_eq_true rfl) (Nat.le_of_ble_eq_true rfl) dX5_copyFrom_140 (fun H locs hP hD hS => ?_)
  generalize hgf7 : va_cpy _ _ _ _ _ = f7 at hP hD
  have hP : va_P (dC, dI) vwCl [(h0, .inr (5, [.int (nI stw), .int blw, .int mmw, .int (nI nqw), .int (nI nhw), .ref u5, .ref u6, .ref u7, .ref u8, .ref u9, .ref u10, .ref u11, .ref u12])), (u5, .inl (cI, 8, .inl f1)), (u6, .inl (cI, 8, .inl f2)), (u7, .inl (cI, 8, .inl f3)), (u8, .inl (cI, 8, .inl f4)), (u9, .inl (cI, 8, .inl f5)), (u10, .inl (cI, 4, .inl f6)), (u11, .inl (cI, 4, .inl f7)), (u12, .inl (cI, 4, .inl fu12)), (hq, .inr (5, [.int (nI stw), .int blw, .int mmw, .int (nI nqw), .int (nI nhw), .ref w5, .ref w6, .ref w7, .ref w8, .ref w9, .ref w10, .ref w11, .ref w12])), (w5, .inl (cI, 8, .inl fw5)), (w6, .inl (cI, 8, .inl fw6)), (w7, .inl (cI, 8, .inl fw7)), (w8, .inl (cI, 8, .inl fw8)), (w9, .inl (cI, 8, .inl fw9)), (w10, .inl (cI, 4, .inl fw10)), (w11, .inl (cI, 4, .inl fw11)), (w12, .inl (cI, 4, .inl fw12))] H := hP
  have hD : va_D A [(h0, .inr (5, [.int (nI stw), .int blw, .int mmw, .int (nI nqw), .int (nI nhw), .ref u5, .ref u6, .ref u7, .ref u8, .ref u9, .ref u10, .ref u11, .ref u12])), (u5, .inl (cI, 8, .inl f1)), (u6, .inl (cI, 8, .inl f2)), (u7, .inl (cI, 8, .inl f3)), (u8, .inl (cI, 8, .inl f4)), (u9, .inl (cI, 8, .inl f5)), (u10, .inl (cI, 4, .inl f6)), (u11, .inl (cI, 4, .inl f7)), (u12, .inl (cI, 4, .inl fu12)), (hq, .inr (5, [.int (nI stw), .int blw, .int mmw, .int (nI nqw), .int (nI nhw), .ref w5, .ref w6, .ref w7, .ref w8, .ref w9, .ref w10, .ref w11, .ref w12])), (w5, .inl (cI, 8, .inl fw5)), (w6, .inl (cI, 8, .inl fw6)), (w7, .inl (cI, 8, .inl fw7)), (w8, .inl (cI, 8, .inl fw8)), (w9, .inl (cI, 8, .inl fw9)), (w10, .inl (cI, 4, .inl fw10)), (w11, .inl (cI, 4, .inl fw11)), (w12, .inl (cI, 4, .inl fw12))] := hD
  refine lv_aload_n hx hb dX5_copyFrom_143 rfl (lv_at hl 1 rfl) ?_
  refine va_get (D := (dC, dI)) (ci := 5) (v := .ref w12) (C := RX5) (T := TX5) (N := 13) hx hb hts hi_X5 hown hK hP 9 rfl rfl 12 (by decide) (hts (.fieldLink RX5 50 "LeftQuills$Office" "wants" "[I") (wmx 17 rfl)) (fun _ h9 => h9) rfl dX5_copyFrom_144 ?_
  refine lv_iconst (v := 0) hx hb dX5_copyFrom_147 (by decide) ?_
  refine lv_aload_n hx hb dX5_copyFrom_148 rfl (lv_at hl 0 rfl) ?_
  refine va_get (D := (dC, dI)) (ci := 5) (v := .ref u12) (C := RX5) (T := TX5) (N := 13) hx hb hts hi_X5 hown hK hP 0 rfl rfl 12 (by decide) (hts (.fieldLink RX5 50 "LeftQuills$Office" "wants" "[I") (wmx 17 rfl)) (fun _ h9 => h9) rfl dX5_copyFrom_149 ?_
  refine lv_iconst (v := 0) hx hb dX5_copyFrom_152 (by decide) ?_
  refine lv_iconst (v := 4) hx hb dX5_copyFrom_153 (by decide) ?_
  refine va_copyi hx hb (hml.trans hl.1.symm) hown (hts (.methodLink RX5 53 arraycopyName) (wmx 7 rfl)) (hts (.native arraycopyName) (wmx 8 rfl)) (hts (.static arraycopyName) (wmx 9 rfl)) (hts (.initialized "java/lang/System") (wmx 10 rfl)) hK hP hD hS 17 8 0 0 rfl rfl rfl rfl rfl (by decide) (by decide) (by decide) (by decide) (by decide) (fun _ _ => rfl) (Nat.le_of_ble_eq_true rfl) (Nat.le_of_ble_eq_true rfl) dX5_copyFrom_154 (fun H locs hP hD hS => ?_)
  generalize hgf8 : va_cpy _ _ _ _ _ = f8 at hP hD
  have hP : va_P (dC, dI) vwCl [(h0, .inr (5, [.int (nI stw), .int blw, .int mmw, .int (nI nqw), .int (nI nhw), .ref u5, .ref u6, .ref u7, .ref u8, .ref u9, .ref u10, .ref u11, .ref u12])), (u5, .inl (cI, 8, .inl f1)), (u6, .inl (cI, 8, .inl f2)), (u7, .inl (cI, 8, .inl f3)), (u8, .inl (cI, 8, .inl f4)), (u9, .inl (cI, 8, .inl f5)), (u10, .inl (cI, 4, .inl f6)), (u11, .inl (cI, 4, .inl f7)), (u12, .inl (cI, 4, .inl f8)), (hq, .inr (5, [.int (nI stw), .int blw, .int mmw, .int (nI nqw), .int (nI nhw), .ref w5, .ref w6, .ref w7, .ref w8, .ref w9, .ref w10, .ref w11, .ref w12])), (w5, .inl (cI, 8, .inl fw5)), (w6, .inl (cI, 8, .inl fw6)), (w7, .inl (cI, 8, .inl fw7)), (w8, .inl (cI, 8, .inl fw8)), (w9, .inl (cI, 8, .inl fw9)), (w10, .inl (cI, 4, .inl fw10)), (w11, .inl (cI, 4, .inl fw11)), (w12, .inl (cI, 4, .inl fw12))] H := hP
  have hD : va_D A [(h0, .inr (5, [.int (nI stw), .int blw, .int mmw, .int (nI nqw), .int (nI nhw), .ref u5, .ref u6, .ref u7, .ref u8, .ref u9, .ref u10, .ref u11, .ref u12])), (u5, .inl (cI, 8, .inl f1)), (u6, .inl (cI, 8, .inl f2)), (u7, .inl (cI, 8, .inl f3)), (u8, .inl (cI, 8, .inl f4)), (u9, .inl (cI, 8, .inl f5)), (u10, .inl (cI, 4, .inl f6)), (u11, .inl (cI, 4, .inl f7)), (u12, .inl (cI, 4, .inl f8)), (hq, .inr (5, [.int (nI stw), .int blw, .int mmw, .int (nI nqw), .int (nI nhw), .ref w5, .ref w6, .ref w7, .ref w8, .ref w9, .ref w10, .ref w11, .ref w12])), (w5, .inl (cI, 8, .inl fw5)), (w6, .inl (cI, 8, .inl fw6)), (w7, .inl (cI, 8, .inl fw7)), (w8, .inl (cI, 8, .inl fw8)), (w9, .inl (cI, 8, .inl fw9)), (w10, .inl (cI, 4, .inl fw10)), (w11, .inl (cI, 4, .inl fw11)), (w12, .inl (cI, 4, .inl fw12))] := hD
  have hP9 := hP.sub (ws' := [(h0, .inr (5, [.int (nI stw), .int blw, .int mmw, .int (nI nqw), .int (nI nhw), .ref u5, .ref u6, .ref u7, .ref u8, .ref u9, .ref u10, .ref u11, .ref u12])), (u5, .inl (cI, 8, .inl f1)), (u6, .inl (cI, 8, .inl f2)), (u7, .inl (cI, 8, .inl f3)), (u8, .inl (cI, 8, .inl f4)), (u9, .inl (cI, 8, .inl f5)), (u10, .inl (cI, 4, .inl f6)), (u11, .inl (cI, 4, .inl f7)), (u12, .inl (cI, 4, .inl f8)), (hq, .inr (5, [.int (nI stw), .int blw, .int mmw, .int (nI nqw), .int (nI nhw), .ref w5, .ref w6, .ref w7, .ref w8, .ref w9, .ref w10, .ref w11, .ref w12])), (w5, .inl (cI, 8, .inl fw5)), (w6, .inl (cI, 8, .inl fw6)), (w7, .inl (cI, 8, .inl fw7)), (w8, .inl (cI, 8, .inl fw8)), (w9, .inl (cI, 8, .inl fw9)), (w10, .inl (cI, 4, .inl fw10)), (w11, .inl (cI, 4, .inl fw11)), (w12, .inl (cI, 4, .inl fw12))]) [0, 1, 2, 3, 4, 5, 6, 7, 8, 9, 10, 11, 12, 13, 14, 15, 16, 17] rfl
  have hD9 := hD.sub (ws' := [(h0, .inr (5, [.int (nI stw), .int blw, .int mmw, .int (nI nqw), .int (nI nhw), .ref u5, .ref u6, .ref u7, .ref u8, .ref u9, .ref u10, .ref u11, .ref u12])), (u5, .inl (cI, 8, .inl f1)), (u6, .inl (cI, 8, .inl f2)), (u7, .inl (cI, 8, .inl f3)), (u8, .inl (cI, 8, .inl f4)), (u9, .inl (cI, 8, .inl f5)), (u10, .inl (cI, 4, .inl f6)), (u11, .inl (cI, 4, .inl f7)), (u12, .inl (cI, 4, .inl f8)), (hq, .inr (5, [.int (nI stw), .int blw, .int mmw, .int (nI nqw), .int (nI nhw), .ref w5, .ref w6, .ref w7, .ref w8, .ref w9, .ref w10, .ref w11, .ref w12])), (w5, .inl (cI, 8, .inl fw5)), (w6, .inl (cI, 8, .inl fw6)), (w7, .inl (cI, 8, .inl fw7)), (w8, .inl (cI, 8, .inl fw8)), (w9, .inl (cI, 8, .inl fw9)), (w10, .inl (cI, 4, .inl fw10)), (w11, .inl (cI, 4, .inl fw11)), (w12, .inl (cI, 4, .inl fw12))]) [0, 1, 2, 3, 4, 5, 6, 7, 8, 9, 10, 11, 12, 13, 14, 15, 16, 17] (by decide +kernel) rfl
  exact W.vret hx hb hr (fun t ht hW => ⟨⟨(fun _ => 0), rfl, trivial, ⟨f1, f2, f3, f4, f5, f6, f7, f8, blw, mmw, stw, nqw, nhw, by omega, by omega, by omega, by rw [ht]; exact hP9, hD9⟩⟩, hS.F ht⟩) hS.2.2 dX5_copyFrom_157
