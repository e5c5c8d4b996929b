set_option maxHeartbeats 4000000 in
set_option maxRecDepth 100000 in
theorem c_X7_isFigureF (l : Launch) (dC : Nat → ClassId) (dI : Nat → Nat → Nat) (cI cZ cQ : ClassId) (a0 : Int32) (sz : Nat)  : Met l yX7_isFigure wsX7_isFigure ({ frames := 0, cells := 0, slots := 0, locals := 40 }) (va_Pc [.int a0] (fun U => U.heap.size = sz ∧ va_P (dC, dI) vwCl [] U.heap ∧ va_K (dC, dI) vwCl (tys0 cI cZ cQ) U)) (va_Qi (fun (r : Int32) (u : Nat → Nat) => (r = 1 ∧ isFg a0) ∨ (r = 0 ∧ ¬ isFg a0)) (fun (_ : Nat → Nat) (_ : State) => True) (fun _ : Nat => False)) 0 0 (fun _ : Nat => False) := by
  refine Met.ofW (cc := cX7_isFigure) (maxL := 1) (ret := (some .boolean)) (by decide) rfl ?_
  intro p e s m args below meth c s₁ B hml hv
  obtain ⟨rfl, hsz, hP, hK⟩ := hv
  have hx := B.exec
  have hb := B.bytes
  have hr := B.returns
  have hts := atoms_spec (ws := wsX7_isFigure) B.pre
  have hown : s.vm.findClass RX7 = some m.cls := findClass_of_methodNamed B.named
  have hlocks := B.notSynchronized
  subst hsz
  have hS : va_S (fun _ : Nat => False) s.heap s.heap [] := va_S.rf
  have hl := lv_entry ([.int a0]) (n := 1) (Nat.le_of_ble_eq_true rfl)
  rw [lg_entry_eq]
  generalize (lg_sl ([.int a0]) ++ List.replicate (1 - (lg_sl ([.int a0])).length) Slot.unset).toArray = ls at hl ⊢
  have hl : lv_has ls 1 [(0, .int a0)] := hl
  refine lv_iload_n hx hb dX7_isFigure_0 rfl (lv_at hl 0 rfl) ?_
  refine lv_bipush (v := 48) hx hb dX7_isFigure_1 (by decide) ?_
  refine lv_icmp_lt (tgt := 16) hx hb dX7_isFigure_3 (by decide) (fun c1 => ?_) (fun c1 => ?_)
  ·
    refine lv_iconst (v := 0) hx hb dX7_isFigure_16 (by decide) ?_
    exact W.zret (v := 0) hx hb hr (rfl) (fun t ht hW => ⟨⟨0, (fun _ => 0), rfl, Or.inr ⟨rfl, fun h => absurd h.1 (fa_ltn c1)⟩, trivial⟩, hS.F ht⟩) hS.2.2 dX7_isFigure_17
  ·
    refine lv_iload_n hx hb dX7_isFigure_6 rfl (lv_at hl 0 rfl) ?_
    refine lv_bipush (v := 57) hx hb dX7_isFigure_7 (by decide) ?_
    refine lv_icmp_gt (tgt := 16) hx hb dX7_isFigure_9 (by decide) (fun c2 => ?_) (fun c2 => ?_)
    ·
      refine lv_iconst (v := 0) hx hb dX7_isFigure_16 (by decide) ?_
      exact W.zret (v := 0) hx hb hr (rfl) (fun t ht hW => ⟨⟨0, (fun _ => 0), rfl, Or.inr ⟨rfl, fun h => absurd h.2 (fa_ltn c2)⟩, trivial⟩, hS.F ht⟩) hS.2.2 dX7_isFigure_17
    ·
      refine lv_iconst (v := 1) hx hb dX7_isFigure_12 (by decide) ?_
      refine lv_goto (tgt := 17) hx hb dX7_isFigure_13 (by decide) ?_
      exact W.zret (v := 1) hx hb hr (rfl) (fun t ht hW => ⟨⟨1, (fun _ => 0), rfl, Or.inl ⟨rfl, fa_nlt c1, fa_nlt c2⟩, trivial⟩, hS.F ht⟩) hS.2.2 dX7_isFigure_17
set_option maxHeartbeats 4000000 in
set_option maxRecDepth 100000 in
theorem c_X7_letterHereF (l : Launch) (dC : Nat → ClassId) (dI : Nat → Nat → Nat) (cI cZ cQ : ClassId) (h0 : Nat) (le : Nat) (ln : Nat) (at9 : Nat) (f_h0 : List Value) (fle : Nat → Int32) (T0 : Nat → Int32) (sz : Nat) (e_h0_3 : fAt f_h0 3 = some (.ref le)) (e_h0_4 : fAt f_h0 4 = some (.int (nI ln))) (e_h0_5 : fAt f_h0 5 = some (.int (nI at9))) (hln : ln ≤ 220) (hat : at9 ≤ ln) (hT : ∀ j, j < ln → fle j = T0 j) : Met l yX7_letterHere wsX7_letterHere ({ frames := 0, cells := 0, slots := 0, locals := 40 }) (va_Pc [.ref h0] (fun U => U.heap.size = sz ∧ va_P (dC, dI) vwCl [(h0, .inr (7, f_h0)), (le, .inl (cI, 220, .inl fle))] U.heap ∧ va_K (dC, dI) vwCl (tys0 cI cZ cQ) U)) (va_Qi (fun (r : Int32) (u : Nat → Nat) => r = ltr T0 ln at9) (fun (_ : Nat → Nat) (_ : State) => True) (fun _ : Nat => False)) 0 0 (fun _ : Nat => False) := by
  refine Met.ofW (cc := cX7_letterHere) (maxL := 1) (ret := (some .int)) (by decide) rfl ?_
  intro p e s m args below meth c s₁ B hml hv
  obtain ⟨rfl, hsz, hP, hK⟩ := hv
  have hx := B.exec
  have hb := B.bytes
  have hr := B.returns
  have hts := atoms_spec (ws := wsX7_letterHere) B.pre
  have hown : s.vm.findClass RX7 = some m.cls := findClass_of_methodNamed B.named
  have hlocks := B.notSynchronized
  have hi_X7 : ∀ w ∈ u_ws RX7 TX7 7, w ∈ wsX7_letterHere := fun _ h => List.mem_cons_of_mem _ (List.mem_append_right _ (h))
  subst hsz
  have hS : va_S (fun _ : Nat => False) s.heap s.heap [] := va_S.rf
  have hl := lv_entry ([.ref h0]) (n := 1) (Nat.le_of_ble_eq_true rfl)
  rw [lg_entry_eq]
  generalize (lg_sl ([.ref h0]) ++ List.replicate (1 - (lg_sl ([.ref h0])).length) Slot.unset).toArray = ls at hl ⊢
  have hl : lv_has ls 1 [(0, .ref h0)] := hl
  refine lv_aload_n hx hb dX7_letterHere_0 rfl (lv_at hl 0 rfl) ?_
  refine va_get (D := (dC, dI)) (ci := 7) (v := .int (nI at9)) (C := RX7) (T := TX7) (N := 7) hx hb hts hi_X7 hown hK hP 0 rfl rfl 5 (by decide) (hts (.fieldLink RX7 32 "LeftQuills$Reader" "at" "I") (wmx 1 rfl)) (fun _ h9 => h9) e_h0_5 dX7_letterHere_1 ?_
  refine lv_aload_n hx hb dX7_letterHere_4 rfl (lv_at hl 0 rfl) ?_
  refine va_get (D := (dC, dI)) (ci := 7) (v := .int (nI ln)) (C := RX7) (T := TX7) (N := 7) hx hb hts hi_X7 hown hK hP 0 rfl rfl 4 (by decide) (hts (.fieldLink RX7 29 "LeftQuills$Reader" "length" "I") (wmx 2 rfl)) (fun _ h9 => h9) e_h0_4 dX7_letterHere_5 ?_
  refine lv_icmp_ge (tgt := 23) hx hb dX7_letterHere_8 (by decide) (fun c1 => ?_) (fun c1 => ?_)
  ·
    have c1 : ln ≤ at9 := (nI_leI (a := ln) (b := at9) (by omega) (by omega)).mp c1
    refine lv_iconst (v := (-1)) hx hb dX7_letterHere_23 (by decide) ?_
    exact W.iret (v := (-1)) hx hb hr (fun t ht hW => ⟨⟨(-1), (fun _ => 0), rfl, (if_neg (by omega)).symm, trivial⟩, hS.F ht⟩) hS.2.2 dX7_letterHere_24
  ·
    have c1 : ¬ ln ≤ at9 := fun h => c1 ((nI_leI (a := ln) (b := at9) (by omega) (by omega)).mpr h)
    refine lv_aload_n hx hb dX7_letterHere_11 rfl (lv_at hl 0 rfl) ?_
    refine va_get (D := (dC, dI)) (ci := 7) (v := .ref le) (C := RX7) (T := TX7) (N := 7) hx hb hts hi_X7 hown hK hP 0 rfl rfl 3 (by decide) (hts (.fieldLink RX7 26 "LeftQuills$Reader" "letters" "[I") (wmx 3 rfl)) (fun _ h9 => h9) e_h0_3 dX7_letterHere_12 ?_
    refine lv_aload_n hx hb dX7_letterHere_15 rfl (lv_at hl 0 rfl) ?_
    refine va_get (D := (dC, dI)) (ci := 7) (v := .int (nI at9)) (C := RX7) (T := TX7) (N := 7) hx hb hts hi_X7 hown hK hP 0 rfl rfl 5 (by decide) (hts (.fieldLink RX7 32 "LeftQuills$Reader" "at" "I") (wmx 1 rfl)) (fun _ h9 => h9) e_h0_5 dX7_letterHere_16 ?_
    refine va_iald hx hb hK hP 1 0 rfl rfl (vp_in_nI (n := at9) (N := 220) (by omega) (by decide)) dX7_letterHere_19 ?_
    refine W.eq (g2 := F0 m 20 ls [.int (fle at9)]) (congrArg (fun y9 => F0 m 20 ls (.int (fle y9) :: [])) ((nI_clamp (n := at9) (by omega)))) ?_
    refine lv_goto (tgt := 24) hx hb dX7_letterHere_20 (by decide) ?_
    exact W.iret (v := fle at9) hx hb hr (fun t ht hW => ⟨⟨fle at9, (fun _ => 0), rfl, ((hT _ (by omega)).trans (if_pos (by omega)).symm), trivial⟩, hS.F ht⟩) hS.2.2 dX7_letterHere_24
set_option maxHeartbeats 4000000 in
set_option maxRecDepth 100000 in
theorem c_X7_failF (l : Launch) (dC : Nat → ClassId) (dI : Nat → Nat → Nat) (cI cZ cQ : ClassId) (h0 : Nat) (dr : Nat) (fa : Int32) (nu : Nat) (le : Nat) (ln : Nat) (at9 : Nat) (fu : Int32) (a0 : Int32) (a1 : Int32) (sz : Nat)  : Met l yX7_fail wsX7_fail ({ frames := 0, cells := 0, slots := 0, locals := 40 }) (va_Pc [.ref h0, .int a0, .int a1] (fun U => U.heap.size = sz ∧ va_P (dC, dI) vwCl [(h0, .inr (7, [.ref dr, .int fa, .ref nu, .ref le, .int (nI ln), .int (nI at9), .int fu]))] U.heap ∧ va_K (dC, dI) vwCl (tys0 cI cZ cQ) U ∧ va_D (fun _ => True) [(h0, .inr (7, [.ref dr, .int fa, .ref nu, .ref le, .int (nI ln), .int (nI at9), .int fu]))])) (va_Qv (fun (u : Nat → Nat) => True) (fun (_ : Nat → Nat) (t : State) => ∃ (ii0 ii1 : Int32) , (ii1 = a0) ∧ (ii0 = a1) ∧ va_P (dC, dI) vwCl [(h0, .inr (7, [.ref dr, .int ii0, .ref nu, .ref le, .int (nI ln), .int (nI at9), .int ii1]))] t.heap ∧ va_D (va_A [(h0, .inr (7, [.ref dr, .int fa, .ref nu, .ref le, .int (nI ln), .int (nI at9), .int fu]))] sz) [(h0, .inr (7, [.ref dr, .int ii0, .ref nu, .ref le, .int (nI ln), .int (nI at9), .int ii1]))]) (va_A [(h0, .inr (7, [.ref dr, .int fa, .ref nu, .ref le, .int (nI ln), .int (nI at9), .int fu]))] sz)) 0 0 (va_A [(h0, .inr (7, [.ref dr, .int fa, .ref nu, .ref le, .int (nI ln), .int (nI at9), .int fu]))] sz) := by
  refine Met.ofW (cc := cX7_fail) (maxL := 3) (ret := none) (by decide) rfl ?_
  intro p e s m args below meth c s₁ B hml hv
  obtain ⟨rfl, hsz, hP, hK, hD0⟩ := hv
  have hx := B.exec
  have hb := B.bytes
  have hr := B.returns
  have hts := atoms_spec (ws := wsX7_fail) B.pre
  have hown : s.vm.findClass RX7 = some m.cls := findClass_of_methodNamed B.named
  have hlocks := B.notSynchronized
  have hi_X7 : ∀ w ∈ u_ws RX7 TX7 7, w ∈ wsX7_fail := fun _ h => List.mem_cons_of_mem _ (List.mem_append_right _ (h))
  subst hsz
  have hD := hD0.self (sz := s.heap.size)
  generalize hAe : va_A [(h0, .inr (7, [.ref dr, .int fa, .ref nu, .ref le, .int (nI ln), .int (nI at9), .int fu]))] s.heap.size = A at hD ⊢
  have hA : ∀ q : Nat, s.heap.size ≤ q → A q := fun q h => by rw [← hAe]; exact Or.inr h
  have hS : va_S A s.heap s.heap [] := va_S.rf
  have hl := lv_entry ([.ref h0, .int a0, .int a1]) (n := 3) (Nat.le_of_ble_eq_true rfl)
  rw [lg_entry_eq]
  generalize (lg_sl ([.ref h0, .int a0, .int a1]) ++ List.replicate (3 - (lg_sl ([.ref h0, .int a0, .int a1])).length) Slot.unset).toArray = ls at hl ⊢
  have hl : lv_has ls 3 [(0, .ref h0), (1, .int a0), (2, .int a1)] := hl
  refine lv_aload_n hx hb dX7_fail_0 rfl (lv_at hl 0 rfl) ?_
  refine lv_iload_n hx hb dX7_fail_1 rfl (lv_at hl 1 rfl) ?_
  refine va_put (D := (dC, dI)) (ci := 7) (v := .int a0) (ty := .int) (C := RX7) (T := TX7) (N := 7) hx hb hts hi_X7 tyX7 tyX7_ok nmX7 hown hK hP hD hS 0 rfl rfl 6 (by decide) (hts (.fieldLink RX7 35 "LeftQuills$Reader" "fault" "I") (wmx 1 rfl)) (fun _ h9 => h9) rfl (by decide +kernel) rfl rfl (Nat.le_of_ble_eq_true rfl) dX7_fail_2 (fun H locs hP hD hS => ?_)
  have hPD : pdW (dC, dI) vwCl A [(h0, .inr (7, [.ref dr, .int fa, .ref nu, .ref le, .int (nI ln), .int (nI at9), .int a0]))] H := ⟨hP, hD⟩
  have hP := hPD.1
  have hD := hPD.2
  clear hPD
  refine lv_aload_n hx hb dX7_fail_5 rfl (lv_at hl 0 rfl) ?_
  refine lv_iload_n hx hb dX7_fail_6 rfl (lv_at hl 2 rfl) ?_
  refine va_put (D := (dC, dI)) (ci := 7) (v := .int a1) (ty := .int) (C := RX7) (T := TX7) (N := 7) hx hb hts hi_X7 tyX7 tyX7_ok nmX7 hown hK hP hD hS 0 rfl rfl 1 (by decide) (hts (.fieldLink RX7 18 "LeftQuills$Reader" "faultAt" "I") (wmx 2 rfl)) (fun _ h9 => h9) rfl (by decide +kernel) rfl rfl (Nat.le_of_ble_eq_true rfl) dX7_fail_7 (fun H locs hP hD hS => ?_)
  have hPD : pdW (dC, dI) vwCl A [(h0, .inr (7, [.ref dr, .int a1, .ref nu, .ref le, .int (nI ln), .int (nI at9), .int a0]))] H := ⟨hP, hD⟩
  have hP := hPD.1
  have hD := hPD.2
  clear hPD
  have hP9 := hP.sub (ws' := [(h0, .inr (7, [.ref dr, .int a1, .ref nu, .ref le, .int (nI ln), .int (nI at9), .int a0]))]) [0] rfl
  have hD9 := hD.sub (ws' := [(h0, .inr (7, [.ref dr, .int a1, .ref nu, .ref le, .int (nI ln), .int (nI at9), .int a0]))]) [0] (by decide +kernel) rfl
  exact W.vret hx hb hr (fun t ht hW => ⟨⟨(fun _ => 0), rfl, trivial, ⟨a1, a0, rfl, rfl, va_hq ht hP9, hD9⟩⟩, hS.F ht⟩) hS.2.2 dX7_fail_10
set_option maxHeartbeats 4000000 in
set_option maxRecDepth 100000 in
theorem c_X7_skipBlanksF (l : Launch) (dC : Nat → ClassId) (dI : Nat → Nat → Nat) (cI cZ cQ : ClassId) (h0 : Nat) (dr : Nat) (fa : Int32) (nu : Nat) (le : Nat) (ln : Nat) (at9 : Nat) (fu : Int32) (fle : Nat → Int32) (T0 : Nat → Int32) (sz : Nat) (hln : ln ≤ 220) (hat : at9 ≤ ln) (hT : ∀ j, j < ln → fle j = T0 j) : Met l yX7_skipBlanks wsX7_skipBlanks ({ frames := 0, cells := 0, slots := 0, locals := 40 }) (va_Pc [.ref h0] (fun U => U.heap.size = sz ∧ va_P (dC, dI) vwCl [(h0, .inr (7, [.ref dr, .int fa, .ref nu, .ref le, .int (nI ln), .int (nI at9), .int fu])), (le, .inl (cI, 220, .inl fle))] U.heap ∧ va_K (dC, dI) vwCl (tys0 cI cZ cQ) U ∧ va_D (fun _ => True) [(h0, .inr (7, [.ref dr, .int fa, .ref nu, .ref le, .int (nI ln), .int (nI at9), .int fu])), (le, .inl (cI, 220, .inl fle))])) (va_Qv (fun (u : Nat → Nat) => True) (fun (_ : Nat → Nat) (t : State) => ∃ (kk0 : Nat), kk0 ≤ ln ∧ (kk0 = sk T0 ln at9) ∧ va_P (dC, dI) vwCl [(h0, .inr (7, [.ref dr, .int fa, .ref nu, .ref le, .int (nI ln), .int (nI kk0), .int fu])), (le, .inl (cI, 220, .inl fle))] t.heap ∧ va_D (va_A [(h0, .inr (7, [.ref dr, .int fa, .ref nu, .ref le, .int (nI ln), .int (nI at9), .int fu])), (le, .inl (cI, 220, .inl fle))] sz) [(h0, .inr (7, [.ref dr, .int fa, .ref nu, .ref le, .int (nI ln), .int (nI kk0), .int fu])), (le, .inl (cI, 220, .inl fle))]) (va_A [(h0, .inr (7, [.ref dr, .int fa, .ref nu, .ref le, .int (nI ln), .int (nI at9), .int fu])), (le, .inl (cI, 220, .inl fle))] sz)) 0 0 (va_A [(h0, .inr (7, [.ref dr, .int fa, .ref nu, .ref le, .int (nI ln), .int (nI at9), .int fu])), (le, .inl (cI, 220, .inl fle))] sz) := by
  refine Met.ofW (cc := cX7_skipBlanks) (maxL := 1) (ret := none) (by decide) rfl ?_
  intro p e s m args below meth c s₁ B hml hv
  obtain ⟨rfl, hsz, hP, hK, hD0⟩ := hv
  have hx := B.exec
  have hb := B.bytes
  have hr := B.returns
  have hts := atoms_spec (ws := wsX7_skipBlanks) B.pre
  have hown : s.vm.findClass RX7 = some m.cls := findClass_of_methodNamed B.named
  have hlocks := B.notSynchronized
  have hi_X7 : ∀ w ∈ u_ws RX7 TX7 7, w ∈ wsX7_skipBlanks := fun _ h => List.mem_cons_of_mem _ (List.mem_append_right _ (h))
  subst hsz
  have hD := hD0.self (sz := s.heap.size)
  generalize hAe : va_A [(h0, .inr (7, [.ref dr, .int fa, .ref nu, .ref le, .int (nI ln), .int (nI at9), .int fu])), (le, .inl (cI, 220, .inl fle))] s.heap.size = A at hD ⊢
  have hA : ∀ q : Nat, s.heap.size ≤ q → A q := fun q h => by rw [← hAe]; exact Or.inr h
  have hS : va_S A s.heap s.heap [] := va_S.rf
  have hl := lv_entry ([.ref h0]) (n := 1) (Nat.le_of_ble_eq_true rfl)
  rw [lg_entry_eq]
  generalize (lg_sl ([.ref h0]) ++ List.replicate (1 - (lg_sl ([.ref h0])).length) Slot.unset).toArray = ls at hl ⊢
  have hl : lv_has ls 1 [(0, .ref h0)] := hl
  refine (fun (K : ∀ (d0 : Nat) (k0 : Nat) (H : Heap) (locs : List Loc) (ls : Array Slot), k0 + d0 = ln → sk T0 ln k0 = sk T0 ln at9 → va_P (dC, dI) vwCl [(h0, .inr (7, [.ref dr, .int fa, .ref nu, .ref le, .int (nI ln), .int (nI k0), .int fu])), (le, .inl (cI, 220, .inl fle))] H → va_D A [(h0, .inr (7, [.ref dr, .int fa, .ref nu, .ref le, .int (nI ln), .int (nI k0), .int fu])), (le, .inl (cI, 220, .inl fle))] → va_S A s.heap H locs → lv_has ls 1 [(0, .ref h0)] → W p l e _ s m _ below meth c H locs _ _ _ (F0 m 0 ls [])) => K (ln - at9) at9 _ _ _ (by omega) rfl hP hD hS (lv_sub hl [0] rfl)) ?_
  intro d0
  induction d0 with
  | zero =>
    intro k0 H locs ls hk0 hv0_0 hP hD hS hl
    refine lv_aload_n hx hb dX7_skipBlanks_0 rfl (lv_at hl 0 rfl) ?_
    refine va_get (D := (dC, dI)) (ci := 7) (v := .int (nI k0)) (C := RX7) (T := TX7) (N := 7) hx hb hts hi_X7 hown hK hP 0 rfl rfl 5 (by decide) (hts (.fieldLink RX7 32 "LeftQuills$Reader" "at" "I") (wmx 1 rfl)) (fun _ h9 => h9) rfl dX7_skipBlanks_1 ?_
    refine lv_aload_n hx hb dX7_skipBlanks_4 rfl (lv_at hl 0 rfl) ?_
    refine va_get (D := (dC, dI)) (ci := 7) (v := .int (nI ln)) (C := RX7) (T := TX7) (N := 7) hx hb hts hi_X7 hown hK hP 0 rfl rfl 4 (by decide) (hts (.fieldLink RX7 29 "LeftQuills$Reader" "length" "I") (wmx 2 rfl)) (fun _ h9 => h9) rfl dX7_skipBlanks_5 ?_
    refine lv_icmp_ge (tgt := 38) hx hb dX7_skipBlanks_8 (by decide) (fun c1 => ?_) (fun c1 => ?_)
    ·
      have c1 : ln ≤ k0 := (nI_leI (a := ln) (b := k0) (by omega) (by omega)).mp c1
      have hP9 := hP.sub (ws' := [(h0, .inr (7, [.ref dr, .int fa, .ref nu, .ref le, .int (nI ln), .int (nI k0), .int fu])), (le, .inl (cI, 220, .inl fle))]) [0, 1] rfl
      have hD9 := hD.sub (ws' := [(h0, .inr (7, [.ref dr, .int fa, .ref nu, .ref le, .int (nI ln), .int (nI k0), .int fu])), (le, .inl (cI, 220, .inl fle))]) [0, 1] (by decide +kernel) rfl
      exact W.vret hx hb hr (fun t ht hW => ⟨⟨(fun _ => 0), rfl, trivial, ⟨k0, by omega, ((sk_stop (fun c9 => absurd c9.1 (by omega))).symm.trans hv0_0), va_hq ht hP9, hD9⟩⟩, hS.F ht⟩) hS.2.2 dX7_skipBlanks_38
    ·
      have c1 : ¬ ln ≤ k0 := fun h => c1 ((nI_leI (a := ln) (b := k0) (by omega) (by omega)).mpr h)
      omega
  | succ d0 ih0 =>
    intro k0 H locs ls hk0 hv0_0 hP hD hS hl
    refine lv_aload_n hx hb dX7_skipBlanks_0 rfl (lv_at hl 0 rfl) ?_
    refine va_get (D := (dC, dI)) (ci := 7) (v := .int (nI k0)) (C := RX7) (T := TX7) (N := 7) hx hb hts hi_X7 hown hK hP 0 rfl rfl 5 (by decide) (hts (.fieldLink RX7 32 "LeftQuills$Reader" "at" "I") (wmx 1 rfl)) (fun _ h9 => h9) rfl dX7_skipBlanks_1 ?_
    refine lv_aload_n hx hb dX7_skipBlanks_4 rfl (lv_at hl 0 rfl) ?_
    refine va_get (D := (dC, dI)) (ci := 7) (v := .int (nI ln)) (C := RX7) (T := TX7) (N := 7) hx hb hts hi_X7 hown hK hP 0 rfl rfl 4 (by decide) (hts (.fieldLink RX7 29 "LeftQuills$Reader" "length" "I") (wmx 2 rfl)) (fun _ h9 => h9) rfl dX7_skipBlanks_5 ?_
    refine lv_icmp_ge (tgt := 38) hx hb dX7_skipBlanks_8 (by decide) (fun c2 => ?_) (fun c2 => ?_)
    ·
      have c2 : ln ≤ k0 := (nI_leI (a := ln) (b := k0) (by omega) (by omega)).mp c2
      omega
    ·
      have c2 : ¬ ln ≤ k0 := fun h => c2 ((nI_leI (a := ln) (b := k0) (by omega) (by omega)).mpr h)
      refine lv_aload_n hx hb dX7_skipBlanks_11 rfl (lv_at hl 0 rfl) ?_
      refine va_get (D := (dC, dI)) (ci := 7) (v := .ref le) (C := RX7) (T := TX7) (N := 7) hx hb hts hi_X7 hown hK hP 0 rfl rfl 3 (by decide) (hts (.fieldLink RX7 26 "LeftQuills$Reader" "letters" "[I") (wmx 3 rfl)) (fun _ h9 => h9) rfl dX7_skipBlanks_12 ?_
      refine lv_aload_n hx hb dX7_skipBlanks_15 rfl (lv_at hl 0 rfl) ?_
      refine va_get (D := (dC, dI)) (ci := 7) (v := .int (nI k0)) (C := RX7) (T := TX7) (N := 7) hx hb hts hi_X7 hown hK hP 0 rfl rfl 5 (by decide) (hts (.fieldLink RX7 32 "LeftQuills$Reader" "at" "I") (wmx 1 rfl)) (fun _ h9 => h9) rfl dX7_skipBlanks_16 ?_
      refine va_iald hx hb hK hP 1 0 rfl rfl (vp_in_nI (n := k0) (N := 220) (by omega) (by decide)) dX7_skipBlanks_19 ?_
      refine W.eq (g2 := F0 m 20 ls [.int (fle k0)]) (congrArg (fun y9 => F0 m 20 ls (.int (fle y9) :: [])) ((nI_clamp (n := k0) (by omega)))) ?_
      refine lv_bipush (v := 32) hx hb dX7_skipBlanks_20 (by decide) ?_
      refine lv_icmp_ne (tgt := 38) hx hb dX7_skipBlanks_22 (by decide) (fun c3 => ?_) (fun c3 => ?_)
      ·
        have hP9 := hP.sub (ws' := [(h0, .inr (7, [.ref dr, .int fa, .ref nu, .ref le, .int (nI ln), .int (nI k0), .int fu])), (le, .inl (cI, 220, .inl fle))]) [0, 1] rfl
        have hD9 := hD.sub (ws' := [(h0, .inr (7, [.ref dr, .int fa, .ref nu, .ref le, .int (nI ln), .int (nI k0), .int fu])), (le, .inl (cI, 220, .inl fle))]) [0, 1] (by decide +kernel) rfl
        exact W.vret hx hb hr (fun t ht hW => ⟨⟨(fun _ => 0), rfl, trivial, ⟨k0, by omega, ((sk_stop (fun c9 => c3 ((hT _ (by omega)).trans c9.2))).symm.trans hv0_0), va_hq ht hP9, hD9⟩⟩, hS.F ht⟩) hS.2.2 dX7_skipBlanks_38
      ·
        refine lv_aload_n hx hb dX7_skipBlanks_25 rfl (lv_at hl 0 rfl) ?_
        refine lv_dup hx hb dX7_skipBlanks_26 rfl ?_
        refine va_get (D := (dC, dI)) (ci := 7) (v := .int (nI k0)) (C := RX7) (T := TX7) (N := 7) hx hb hts hi_X7 hown hK hP 0 rfl rfl 5 (by decide) (hts (.fieldLink RX7 32 "LeftQuills$Reader" "at" "I") (wmx 1 rfl)) (fun _ h9 => h9) rfl dX7_skipBlanks_27 ?_
        refine lv_iconst (v := 1) hx hb dX7_skipBlanks_30 (by decide) ?_
        refine lv_iadd hx hb dX7_skipBlanks_31 ?_
        refine lv_topi (fun z4 ez4 => ?_)
        obtain rfl : z4 = nI (k0 + 1) := ez4.trans (nI_add k0 1)
        refine va_put (D := (dC, dI)) (ci := 7) (v := .int (nI (k0 + 1))) (ty := .int) (C := RX7) (T := TX7) (N := 7) hx hb hts hi_X7 tyX7 tyX7_ok nmX7 hown hK hP hD hS 0 rfl rfl 5 (by decide) (hts (.fieldLink RX7 32 "LeftQuills$Reader" "at" "I") (wmx 1 rfl)) (fun _ h9 => h9) rfl (by decide +kernel) rfl rfl (Nat.le_of_ble_eq_true rfl) dX7_skipBlanks_32 (fun H locs hP hD hS => ?_)
        have hPD : pdW (dC, dI) vwCl A [(h0, .inr (7, [.ref dr, .int fa, .ref nu, .ref le, .int (nI ln), .int (nI (k0 + 1)), .int fu])), (le, .inl (cI, 220, .inl fle))] H := ⟨hP, hD⟩
        have hP := hPD.1
        have hD := hPD.2
        clear hPD
        refine lv_goto (tgt := 0) hx hb dX7_skipBlanks_35 (by decide) ?_
        exact ih0 (k0 + 1) _ _ _ (by omega) ((sk_step (by omega) ((hT _ (by omega)).symm.trans c3)).trans hv0_0) hP hD hS (lv_sub hl [0] rfl)
set_option maxHeartbeats 4000000 in
set_option maxRecDepth 100000 in
theorem c_X7_readNumberF (l : Launch) (dC : Nat → ClassId) (dI : Nat → Nat → Nat) (cI cZ cQ : ClassId) (h0 : Nat) (dr : Nat) (fa : Int32) (nu : Nat) (le : Nat) (ln : Nat) (at9 : Nat) (fu : Int32) (fle : Nat → Int32) (fnu : Nat → Int32) (k : Nat) (a0 : Int32) (a1 : Int32) (T0 : Nat → Int32) (sz : Nat) (hln : ln ≤ 220) (hat : at9 ≤ ln) (hT : ∀ j, j < ln → fle j = T0 j) (hk : k < 5) : Met l yX7_readNumber wsX7_readNumber ({ frames := 1, cells := 0, slots := 0, locals := 62 }) (va_Pc [.ref h0, .int (nI k), .int a0, .int a1] (fun U => U.heap.size = sz ∧ va_P (dC, dI) vwCl [(h0, .inr (7, [.ref dr, .int fa, .ref nu, .ref le, .int (nI ln), .int (nI at9), .int fu])), (le, .inl (cI, 220, .inl fle)), (nu, .inl (cI, 5, .inl fnu))] U.heap ∧ va_K (dC, dI) vwCl (tys0 cI cZ cQ) U ∧ va_D (fun _ => True) [(h0, .inr (7, [.ref dr, .int fa, .ref nu, .ref le, .int (nI ln), .int (nI at9), .int fu])), (le, .inl (cI, 220, .inl fle)), (nu, .inl (cI, 5, .inl fnu))] ∧ xN U)) (va_Qi (fun (r : Int32) (u : Nat → Nat) => r = nI (u 0)) (fun (u : Nat → Nat) (t : State) => ∃ (gg0 : Nat → Int32) (ii0 ii2 : Int32) (kk1 : Nat), kk1 ≤ ln ∧ ((u 0 = 1 ∧ nmF T0 ln at9 a0 a1 = 0 ∧ kk1 = nmE T0 ln at9 ∧ fu = ii2 ∧ fa = ii0 ∧ gg0 = upd fnu k (nmV T0 ln at9)) ∨ (u 0 = 0 ∧ nmF T0 ln at9 a0 a1 ≠ 0 ∧ ii2 = nI (nmF T0 ln at9 a0 a1) ∧ ii0 = nI (sk T0 ln at9))) ∧ va_P (dC, dI) vwCl [(h0, .inr (7, [.ref dr, .int ii0, .ref nu, .ref le, .int (nI ln), .int (nI kk1), .int ii2])), (le, .inl (cI, 220, .inl fle)), (nu, .inl (cI, 5, .inl gg0))] t.heap ∧ va_D (va_A [(h0, .inr (7, [.ref dr, .int fa, .ref nu, .ref le, .int (nI ln), .int (nI at9), .int fu])), (le, .inl (cI, 220, .inl fle)), (nu, .inl (cI, 5, .inl fnu))] sz) [(h0, .inr (7, [.ref dr, .int ii0, .ref nu, .ref le, .int (nI ln), .int (nI kk1), .int ii2])), (le, .inl (cI, 220, .inl fle)), (nu, .inl (cI, 5, .inl gg0))]) (va_A [(h0, .inr (7, [.ref dr, .int fa, .ref nu, .ref le, .int (nI ln), .int (nI at9), .int fu])), (le, .inl (cI, 220, .inl fle)), (nu, .inl (cI, 5, .inl fnu))] sz)) 0 0 (va_A [(h0, .inr (7, [.ref dr, .int fa, .ref nu, .ref le, .int (nI ln), .int (nI at9), .int fu])), (le, .inl (cI, 220, .inl fle)), (nu, .inl (cI, 5, .inl fnu))] sz) := by
  refine Met.ofW (cc := cX7_readNumber) (maxL := 6) (ret := (some .boolean)) (by decide) rfl ?_
  intro p e s m args below meth c s₁ B hml hv
  obtain ⟨rfl, hsz, hP, hK, hD0, hN⟩ := hv
  have hx := B.exec
  have hb := B.bytes
  have hr := B.returns
  have hts := atoms_spec (ws := wsX7_readNumber) B.pre
  have hown : s.vm.findClass RX7 = some m.cls := findClass_of_methodNamed B.named
  have hlocks := B.notSynchronized
  have hi_X7 : ∀ w ∈ u_ws RX7 TX7 7, w ∈ wsX7_readNumber := fun _ h => List.mem_cons_of_mem _ (List.mem_append_right _ (h))
  subst hsz
  have hD := hD0.self (sz := s.heap.size)
  generalize hAe : va_A [(h0, .inr (7, [.ref dr, .int fa, .ref nu, .ref le, .int (nI ln), .int (nI at9), .int fu])), (le, .inl (cI, 220, .inl fle)), (nu, .inl (cI, 5, .inl fnu))] s.heap.size = A at hD ⊢
  have hA : ∀ q : Nat, s.heap.size ≤ q → A q := fun q h => by rw [← hAe]; exact Or.inr h
  have hS : va_S A s.heap s.heap [] := va_S.rf
  have hl := lv_entry ([.ref h0, .int (nI k), .int a0, .int a1]) (n := 6) (Nat.le_of_ble_eq_true rfl)
  rw [lg_entry_eq]
  generalize (lg_sl ([.ref h0, .int (nI k), .int a0, .int a1]) ++ List.replicate (6 - (lg_sl ([.ref h0, .int (nI k), .int a0, .int a1])).length) Slot.unset).toArray = ls at hl ⊢
  have hl : lv_has ls 6 [(0, .ref h0), (1, .int (nI k)), (2, .int a0), (3, .int a1)] := hl
  refine lv_aload_n hx hb dX7_readNumber_0 rfl (lv_at hl 0 rfl) ?_
  have hc9 := va_cut (W' := [(h0, .inr (7, [.ref dr, .int fa, .ref nu, .ref le, .int (nI ln), .int (nI at9), .int fu])), (le, .inl (cI, 220, .inl fle))]) hP hD hS hA [0, 1] (by decide) rfl
  have hPc := hc9.1
  have hDc := hc9.2.1
  have hFc := hc9.2.2
  clear hc9
  refine va_callv (va_runV (As := []) (rest := []) ⟨hx, hb, hml, hown, hts⟩ (c_X7_skipBlanksF l dC dI cI cZ cQ h0 dr fa nu le ln at9 fu fle T0 s.heap.size (by omega) (by omega) hT) (cwV 0 hts gX7_readNumber_X7_skipBlanks rfl rfl rfl hd_X7_skipBlanks_RX7 ⟨Nat.le_of_ble_eq_true rfl, Nat.le_of_ble_eq_true rfl⟩) (pv_D (va_recv hK hP (ci := 7) (q0 := 0) rfl rfl) hK hPc hDc) rfl rfl hl.1 rfl (lv_room (Nat.le_of_ble_eq_true rfl)) dX7_readNumber_1 ⟨Nat.le_of_ble_eq_true rfl, Nat.le_of_ble_eq_true rfl⟩) hS (fun q _ h => hFc q h) hFc (fun u2 t H1 locs ht hvm hw3 hB hz1 hk1 hS => ?_)
  obtain ⟨k4, hk4, he5, hP1, hD1⟩ := hB
  replace hP1 := va_hp ht hP1
  obtain ⟨hP, hD⟩ := va_join (wr := [(nu, .inl (cI, 5, .inl fnu))]) (w1 := [(h0, .inr (7, [.ref dr, .int fa, .ref nu, .ref le, .int (nI ln), .int (nI k4), .int fu])), (le, .inl (cI, 220, .inl fle))]) hP hD [0, 1] [2] rfl rfl (by decide +kernel) (by decide +kernel) hk1 hFc hP1 hD1
  clear hP1 hD1
  clear hz1 hk1 hPc hDc hFc
  generalize H1 = H at hP hS ht ⊢
  have hPD : pdW (dC, dI) vwCl A [(nu, .inl (cI, 5, .inl fnu)), (h0, .inr (7, [.ref dr, .int fa, .ref nu, .ref le, .int (nI ln), .int (nI k4), .int fu])), (le, .inl (cI, 220, .inl fle))] H := ⟨hP, hD⟩
  have hP := hPD.1
  have hD := hPD.2
  clear hPD
  try dsimp only at hw3
  refine lv_aload_n hx hb dX7_readNumber_4 rfl (lv_at hl 0 rfl) ?_
  refine va_get (D := (dC, dI)) (ci := 7) (v := .int (nI k4)) (C := RX7) (T := TX7) (N := 7) hx hb hts hi_X7 hown hK hP 1 rfl rfl 5 (by decide) (hts (.fieldLink RX7 32 "LeftQuills$Reader" "at" "I") (wmx 1 rfl)) (fun _ h9 => h9) rfl dX7_readNumber_5 ?_
  refine lv_istore (lv' := [(4, .int (nI k4)), (0, .ref h0), (1, .int (nI k)), (2, .int a0), (3, .int a1)]) hx hb dX7_readNumber_8 hl (by decide) rfl (fun ls hl => ?_)
  refine lv_iconst (v := 0) hx hb dX7_readNumber_10 (by decide) ?_
  refine lv_istore (lv' := [(5, .int 0), (4, .int (nI k4)), (0, .ref h0), (1, .int (nI k)), (2, .int a0), (3, .int a1)]) hx hb dX7_readNumber_11 hl (by decide) rfl (fun ls hl => ?_)
  refine (fun (K : ∀ (d13 : Nat) (k13 : Nat) (a13_5 : Int32) (H : Heap) (locs : List Loc) (ls : Array Slot), k13 + d13 = ln → k4 ≤ k13 → dg T0 ln k13 = dg T0 ln k4 → a13_5 = w3 T0 k4 (min (k13 - k4) 3) → va_P (dC, dI) vwCl [(nu, .inl (cI, 5, .inl fnu)), (h0, .inr (7, [.ref dr, .int fa, .ref nu, .ref le, .int (nI ln), .int (nI k13), .int fu])), (le, .inl (cI, 220, .inl fle))] H → va_D A [(nu, .inl (cI, 5, .inl fnu)), (h0, .inr (7, [.ref dr, .int fa, .ref nu, .ref le, .int (nI ln), .int (nI k13), .int fu])), (le, .inl (cI, 220, .inl fle))] → va_S A s.heap H locs → lv_has ls 6 [(5, .int a13_5), (4, .int (nI k4)), (0, .ref h0), (1, .int (nI k)), (2, .int a0), (3, .int a1)] → W p l e _ s m _ below meth c H locs _ _ _ (F0 m 13 ls [])) => K (ln - k4) k4 0 _ _ _ (by omega) (by omega) rfl (by rw [Nat.sub_self]; rfl) hP hD hS (lv_sub hl [0, 1, 2, 3, 4, 5] rfl)) ?_
  intro d13
  induction d13 with
  | zero =>
    intro k13 a13_5 H locs ls hk13 hlo13 hv13_0 hv13_1 hP hD hS hl
    refine lv_aload_n hx hb dX7_readNumber_13 rfl (lv_at hl 2 rfl) ?_
    refine va_get (D := (dC, dI)) (ci := 7) (v := .int (nI k13)) (C := RX7) (T := TX7) (N := 7) hx hb hts hi_X7 hown hK hP 1 rfl rfl 5 (by decide) (hts (.fieldLink RX7 32 "LeftQuills$Reader" "at" "I") (wmx 1 rfl)) (fun _ h9 => h9) rfl dX7_readNumber_14 ?_
    refine lv_aload_n hx hb dX7_readNumber_17 rfl (lv_at hl 2 rfl) ?_
    refine va_get (D := (dC, dI)) (ci := 7) (v := .int (nI ln)) (C := RX7) (T := TX7) (N := 7) hx hb hts hi_X7 hown hK hP 1 rfl rfl 4 (by decide) (hts (.fieldLink RX7 29 "LeftQuills$Reader" "length" "I") (wmx 2 rfl)) (fun _ h9 => h9) rfl dX7_readNumber_18 ?_
    refine lv_icmp_ge (tgt := 83) hx hb dX7_readNumber_21 (by decide) (fun c6 => ?_) (fun c6 => ?_)
    ·
      have c6 : ln ≤ k13 := (nI_leI (a := ln) (b := k13) (by omega) (by omega)).mp c6
      refine lv_aload_n hx hb dX7_readNumber_83 rfl (lv_at hl 2 rfl) ?_
      refine va_get (D := (dC, dI)) (ci := 7) (v := .int (nI k13)) (C := RX7) (T := TX7) (N := 7) hx hb hts hi_X7 hown hK hP 1 rfl rfl 5 (by decide) (hts (.fieldLink RX7 32 "LeftQuills$Reader" "at" "I") (wmx 1 rfl)) (fun _ h9 => h9) rfl dX7_readNumber_84 ?_
      refine lv_iload hx hb dX7_readNumber_87 (lv_at hl 1 rfl) ?_
      refine lv_icmp_ne (tgt := 103) hx hb dX7_readNumber_89 (by decide) (fun c7 => ?_) (fun c7 => ?_)
      ·
        have c7 : ¬ k13 = k4 := fun h => c7 ((nI_eq (a := k13) (b := k4) (by omega) (by omega)).mpr h)
        refine lv_aload_n hx hb dX7_readNumber_103 rfl (lv_at hl 2 rfl) ?_
        refine va_get (D := (dC, dI)) (ci := 7) (v := .int (nI k13)) (C := RX7) (T := TX7) (N := 7) hx hb hts hi_X7 hown hK hP 1 rfl rfl 5 (by decide) (hts (.fieldLink RX7 32 "LeftQuills$Reader" "at" "I") (wmx 1 rfl)) (fun _ h9 => h9) rfl dX7_readNumber_104 ?_
        refine lv_iload hx hb dX7_readNumber_107 (lv_at hl 1 rfl) ?_
        refine lv_isub hx hb dX7_readNumber_109 ?_
        refine lv_topi (fun z8 ez8 => ?_)
        obtain rfl : z8 = nI (k13 - k4) := ez8.trans (pk_sub (a := k13) (b := k4) (by omega))
        refine lv_iconst (v := 3) hx hb dX7_readNumber_110 (by decide) ?_
        refine lv_icmp_gt (tgt := 124) hx hb dX7_readNumber_111 (by decide) (fun c9 => ?_) (fun c9 => ?_)
        ·
          have c9 : 3 < (k13 - k4) := (nI_ltI (a := 3) (b := k13 - k4) (by omega) (by omega)).mp c9
          refine lv_aload_n hx hb dX7_readNumber_124 rfl (lv_at hl 2 rfl) ?_
          refine lv_iconst (v := 2) hx hb dX7_readNumber_125 (by decide) ?_
          refine lv_iload hx hb dX7_readNumber_126 (lv_at hl 1 rfl) ?_
          have hc9 := va_cut (W' := [(h0, .inr (7, [.ref dr, .int fa, .ref nu, .ref le, .int (nI ln), .int (nI k13), .int fu]))]) hP hD hS hA [1] (by decide) rfl
          have hPc := hc9.1
          have hDc := hc9.2.1
          have hFc := hc9.2.2
          clear hc9
          refine va_callv (va_runV (As := [.int 2, .int (nI k4)]) (rest := []) ⟨hx, hb, hml, hown, hts⟩ (c_X7_failF l dC dI cI cZ cQ h0 dr fa nu le ln k13 fu 2 (nI k4) H.size ) (cwV 2 hts gX7_readNumber_X7_fail rfl rfl rfl hd_X7_fail_RX7 ⟨Nat.le_of_ble_eq_true rfl, Nat.le_of_ble_eq_true rfl⟩) (pv_D (va_recv hK hP (ci := 7) (q0 := 1) rfl rfl) hK hPc hDc) rfl rfl hl.1 rfl (lv_room (Nat.le_of_ble_eq_true rfl)) dX7_readNumber_128 ⟨Nat.le_of_ble_eq_true rfl, Nat.le_of_ble_eq_true rfl⟩) hS (fun q _ h => hFc q h) hFc (fun u11 t H1 locs ht hvm hw12 hB hz1 hk1 hS => ?_)
          obtain ⟨i13, i14, he15, he16, hP1, hD1⟩ := hB
          replace hP1 := va_hp ht hP1
          obtain ⟨hP, hD⟩ := va_join (wr := [(nu, .inl (cI, 5, .inl fnu)), (le, .inl (cI, 220, .inl fle))]) (w1 := [(h0, .inr (7, [.ref dr, .int i13, .ref nu, .ref le, .int (nI ln), .int (nI k13), .int i14]))]) hP hD [1] [0, 2] rfl rfl (by decide +kernel) (by decide +kernel) hk1 hFc hP1 hD1
          clear hP1 hD1
          clear hz1 hk1 hPc hDc hFc
          generalize H1 = H at hP hS ht ⊢
          have hPD : pdW (dC, dI) vwCl A [(nu, .inl (cI, 5, .inl fnu)), (le, .inl (cI, 220, .inl fle)), (h0, .inr (7, [.ref dr, .int i13, .ref nu, .ref le, .int (nI ln), .int (nI k13), .int i14]))] H := ⟨hP, hD⟩
          have hP := hPD.1
          have hD := hPD.2
          clear hPD
          try dsimp only at hw12
          refine lv_iconst (v := 0) hx hb dX7_readNumber_131 (by decide) ?_
          have hP9 := hP.sub (ws' := [(h0, .inr (7, [.ref dr, .int i13, .ref nu, .ref le, .int (nI ln), .int (nI k13), .int i14])), (le, .inl (cI, 220, .inl fle)), (nu, .inl (cI, 5, .inl fnu))]) [2, 1, 0] rfl
          have hD9 := hD.sub (ws' := [(h0, .inr (7, [.ref dr, .int i13, .ref nu, .ref le, .int (nI ln), .int (nI k13), .int i14])), (le, .inl (cI, 220, .inl fle)), (nu, .inl (cI, 5, .inl fnu))]) [2, 1, 0] (by decide +kernel) rfl
          exact W.zret (v := 0) hx hb hr (rfl) (fun t ht hW => ⟨⟨0, (fun _ => 0), rfl, rfl, ⟨fnu, i13, i14, k13, by omega, (by have h9 := nm_2a (lo := a0) (hi := a1) he5 (hv13_0.symm.trans (dg_stop (fun c9 => absurd c9.1 (by omega)))) (by omega); exact Or.inr ⟨rfl, by rw [h9]; decide, by rw [h9]; exact he15, (by rw [← he5]; exact he16)⟩), va_hq ht hP9, hD9⟩⟩, hS.F ht⟩) hS.2.2 dX7_readNumber_132
        ·
          have c9 : ¬ 3 < (k13 - k4) := fun h => c9 ((nI_ltI (a := 3) (b := k13 - k4) (by omega) (by omega)).mpr h)
          refine lv_iload hx hb dX7_readNumber_114 (lv_at hl 0 rfl) ?_
          refine lv_iload_n hx hb dX7_readNumber_116 rfl (lv_at hl 4 rfl) ?_
          refine lv_iload_n hx hb dX7_readNumber_117 rfl (lv_at hl 5 rfl) ?_
          have hPc := hP.sub (ws' := []) [] rfl
          refine va_calli (va_runSN (As := [.int a13_5, .int a0, .int a1]) (rest := []) ⟨hx, hb, hml, hown, hts⟩ (c_X10_within l dC dI cI cZ cQ a13_5 a0 a1 H.size ) ⟨va_cnB 3 hts gX7_readNumber_X10_within_n124 rfl rfl rfl (hN.n_X7_124) (hts (.initialized RX10) (wmx 20 rfl)) (by decide +kernel) ⟨Nat.le_of_ble_eq_true rfl, Nat.le_of_ble_eq_true rfl⟩, hts (.static yX10_within) (by decide +kernel), trivial⟩ (ps_R hK hPc) rfl rfl hl.1 rfl (lv_room (Nat.le_of_ble_eq_true rfl)) dX7_readNumber_118 ⟨Nat.le_of_ble_eq_true rfl, Nat.le_of_ble_eq_true rfl⟩) hS (fun q _ h => False.elim h) (fun q h => False.elim h) (fun r17 u18 t H1 locs ht hvm hw19 hB hz1 hk1 hS => ?_)
          have hP := hP.kept (fun k q hk => hk1 q.1 (hP k q hk).lt (fun h => h))
          clear hz1 hk1 hPc
          generalize H1 = H at hP hS ht ⊢
          try dsimp only at hw19
          rcases hw19 with ⟨rfl, hw19⟩ | ⟨rfl, hw19⟩
          ·
            refine lv_if_ne (tgt := 133) hx hb dX7_readNumber_121 (by decide) (fun c20 => ?_) (fun c20 => ?_)
            rotate_left
            · exact absurd c20 (by decide)
            clear c20
            refine lv_aload_n hx hb dX7_readNumber_133 rfl (lv_at hl 2 rfl) ?_
            refine va_get (D := (dC, dI)) (ci := 7) (v := .ref nu) (C := RX7) (T := TX7) (N := 7) hx hb hts hi_X7 hown hK hP 1 rfl rfl 2 (by decide) (hts (.fieldLink RX7 22 "LeftQuills$Reader" "numbers" "[I") (wmx 4 rfl)) (fun _ h9 => h9) rfl dX7_readNumber_134 ?_
            refine lv_iload_n hx hb dX7_readNumber_137 rfl (lv_at hl 3 rfl) ?_
            refine lv_iload hx hb dX7_readNumber_138 (lv_at hl 0 rfl) ?_
            refine va_iast hx hb hK hP hD hS 0 0 rfl rfl (vp_in_nI (n := k) (N := 5) (by omega) (by decide)) dX7_readNumber_140 (fun H locs hP hD hS => ?_)
            have hcl := (nI_clamp (n := k) (by omega))
            rw [hcl] at hP hD
            clear hcl
            have hPD : pdW (dC, dI) vwCl A [(nu, .inl (cI, 5, .inl (upd fnu k a13_5))), (h0, .inr (7, [.ref dr, .int fa, .ref nu, .ref le, .int (nI ln), .int (nI k13), .int fu])), (le, .inl (cI, 220, .inl fle))] H := ⟨hP, hD⟩
            have hP := hPD.1
            have hD := hPD.2
            clear hPD
            refine lv_iconst (v := 1) hx hb dX7_readNumber_141 (by decide) ?_
            have hP9 := hP.sub (ws' := [(h0, .inr (7, [.ref dr, .int fa, .ref nu, .ref le, .int (nI ln), .int (nI k13), .int fu])), (le, .inl (cI, 220, .inl fle)), (nu, .inl (cI, 5, .inl (upd fnu k a13_5)))]) [1, 2, 0] rfl
            have hD9 := hD.sub (ws' := [(h0, .inr (7, [.ref dr, .int fa, .ref nu, .ref le, .int (nI ln), .int (nI k13), .int fu])), (le, .inl (cI, 220, .inl fle)), (nu, .inl (cI, 5, .inl (upd fnu k a13_5)))]) [1, 2, 0] (by decide +kernel) rfl
            exact W.zret (v := 1) hx hb hr (rfl) (fun t ht hW => ⟨⟨1, (fun _ => 1), rfl, rfl, ⟨(upd fnu k a13_5), fa, fu, k13, by omega, (by have h9 := nm_0 (lo := a0) (hi := a1) he5 (hv13_0.symm.trans (dg_stop (fun c9 => absurd c9.1 (by omega)))) c7 (by omega) hv13_1 hw19; exact Or.inl ⟨rfl, h9.1, h9.2.1, rfl, rfl, by rw [← h9.2.2]⟩), va_hq ht hP9, hD9⟩⟩, hS.F ht⟩) hS.2.2 dX7_readNumber_142
          ·
            refine lv_if_ne (tgt := 133) hx hb dX7_readNumber_121 (by decide) (fun c22 => ?_) (fun c22 => ?_)
            · exact absurd c22 (by decide)
            clear c22
            refine lv_aload_n hx hb dX7_readNumber_124 rfl (lv_at hl 2 rfl) ?_
            refine lv_iconst (v := 2) hx hb dX7_readNumber_125 (by decide) ?_
            refine lv_iload hx hb dX7_readNumber_126 (lv_at hl 1 rfl) ?_
            have hc9 := va_cut (W' := [(h0, .inr (7, [.ref dr, .int fa, .ref nu, .ref le, .int (nI ln), .int (nI k13), .int fu]))]) hP hD hS hA [1] (by decide) rfl
            have hPc := hc9.1
            have hDc := hc9.2.1
            have hFc := hc9.2.2
            clear hc9
            refine va_callv (va_runV (As := [.int 2, .int (nI k4)]) (rest := []) ⟨hx, hb, hml, hown, hts⟩ (c_X7_failF l dC dI cI cZ cQ h0 dr fa nu le ln k13 fu 2 (nI k4) H.size ) (cwV 2 hts gX7_readNumber_X7_fail rfl rfl rfl hd_X7_fail_RX7 ⟨Nat.le_of_ble_eq_true rfl, Nat.le_of_ble_eq_true rfl⟩) (pv_D (va_recv hK hP (ci := 7) (q0 := 1) rfl rfl) hK hPc hDc) rfl rfl hl.1 rfl (lv_room (Nat.le_of_ble_eq_true rfl)) dX7_readNumber_128 ⟨Nat.le_of_ble_eq_true rfl, Nat.le_of_ble_eq_true rfl⟩) hS (fun q _ h => hFc q h) hFc (fun u24 t H1 locs ht hvm hw25 hB hz1 hk1 hS => ?_)
            obtain ⟨i26, i27, he28, he29, hP1, hD1⟩ := hB
            replace hP1 := va_hp ht hP1
            obtain ⟨hP, hD⟩ := va_join (wr := [(nu, .inl (cI, 5, .inl fnu)), (le, .inl (cI, 220, .inl fle))]) (w1 := [(h0, .inr (7, [.ref dr, .int i26, .ref nu, .ref le, .int (nI ln), .int (nI k13), .int i27]))]) hP hD [1] [0, 2] rfl rfl (by decide +kernel) (by decide +kernel) hk1 hFc hP1 hD1
            clear hP1 hD1
            clear hz1 hk1 hPc hDc hFc
            generalize H1 = H at hP hS ht ⊢
            have hPD : pdW (dC, dI) vwCl A [(nu, .inl (cI, 5, .inl fnu)), (le, .inl (cI, 220, .inl fle)), (h0, .inr (7, [.ref dr, .int i26, .ref nu, .ref le, .int (nI ln), .int (nI k13), .int i27]))] H := ⟨hP, hD⟩
            have hP := hPD.1
            have hD := hPD.2
            clear hPD
            try dsimp only at hw25
            refine lv_iconst (v := 0) hx hb dX7_readNumber_131 (by decide) ?_
            have hP9 := hP.sub (ws' := [(h0, .inr (7, [.ref dr, .int i26, .ref nu, .ref le, .int (nI ln), .int (nI k13), .int i27])), (le, .inl (cI, 220, .inl fle)), (nu, .inl (cI, 5, .inl fnu))]) [2, 1, 0] rfl
            have hD9 := hD.sub (ws' := [(h0, .inr (7, [.ref dr, .int i26, .ref nu, .ref le, .int (nI ln), .int (nI k13), .int i27])), (le, .inl (cI, 220, .inl fle)), (nu, .inl (cI, 5, .inl fnu))]) [2, 1, 0] (by decide +kernel) rfl
            exact W.zret (v := 0) hx hb hr (rfl) (fun t ht hW => ⟨⟨0, (fun _ => 0), rfl, rfl, ⟨fnu, i26, i27, k13, by omega, (by have h9 := nm_2b (lo := a0) (hi := a1) he5 (hv13_0.symm.trans (dg_stop (fun c9 => absurd c9.1 (by omega)))) c7 (by omega) hv13_1 hw19; exact Or.inr ⟨rfl, by rw [h9]; decide, by rw [h9]; exact he28, (by rw [← he5]; exact he29)⟩), va_hq ht hP9, hD9⟩⟩, hS.F ht⟩) hS.2.2 dX7_readNumber_132
      ·
        have c7 : k13 = k4 := (nI_eq (a := k13) (b := k4) (by omega) (by omega)).mp c7
        refine lv_aload_n hx hb dX7_readNumber_92 rfl (lv_at hl 2 rfl) ?_
        refine lv_iconst (v := 1) hx hb dX7_readNumber_93 (by decide) ?_
        refine lv_aload_n hx hb dX7_readNumber_94 rfl (lv_at hl 2 rfl) ?_
        refine va_get (D := (dC, dI)) (ci := 7) (v := .int (nI k13)) (C := RX7) (T := TX7) (N := 7) hx hb hts hi_X7 hown hK hP 1 rfl rfl 5 (by decide) (hts (.fieldLink RX7 32 "LeftQuills$Reader" "at" "I") (wmx 1 rfl)) (fun _ h9 => h9) rfl dX7_readNumber_95 ?_
        have hc9 := va_cut (W' := [(h0, .inr (7, [.ref dr, .int fa, .ref nu, .ref le, .int (nI ln), .int (nI k13), .int fu]))]) hP hD hS hA [1] (by decide) rfl
        have hPc := hc9.1
        have hDc := hc9.2.1
        have hFc := hc9.2.2
        clear hc9
        refine va_callv (va_runV (As := [.int 1, .int (nI k13)]) (rest := []) ⟨hx, hb, hml, hown, hts⟩ (c_X7_failF l dC dI cI cZ cQ h0 dr fa nu le ln k13 fu 1 (nI k13) H.size ) (cwV 2 hts gX7_readNumber_X7_fail rfl rfl rfl hd_X7_fail_RX7 ⟨Nat.le_of_ble_eq_true rfl, Nat.le_of_ble_eq_true rfl⟩) (pv_D (va_recv hK hP (ci := 7) (q0 := 1) rfl rfl) hK hPc hDc) rfl rfl hl.1 rfl (lv_room (Nat.le_of_ble_eq_true rfl)) dX7_readNumber_98 ⟨Nat.le_of_ble_eq_true rfl, Nat.le_of_ble_eq_true rfl⟩) hS (fun q _ h => hFc q h) hFc (fun u31 t H1 locs ht hvm hw32 hB hz1 hk1 hS => ?_)
        obtain ⟨i33, i34, he35, he36, hP1, hD1⟩ := hB
        replace hP1 := va_hp ht hP1
        obtain ⟨hP, hD⟩ := va_join (wr := [(nu, .inl (cI, 5, .inl fnu)), (le, .inl (cI, 220, .inl fle))]) (w1 := [(h0, .inr (7, [.ref dr, .int i33, .ref nu, .ref le, .int (nI ln), .int (nI k13), .int i34]))]) hP hD [1] [0, 2] rfl rfl (by decide +kernel) (by decide +kernel) hk1 hFc hP1 hD1
        clear hP1 hD1
        clear hz1 hk1 hPc hDc hFc
        generalize H1 = H at hP hS ht ⊢
        have hPD : pdW (dC, dI) vwCl A [(nu, .inl (cI, 5, .inl fnu)), (le, .inl (cI, 220, .inl fle)), (h0, .inr (7, [.ref dr, .int i33, .ref nu, .ref le, .int (nI ln), .int (nI k13), .int i34]))] H := ⟨hP, hD⟩
        have hP := hPD.1
        have hD := hPD.2
        clear hPD
        try dsimp only at hw32
        refine lv_iconst (v := 0) hx hb dX7_readNumber_101 (by decide) ?_
        have hP9 := hP.sub (ws' := [(h0, .inr (7, [.ref dr, .int i33, .ref nu, .ref le, .int (nI ln), .int (nI k13), .int i34])), (le, .inl (cI, 220, .inl fle)), (nu, .inl (cI, 5, .inl fnu))]) [2, 1, 0] rfl
        have hD9 := hD.sub (ws' := [(h0, .inr (7, [.ref dr, .int i33, .ref nu, .ref le, .int (nI ln), .int (nI k13), .int i34])), (le, .inl (cI, 220, .inl fle)), (nu, .inl (cI, 5, .inl fnu))]) [2, 1, 0] (by decide +kernel) rfl
        exact W.zret (v := 0) hx hb hr (rfl) (fun t ht hW => ⟨⟨0, (fun _ => 0), rfl, rfl, ⟨fnu, i33, i34, k13, by omega, (by have h9 := nm_1 (lo := a0) (hi := a1) he5 ((hv13_0.symm.trans (dg_stop (fun c9 => absurd c9.1 (by omega)))).trans c7); exact Or.inr ⟨rfl, by rw [h9]; decide, by rw [h9]; exact he35, (by rw [← he5, ← c7]; exact he36)⟩), va_hq ht hP9, hD9⟩⟩, hS.F ht⟩) hS.2.2 dX7_readNumber_102
    ·
      have c6 : ¬ ln ≤ k13 := fun h => c6 ((nI_leI (a := ln) (b := k13) (by omega) (by omega)).mpr h)
      omega
  | succ d13 ih13 =>
    intro k13 a13_5 H locs ls hk13 hlo13 hv13_0 hv13_1 hP hD hS hl
    refine lv_aload_n hx hb dX7_readNumber_13 rfl (lv_at hl 2 rfl) ?_
    refine va_get (D := (dC, dI)) (ci := 7) (v := .int (nI k13)) (C := RX7) (T := TX7) (N := 7) hx hb hts hi_X7 hown hK hP 1 rfl rfl 5 (by decide) (hts (.fieldLink RX7 32 "LeftQuills$Reader" "at" "I") (wmx 1 rfl)) (fun _ h9 => h9) rfl dX7_readNumber_14 ?_
    refine lv_aload_n hx hb dX7_readNumber_17 rfl (lv_at hl 2 rfl) ?_
    refine va_get (D := (dC, dI)) (ci := 7) (v := .int (nI ln)) (C := RX7) (T := TX7) (N := 7) hx hb hts hi_X7 hown hK hP 1 rfl rfl 4 (by decide) (hts (.fieldLink RX7 29 "LeftQuills$Reader" "length" "I") (wmx 2 rfl)) (fun _ h9 => h9) rfl dX7_readNumber_18 ?_
    refine lv_icmp_ge (tgt := 83) hx hb dX7_readNumber_21 (by decide) (fun c37 => ?_) (fun c37 => ?_)
    ·
      have c37 : ln ≤ k13 := (nI_leI (a := ln) (b := k13) (by omega) (by omega)).mp c37
      omega
    ·
      have c37 : ¬ ln ≤ k13 := fun h => c37 ((nI_leI (a := ln) (b := k13) (by omega) (by omega)).mpr h)
      refine lv_aload_n hx hb dX7_readNumber_24 rfl (lv_at hl 2 rfl) ?_
      refine va_get (D := (dC, dI)) (ci := 7) (v := .ref le) (C := RX7) (T := TX7) (N := 7) hx hb hts hi_X7 hown hK hP 1 rfl rfl 3 (by decide) (hts (.fieldLink RX7 26 "LeftQuills$Reader" "letters" "[I") (wmx 3 rfl)) (fun _ h9 => h9) rfl dX7_readNumber_25 ?_
      refine lv_aload_n hx hb dX7_readNumber_28 rfl (lv_at hl 2 rfl) ?_
      refine va_get (D := (dC, dI)) (ci := 7) (v := .int (nI k13)) (C := RX7) (T := TX7) (N := 7) hx hb hts hi_X7 hown hK hP 1 rfl rfl 5 (by decide) (hts (.fieldLink RX7 32 "LeftQuills$Reader" "at" "I") (wmx 1 rfl)) (fun _ h9 => h9) rfl dX7_readNumber_29 ?_
      refine va_iald hx hb hK hP 2 0 rfl rfl (vp_in_nI (n := k13) (N := 220) (by omega) (by decide)) dX7_readNumber_32 ?_
      refine W.eq (g2 := F0 m 33 ls [.int (fle k13)]) (congrArg (fun y9 => F0 m 33 ls (.int (fle y9) :: [])) ((nI_clamp (n := k13) (by omega)))) ?_
      have hPc := hP.sub (ws' := []) [] rfl
      refine va_calli (va_runS (As := [.int (fle k13)]) (rest := []) ⟨hx, hb, hml, hown, hts⟩ (c_X7_isFigureF l dC dI cI cZ cQ (fle k13) H.size ) (va_cwS 1 hts gX7_readNumber_X7_isFigure rfl rfl rfl (by decide +kernel) ⟨Nat.le_of_ble_eq_true rfl, Nat.le_of_ble_eq_true rfl⟩) (ps_R hK hPc) rfl rfl hl.1 rfl (lv_room (Nat.le_of_ble_eq_true rfl)) dX7_readNumber_33 ⟨Nat.le_of_ble_eq_true rfl, Nat.le_of_ble_eq_true rfl⟩) hS (fun q _ h => False.elim h) (fun q h => False.elim h) (fun r38 u39 t H1 locs ht hvm hw40 hB hz1 hk1 hS => ?_)
      have hP := hP.kept (fun k q hk => hk1 q.1 (hP k q hk).lt (fun h => h))
      clear hz1 hk1 hPc
      generalize H1 = H at hP hS ht ⊢
      try dsimp only at hw40
      rcases hw40 with ⟨rfl, hw40⟩ | ⟨rfl, hw40⟩
      ·
        refine lv_if_eq (tgt := 83) hx hb dX7_readNumber_36 (by decide) (fun c41 => ?_) (fun c41 => ?_)
        · exact absurd c41 (by decide)
        clear c41
        refine lv_aload_n hx hb dX7_readNumber_39 rfl (lv_at hl 2 rfl) ?_
        refine va_get (D := (dC, dI)) (ci := 7) (v := .int (nI k13)) (C := RX7) (T := TX7) (N := 7) hx hb hts hi_X7 hown hK hP 1 rfl rfl 5 (by decide) (hts (.fieldLink RX7 32 "LeftQuills$Reader" "at" "I") (wmx 1 rfl)) (fun _ h9 => h9) rfl dX7_readNumber_40 ?_
        refine lv_iload hx hb dX7_readNumber_43 (lv_at hl 1 rfl) ?_
        refine lv_isub hx hb dX7_readNumber_45 ?_
        refine lv_topi (fun z42 ez42 => ?_)
        obtain rfl : z42 = nI (k13 - k4) := ez42.trans (pk_sub (a := k13) (b := k4) (by omega))
        refine lv_iconst (v := 3) hx hb dX7_readNumber_46 (by decide) ?_
        refine lv_icmp_ge (tgt := 70) hx hb dX7_readNumber_47 (by decide) (fun c43 => ?_) (fun c43 => ?_)
        ·
          have c43 : 3 ≤ (k13 - k4) := (nI_leI (a := 3) (b := k13 - k4) (by omega) (by omega)).mp c43
          refine lv_aload_n hx hb dX7_readNumber_70 rfl (lv_at hl 2 rfl) ?_
          refine lv_dup hx hb dX7_readNumber_71 rfl ?_
          refine va_get (D := (dC, dI)) (ci := 7) (v := .int (nI k13)) (C := RX7) (T := TX7) (N := 7) hx hb hts hi_X7 hown hK hP 1 rfl rfl 5 (by decide) (hts (.fieldLink RX7 32 "LeftQuills$Reader" "at" "I") (wmx 1 rfl)) (fun _ h9 => h9) rfl dX7_readNumber_72 ?_
          refine lv_iconst (v := 1) hx hb dX7_readNumber_75 (by decide) ?_
          refine lv_iadd hx hb dX7_readNumber_76 ?_
          refine lv_topi (fun z44 ez44 => ?_)
          obtain rfl : z44 = nI (k13 + 1) := ez44.trans (nI_add k13 1)
          refine va_put (D := (dC, dI)) (ci := 7) (v := .int (nI (k13 + 1))) (ty := .int) (C := RX7) (T := TX7) (N := 7) hx hb hts hi_X7 tyX7 tyX7_ok nmX7 hown hK hP hD hS 1 rfl rfl 5 (by decide) (hts (.fieldLink RX7 32 "LeftQuills$Reader" "at" "I") (wmx 1 rfl)) (fun _ h9 => h9) rfl (by decide +kernel) rfl rfl (Nat.le_of_ble_eq_true rfl) dX7_readNumber_77 (fun H locs hP hD hS => ?_)
          have hPD : pdW (dC, dI) vwCl A [(nu, .inl (cI, 5, .inl fnu)), (h0, .inr (7, [.ref dr, .int fa, .ref nu, .ref le, .int (nI ln), .int (nI (k13 + 1)), .int fu])), (le, .inl (cI, 220, .inl fle))] H := ⟨hP, hD⟩
          have hP := hPD.1
          have hD := hPD.2
          clear hPD
          refine lv_goto (tgt := 13) hx hb dX7_readNumber_80 (by decide) ?_
          exact ih13 (k13 + 1) a13_5 _ _ _ (by omega) (by omega) ((dg_step (by omega) (by rw [← hT _ (by omega)]; exact hw40)).trans hv13_0) (by rw [w3_min_ge (by omega)]; exact hv13_1) hP hD hS (lv_sub hl [0, 1, 2, 3, 4, 5] rfl)
        ·
          have c43 : ¬ 3 ≤ (k13 - k4) := fun h => c43 ((nI_leI (a := 3) (b := k13 - k4) (by omega) (by omega)).mpr h)
          refine lv_iload hx hb dX7_readNumber_50 (lv_at hl 0 rfl) ?_
          refine lv_bipush (v := 10) hx hb dX7_readNumber_52 (by decide) ?_
          refine lv_imul hx hb dX7_readNumber_54 ?_
          refine lv_aload_n hx hb dX7_readNumber_55 rfl (lv_at hl 2 rfl) ?_
          refine va_get (D := (dC, dI)) (ci := 7) (v := .ref le) (C := RX7) (T := TX7) (N := 7) hx hb hts hi_X7 hown hK hP 1 rfl rfl 3 (by decide) (hts (.fieldLink RX7 26 "LeftQuills$Reader" "letters" "[I") (wmx 3 rfl)) (fun _ h9 => h9) rfl dX7_readNumber_56 ?_
          refine lv_aload_n hx hb dX7_readNumber_59 rfl (lv_at hl 2 rfl) ?_
          refine va_get (D := (dC, dI)) (ci := 7) (v := .int (nI k13)) (C := RX7) (T := TX7) (N := 7) hx hb hts hi_X7 hown hK hP 1 rfl rfl 5 (by decide) (hts (.fieldLink RX7 32 "LeftQuills$Reader" "at" "I") (wmx 1 rfl)) (fun _ h9 => h9) rfl dX7_readNumber_60 ?_
          refine va_iald hx hb hK hP 2 0 rfl rfl (vp_in_nI (n := k13) (N := 220) (by omega) (by decide)) dX7_readNumber_63 ?_
          refine W.eq (g2 := F0 m 64 ls [.int (fle k13), .int (a13_5 * 10)]) (congrArg (fun y9 => F0 m 64 ls (.int (fle y9) :: [.int (a13_5 * 10)])) ((nI_clamp (n := k13) (by omega)))) ?_
          refine lv_iadd hx hb dX7_readNumber_64 ?_
          refine lv_bipush (v := 48) hx hb dX7_readNumber_65 (by decide) ?_
          refine lv_isub hx hb dX7_readNumber_67 ?_
          refine lv_istore (lv' := [(5, .int (((a13_5 * 10) + (fle k13)) - 48)), (4, .int (nI k4)), (0, .ref h0), (1, .int (nI k)), (2, .int a0), (3, .int a1)]) hx hb dX7_readNumber_68 hl (by decide) rfl (fun ls hl => ?_)
          refine lv_aload_n hx hb dX7_readNumber_70 rfl (lv_at hl 2 rfl) ?_
          refine lv_dup hx hb dX7_readNumber_71 rfl ?_
          refine va_get (D := (dC, dI)) (ci := 7) (v := .int (nI k13)) (C := RX7) (T := TX7) (N := 7) hx hb hts hi_X7 hown hK hP 1 rfl rfl 5 (by decide) (hts (.fieldLink RX7 32 "LeftQuills$Reader" "at" "I") (wmx 1 rfl)) (fun _ h9 => h9) rfl dX7_readNumber_72 ?_
          refine lv_iconst (v := 1) hx hb dX7_readNumber_75 (by decide) ?_
          refine lv_iadd hx hb dX7_readNumber_76 ?_
          refine lv_topi (fun z45 ez45 => ?_)
          obtain rfl : z45 = nI (k13 + 1) := ez45.trans (nI_add k13 1)
          refine va_put (D := (dC, dI)) (ci := 7) (v := .int (nI (k13 + 1))) (ty := .int) (C := RX7) (T := TX7) (N := 7) hx hb hts hi_X7 tyX7 tyX7_ok nmX7 hown hK hP hD hS 1 rfl rfl 5 (by decide) (hts (.fieldLink RX7 32 "LeftQuills$Reader" "at" "I") (wmx 1 rfl)) (fun _ h9 => h9) rfl (by decide +kernel) rfl rfl (Nat.le_of_ble_eq_true rfl) dX7_readNumber_77 (fun H locs hP hD hS => ?_)
          have hPD : pdW (dC, dI) vwCl A [(nu, .inl (cI, 5, .inl fnu)), (h0, .inr (7, [.ref dr, .int fa, .ref nu, .ref le, .int (nI ln), .int (nI (k13 + 1)), .int fu])), (le, .inl (cI, 220, .inl fle))] H := ⟨hP, hD⟩
          have hP := hPD.1
          have hD := hPD.2
          clear hPD
          refine lv_goto (tgt := 13) hx hb dX7_readNumber_80 (by decide) ?_
          exact ih13 (k13 + 1) (((a13_5 * 10) + (fle k13)) - 48) _ _ _ (by omega) (by omega) ((dg_step (by omega) (by rw [← hT _ (by omega)]; exact hw40)).trans hv13_0) (by rw [w3_min_lt (by omega) (by omega), ← hv13_1, ← hT _ (by omega)]) hP hD hS (lv_sub hl [0, 1, 2, 3, 4, 5] rfl)
      ·
        refine lv_if_eq (tgt := 83) hx hb dX7_readNumber_36 (by decide) (fun c46 => ?_) (fun c46 => ?_)
        rotate_left
        · exact absurd c46 (by decide)
        clear c46
        refine lv_aload_n hx hb dX7_readNumber_83 rfl (lv_at hl 2 rfl) ?_
        refine va_get (D := (dC, dI)) (ci := 7) (v := .int (nI k13)) (C := RX7) (T := TX7) (N := 7) hx hb hts hi_X7 hown hK hP 1 rfl rfl 5 (by decide) (hts (.fieldLink RX7 32 "LeftQuills$Reader" "at" "I") (wmx 1 rfl)) (fun _ h9 => h9) rfl dX7_readNumber_84 ?_
        refine lv_iload hx hb dX7_readNumber_87 (lv_at hl 1 rfl) ?_
        refine lv_icmp_ne (tgt := 103) hx hb dX7_readNumber_89 (by decide) (fun c47 => ?_) (fun c47 => ?_)
        ·
          have c47 : ¬ k13 = k4 := fun h => c47 ((nI_eq (a := k13) (b := k4) (by omega) (by omega)).mpr h)
          refine lv_aload_n hx hb dX7_readNumber_103 rfl (lv_at hl 2 rfl) ?_
          refine va_get (D := (dC, dI)) (ci := 7) (v := .int (nI k13)) (C := RX7) (T := TX7) (N := 7) hx hb hts hi_X7 hown hK hP 1 rfl rfl 5 (by decide) (hts (.fieldLink RX7 32 "LeftQuills$Reader" "at" "I") (wmx 1 rfl)) (fun _ h9 => h9) rfl dX7_readNumber_104 ?_
          refine lv_iload hx hb dX7_readNumber_107 (lv_at hl 1 rfl) ?_
          refine lv_isub hx hb dX7_readNumber_109 ?_
          refine lv_topi (fun z48 ez48 => ?_)
          obtain rfl : z48 = nI (k13 - k4) := ez48.trans (pk_sub (a := k13) (b := k4) (by omega))
          refine lv_iconst (v := 3) hx hb dX7_readNumber_110 (by decide) ?_
          refine lv_icmp_gt (tgt := 124) hx hb dX7_readNumber_111 (by decide) (fun c49 => ?_) (fun c49 => ?_)
          ·
            have c49 : 3 < (k13 - k4) := (nI_ltI (a := 3) (b := k13 - k4) (by omega) (by omega)).mp c49
            refine lv_aload_n hx hb dX7_readNumber_124 rfl (lv_at hl 2 rfl) ?_
            refine lv_iconst (v := 2) hx hb dX7_readNumber_125 (by decide) ?_
            refine lv_iload hx hb dX7_readNumber_126 (lv_at hl 1 rfl) ?_
            have hc9 := va_cut (W' := [(h0, .inr (7, [.ref dr, .int fa, .ref nu, .ref le, .int (nI ln), .int (nI k13), .int fu]))]) hP hD hS hA [1] (by decide) rfl
            have hPc := hc9.1
            have hDc := hc9.2.1
            have hFc := hc9.2.2
            clear hc9
            refine va_callv (va_runV (As := [.int 2, .int (nI k4)]) (rest := []) ⟨hx, hb, hml, hown, hts⟩ (c_X7_failF l dC dI cI cZ cQ h0 dr fa nu le ln k13 fu 2 (nI k4) H.size ) (cwV 2 hts gX7_readNumber_X7_fail rfl rfl rfl hd_X7_fail_RX7 ⟨Nat.le_of_ble_eq_true rfl, Nat.le_of_ble_eq_true rfl⟩) (pv_D (va_recv hK hP (ci := 7) (q0 := 1) rfl rfl) hK hPc hDc) rfl rfl hl.1 rfl (lv_room (Nat.le_of_ble_eq_true rfl)) dX7_readNumber_128 ⟨Nat.le_of_ble_eq_true rfl, Nat.le_of_ble_eq_true rfl⟩) hS (fun q _ h => hFc q h) hFc (fun u51 t H1 locs ht hvm hw52 hB hz1 hk1 hS => ?_)
            obtain ⟨i53, i54, he55, he56, hP1, hD1⟩ := hB
            replace hP1 := va_hp ht hP1
            obtain ⟨hP, hD⟩ := va_join (wr := [(nu, .inl (cI, 5, .inl fnu)), (le, .inl (cI, 220, .inl fle))]) (w1 := [(h0, .inr (7, [.ref dr, .int i53, .ref nu, .ref le, .int (nI ln), .int (nI k13), .int i54]))]) hP hD [1] [0, 2] rfl rfl (by decide +kernel) (by decide +kernel) hk1 hFc hP1 hD1
            clear hP1 hD1
            clear hz1 hk1 hPc hDc hFc
            generalize H1 = H at hP hS ht ⊢
            have hPD : pdW (dC, dI) vwCl A [(nu, .inl (cI, 5, .inl fnu)), (le, .inl (cI, 220, .inl fle)), (h0, .inr (7, [.ref dr, .int i53, .ref nu, .ref le, .int (nI ln), .int (nI k13), .int i54]))] H := ⟨hP, hD⟩
            have hP := hPD.1
            have hD := hPD.2
            clear hPD
            try dsimp only at hw52
            refine lv_iconst (v := 0) hx hb dX7_readNumber_131 (by decide) ?_
            have hP9 := hP.sub (ws' := [(h0, .inr (7, [.ref dr, .int i53, .ref nu, .ref le, .int (nI ln), .int (nI k13), .int i54])), (le, .inl (cI, 220, .inl fle)), (nu, .inl (cI, 5, .inl fnu))]) [2, 1, 0] rfl
            have hD9 := hD.sub (ws' := [(h0, .inr (7, [.ref dr, .int i53, .ref nu, .ref le, .int (nI ln), .int (nI k13), .int i54])), (le, .inl (cI, 220, .inl fle)), (nu, .inl (cI, 5, .inl fnu))]) [2, 1, 0] (by decide +kernel) rfl
            exact W.zret (v := 0) hx hb hr (rfl) (fun t ht hW => ⟨⟨0, (fun _ => 0), rfl, rfl, ⟨fnu, i53, i54, k13, by omega, (by have h9 := nm_2a (lo := a0) (hi := a1) he5 (hv13_0.symm.trans (dg_stop (fun c9 => hw40 (by rw [hT _ (by omega)]; exact c9.2)))) (by omega); exact Or.inr ⟨rfl, by rw [h9]; decide, by rw [h9]; exact he55, (by rw [← he5]; exact he56)⟩), va_hq ht hP9, hD9⟩⟩, hS.F ht⟩) hS.2.2 dX7_readNumber_132
          ·
            have c49 : ¬ 3 < (k13 - k4) := fun h => c49 ((nI_ltI (a := 3) (b := k13 - k4) (by omega) (by omega)).mpr h)
            refine lv_iload hx hb dX7_readNumber_114 (lv_at hl 0 rfl) ?_
            refine lv_iload_n hx hb dX7_readNumber_116 rfl (lv_at hl 4 rfl) ?_
            refine lv_iload_n hx hb dX7_readNumber_117 rfl (lv_at hl 5 rfl) ?_
            have hPc := hP.sub (ws' := []) [] rfl
            refine va_calli (va_runSN (As := [.int a13_5, .int a0, .int a1]) (rest := []) ⟨hx, hb, hml, hown, hts⟩ (c_X10_within l dC dI cI cZ cQ a13_5 a0 a1 H.size ) ⟨va_cnB 3 hts gX7_readNumber_X10_within_n124 rfl rfl rfl (hN.n_X7_124) (hts (.initialized RX10) (wmx 20 rfl)) (by decide +kernel) ⟨Nat.le_of_ble_eq_true rfl, Nat.le_of_ble_eq_true rfl⟩, hts (.static yX10_within) (by decide +kernel), trivial⟩ (ps_R hK hPc) rfl rfl hl.1 rfl (lv_room (Nat.le_of_ble_eq_true rfl)) dX7_readNumber_118 ⟨Nat.le_of_ble_eq_true rfl, Nat.le_of_ble_eq_true rfl⟩) hS (fun q _ h => False.elim h) (fun q h => False.elim h) (fun r57 u58 t H1 locs ht hvm hw59 hB hz1 hk1 hS => ?_)
            have hP := hP.kept (fun k q hk => hk1 q.1 (hP k q hk).lt (fun h => h))
            clear hz1 hk1 hPc
            generalize H1 = H at hP hS ht ⊢
            try dsimp only at hw59
            rcases hw59 with ⟨rfl, hw59⟩ | ⟨rfl, hw59⟩
            ·
              refine lv_if_ne (tgt := 133) hx hb dX7_readNumber_121 (by decide) (fun c60 => ?_) (fun c60 => ?_)
              rotate_left
              · exact absurd c60 (by decide)
              clear c60
              refine lv_aload_n hx hb dX7_readNumber_133 rfl (lv_at hl 2 rfl) ?_
              refine va_get (D := (dC, dI)) (ci := 7) (v := .ref nu) (C := RX7) (T := TX7) (N := 7) hx hb hts hi_X7 hown hK hP 1 rfl rfl 2 (by decide) (hts (.fieldLink RX7 22 "LeftQuills$Reader" "numbers" "[I") (wmx 4 rfl)) (fun _ h9 => h9) rfl dX7_readNumber_134 ?_
              refine lv_iload_n hx hb dX7_readNumber_137 rfl (lv_at hl 3 rfl) ?_
              refine lv_iload hx hb dX7_readNumber_138 (lv_at hl 0 rfl) ?_
              refine va_iast hx hb hK hP hD hS 0 0 rfl rfl (vp_in_nI (n := k) (N := 5) (by omega) (by decide)) dX7_readNumber_140 (fun H locs hP hD hS => ?_)
              have hcl := (nI_clamp (n := k) (by omega))
              rw [hcl] at hP hD
              clear hcl
              have hPD : pdW (dC, dI) vwCl A [(nu, .inl (cI, 5, .inl (upd fnu k a13_5))), (h0, .inr (7, [.ref dr, .int fa, .ref nu, .ref le, .int (nI ln), .int (nI k13), .int fu])), (le, .inl (cI, 220, .inl fle))] H := ⟨hP, hD⟩
              have hP := hPD.1
              have hD := hPD.2
              clear hPD
              refine lv_iconst (v := 1) hx hb dX7_readNumber_141 (by decide) ?_
              have hP9 := hP.sub (ws' := [(h0, .inr (7, [.ref dr, .int fa, .ref nu, .ref le, .int (nI ln), .int (nI k13), .int fu])), (le, .inl (cI, 220, .inl fle)), (nu, .inl (cI, 5, .inl (upd fnu k a13_5)))]) [1, 2, 0] rfl
              have hD9 := hD.sub (ws' := [(h0, .inr (7, [.ref dr, .int fa, .ref nu, .ref le, .int (nI ln), .int (nI k13), .int fu])), (le, .inl (cI, 220, .inl fle)), (nu, .inl (cI, 5, .inl (upd fnu k a13_5)))]) [1, 2, 0] (by decide +kernel) rfl
              exact W.zret (v := 1) hx hb hr (rfl) (fun t ht hW => ⟨⟨1, (fun _ => 1), rfl, rfl, ⟨(upd fnu k a13_5), fa, fu, k13, by omega, (by have h9 := nm_0 (lo := a0) (hi := a1) he5 (hv13_0.symm.trans (dg_stop (fun c9 => hw40 (by rw [hT _ (by omega)]; exact c9.2)))) c47 (by omega) hv13_1 hw59; exact Or.inl ⟨rfl, h9.1, h9.2.1, rfl, rfl, by rw [← h9.2.2]⟩), va_hq ht hP9, hD9⟩⟩, hS.F ht⟩) hS.2.2 dX7_readNumber_142
            ·
              refine lv_if_ne (tgt := 133) hx hb dX7_readNumber_121 (by decide) (fun c62 => ?_) (fun c62 => ?_)
              · exact absurd c62 (by decide)
              clear c62
              refine lv_aload_n hx hb dX7_readNumber_124 rfl (lv_at hl 2 rfl) ?_
              refine lv_iconst (v := 2) hx hb dX7_readNumber_125 (by decide) ?_
              refine lv_iload hx hb dX7_readNumber_126 (lv_at hl 1 rfl) ?_
              have hc9 := va_cut (W' := [(h0, .inr (7, [.ref dr, .int fa, .ref nu, .ref le, .int (nI ln), .int (nI k13), .int fu]))]) hP hD hS hA [1] (by decide) rfl
              have hPc := hc9.1
              have hDc := hc9.2.1
              have hFc := hc9.2.2
              clear hc9
              refine va_callv (va_runV (As := [.int 2, .int (nI k4)]) (rest := []) ⟨hx, hb, hml, hown, hts⟩ (c_X7_failF l dC dI cI cZ cQ h0 dr fa nu le ln k13 fu 2 (nI k4) H.size ) (cwV 2 hts gX7_readNumber_X7_fail rfl rfl rfl hd_X7_fail_RX7 ⟨Nat.le_of_ble_eq_true rfl, Nat.le_of_ble_eq_true rfl⟩) (pv_D (va_recv hK hP (ci := 7) (q0 := 1) rfl rfl) hK hPc hDc) rfl rfl hl.1 rfl (lv_room (Nat.le_of_ble_eq_true rfl)) dX7_readNumber_128 ⟨Nat.le_of_ble_eq_true rfl, Nat.le_of_ble_eq_true rfl⟩) hS (fun q _ h => hFc q h) hFc (fun u64 t H1 locs ht hvm hw65 hB hz1 hk1 hS => ?_)
              obtain ⟨i66, i67, he68, he69, hP1, hD1⟩ := hB
              replace hP1 := va_hp ht hP1
              obtain ⟨hP, hD⟩ := va_join (wr := [(nu, .inl (cI, 5, .inl fnu)), (le, .inl (cI, 220, .inl fle))]) (w1 := [(h0, .inr (7, [.ref dr, .int i66, .ref nu, .ref le, .int (nI ln), .int (nI k13), .int i67]))]) hP hD [1] [0, 2] rfl rfl (by decide +kernel) (by decide +kernel) hk1 hFc hP1 hD1
              clear hP1 hD1
              clear hz1 hk1 hPc hDc hFc
              generalize H1 = H at hP hS ht ⊢
              have hPD : pdW (dC, dI) vwCl A [(nu, .inl (cI, 5, .inl fnu)), (le, .inl (cI, 220, .inl fle)), (h0, .inr (7, [.ref dr, .int i66, .ref nu, .ref le, .int (nI ln), .int (nI k13), .int i67]))] H := ⟨hP, hD⟩
              have hP := hPD.1
              have hD := hPD.2
              clear hPD
              try dsimp only at hw65
              refine lv_iconst (v := 0) hx hb dX7_readNumber_131 (by decide) ?_
              have hP9 := hP.sub (ws' := [(h0, .inr (7, [.ref dr, .int i66, .ref nu, .ref le, .int (nI ln), .int (nI k13), .int i67])), (le, .inl (cI, 220, .inl fle)), (nu, .inl (cI, 5, .inl fnu))]) [2, 1, 0] rfl
              have hD9 := hD.sub (ws' := [(h0, .inr (7, [.ref dr, .int i66, .ref nu, .ref le, .int (nI ln), .int (nI k13), .int i67])), (le, .inl (cI, 220, .inl fle)), (nu, .inl (cI, 5, .inl fnu))]) [2, 1, 0] (by decide +kernel) rfl
              exact W.zret (v := 0) hx hb hr (rfl) (fun t ht hW => ⟨⟨0, (fun _ => 0), rfl, rfl, ⟨fnu, i66, i67, k13, by omega, (by have h9 := nm_2b (lo := a0) (hi := a1) he5 (hv13_0.symm.trans (dg_stop (fun c9 => hw40 (by rw [hT _ (by omega)]; exact c9.2)))) c47 (by omega) hv13_1 hw59; exact Or.inr ⟨rfl, by rw [h9]; decide, by rw [h9]; exact he68, (by rw [← he5]; exact he69)⟩), va_hq ht hP9, hD9⟩⟩, hS.F ht⟩) hS.2.2 dX7_readNumber_132
        ·
          have c47 : k13 = k4 := (nI_eq (a := k13) (b := k4) (by omega) (by omega)).mp c47
          refine lv_aload_n hx hb dX7_readNumber_92 rfl (lv_at hl 2 rfl) ?_
          refine lv_iconst (v := 1) hx hb dX7_readNumber_93 (by decide) ?_
          refine lv_aload_n hx hb dX7_readNumber_94 rfl (lv_at hl 2 rfl) ?_
          refine va_get (D := (dC, dI)) (ci := 7) (v := .int (nI k13)) (C := RX7) (T := TX7) (N := 7) hx hb hts hi_X7 hown hK hP 1 rfl rfl 5 (by decide) (hts (.fieldLink RX7 32 "LeftQuills$Reader" "at" "I") (wmx 1 rfl)) (fun _ h9 => h9) rfl dX7_readNumber_95 ?_
          have hc9 := va_cut (W' := [(h0, .inr (7, [.ref dr, .int fa, .ref nu, .ref le, .int (nI ln), .int (nI k13), .int fu]))]) hP hD hS hA [1] (by decide) rfl
          have hPc := hc9.1
          have hDc := hc9.2.1
          have hFc := hc9.2.2
          clear hc9
          refine va_callv (va_runV (As := [.int 1, .int (nI k13)]) (rest := []) ⟨hx, hb, hml, hown, hts⟩ (c_X7_failF l dC dI cI cZ cQ h0 dr fa nu le ln k13 fu 1 (nI k13) H.size ) (cwV 2 hts gX7_readNumber_X7_fail rfl rfl rfl hd_X7_fail_RX7 ⟨Nat.le_of_ble_eq_true rfl, Nat.le_of_ble_eq_true rfl⟩) (pv_D (va_recv hK hP (ci := 7) (q0 := 1) rfl rfl) hK hPc hDc) rfl rfl hl.1 rfl (lv_room (Nat.le_of_ble_eq_true rfl)) dX7_readNumber_98 ⟨Nat.le_of_ble_eq_true rfl, Nat.le_of_ble_eq_true rfl⟩) hS (fun q _ h => hFc q h) hFc (fun u71 t H1 locs ht hvm hw72 hB hz1 hk1 hS => ?_)
          obtain ⟨i73, i74, he75, he76, hP1, hD1⟩ := hB
          replace hP1 := va_hp ht hP1
          obtain ⟨hP, hD⟩ := va_join (wr := [(nu, .inl (cI, 5, .inl fnu)), (le, .inl (cI, 220, .inl fle))]) (w1 := [(h0, .inr (7, [.ref dr, .int i73, .ref nu, .ref le, .int (nI ln), .int (nI k13), .int i74]))]) hP hD [1] [0, 2] rfl rfl (by decide +kernel) (by decide +kernel) hk1 hFc hP1 hD1
          clear hP1 hD1
          clear hz1 hk1 hPc hDc hFc
          generalize H1 = H at hP hS ht ⊢
          have hPD : pdW (dC, dI) vwCl A [(nu, .inl (cI, 5, .inl fnu)), (le, .inl (cI, 220, .inl fle)), (h0, .inr (7, [.ref dr, .int i73, .ref nu, .ref le, .int (nI ln), .int (nI k13), .int i74]))] H := ⟨hP, hD⟩
          have hP := hPD.1
          have hD := hPD.2
          clear hPD
          try dsimp only at hw72
          refine lv_iconst (v := 0) hx hb dX7_readNumber_101 (by decide) ?_
          have hP9 := hP.sub (ws' := [(h0, .inr (7, [.ref dr, .int i73, .ref nu, .ref le, .int (nI ln), .int (nI k13), .int i74])), (le, .inl (cI, 220, .inl fle)), (nu, .inl (cI, 5, .inl fnu))]) [2, 1, 0] rfl
          have hD9 := hD.sub (ws' := [(h0, .inr (7, [.ref dr, .int i73, .ref nu, .ref le, .int (nI ln), .int (nI k13), .int i74])), (le, .inl (cI, 220, .inl fle)), (nu, .inl (cI, 5, .inl fnu))]) [2, 1, 0] (by decide +kernel) rfl
          exact W.zret (v := 0) hx hb hr (rfl) (fun t ht hW => ⟨⟨0, (fun _ => 0), rfl, rfl, ⟨fnu, i73, i74, k13, by omega, (by have h9 := nm_1 (lo := a0) (hi := a1) he5 ((hv13_0.symm.trans (dg_stop (fun c9 => hw40 (by rw [hT _ (by omega)]; exact c9.2)))).trans c47); exact Or.inr ⟨rfl, by rw [h9]; decide, by rw [h9]; exact he75, (by rw [← he5, ← c47]; exact he76)⟩), va_hq ht hP9, hD9⟩⟩, hS.F ht⟩) hS.2.2 dX7_readNumber_102
set_option maxHeartbeats 4000000 in
set_option maxRecDepth 100000 in
theorem c_X7_readNumbersF (l : Launch) (dC : Nat → ClassId) (dI : Nat → Nat → Nat) (cI cZ cQ : ClassId) (h0 : Nat) (dr : Nat) (fa : Int32) (nu : Nat) (le : Nat) (ln : Nat) (at9 : Nat) (fu : Int32) (fle : Nat → Int32) (fnu : Nat → Int32) (t1 : Nat) (t2 : Nat) (c9 : Nat) (g1 : Nat → Int32) (g2 : Nat → Int32) (T0 : Nat → Int32) (sz : Nat) (hln : ln ≤ 220) (hat : at9 ≤ ln) (hT : ∀ j, j < ln → fle j = T0 j) (hc5 : c9 ≤ 5) : Met l yX7_readNumbers wsX7_readNumbers ({ frames := 2, cells := 0, slots := 0, locals := 87 }) (va_Pc [.ref h0, .ref t1, .ref t2] (fun U => U.heap.size = sz ∧ va_P (dC, dI) vwCl [(h0, .inr (7, [.ref dr, .int fa, .ref nu, .ref le, .int (nI ln), .int (nI at9), .int fu])), (le, .inl (cI, 220, .inl fle)), (nu, .inl (cI, 5, .inl fnu))] U.heap ∧ va_K (dC, dI) vwCl (tys0 cI cZ cQ) U ∧ va_D (fun _ => True) [(h0, .inr (7, [.ref dr, .int fa, .ref nu, .ref le, .int (nI ln), .int (nI at9), .int fu])), (le, .inl (cI, 220, .inl fle)), (nu, .inl (cI, 5, .inl fnu))] ∧ xN U ∧ va_T .int t1 c9 (fun j => .int (g1 j)) (va_A [(h0, .inr (7, [.ref dr, .int fa, .ref nu, .ref le, .int (nI ln), .int (nI at9), .int fu])), (le, .inl (cI, 220, .inl fle)), (nu, .inl (cI, 5, .inl fnu))] sz) U U.heap ∧ va_T .int t2 c9 (fun j => .int (g2 j)) (va_A [(h0, .inr (7, [.ref dr, .int fa, .ref nu, .ref le, .int (nI ln), .int (nI at9), .int fu])), (le, .inl (cI, 220, .inl fle)), (nu, .inl (cI, 5, .inl fnu))] sz) U U.heap)) (va_Qi (fun (r : Int32) (u : Nat → Nat) => r = nI (u 0)) (fun (u : Nat → Nat) (t : State) => ∃ (gg0 : Nat → Int32) (ii0 ii2 : Int32) (kk1 : Nat), kk1 ≤ ln ∧ ((u 0 = 1 ∧ (clN T0 ln g1 g2 c9 at9).1 = 0 ∧ kk1 = (clN T0 ln g1 g2 c9 at9).2.2 ∧ fu = ii2 ∧ fa = ii0 ∧ ∀ j, j < c9 → gg0 j = nmV T0 ln (rdP T0 ln at9 j)) ∨ (u 0 = 0 ∧ (clN T0 ln g1 g2 c9 at9).1 ≠ 0 ∧ ii2 = nI (clN T0 ln g1 g2 c9 at9).1 ∧ ii0 = nI (clN T0 ln g1 g2 c9 at9).2.1)) ∧ va_P (dC, dI) vwCl [(h0, .inr (7, [.ref dr, .int ii0, .ref nu, .ref le, .int (nI ln), .int (nI kk1), .int ii2])), (le, .inl (cI, 220, .inl fle)), (nu, .inl (cI, 5, .inl gg0))] t.heap ∧ va_D (va_A [(h0, .inr (7, [.ref dr, .int fa, .ref nu, .ref le, .int (nI ln), .int (nI at9), .int fu])), (le, .inl (cI, 220, .inl fle)), (nu, .inl (cI, 5, .inl fnu))] sz) [(h0, .inr (7, [.ref dr, .int ii0, .ref nu, .ref le, .int (nI ln), .int (nI kk1), .int ii2])), (le, .inl (cI, 220, .inl fle)), (nu, .inl (cI, 5, .inl gg0))]) (va_A [(h0, .inr (7, [.ref dr, .int fa, .ref nu, .ref le, .int (nI ln), .int (nI at9), .int fu])), (le, .inl (cI, 220, .inl fle)), (nu, .inl (cI, 5, .inl fnu))] sz)) 0 0 (va_A [(h0, .inr (7, [.ref dr, .int fa, .ref nu, .ref le, .int (nI ln), .int (nI at9), .int fu])), (le, .inl (cI, 220, .inl fle)), (nu, .inl (cI, 5, .inl fnu))] sz) := by
  refine Met.ofW (cc := cX7_readNumbers) (maxL := 5) (ret := (some .boolean)) (by decide) rfl ?_
  intro p e s m args below meth c s₁ B hml hv
  obtain ⟨rfl, hsz, hP, hK, hD0, hN, hT_t1, hT_t2⟩ := hv
  have hx := B.exec
  have hb := B.bytes
  have hr := B.returns
  have hts := atoms_spec (ws := wsX7_readNumbers) B.pre
  have hown : s.vm.findClass RX7 = some m.cls := findClass_of_methodNamed B.named
  have hlocks := B.notSynchronized
  have hi_X7 : ∀ w ∈ u_ws RX7 TX7 7, w ∈ wsX7_readNumbers := fun _ h => List.mem_cons_of_mem _ (List.mem_append_right _ (h))
  subst hsz
  have hD := hD0.self (sz := s.heap.size)
  generalize hAe : va_A [(h0, .inr (7, [.ref dr, .int fa, .ref nu, .ref le, .int (nI ln), .int (nI at9), .int fu])), (le, .inl (cI, 220, .inl fle)), (nu, .inl (cI, 5, .inl fnu))] s.heap.size = A at hD hT_t1 hT_t2 ⊢
  have hA : ∀ q : Nat, s.heap.size ≤ q → A q := fun q h => by rw [← hAe]; exact Or.inr h
  have hS : va_S A s.heap s.heap [] := va_S.rf
  have hl := lv_entry ([.ref h0, .ref t1, .ref t2]) (n := 5) (Nat.le_of_ble_eq_true rfl)
  rw [lg_entry_eq]
  generalize (lg_sl ([.ref h0, .ref t1, .ref t2]) ++ List.replicate (5 - (lg_sl ([.ref h0, .ref t1, .ref t2])).length) Slot.unset).toArray = ls at hl ⊢
  have hl : lv_has ls 5 [(0, .ref h0), (1, .ref t1), (2, .ref t2)] := hl
  refine lv_iconst (v := 5) hx hb dX7_readNumbers_0 (by decide) ?_
  refine lv_aload_n hx hb dX7_readNumbers_1 rfl (lv_at hl 1 rfl) ?_
  refine va_tlen (v := nI c9) hx hb hT_t1 hS rfl dX7_readNumbers_2 ?_
  refine lv_aload_n hx hb dX7_readNumbers_3 rfl (lv_at hl 2 rfl) ?_
  refine va_tlen (v := nI c9) hx hb hT_t2 hS rfl dX7_readNumbers_4 ?_
  refine va_mmin hx hb (hml.trans hl.1.symm) hown (hts (.methodLink RX7 41 Lib.Math.min.name) (wmx 1 rfl)) (hts (.static Lib.Math.min.name) (wmx 2 rfl)) (hts (.initialized "java/lang/Math") (wmx 3 rfl)) (hts (.code Lib.Math.min.name Lib.Math.min.code 2 (some .int)) (wmx 4 rfl)) (Nat.le_of_ble_eq_true rfl) (Nat.le_of_ble_eq_true rfl) (Nat.le_of_ble_eq_true rfl) (Nat.le_of_ble_eq_true rfl) dX7_readNumbers_5 ?_
  refine lv_topi (fun z1 ez1 => ?_)
  obtain rfl : z1 = nI (min c9 c9) := ez1.trans (x_minN (a := c9) (b := c9) (by omega) (by omega))
  refine va_mmin hx hb (hml.trans hl.1.symm) hown (hts (.methodLink RX7 41 Lib.Math.min.name) (wmx 1 rfl)) (hts (.static Lib.Math.min.name) (wmx 2 rfl)) (hts (.initialized "java/lang/Math") (wmx 3 rfl)) (hts (.code Lib.Math.min.name Lib.Math.min.code 2 (some .int)) (wmx 4 rfl)) (Nat.le_of_ble_eq_true rfl) (Nat.le_of_ble_eq_true rfl) (Nat.le_of_ble_eq_true rfl) (Nat.le_of_ble_eq_true rfl) dX7_readNumbers_8 ?_
  refine lv_topi (fun z2 ez2 => ?_)
  obtain rfl : z2 = nI (min 5 (min c9 c9)) := ez2.trans (x_minN (a := 5) (b := min c9 c9) (by omega) (by omega))
  refine lv_topi (fun z9 ez9 => ?_)
  obtain rfl : z9 = nI c9 := ez9.trans (by rw [Nat.min_self, Nat.min_eq_right hc5])
  refine lv_istore_n (lv' := [(3, .int (nI c9)), (0, .ref h0), (1, .ref t1), (2, .ref t2)]) hx hb dX7_readNumbers_11 rfl hl (by decide) rfl (fun ls hl => ?_)
  refine lv_iconst (v := 0) hx hb dX7_readNumbers_12 (by decide) ?_
  refine lv_istore (lv' := [(4, .int 0), (3, .int (nI c9)), (0, .ref h0), (1, .ref t1), (2, .ref t2)]) hx hb dX7_readNumbers_13 hl (by decide) rfl (fun ls hl => ?_)
  refine (fun (K : ∀ (d15 : Nat) (k15 : Nat) (f15_nu : Nat → Int32) (i15_h0_5 : Nat) (H : Heap) (locs : List Loc) (ls : Array Slot), k15 + d15 = c9 → i15_h0_5 ≤ ln → rd T0 ln g1 g2 (c9 - k15) k15 i15_h0_5 = rd T0 ln g1 g2 c9 0 at9 → i15_h0_5 = rdP T0 ln at9 k15 → (∀ j, j < k15 → f15_nu j = nmV T0 ln (rdP T0 ln at9 j)) → va_P (dC, dI) vwCl [(h0, .inr (7, [.ref dr, .int fa, .ref nu, .ref le, .int (nI ln), .int (nI i15_h0_5), .int fu])), (le, .inl (cI, 220, .inl fle)), (nu, .inl (cI, 5, .inl f15_nu))] H → va_D A [(h0, .inr (7, [.ref dr, .int fa, .ref nu, .ref le, .int (nI ln), .int (nI i15_h0_5), .int fu])), (le, .inl (cI, 220, .inl fle)), (nu, .inl (cI, 5, .inl f15_nu))] → va_S A s.heap H locs → lv_has ls 5 [(4, .int (nI k15)), (3, .int (nI c9)), (0, .ref h0), (1, .ref t1), (2, .ref t2)] → W p l e _ s m _ below meth c H locs _ _ _ (F0 m 15 ls [])) => K c9 0 fnu at9 _ _ _ (by omega) (by omega) rfl rfl (fun j hj => absurd hj (by omega)) hP hD hS (lv_sub hl [0, 1, 2, 3, 4] rfl)) ?_
  intro d15
  induction d15 with
  | zero =>
    intro k15 f15_nu i15_h0_5 H locs ls hk15 hf15_h0_5 hv15_0 hv15_1 hv15_2 hP hD hS hl
    refine lv_iload hx hb dX7_readNumbers_15 (lv_at hl 0 rfl) ?_
    refine lv_iload_n hx hb dX7_readNumbers_17 rfl (lv_at hl 1 rfl) ?_
    refine lv_icmp_ge (tgt := 46) hx hb dX7_readNumbers_18 (by decide) (fun c3 => ?_) (fun c3 => ?_)
    ·
      have c3 : c9 ≤ k15 := (nI_leI (a := c9) (b := k15) (by omega) (by omega)).mp c3
      have hx9 : rd T0 ln g1 g2 c9 0 at9 = (0, 0, i15_h0_5) := by rw [← hv15_0, show c9 - k15 = 0 from by omega]; rfl
      refine lv_aload_n hx hb dX7_readNumbers_46 rfl (lv_at hl 2 rfl) ?_
      have hc9 := va_cut (W' := [(h0, .inr (7, [.ref dr, .int fa, .ref nu, .ref le, .int (nI ln), .int (nI i15_h0_5), .int fu])), (le, .inl (cI, 220, .inl fle))]) hP hD hS hA [0, 1] (by decide) rfl
      have hPc := hc9.1
      have hDc := hc9.2.1
      have hFc := hc9.2.2
      clear hc9
      refine va_callv (va_runV (As := []) (rest := []) ⟨hx, hb, hml, hown, hts⟩ (c_X7_skipBlanksF l dC dI cI cZ cQ h0 dr fa nu le ln i15_h0_5 fu fle T0 H.size (by omega) (by omega) hT) (cwV 0 hts gX7_readNumbers_X7_skipBlanks rfl rfl rfl hd_X7_skipBlanks_RX7 ⟨Nat.le_of_ble_eq_true rfl, Nat.le_of_ble_eq_true rfl⟩) (pv_D (va_recv hK hP (ci := 7) (q0 := 0) rfl rfl) hK hPc hDc) rfl rfl hl.1 rfl (lv_room (Nat.le_of_ble_eq_true rfl)) dX7_readNumbers_47 ⟨Nat.le_of_ble_eq_true rfl, Nat.le_of_ble_eq_true rfl⟩) hS (fun q _ h => hFc q h) hFc (fun u5 t H1 locs ht hvm hw6 hB hz1 hk1 hS => ?_)
      obtain ⟨k7, hk7, he8, hP1, hD1⟩ := hB
      replace hP1 := va_hp ht hP1
      obtain ⟨hP, hD⟩ := va_join (wr := [(nu, .inl (cI, 5, .inl f15_nu))]) (w1 := [(h0, .inr (7, [.ref dr, .int fa, .ref nu, .ref le, .int (nI ln), .int (nI k7), .int fu])), (le, .inl (cI, 220, .inl fle))]) hP hD [0, 1] [2] rfl rfl (by decide +kernel) (by decide +kernel) hk1 hFc hP1 hD1
      clear hP1 hD1
      clear hz1 hk1 hPc hDc hFc
      generalize H1 = H at hP hS ht ⊢
      have hPD : pdW (dC, dI) vwCl A [(nu, .inl (cI, 5, .inl f15_nu)), (h0, .inr (7, [.ref dr, .int fa, .ref nu, .ref le, .int (nI ln), .int (nI k7), .int fu])), (le, .inl (cI, 220, .inl fle))] H := ⟨hP, hD⟩
      have hP := hPD.1
      have hD := hPD.2
      clear hPD
      try dsimp only at hw6
      refine lv_aload_n hx hb dX7_readNumbers_50 rfl (lv_at hl 2 rfl) ?_
      have hPc := hP.sub (ws' := [(h0, .inr (7, [.ref dr, .int fa, .ref nu, .ref le, .int (nI ln), .int (nI k7), .int fu])), (le, .inl (cI, 220, .inl fle))]) [1, 2] rfl
      refine va_calli (va_runV (As := []) (rest := []) ⟨hx, hb, hml, hown, hts⟩ (c_X7_letterHereF l dC dI cI cZ cQ h0 le ln k7 ([.ref dr, .int fa, .ref nu, .ref le, .int (nI ln), .int (nI k7), .int fu]) fle T0 H.size rfl rfl rfl (by omega) (by omega) hT) (cwV 0 hts gX7_readNumbers_X7_letterHere rfl rfl rfl hd_X7_letterHere_RX7 ⟨Nat.le_of_ble_eq_true rfl, Nat.le_of_ble_eq_true rfl⟩) (pv_R (va_recv hK hP (ci := 7) (q0 := 1) rfl rfl) hK hPc) rfl rfl hl.1 rfl (lv_room (Nat.le_of_ble_eq_true rfl)) dX7_readNumbers_51 ⟨Nat.le_of_ble_eq_true rfl, Nat.le_of_ble_eq_true rfl⟩) hS (fun q _ h => False.elim h) (fun q h => False.elim h) (fun r9 u10 t H1 locs ht hvm hw11 hB hz1 hk1 hS => ?_)
      have hP := hP.kept (fun k q hk => hk1 q.1 (hP k q hk).lt (fun h => h))
      clear hz1 hk1 hPc
      generalize H1 = H at hP hS ht ⊢
      try dsimp only at hw11
      refine lv_bipush (v := 59) hx hb dX7_readNumbers_54 (by decide) ?_
      refine lv_icmp_eq (tgt := 70) hx hb dX7_readNumbers_56 (by decide) (fun c12 => ?_) (fun c12 => ?_)
      ·
        have h59 := ltr_59 (T := T0) (n := ln) (q := k7) (by rw [← hw11]; exact c12)
        refine lv_aload_n hx hb dX7_readNumbers_70 rfl (lv_at hl 2 rfl) ?_
        refine lv_dup hx hb dX7_readNumbers_71 rfl ?_
        refine va_get (D := (dC, dI)) (ci := 7) (v := .int (nI k7)) (C := RX7) (T := TX7) (N := 7) hx hb hts hi_X7 hown hK hP 1 rfl rfl 5 (by decide) (hts (.fieldLink RX7 32 "LeftQuills$Reader" "at" "I") (wmx 5 rfl)) (fun _ h9 => h9) rfl dX7_readNumbers_72 ?_
        refine lv_iconst (v := 1) hx hb dX7_readNumbers_75 (by decide) ?_
        refine lv_iadd hx hb dX7_readNumbers_76 ?_
        refine lv_topi (fun z13 ez13 => ?_)
        obtain rfl : z13 = nI (k7 + 1) := ez13.trans (nI_add k7 1)
        refine va_put (D := (dC, dI)) (ci := 7) (v := .int (nI (k7 + 1))) (ty := .int) (C := RX7) (T := TX7) (N := 7) hx hb hts hi_X7 tyX7 tyX7_ok nmX7 hown hK hP hD hS 1 rfl rfl 5 (by decide) (hts (.fieldLink RX7 32 "LeftQuills$Reader" "at" "I") (wmx 5 rfl)) (fun _ h9 => h9) rfl (by decide +kernel) rfl rfl (Nat.le_of_ble_eq_true rfl) dX7_readNumbers_77 (fun H locs hP hD hS => ?_)
        have hPD : pdW (dC, dI) vwCl A [(nu, .inl (cI, 5, .inl f15_nu)), (h0, .inr (7, [.ref dr, .int fa, .ref nu, .ref le, .int (nI ln), .int (nI (k7 + 1)), .int fu])), (le, .inl (cI, 220, .inl fle))] H := ⟨hP, hD⟩
        have hP := hPD.1
        have hD := hPD.2
        clear hPD
        refine lv_iconst (v := 1) hx hb dX7_readNumbers_80 (by decide) ?_
        have hP9 := hP.sub (ws' := [(h0, .inr (7, [.ref dr, .int fa, .ref nu, .ref le, .int (nI ln), .int (nI (k7 + 1)), .int fu])), (le, .inl (cI, 220, .inl fle)), (nu, .inl (cI, 5, .inl f15_nu))]) [1, 2, 0] rfl
        have hD9 := hD.sub (ws' := [(h0, .inr (7, [.ref dr, .int fa, .ref nu, .ref le, .int (nI ln), .int (nI (k7 + 1)), .int fu])), (le, .inl (cI, 220, .inl fle)), (nu, .inl (cI, 5, .inl f15_nu))]) [1, 2, 0] (by decide +kernel) rfl
        exact W.zret (v := 1) hx hb hr (rfl) (fun t ht hW => ⟨⟨1, (fun _ => 1), rfl, rfl, ⟨f15_nu, fa, fu, (k7 + 1), by omega, (by have h9 := cl_semi hx9 (by rw [← he8, ← hw11]; exact c12); exact Or.inl ⟨rfl, by rw [h9], by rw [h9]; exact congrArg (· + 1) he8, rfl, rfl, fun j hj => hv15_2 j (by omega)⟩), va_hq ht hP9, hD9⟩⟩, hS.F ht⟩) hS.2.2 dX7_readNumbers_81
      ·
        refine lv_aload_n hx hb dX7_readNumbers_59 rfl (lv_at hl 2 rfl) ?_
        refine lv_iconst (v := 1) hx hb dX7_readNumbers_60 (by decide) ?_
        refine lv_aload_n hx hb dX7_readNumbers_61 rfl (lv_at hl 2 rfl) ?_
        refine va_get (D := (dC, dI)) (ci := 7) (v := .int (nI k7)) (C := RX7) (T := TX7) (N := 7) hx hb hts hi_X7 hown hK hP 1 rfl rfl 5 (by decide) (hts (.fieldLink RX7 32 "LeftQuills$Reader" "at" "I") (wmx 5 rfl)) (fun _ h9 => h9) rfl dX7_readNumbers_62 ?_
        have hc9 := va_cut (W' := [(h0, .inr (7, [.ref dr, .int fa, .ref nu, .ref le, .int (nI ln), .int (nI k7), .int fu]))]) hP hD hS hA [1] (by decide) rfl
        have hPc := hc9.1
        have hDc := hc9.2.1
        have hFc := hc9.2.2
        clear hc9
        refine va_callv (va_runV (As := [.int 1, .int (nI k7)]) (rest := []) ⟨hx, hb, hml, hown, hts⟩ (c_X7_failF l dC dI cI cZ cQ h0 dr fa nu le ln k7 fu 1 (nI k7) H.size ) (cwV 2 hts gX7_readNumbers_X7_fail rfl rfl rfl hd_X7_fail_RX7 ⟨Nat.le_of_ble_eq_true rfl, Nat.le_of_ble_eq_true rfl⟩) (pv_D (va_recv hK hP (ci := 7) (q0 := 1) rfl rfl) hK hPc hDc) rfl rfl hl.1 rfl (lv_room (Nat.le_of_ble_eq_true rfl)) dX7_readNumbers_65 ⟨Nat.le_of_ble_eq_true rfl, Nat.le_of_ble_eq_true rfl⟩) hS (fun q _ h => hFc q h) hFc (fun u15 t H1 locs ht hvm hw16 hB hz1 hk1 hS => ?_)
        obtain ⟨i17, i18, he19, he20, hP1, hD1⟩ := hB
        replace hP1 := va_hp ht hP1
        obtain ⟨hP, hD⟩ := va_join (wr := [(nu, .inl (cI, 5, .inl f15_nu)), (le, .inl (cI, 220, .inl fle))]) (w1 := [(h0, .inr (7, [.ref dr, .int i17, .ref nu, .ref le, .int (nI ln), .int (nI k7), .int i18]))]) hP hD [1] [0, 2] rfl rfl (by decide +kernel) (by decide +kernel) hk1 hFc hP1 hD1
        clear hP1 hD1
        clear hz1 hk1 hPc hDc hFc
        generalize H1 = H at hP hS ht ⊢
        have hPD : pdW (dC, dI) vwCl A [(nu, .inl (cI, 5, .inl f15_nu)), (le, .inl (cI, 220, .inl fle)), (h0, .inr (7, [.ref dr, .int i17, .ref nu, .ref le, .int (nI ln), .int (nI k7), .int i18]))] H := ⟨hP, hD⟩
        have hP := hPD.1
        have hD := hPD.2
        clear hPD
        try dsimp only at hw16
        refine lv_iconst (v := 0) hx hb dX7_readNumbers_68 (by decide) ?_
        have hP9 := hP.sub (ws' := [(h0, .inr (7, [.ref dr, .int i17, .ref nu, .ref le, .int (nI ln), .int (nI k7), .int i18])), (le, .inl (cI, 220, .inl fle)), (nu, .inl (cI, 5, .inl f15_nu))]) [2, 1, 0] rfl
        have hD9 := hD.sub (ws' := [(h0, .inr (7, [.ref dr, .int i17, .ref nu, .ref le, .int (nI ln), .int (nI k7), .int i18])), (le, .inl (cI, 220, .inl fle)), (nu, .inl (cI, 5, .inl f15_nu))]) [2, 1, 0] (by decide +kernel) rfl
        exact W.zret (v := 0) hx hb hr (rfl) (fun t ht hW => ⟨⟨0, (fun _ => 0), rfl, rfl, ⟨f15_nu, i17, i18, k7, by omega, (by have h9 := cl_not hx9 (by rw [← he8, ← hw11]; exact c12); exact Or.inr ⟨rfl, by rw [h9]; exact Nat.one_ne_zero, by rw [h9]; exact he19, by rw [h9, ← he8]; exact he20⟩), va_hq ht hP9, hD9⟩⟩, hS.F ht⟩) hS.2.2 dX7_readNumbers_69
    ·
      have c3 : ¬ c9 ≤ k15 := fun h => c3 ((nI_leI (a := c9) (b := k15) (by omega) (by omega)).mpr h)
      omega
  | succ d15 ih15 =>
    intro k15 f15_nu i15_h0_5 H locs ls hk15 hf15_h0_5 hv15_0 hv15_1 hv15_2 hP hD hS hl
    refine lv_iload hx hb dX7_readNumbers_15 (lv_at hl 0 rfl) ?_
    refine lv_iload_n hx hb dX7_readNumbers_17 rfl (lv_at hl 1 rfl) ?_
    refine lv_icmp_ge (tgt := 46) hx hb dX7_readNumbers_18 (by decide) (fun c21 => ?_) (fun c21 => ?_)
    ·
      have c21 : c9 ≤ k15 := (nI_leI (a := c9) (b := k15) (by omega) (by omega)).mp c21
      omega
    ·
      have c21 : ¬ c9 ≤ k15 := fun h => c21 ((nI_leI (a := c9) (b := k15) (by omega) (by omega)).mpr h)
      refine lv_aload_n hx hb dX7_readNumbers_21 rfl (lv_at hl 2 rfl) ?_
      refine lv_iload hx hb dX7_readNumbers_22 (lv_at hl 0 rfl) ?_
      refine lv_aload_n hx hb dX7_readNumbers_24 rfl (lv_at hl 3 rfl) ?_
      refine lv_iload hx hb dX7_readNumbers_25 (lv_at hl 0 rfl) ?_
      refine va_ti hx hb hT_t1 hS (vp_in_nI (n := k15) (N := c9) (by omega) (by omega)) (v := .int (g1 k15)) (congrArg (fun y9 => Value.int (g1 y9)) (nI_clamp (n := k15) (by omega))) dX7_readNumbers_27 ?_
      refine lv_aload_n hx hb dX7_readNumbers_28 rfl (lv_at hl 4 rfl) ?_
      refine lv_iload hx hb dX7_readNumbers_29 (lv_at hl 0 rfl) ?_
      refine va_ti hx hb hT_t2 hS (vp_in_nI (n := k15) (N := c9) (by omega) (by omega)) (v := .int (g2 k15)) (congrArg (fun y9 => Value.int (g2 y9)) (nI_clamp (n := k15) (by omega))) dX7_readNumbers_31 ?_
      have hc9 := va_cut (W' := [(h0, .inr (7, [.ref dr, .int fa, .ref nu, .ref le, .int (nI ln), .int (nI i15_h0_5), .int fu])), (le, .inl (cI, 220, .inl fle)), (nu, .inl (cI, 5, .inl f15_nu))]) hP hD hS hA [0, 1, 2] (by decide) rfl
      have hPc := hc9.1
      have hDc := hc9.2.1
      have hFc := hc9.2.2
      clear hc9
      refine va_calli (va_runV (As := [.int (nI k15), .int (g1 k15), .int (g2 k15)]) (rest := []) ⟨hx, hb, hml, hown, hts⟩ (c_X7_readNumberF l dC dI cI cZ cQ h0 dr fa nu le ln i15_h0_5 fu fle f15_nu k15 (g1 k15) (g2 k15) T0 H.size (by omega) (by omega) hT (by omega)) (cwV 3 hts gX7_readNumbers_X7_readNumber rfl rfl rfl hd_X7_readNumber_RX7 ⟨Nat.le_of_ble_eq_true rfl, Nat.le_of_ble_eq_true rfl⟩) ⟨fun a U g mk q => by obtain ⟨q0, q1, qP, qK, qD, qN⟩ := q; exact ⟨q0, q1, qP, va_K.moved (u := U) (U := U.calling g mk a) (Vm.Alike.refl U.vm) qK, qD, qN.calling⟩, va_recv hK hP (ci := 7) (q0 := 0) rfl rfl, fun U hU hW => ⟨rfl, by rw [hU], by rw [hU]; exact hPc, va_K.moved hW.alike hK, hDc.weaken (fun _ _ _ _ => trivial), hN.warm hW⟩⟩ rfl rfl hl.1 rfl (lv_room (Nat.le_of_ble_eq_true rfl)) dX7_readNumbers_32 ⟨Nat.le_of_ble_eq_true rfl, Nat.le_of_ble_eq_true rfl⟩) hS (fun q _ h => hFc q h) hFc (fun r22 u23 t H1 locs ht hvm hw24 hB hz1 hk1 hS => ?_)
      obtain ⟨f25, i26, i28, k27, hk27, he29, hP1, hD1⟩ := hB
      replace hP1 := va_hp ht hP1
      obtain ⟨hP, hD⟩ := va_join (wr := []) (w1 := [(h0, .inr (7, [.ref dr, .int i26, .ref nu, .ref le, .int (nI ln), .int (nI k27), .int i28])), (le, .inl (cI, 220, .inl fle)), (nu, .inl (cI, 5, .inl f25))]) hP hD [0, 1, 2] [] rfl rfl (by decide +kernel) (by decide +kernel) hk1 hFc hP1 hD1
      clear hP1 hD1
      clear hz1 hk1 hPc hDc hFc
      generalize H1 = H at hP hS ht ⊢
      have hPD : pdW (dC, dI) vwCl A [(h0, .inr (7, [.ref dr, .int i26, .ref nu, .ref le, .int (nI ln), .int (nI k27), .int i28])), (le, .inl (cI, 220, .inl fle)), (nu, .inl (cI, 5, .inl f25))] H := ⟨hP, hD⟩
      have hP := hPD.1
      have hD := hPD.2
      clear hPD
      try dsimp only at hw24
      rcases he29 with ⟨g30, g31, rfl, rfl, rfl, rfl⟩ | ⟨g30, g31, g32, g33⟩
      ·
        obtain rfl : r22 = 1 := by rw [hw24, g30]; rfl
        have hPD : pdW (dC, dI) vwCl A [(h0, .inr (7, [.ref dr, .int fa, .ref nu, .ref le, .int (nI ln), .int (nI (nmE T0 ln i15_h0_5)), .int fu])), (le, .inl (cI, 220, .inl fle)), (nu, .inl (cI, 5, .inl (upd f15_nu k15 (nmV T0 ln i15_h0_5))))] H := ⟨hP, hD⟩
        have hP := hPD.1
        have hD := hPD.2
        clear hPD
        refine lv_if_ne (tgt := 40) hx hb dX7_readNumbers_35 (by decide) (fun c34 => ?_) (fun c34 => ?_)
        rotate_left
        · exact absurd c34 (by decide)
        clear c34
        refine lv_iinc (v := nI (k15 + 1)) (lv' := [(4, .int (nI (k15 + 1))), (3, .int (nI c9)), (0, .ref h0), (1, .ref t1), (2, .ref t2)]) hx hb dX7_readNumbers_40 hl (k := 0) rfl ((rfl : nI k15 + Int32.ofInt 1 = nI k15 + 1).trans (nI_add k15 1)) (by decide) rfl (fun ls hl => ?_)
        refine lv_goto (tgt := 15) hx hb dX7_readNumbers_43 (by decide) ?_
        exact ih15 (k15 + 1) (upd f15_nu k15 (nmV T0 ln i15_h0_5)) (nmE T0 ln i15_h0_5) _ _ _ (by omega) (by omega) ((rd_step (by omega) g31).trans hv15_0) (by rw [hv15_1]; rfl) (upd_all hv15_2 (by rw [← hv15_1])) hP hD hS (lv_sub hl [0, 1, 2, 3, 4] rfl)
      ·
        obtain rfl : r22 = 0 := by rw [hw24, g30]; rfl
        refine lv_if_ne (tgt := 40) hx hb dX7_readNumbers_35 (by decide) (fun c35 => ?_) (fun c35 => ?_)
        · exact absurd c35 (by decide)
        clear c35
        refine lv_iconst (v := 0) hx hb dX7_readNumbers_38 (by decide) ?_
        have hP9 := hP.sub (ws' := [(h0, .inr (7, [.ref dr, .int i26, .ref nu, .ref le, .int (nI ln), .int (nI k27), .int i28])), (le, .inl (cI, 220, .inl fle)), (nu, .inl (cI, 5, .inl f25))]) [0, 1, 2] rfl
        have hD9 := hD.sub (ws' := [(h0, .inr (7, [.ref dr, .int i26, .ref nu, .ref le, .int (nI ln), .int (nI k27), .int i28])), (le, .inl (cI, 220, .inl fle)), (nu, .inl (cI, 5, .inl f25))]) [0, 1, 2] (by decide +kernel) rfl
        exact W.zret (v := 0) hx hb hr (rfl) (fun t ht hW => ⟨⟨0, (fun _ => 0), rfl, rfl, ⟨f25, i26, i28, k27, by omega, (by have h9 := cl_fail (hv15_0.symm.trans (rd_fail (by omega) g31)) g31; exact Or.inr ⟨rfl, by rw [h9]; exact g31, by rw [h9]; exact g32, by rw [h9]; exact g33⟩), va_hq ht hP9, hD9⟩⟩, hS.F ht⟩) hS.2.2 dX7_readNumbers_39
set_option maxHeartbeats 4000000 in
set_option maxRecDepth 100000 in
theorem c_X7_startWordF (l : Launch) (dC : Nat → ClassId) (dI : Nat → Nat → Nat) (cI cZ cQ : ClassId) (h0 : Nat) (dr : Nat) (fa : Int32) (nu : Nat) (le : Nat) (ln : Nat) (at9 : Nat) (fu : Int32) (a0 : Int32) (sz : Nat) (hln : ln ≤ 220) (hat : at9 < ln) : Met l yX7_startWord wsX7_startWord ({ frames := 1, cells := 0, slots := 0, locals := 62 }) (va_Pc [.ref h0, .int a0] (fun U => U.heap.size = sz ∧ va_P (dC, dI) vwCl [(h0, .inr (7, [.ref dr, .int fa, .ref nu, .ref le, .int (nI ln), .int (nI at9), .int fu]))] U.heap ∧ va_K (dC, dI) vwCl (tys0 cI cZ cQ) U ∧ va_D (fun _ => True) [(h0, .inr (7, [.ref dr, .int fa, .ref nu, .ref le, .int (nI ln), .int (nI at9), .int fu]))])) (va_Qi (fun (r : Int32) (u : Nat → Nat) => r = nI (u 0)) (fun (u : Nat → Nat) (t : State) => ∃ (ii0 ii2 : Int32) (kk1 : Nat), kk1 ≤ ln ∧ ((u 0 = 1 ∧ a0 = 0 ∧ kk1 = at9 + 1 ∧ fu = ii2 ∧ fa = ii0) ∨ (u 0 = 0 ∧ a0 ≠ 0 ∧ ii2 = 3 ∧ ii0 = nI at9)) ∧ va_P (dC, dI) vwCl [(h0, .inr (7, [.ref dr, .int ii0, .ref nu, .ref le, .int (nI ln), .int (nI kk1), .int ii2]))] t.heap ∧ va_D (va_A [(h0, .inr (7, [.ref dr, .int fa, .ref nu, .ref le, .int (nI ln), .int (nI at9), .int fu]))] sz) [(h0, .inr (7, [.ref dr, .int ii0, .ref nu, .ref le, .int (nI ln), .int (nI kk1), .int ii2]))]) (va_A [(h0, .inr (7, [.ref dr, .int fa, .ref nu, .ref le, .int (nI ln), .int (nI at9), .int fu]))] sz)) 0 0 (va_A [(h0, .inr (7, [.ref dr, .int fa, .ref nu, .ref le, .int (nI ln), .int (nI at9), .int fu]))] sz) := by
  refine Met.ofW (cc := cX7_startWord) (maxL := 2) (ret := (some .boolean)) (by decide) rfl ?_
  intro p e s m args below meth c s₁ B hml hv
  obtain ⟨rfl, hsz, hP, hK, hD0⟩ := hv
  have hx := B.exec
  have hb := B.bytes
  have hr := B.returns
  have hts := atoms_spec (ws := wsX7_startWord) B.pre
  have hown : s.vm.findClass RX7 = some m.cls := findClass_of_methodNamed B.named
  have hlocks := B.notSynchronized
  have hi_X7 : ∀ w ∈ u_ws RX7 TX7 7, w ∈ wsX7_startWord := fun _ h => List.mem_cons_of_mem _ (List.mem_append_right _ (h))
  subst hsz
  have hD := hD0.self (sz := s.heap.size)
  generalize hAe : va_A [(h0, .inr (7, [.ref dr, .int fa, .ref nu, .ref le, .int (nI ln), .int (nI at9), .int fu]))] s.heap.size = A at hD ⊢
  have hA : ∀ q : Nat, s.heap.size ≤ q → A q := fun q h => by rw [← hAe]; exact Or.inr h
  have hS : va_S A s.heap s.heap [] := va_S.rf
  have hl := lv_entry ([.ref h0, .int a0]) (n := 2) (Nat.le_of_ble_eq_true rfl)
  rw [lg_entry_eq]
  generalize (lg_sl ([.ref h0, .int a0]) ++ List.replicate (2 - (lg_sl ([.ref h0, .int a0])).length) Slot.unset).toArray = ls at hl ⊢
  have hl : lv_has ls 2 [(0, .ref h0), (1, .int a0)] := hl
  refine lv_iload_n hx hb dX7_startWord_0 rfl (lv_at hl 1 rfl) ?_
  refine lv_if_eq (tgt := 15) hx hb dX7_startWord_1 (by decide) (fun c1 => ?_) (fun c1 => ?_)
  ·
    refine lv_aload_n hx hb dX7_startWord_15 rfl (lv_at hl 0 rfl) ?_
    refine lv_dup hx hb dX7_startWord_16 rfl ?_
    refine va_get (D := (dC, dI)) (ci := 7) (v := .int (nI at9)) (C := RX7) (T := TX7) (N := 7) hx hb hts hi_X7 hown hK hP 0 rfl rfl 5 (by decide) (hts (.fieldLink RX7 32 "LeftQuills$Reader" "at" "I") (wmx 1 rfl)) (fun _ h9 => h9) rfl dX7_startWord_17 ?_
    refine lv_iconst (v := 1) hx hb dX7_startWord_20 (by decide) ?_
    refine lv_iadd hx hb dX7_startWord_21 ?_
    refine lv_topi (fun z2 ez2 => ?_)
    obtain rfl : z2 = nI (at9 + 1) := ez2.trans (nI_add at9 1)
    refine va_put (D := (dC, dI)) (ci := 7) (v := .int (nI (at9 + 1))) (ty := .int) (C := RX7) (T := TX7) (N := 7) hx hb hts hi_X7 tyX7 tyX7_ok nmX7 hown hK hP hD hS 0 rfl rfl 5 (by decide) (hts (.fieldLink RX7 32 "LeftQuills$Reader" "at" "I") (wmx 1 rfl)) (fun _ h9 => h9) rfl (by decide +kernel) rfl rfl (Nat.le_of_ble_eq_true rfl) dX7_startWord_22 (fun H locs hP hD hS => ?_)
    have hPD : pdW (dC, dI) vwCl A [(h0, .inr (7, [.ref dr, .int fa, .ref nu, .ref le, .int (nI ln), .int (nI (at9 + 1)), .int fu]))] H := ⟨hP, hD⟩
    have hP := hPD.1
    have hD := hPD.2
    clear hPD
    refine lv_iconst (v := 1) hx hb dX7_startWord_25 (by decide) ?_
    have hP9 := hP.sub (ws' := [(h0, .inr (7, [.ref dr, .int fa, .ref nu, .ref le, .int (nI ln), .int (nI (at9 + 1)), .int fu]))]) [0] rfl
    have hD9 := hD.sub (ws' := [(h0, .inr (7, [.ref dr, .int fa, .ref nu, .ref le, .int (nI ln), .int (nI (at9 + 1)), .int fu]))]) [0] (by decide +kernel) rfl
    exact W.zret (v := 1) hx hb hr (rfl) (fun t ht hW => ⟨⟨1, (fun _ => 1), rfl, rfl, ⟨fa, fu, (at9 + 1), by omega, Or.inl ⟨rfl, c1, rfl, rfl, rfl⟩, va_hq ht hP9, hD9⟩⟩, hS.F ht⟩) hS.2.2 dX7_startWord_26
  ·
    refine lv_aload_n hx hb dX7_startWord_4 rfl (lv_at hl 0 rfl) ?_
    refine lv_iconst (v := 3) hx hb dX7_startWord_5 (by decide) ?_
    refine lv_aload_n hx hb dX7_startWord_6 rfl (lv_at hl 0 rfl) ?_
    refine va_get (D := (dC, dI)) (ci := 7) (v := .int (nI at9)) (C := RX7) (T := TX7) (N := 7) hx hb hts hi_X7 hown hK hP 0 rfl rfl 5 (by decide) (hts (.fieldLink RX7 32 "LeftQuills$Reader" "at" "I") (wmx 1 rfl)) (fun _ h9 => h9) rfl dX7_startWord_7 ?_
    have hc9 := va_cut (W' := [(h0, .inr (7, [.ref dr, .int fa, .ref nu, .ref le, .int (nI ln), .int (nI at9), .int fu]))]) hP hD hS hA [0] (by decide) rfl
    have hPc := hc9.1
    have hDc := hc9.2.1
    have hFc := hc9.2.2
    clear hc9
    refine va_callv (va_runV (As := [.int 3, .int (nI at9)]) (rest := []) ⟨hx, hb, hml, hown, hts⟩ (c_X7_failF l dC dI cI cZ cQ h0 dr fa nu le ln at9 fu 3 (nI at9) s.heap.size ) (cwV 2 hts gX7_startWord_X7_fail rfl rfl rfl hd_X7_fail_RX7 ⟨Nat.le_of_ble_eq_true rfl, Nat.le_of_ble_eq_true rfl⟩) (pv_D (va_recv hK hP (ci := 7) (q0 := 0) rfl rfl) hK hPc hDc) rfl rfl hl.1 rfl (lv_room (Nat.le_of_ble_eq_true rfl)) dX7_startWord_10 ⟨Nat.le_of_ble_eq_true rfl, Nat.le_of_ble_eq_true rfl⟩) hS (fun q _ h => hFc q h) hFc (fun u4 t H1 locs ht hvm hw5 hB hz1 hk1 hS => ?_)
    obtain ⟨i6, i7, he8, he9, hP1, hD1⟩ := hB
    replace hP1 := va_hp ht hP1
    obtain ⟨hP, hD⟩ := va_join (wr := []) (w1 := [(h0, .inr (7, [.ref dr, .int i6, .ref nu, .ref le, .int (nI ln), .int (nI at9), .int i7]))]) hP hD [0] [] rfl rfl (by decide +kernel) (by decide +kernel) hk1 hFc hP1 hD1
    clear hP1 hD1
    clear hz1 hk1 hPc hDc hFc
    generalize H1 = H at hP hS ht ⊢
    have hPD : pdW (dC, dI) vwCl A [(h0, .inr (7, [.ref dr, .int i6, .ref nu, .ref le, .int (nI ln), .int (nI at9), .int i7]))] H := ⟨hP, hD⟩
    have hP := hPD.1
    have hD := hPD.2
    clear hPD
    try dsimp only at hw5
    refine lv_iconst (v := 0) hx hb dX7_startWord_13 (by decide) ?_
    have hP9 := hP.sub (ws' := [(h0, .inr (7, [.ref dr, .int i6, .ref nu, .ref le, .int (nI ln), .int (nI at9), .int i7]))]) [0] rfl
    have hD9 := hD.sub (ws' := [(h0, .inr (7, [.ref dr, .int i6, .ref nu, .ref le, .int (nI ln), .int (nI at9), .int i7]))]) [0] (by decide +kernel) rfl
    exact W.zret (v := 0) hx hb hr (rfl) (fun t ht hW => ⟨⟨0, (fun _ => 0), rfl, rfl, ⟨i6, i7, at9, by omega, Or.inr ⟨rfl, c1, he8, he9⟩, va_hq ht hP9, hD9⟩⟩, hS.F ht⟩) hS.2.2 dX7_startWord_14
set_option maxHeartbeats 4000000 in
set_option maxRecDepth 100000 in
theorem c_X5_clearF (l : Launch) (dC : Nat → ClassId) (dI : Nat → Nat → Nat) (cI cZ cQ : ClassId) (h0 : Nat) (st : Nat) (bl : Int32) (mm : Int32) (nq : Nat) (nh : Nat) (o5 : Nat) (o6 : Nat) (o7 : Nat) (o8 : Nat) (o9 : Nat) (o10 : Nat) (o11 : Nat) (o12 : Nat) (sz : Nat)  : Met l yX5_clear wsX5_clear ({ frames := 0, cells := 0, slots := 0, locals := 40 }) (va_Pc [.ref h0] (fun U => U.heap.size = sz ∧ va_P (dC, dI) vwCl [(h0, .inr (5, [.int (nI st), .int bl, .int mm, .int (nI nq), .int (nI nh), .ref o5, .ref o6, .ref o7, .ref o8, .ref o9, .ref o10, .ref o11, .ref o12]))] U.heap ∧ va_K (dC, dI) vwCl (tys0 cI cZ cQ) U ∧ va_D (fun _ => True) [(h0, .inr (5, [.int (nI st), .int bl, .int mm, .int (nI nq), .int (nI nh), .ref o5, .ref o6, .ref o7, .ref o8, .ref o9, .ref o10, .ref o11, .ref o12]))])) (va_Qv (fun (u : Nat → Nat) => True) (fun (_ : Nat → Nat) (t : State) => ∃ (ii1 ii2 : Int32) (kk0 kk3 kk4 : Nat), kk0 ≤ 1 ∧ kk3 ≤ 8 ∧ kk4 ≤ 4 ∧ (kk0 = 0) ∧ (kk3 = 0) ∧ (kk4 = 0) ∧ (ii1 = 0) ∧ (ii2 = 0) ∧ va_P (dC, dI) vwCl [(h0, .inr (5, [.int (nI kk0), .int ii1, .int ii2, .int (nI kk3), .int (nI kk4), .ref o5, .ref o6, .ref o7, .ref o8, .ref o9, .ref o10, .ref o11, .ref o12]))] t.heap ∧ va_D (va_A [(h0, .inr (5, [.int (nI st), .int bl, .int mm, .int (nI nq), .int (nI nh), .ref o5, .ref o6, .ref o7, .ref o8, .ref o9, .ref o10, .ref o11, .ref o12]))] sz) [(h0, .inr (5, [.int (nI kk0), .int ii1, .int ii2, .int (nI kk3), .int (nI kk4), .ref o5, .ref o6, .ref o7, .ref o8, .ref o9, .ref o10, .ref o11, .ref o12]))]) (va_A [(h0, .inr (5, [.int (nI st), .int bl, .int mm, .int (nI nq), .int (nI nh), .ref o5, .ref o6, .ref o7, .ref o8, .ref o9, .ref o10, .ref o11, .ref o12]))] sz)) 0 0 (va_A [(h0, .inr (5, [.int (nI st), .int bl, .int mm, .int (nI nq), .int (nI nh), .ref o5, .ref o6, .ref o7, .ref o8, .ref o9, .ref o10, .ref o11, .ref o12]))] sz) := by
  refine Met.ofW (cc := cX5_clear) (maxL := 1) (ret := none) (by decide) rfl ?_
  intro p e s m args below meth c s₁ B hml hv
  obtain ⟨rfl, hsz, hP, hK, hD0⟩ := hv
  have hx := B.exec
  have hb := B.bytes
  have hr := B.returns
  have hts := atoms_spec (ws := wsX5_clear) B.pre
  have hown : s.vm.findClass RX5 = some m.cls := findClass_of_methodNamed B.named
  have hlocks := B.notSynchronized
  have hi_X5 : ∀ w ∈ u_ws RX5 TX5 13, w ∈ wsX5_clear := fun _ h => List.mem_cons_of_mem _ (List.mem_append_right _ (h))
  subst hsz
  have hD := hD0.self (sz := s.heap.size)
  generalize hAe : va_A [(h0, .inr (5, [.int (nI st), .int bl, .int mm, .int (nI nq), .int (nI nh), .ref o5, .ref o6, .ref o7, .ref o8, .ref o9, .ref o10, .ref o11, .ref o12]))] s.heap.size = A at hD ⊢
  have hA : ∀ q : Nat, s.heap.size ≤ q → A q := fun q h => by rw [← hAe]; exact Or.inr h
  have hS : va_S A s.heap s.heap [] := va_S.rf
  have hl := lv_entry ([.ref h0]) (n := 1) (Nat.le_of_ble_eq_true rfl)
  rw [lg_entry_eq]
  generalize (lg_sl ([.ref h0]) ++ List.replicate (1 - (lg_sl ([.ref h0])).length) Slot.unset).toArray = ls at hl ⊢
  have hl : lv_has ls 1 [(0, .ref h0)] := hl
  refine lv_aload_n hx hb dX5_clear_0 rfl (lv_at hl 0 rfl) ?_
  refine lv_iconst (v := 0) hx hb dX5_clear_1 (by decide) ?_
  refine va_put (D := (dC, dI)) (ci := 5) (v := .int 0) (ty := .boolean) (C := RX5) (T := TX5) (N := 13) hx hb hts hi_X5 tyX5 tyX5_ok nmX5 hown hK hP hD hS 0 rfl rfl 0 (by decide) (hts (.fieldLink RX5 9 "LeftQuills$Office" "stands" "Z") (wmx 1 rfl)) (fun _ h9 => h9) rfl (by decide +kernel) rfl rfl (Nat.le_of_ble_eq_true rfl) dX5_clear_2 (fun H locs hP hD hS => ?_)
  have hPD : pdW (dC, dI) vwCl A [(h0, .inr (5, [.int 0, .int bl, .int mm, .int (nI nq), .int (nI nh), .ref o5, .ref o6, .ref o7, .ref o8, .ref o9, .ref o10, .ref o11, .ref o12]))] H := ⟨hP, hD⟩
  have hP := hPD.1
  have hD := hPD.2
  clear hPD
  refine lv_aload_n hx hb dX5_clear_5 rfl (lv_at hl 0 rfl) ?_
  refine lv_iconst (v := 0) hx hb dX5_clear_6 (by decide) ?_
  refine va_put (D := (dC, dI)) (ci := 5) (v := .int 0) (ty := .int) (C := RX5) (T := TX5) (N := 13) hx hb hts hi_X5 tyX5 tyX5_ok nmX5 hown hK hP hD hS 0 rfl rfl 1 (by decide) (hts (.fieldLink RX5 15 "LeftQuills$Office" "bluntBehind" "I") (wmx 2 rfl)) (fun _ h9 => h9) rfl (by decide +kernel) rfl rfl (Nat.le_of_ble_eq_true rfl) dX5_clear_7 (fun H locs hP hD hS => ?_)
  have hPD : pdW (dC, dI) vwCl A [(h0, .inr (5, [.int 0, .int 0, .int mm, .int (nI nq), .int (nI nh), .ref o5, .ref o6, .ref o7, .ref o8, .ref o9, .ref o10, .ref o11, .ref o12]))] H := ⟨hP, hD⟩
  have hP := hPD.1
  have hD := hPD.2
  clear hPD
  refine lv_aload_n hx hb dX5_clear_10 rfl (lv_at hl 0 rfl) ?_
  refine lv_iconst (v := 0) hx hb dX5_clear_11 (by decide) ?_
  refine va_put (D := (dC, dI)) (ci := 5) (v := .int 0) (ty := .int) (C := RX5) (T := TX5) (N := 13) hx hb hts hi_X5 tyX5 tyX5_ok nmX5 hown hK hP hD hS 0 rfl rfl 2 (by decide) (hts (.fieldLink RX5 19 "LeftQuills$Office" "mendMinutes" "I") (wmx 3 rfl)) (fun _ h9 => h9) rfl (by decide +kernel) rfl rfl (Nat.le_of_ble_eq_true rfl) dX5_clear_12 (fun H locs hP hD hS => ?_)
  have hPD : pdW (dC, dI) vwCl A [(h0, .inr (5, [.int 0, .int 0, .int 0, .int (nI nq), .int (nI nh), .ref o5, .ref o6, .ref o7, .ref o8, .ref o9, .ref o10, .ref o11, .ref o12]))] H := ⟨hP, hD⟩
  have hP := hPD.1
  have hD := hPD.2
  clear hPD
  refine lv_aload_n hx hb dX5_clear_15 rfl (lv_at hl 0 rfl) ?_
  refine lv_iconst (v := 0) hx hb dX5_clear_16 (by decide) ?_
  refine va_put (D := (dC, dI)) (ci := 5) (v := .int 0) (ty := .int) (C := RX5) (T := TX5) (N := 13) hx hb hts hi_X5 tyX5 tyX5_ok nmX5 hown hK hP hD hS 0 rfl rfl 3 (by decide) (hts (.fieldLink RX5 22 "LeftQuills$Office" "quills" "I") (wmx 4 rfl)) (fun _ h9 => h9) rfl (by decide +kernel) rfl rfl (Nat.le_of_ble_eq_true rfl) dX5_clear_17 (fun H locs hP hD hS => ?_)
  have hPD : pdW (dC, dI) vwCl A [(h0, .inr (5, [.int 0, .int 0, .int 0, .int 0, .int (nI nh), .ref o5, .ref o6, .ref o7, .ref o8, .ref o9, .ref o10, .ref o11, .ref o12]))] H := ⟨hP, hD⟩
  have hP := hPD.1
  have hD := hPD.2
  clear hPD
  refine lv_aload_n hx hb dX5_clear_20 rfl (lv_at hl 0 rfl) ?_
  refine lv_iconst (v := 0) hx hb dX5_clear_21 (by decide) ?_
  refine va_put (D := (dC, dI)) (ci := 5) (v := .int 0) (ty := .int) (C := RX5) (T := TX5) (N := 13) hx hb hts hi_X5 tyX5 tyX5_ok nmX5 hown hK hP hD hS 0 rfl rfl 4 (by decide) (hts (.fieldLink RX5 25 "LeftQuills$Office" "hands" "I") (wmx 5 rfl)) (fun _ h9 => h9) rfl (by decide +kernel) rfl rfl (Nat.le_of_ble_eq_true rfl) dX5_clear_22 (fun H locs hP hD hS => ?_)
  have hPD : pdW (dC, dI) vwCl A [(h0, .inr (5, [.int 0, .int 0, .int 0, .int 0, .int 0, .ref o5, .ref o6, .ref o7, .ref o8, .ref o9, .ref o10, .ref o11, .ref o12]))] H := ⟨hP, hD⟩
  have hP := hPD.1
  have hD := hPD.2
  clear hPD
  have hP9 := hP.sub (ws' := [(h0, .inr (5, [.int 0, .int 0, .int 0, .int 0, .int 0, .ref o5, .ref o6, .ref o7, .ref o8, .ref o9, .ref o10, .ref o11, .ref o12]))]) [0] rfl
  have hD9 := hD.sub (ws' := [(h0, .inr (5, [.int 0, .int 0, .int 0, .int 0, .int 0, .ref o5, .ref o6, .ref o7, .ref o8, .ref o9, .ref o10, .ref o11, .ref o12]))]) [0] (by decide +kernel) rfl
  exact W.vret hx hb hr (fun t ht hW => ⟨⟨(fun _ => 0), rfl, trivial, ⟨0, 0, 0, 0, 0, by omega, by omega, by omega, rfl, rfl, rfl, rfl, rfl, va_hq ht hP9, hD9⟩⟩, hS.F ht⟩) hS.2.2 dX5_clear_25
set_option maxHeartbeats 4000000 in
set_option maxRecDepth 100000 in
theorem c_X5_setBladeF (l : Launch) (dC : Nat → ClassId) (dI : Nat → Nat → Nat) (cI cZ cQ : ClassId) (h0 : Nat) (st : Nat) (bl : Int32) (mm : Int32) (nq : Nat) (nh : Nat) (o5 : Nat) (o6 : Nat) (o7 : Nat) (o8 : Nat) (o9 : Nat) (o10 : Nat) (o11 : Nat) (o12 : Nat) (nu : Nat) (fnu : Nat → Int32) (sz : Nat)  : Met l yX5_setBlade wsX5_setBlade ({ frames := 0, cells := 0, slots := 0, locals := 40 }) (va_Pc [.ref h0, .ref nu] (fun U => U.heap.size = sz ∧ va_P (dC, dI) vwCl [(h0, .inr (5, [.int (nI st), .int bl, .int mm, .int (nI nq), .int (nI nh), .ref o5, .ref o6, .ref o7, .ref o8, .ref o9, .ref o10, .ref o11, .ref o12])), (nu, .inl (cI, 5, .inl fnu))] U.heap ∧ va_K (dC, dI) vwCl (tys0 cI cZ cQ) U ∧ va_D (fun _ => True) [(h0, .inr (5, [.int (nI st), .int bl, .int mm, .int (nI nq), .int (nI nh), .ref o5, .ref o6, .ref o7, .ref o8, .ref o9, .ref o10, .ref o11, .ref o12])), (nu, .inl (cI, 5, .inl fnu))])) (va_Qv (fun (u : Nat → Nat) => True) (fun (_ : Nat → Nat) (t : State) => ∃ (ii1 ii2 : Int32) (kk0 : Nat), kk0 ≤ 1 ∧ (kk0 = 1) ∧ (ii1 = fnu 0) ∧ (ii2 = fnu 1) ∧ va_P (dC, dI) vwCl [(h0, .inr (5, [.int (nI kk0), .int ii1, .int ii2, .int (nI nq), .int (nI nh), .ref o5, .ref o6, .ref o7, .ref o8, .ref o9, .ref o10, .ref o11, .ref o12])), (nu, .inl (cI, 5, .inl fnu))] t.heap ∧ va_D (va_A [(h0, .inr (5, [.int (nI st), .int bl, .int mm, .int (nI nq), .int (nI nh), .ref o5, .ref o6, .ref o7, .ref o8, .ref o9, .ref o10, .ref o11, .ref o12])), (nu, .inl (cI, 5, .inl fnu))] sz) [(h0, .inr (5, [.int (nI kk0), .int ii1, .int ii2, .int (nI nq), .int (nI nh), .ref o5, .ref o6, .ref o7, .ref o8, .ref o9, .ref o10, .ref o11, .ref o12])), (nu, .inl (cI, 5, .inl fnu))]) (va_A [(h0, .inr (5, [.int (nI st), .int bl, .int mm, .int (nI nq), .int (nI nh), .ref o5, .ref o6, .ref o7, .ref o8, .ref o9, .ref o10, .ref o11, .ref o12])), (nu, .inl (cI, 5, .inl fnu))] sz)) 0 0 (va_A [(h0, .inr (5, [.int (nI st), .int bl, .int mm, .int (nI nq), .int (nI nh), .ref o5, .ref o6, .ref o7, .ref o8, .ref o9, .ref o10, .ref o11, .ref o12])), (nu, .inl (cI, 5, .inl fnu))] sz) := by
  refine Met.ofW (cc := cX5_setBlade) (maxL := 2) (ret := none) (by decide) rfl ?_
  intro p e s m args below meth c s₁ B hml hv
  obtain ⟨rfl, hsz, hP, hK, hD0⟩ := hv
  have hx := B.exec
  have hb := B.bytes
  have hr := B.returns
  have hts := atoms_spec (ws := wsX5_setBlade) B.pre
  have hown : s.vm.findClass RX5 = some m.cls := findClass_of_methodNamed B.named
  have hlocks := B.notSynchronized
  have hi_X5 : ∀ w ∈ u_ws RX5 TX5 13, w ∈ wsX5_setBlade := fun _ h => List.mem_cons_of_mem _ (List.mem_append_right _ (h))
  subst hsz
  have hD := hD0.self (sz := s.heap.size)
  generalize hAe : va_A [(h0, .inr (5, [.int (nI st), .int bl, .int mm, .int (nI nq), .int (nI nh), .ref o5, .ref o6, .ref o7, .ref o8, .ref o9, .ref o10, .ref o11, .ref o12])), (nu, .inl (cI, 5, .inl fnu))] s.heap.size = A at hD ⊢
  have hA : ∀ q : Nat, s.heap.size ≤ q → A q := fun q h => by rw [← hAe]; exact Or.inr h
  have hS : va_S A s.heap s.heap [] := va_S.rf
  have hl := lv_entry ([.ref h0, .ref nu]) (n := 2) (Nat.le_of_ble_eq_true rfl)
  rw [lg_entry_eq]
  generalize (lg_sl ([.ref h0, .ref nu]) ++ List.replicate (2 - (lg_sl ([.ref h0, .ref nu])).length) Slot.unset).toArray = ls at hl ⊢
  have hl : lv_has ls 2 [(0, .ref h0), (1, .ref nu)] := hl
  refine lv_aload_n hx hb dX5_setBlade_0 rfl (lv_at hl 0 rfl) ?_
  refine lv_iconst (v := 1) hx hb dX5_setBlade_1 (by decide) ?_
  refine va_put (D := (dC, dI)) (ci := 5) (v := .int 1) (ty := .boolean) (C := RX5) (T := TX5) (N := 13) hx hb hts hi_X5 tyX5 tyX5_ok nmX5 hown hK hP hD hS 0 rfl rfl 0 (by decide) (hts (.fieldLink RX5 9 "LeftQuills$Office" "stands" "Z") (wmx 1 rfl)) (fun _ h9 => h9) rfl (by decide +kernel) rfl rfl (Nat.le_of_ble_eq_true rfl) dX5_setBlade_2 (fun H locs hP hD hS => ?_)
  have hPD : pdW (dC, dI) vwCl A [(h0, .inr (5, [.int 1, .int bl, .int mm, .int (nI nq), .int (nI nh), .ref o5, .ref o6, .ref o7, .ref o8, .ref o9, .ref o10, .ref o11, .ref o12])), (nu, .inl (cI, 5, .inl fnu))] H := ⟨hP, hD⟩
  have hP := hPD.1
  have hD := hPD.2
  clear hPD
  refine lv_aload_n hx hb dX5_setBlade_5 rfl (lv_at hl 0 rfl) ?_
  refine lv_aload_n hx hb dX5_setBlade_6 rfl (lv_at hl 1 rfl) ?_
  refine lv_iconst (v := 0) hx hb dX5_setBlade_7 (by decide) ?_
  refine va_iald hx hb hK hP 1 0 rfl rfl (vp_in_iff.mpr ⟨by decide, by decide⟩) dX5_setBlade_8 ?_
  refine W.eq (g2 := F0 m 9 ls [.int (fnu 0), .ref h0]) (congrArg (fun y9 => F0 m 9 ls (.int (fnu y9) :: [.ref h0])) ((show ((0 : Int32)).toNatClampNeg = 0 from by decide))) ?_
  refine va_put (D := (dC, dI)) (ci := 5) (v := .int (fnu 0)) (ty := .int) (C := RX5) (T := TX5) (N := 13) hx hb hts hi_X5 tyX5 tyX5_ok nmX5 hown hK hP hD hS 0 rfl rfl 1 (by decide) (hts (.fieldLink RX5 15 "LeftQuills$Office" "bluntBehind" "I") (wmx 2 rfl)) (fun _ h9 => h9) rfl (by decide +kernel) rfl rfl (Nat.le_of_ble_eq_true rfl) dX5_setBlade_9 (fun H locs hP hD hS => ?_)
  have hPD : pdW (dC, dI) vwCl A [(h0, .inr (5, [.int 1, .int (fnu 0), .int mm, .int (nI nq), .int (nI nh), .ref o5, .ref o6, .ref o7, .ref o8, .ref o9, .ref o10, .ref o11, .ref o12])), (nu, .inl (cI, 5, .inl fnu))] H := ⟨hP, hD⟩
  have hP := hPD.1
  have hD := hPD.2
  clear hPD
  refine lv_aload_n hx hb dX5_setBlade_12 rfl (lv_at hl 0 rfl) ?_
  refine lv_aload_n hx hb dX5_setBlade_13 rfl (lv_at hl 1 rfl) ?_
  refine lv_iconst (v := 1) hx hb dX5_setBlade_14 (by decide) ?_
  refine va_iald hx hb hK hP 1 0 rfl rfl (vp_in_iff.mpr ⟨by decide, by decide⟩) dX5_setBlade_15 ?_
  refine W.eq (g2 := F0 m 16 ls [.int (fnu 1), .ref h0]) (congrArg (fun y9 => F0 m 16 ls (.int (fnu y9) :: [.ref h0])) ((show ((1 : Int32)).toNatClampNeg = 1 from by decide))) ?_
  refine va_put (D := (dC, dI)) (ci := 5) (v := .int (fnu 1)) (ty := .int) (C := RX5) (T := TX5) (N := 13) hx hb hts hi_X5 tyX5 tyX5_ok nmX5 hown hK hP hD hS 0 rfl rfl 2 (by decide) (hts (.fieldLink RX5 19 "LeftQuills$Office" "mendMinutes" "I") (wmx 3 rfl)) (fun _ h9 => h9) rfl (by decide +kernel) rfl rfl (Nat.le_of_ble_eq_true rfl) dX5_setBlade_16 (fun H locs hP hD hS => ?_)
  have hPD : pdW (dC, dI) vwCl A [(h0, .inr (5, [.int 1, .int (fnu 0), .int (fnu 1), .int (nI nq), .int (nI nh), .ref o5, .ref o6, .ref o7, .ref o8, .ref o9, .ref o10, .ref o11, .ref o12])), (nu, .inl (cI, 5, .inl fnu))] H := ⟨hP, hD⟩
  have hP := hPD.1
  have hD := hPD.2
  clear hPD
  have hP9 := hP.sub (ws' := [(h0, .inr (5, [.int 1, .int (fnu 0), .int (fnu 1), .int (nI nq), .int (nI nh), .ref o5, .ref o6, .ref o7, .ref o8, .ref o9, .ref o10, .ref o11, .ref o12])), (nu, .inl (cI, 5, .inl fnu))]) [0, 1] rfl
  have hD9 := hD.sub (ws' := [(h0, .inr (5, [.int 1, .int (fnu 0), .int (fnu 1), .int (nI nq), .int (nI nh), .ref o5, .ref o6, .ref o7, .ref o8, .ref o9, .ref o10, .ref o11, .ref o12])), (nu, .inl (cI, 5, .inl fnu))]) [0, 1] (by decide +kernel) rfl
  exact W.vret hx hb hr (fun t ht hW => ⟨⟨(fun _ => 0), rfl, trivial, ⟨(fnu 0), (fnu 1), 1, by omega, rfl, rfl, rfl, va_hq ht hP9, hD9⟩⟩, hS.F ht⟩) hS.2.2 dX5_setBlade_19
set_option maxHeartbeats 4000000 in
set_option maxRecDepth 100000 in
theorem c_X5_addQuillF (l : Launch) (dC : Nat → ClassId) (dI : Nat → Nat → Nat) (cI cZ cQ : ClassId) (h0 : Nat) (st : Nat) (bl : Int32) (mm : Int32) (nq : Nat) (nh : Nat) (o5 : Nat) (o6 : Nat) (o7 : Nat) (o8 : Nat) (o9 : Nat) (o10 : Nat) (o11 : Nat) (o12 : Nat) (fo5 : Nat → Int32) (fo6 : Nat → Int32) (fo7 : Nat → Int32) (fo8 : Nat → Int32) (fo9 : Nat → Int32) (nu : Nat) (fnu : Nat → Int32) (sz : Nat) (hq8 : nq < 8) (hnh : nh ≤ 4) : Met l yX5_addQuill wsX5_addQuill ({ frames := 0, cells := 0, slots := 0, locals := 40 }) (va_Pc [.ref h0, .ref nu] (fun U => U.heap.size = sz ∧ va_P (dC, dI) vwCl [(h0, .inr (5, [.int (nI st), .int bl, .int mm, .int (nI nq), .int (nI nh), .ref o5, .ref o6, .ref o7, .ref o8, .ref o9, .ref o10, .ref o11, .ref o12])), (o5, .inl (cI, 8, .inl fo5)), (o6, .inl (cI, 8, .inl fo6)), (o7, .inl (cI, 8, .inl fo7)), (o8, .inl (cI, 8, .inl fo8)), (o9, .inl (cI, 8, .inl fo9)), (nu, .inl (cI, 5, .inl fnu))] U.heap ∧ va_K (dC, dI) vwCl (tys0 cI cZ cQ) U ∧ va_D (fun _ => True) [(h0, .inr (5, [.int (nI st), .int bl, .int mm, .int (nI nq), .int (nI nh), .ref o5, .ref o6, .ref o7, .ref o8, .ref o9, .ref o10, .ref o11, .ref o12])), (o5, .inl (cI, 8, .inl fo5)), (o6, .inl (cI, 8, .inl fo6)), (o7, .inl (cI, 8, .inl fo7)), (o8, .inl (cI, 8, .inl fo8)), (o9, .inl (cI, 8, .inl fo9)), (nu, .inl (cI, 5, .inl fnu))])) (va_Qv (fun (u : Nat → Nat) => True) (fun (_ : Nat → Nat) (t : State) => ∃ (gg0 gg1 gg2 gg3 gg4 : Nat → Int32) (kk0 : Nat), kk0 ≤ 8 ∧ (kk0 = nq + 1) ∧ (gg0 = upd fo5 nq (fnu 0)) ∧ (gg1 = upd fo6 nq (fnu 1)) ∧ (gg2 = upd fo7 nq (fnu 2)) ∧ (gg3 = upd fo8 nq (fnu 3)) ∧ (gg4 = upd fo9 nq (fnu 4)) ∧ va_P (dC, dI) vwCl [(h0, .inr (5, [.int (nI st), .int bl, .int mm, .int (nI kk0), .int (nI nh), .ref o5, .ref o6, .ref o7, .ref o8, .ref o9, .ref o10, .ref o11, .ref o12])), (o5, .inl (cI, 8, .inl gg0)), (o6, .inl (cI, 8, .inl gg1)), (o7, .inl (cI, 8, .inl gg2)), (o8, .inl (cI, 8, .inl gg3)), (o9, .inl (cI, 8, .inl gg4)), (nu, .inl (cI, 5, .inl fnu))] t.heap ∧ va_D (va_A [(h0, .inr (5, [.int (nI st), .int bl, .int mm, .int (nI nq), .int (nI nh), .ref o5, .ref o6, .ref o7, .ref o8, .ref o9, .ref o10, .ref o11, .ref o12])), (o5, .inl (cI, 8, .inl fo5)), (o6, .inl (cI, 8, .inl fo6)), (o7, .inl (cI, 8, .inl fo7)), (o8, .inl (cI, 8, .inl fo8)), (o9, .inl (cI, 8, .inl fo9)), (nu, .inl (cI, 5, .inl fnu))] sz) [(h0, .inr (5, [.int (nI st), .int bl, .int mm, .int (nI kk0), .int (nI nh), .ref o5, .ref o6, .ref o7, .ref o8, .ref o9, .ref o10, .ref o11, .ref o12])), (o5, .inl (cI, 8, .inl gg0)), (o6, .inl (cI, 8, .inl gg1)), (o7, .inl (cI, 8, .inl gg2)), (o8, .inl (cI, 8, .inl gg3)), (o9, .inl (cI, 8, .inl gg4)), (nu, .inl (cI, 5, .inl fnu))]) (va_A [(h0, .inr (5, [.int (nI st), .int bl, .int mm, .int (nI nq), .int (nI nh), .ref o5, .ref o6, .ref o7, .ref o8, .ref o9, .ref o10, .ref o11, .ref o12])), (o5, .inl (cI, 8, .inl fo5)), (o6, .inl (cI, 8, .inl fo6)), (o7, .inl (cI, 8, .inl fo7)), (o8, .inl (cI, 8, .inl fo8)), (o9, .inl (cI, 8, .inl fo9)), (nu, .inl (cI, 5, .inl fnu))] sz)) 0 0 (va_A [(h0, .inr (5, [.int (nI st), .int bl, .int mm, .int (nI nq), .int (nI nh), .ref o5, .ref o6, .ref o7, .ref o8, .ref o9, .ref o10, .ref o11, .ref o12])), (o5, .inl (cI, 8, .inl fo5)), (o6, .inl (cI, 8, .inl fo6)), (o7, .inl (cI, 8, .inl fo7)), (o8, .inl (cI, 8, .inl fo8)), (o9, .inl (cI, 8, .inl fo9)), (nu, .inl (cI, 5, .inl fnu))] sz) := by
  refine Met.ofW (cc := cX5_addQuill) (maxL := 2) (ret := none) (by decide) rfl ?_
  intro p e s m args below meth c s₁ B hml hv
  obtain ⟨rfl, hsz, hP, hK, hD0⟩ := hv
  have hx := B.exec
  have hb := B.bytes
  have hr := B.returns
  have hts := atoms_spec (ws := wsX5_addQuill) B.pre
  have hown : s.vm.findClass RX5 = some m.cls := findClass_of_methodNamed B.named
  have hlocks := B.notSynchronized
  have hi_X5 : ∀ w ∈ u_ws RX5 TX5 13, w ∈ wsX5_addQuill := fun _ h => List.mem_cons_of_mem _ (List.mem_append_right _ (h))
  subst hsz
  have hD := hD0.self (sz := s.heap.size)
  generalize hAe : va_A [(h0, .inr (5, [.int (nI st), .int bl, .int mm, .int (nI nq), .int (nI nh), .ref o5, .ref o6, .ref o7, .ref o8, .ref o9, .ref o10, .ref o11, .ref o12])), (o5, .inl (cI, 8, .inl fo5)), (o6, .inl (cI, 8, .inl fo6)), (o7, .inl (cI, 8, .inl fo7)), (o8, .inl (cI, 8, .inl fo8)), (o9, .inl (cI, 8, .inl fo9)), (nu, .inl (cI, 5, .inl fnu))] s.heap.size = A at hD ⊢
  have hA : ∀ q : Nat, s.heap.size ≤ q → A q := fun q h => by rw [← hAe]; exact Or.inr h
  have hS : va_S A s.heap s.heap [] := va_S.rf
  have hl := lv_entry ([.ref h0, .ref nu]) (n := 2) (Nat.le_of_ble_eq_true rfl)
  rw [lg_entry_eq]
  generalize (lg_sl ([.ref h0, .ref nu]) ++ List.replicate (2 - (lg_sl ([.ref h0, .ref nu])).length) Slot.unset).toArray = ls at hl ⊢
  have hl : lv_has ls 2 [(0, .ref h0), (1, .ref nu)] := hl
  refine lv_aload_n hx hb dX5_addQuill_0 rfl (lv_at hl 0 rfl) ?_
  refine va_get (D := (dC, dI)) (ci := 5) (v := .int (nI nq)) (C := RX5) (T := TX5) (N := 13) hx hb hts hi_X5 hown hK hP 0 rfl rfl 3 (by decide) (hts (.fieldLink RX5 22 "LeftQuills$Office" "quills" "I") (wmx 1 rfl)) (fun _ h9 => h9) rfl dX5_addQuill_1 ?_
  refine lv_bipush (v := 8) hx hb dX5_addQuill_4 (by decide) ?_
  refine lv_icmp_lt (tgt := 10) hx hb dX5_addQuill_6 (by decide) (fun c1 => ?_) (fun c1 => ?_)
  ·
    have c1 : nq < 8 := (nI_ltI (a := nq) (b := 8) (by omega) (by omega)).mp c1
    refine lv_aload_n hx hb dX5_addQuill_10 rfl (lv_at hl 0 rfl) ?_
    refine va_get (D := (dC, dI)) (ci := 5) (v := .ref o5) (C := RX5) (T := TX5) (N := 13) hx hb hts hi_X5 hown hK hP 0 rfl rfl 5 (by decide) (hts (.fieldLink RX5 28 "LeftQuills$Office" "wing" "[I") (wmx 2 rfl)) (fun _ h9 => h9) rfl dX5_addQuill_11 ?_
    refine lv_aload_n hx hb dX5_addQuill_14 rfl (lv_at hl 0 rfl) ?_
    refine va_get (D := (dC, dI)) (ci := 5) (v := .int (nI nq)) (C := RX5) (T := TX5) (N := 13) hx hb hts hi_X5 hown hK hP 0 rfl rfl 3 (by decide) (hts (.fieldLink RX5 22 "LeftQuills$Office" "quills" "I") (wmx 1 rfl)) (fun _ h9 => h9) rfl dX5_addQuill_15 ?_
    refine lv_aload_n hx hb dX5_addQuill_18 rfl (lv_at hl 1 rfl) ?_
    refine lv_iconst (v := 0) hx hb dX5_addQuill_19 (by decide) ?_
    refine va_iald hx hb hK hP 6 0 rfl rfl (vp_in_iff.mpr ⟨by decide, by decide⟩) dX5_addQuill_20 ?_
    refine W.eq (g2 := F0 m 21 ls [.int (fnu 0), .int (nI nq), .ref o5]) (congrArg (fun y9 => F0 m 21 ls (.int (fnu y9) :: [.int (nI nq), .ref o5])) ((show ((0 : Int32)).toNatClampNeg = 0 from by decide))) ?_
    refine va_iast hx hb hK hP hD hS 1 0 rfl rfl (vp_in_nI (n := nq) (N := 8) (by omega) (by decide)) dX5_addQuill_21 (fun H locs hP hD hS => ?_)
    have hcl := (nI_clamp (n := nq) (by omega))
    rw [hcl] at hP hD
    clear hcl
    have hPD : pdW (dC, dI) vwCl A [(h0, .inr (5, [.int (nI st), .int bl, .int mm, .int (nI nq), .int (nI nh), .ref o5, .ref o6, .ref o7, .ref o8, .ref o9, .ref o10, .ref o11, .ref o12])), (o5, .inl (cI, 8, .inl (upd fo5 nq (fnu 0)))), (o6, .inl (cI, 8, .inl fo6)), (o7, .inl (cI, 8, .inl fo7)), (o8, .inl (cI, 8, .inl fo8)), (o9, .inl (cI, 8, .inl fo9)), (nu, .inl (cI, 5, .inl fnu))] H := ⟨hP, hD⟩
    have hP := hPD.1
    have hD := hPD.2
    clear hPD
    refine lv_aload_n hx hb dX5_addQuill_22 rfl (lv_at hl 0 rfl) ?_
    refine va_get (D := (dC, dI)) (ci := 5) (v := .ref o6) (C := RX5) (T := TX5) (N := 13) hx hb hts hi_X5 hown hK hP 0 rfl rfl 6 (by decide) (hts (.fieldLink RX5 32 "LeftQuills$Office" "place" "[I") (wmx 3 rfl)) (fun _ h9 => h9) rfl dX5_addQuill_23 ?_
    refine lv_aload_n hx hb dX5_addQuill_26 rfl (lv_at hl 0 rfl) ?_
    refine va_get (D := (dC, dI)) (ci := 5) (v := .int (nI nq)) (C := RX5) (T := TX5) (N := 13) hx hb hts hi_X5 hown hK hP 0 rfl rfl 3 (by decide) (hts (.fieldLink RX5 22 "LeftQuills$Office" "quills" "I") (wmx 1 rfl)) (fun _ h9 => h9) rfl dX5_addQuill_27 ?_
    refine lv_aload_n hx hb dX5_addQuill_30 rfl (lv_at hl 1 rfl) ?_
    refine lv_iconst (v := 1) hx hb dX5_addQuill_31 (by decide) ?_
    refine va_iald hx hb hK hP 6 0 rfl rfl (vp_in_iff.mpr ⟨by decide, by decide⟩) dX5_addQuill_32 ?_
    refine W.eq (g2 := F0 m 33 ls [.int (fnu 1), .int (nI nq), .ref o6]) (congrArg (fun y9 => F0 m 33 ls (.int (fnu y9) :: [.int (nI nq), .ref o6])) ((show ((1 : Int32)).toNatClampNeg = 1 from by decide))) ?_
    refine va_iast hx hb hK hP hD hS 2 0 rfl rfl (vp_in_nI (n := nq) (N := 8) (by omega) (by decide)) dX5_addQuill_33 (fun H locs hP hD hS => ?_)
    have hcl := (nI_clamp (n := nq) (by omega))
    rw [hcl] at hP hD
    clear hcl
    have hPD : pdW (dC, dI) vwCl A [(h0, .inr (5, [.int (nI st), .int bl, .int mm, .int (nI nq), .int (nI nh), .ref o5, .ref o6, .ref o7, .ref o8, .ref o9, .ref o10, .ref o11, .ref o12])), (o5, .inl (cI, 8, .inl (upd fo5 nq (fnu 0)))), (o6, .inl (cI, 8, .inl (upd fo6 nq (fnu 1)))), (o7, .inl (cI, 8, .inl fo7)), (o8, .inl (cI, 8, .inl fo8)), (o9, .inl (cI, 8, .inl fo9)), (nu, .inl (cI, 5, .inl fnu))] H := ⟨hP, hD⟩
    have hP := hPD.1
    have hD := hPD.2
    clear hPD
    refine lv_aload_n hx hb dX5_addQuill_34 rfl (lv_at hl 0 rfl) ?_
    refine va_get (D := (dC, dI)) (ci := 5) (v := .ref o7) (C := RX5) (T := TX5) (N := 13) hx hb hts hi_X5 hown hK hP 0 rfl rfl 7 (by decide) (hts (.fieldLink RX5 35 "LeftQuills$Office" "cooked" "[I") (wmx 4 rfl)) (fun _ h9 => h9) rfl dX5_addQuill_35 ?_
    refine lv_aload_n hx hb dX5_addQuill_38 rfl (lv_at hl 0 rfl) ?_
    refine va_get (D := (dC, dI)) (ci := 5) (v := .int (nI nq)) (C := RX5) (T := TX5) (N := 13) hx hb hts hi_X5 hown hK hP 0 rfl rfl 3 (by decide) (hts (.fieldLink RX5 22 "LeftQuills$Office" "quills" "I") (wmx 1 rfl)) (fun _ h9 => h9) rfl dX5_addQuill_39 ?_
    refine lv_aload_n hx hb dX5_addQuill_42 rfl (lv_at hl 1 rfl) ?_
    refine lv_iconst (v := 2) hx hb dX5_addQuill_43 (by decide) ?_
    refine va_iald hx hb hK hP 6 0 rfl rfl (vp_in_iff.mpr ⟨by decide, by decide⟩) dX5_addQuill_44 ?_
    refine W.eq (g2 := F0 m 45 ls [.int (fnu 2), .int (nI nq), .ref o7]) (congrArg (fun y9 => F0 m 45 ls (.int (fnu y9) :: [.int (nI nq), .ref o7])) ((show ((2 : Int32)).toNatClampNeg = 2 from by decide))) ?_
    refine va_iast hx hb hK hP hD hS 3 0 rfl rfl (vp_in_nI (n := nq) (N := 8) (by omega) (by decide)) dX5_addQuill_45 (fun H locs hP hD hS => ?_)
    have hcl := (nI_clamp (n := nq) (by omega))
    rw [hcl] at hP hD
    clear hcl
    have hPD : pdW (dC, dI) vwCl A [(h0, .inr (5, [.int (nI st), .int bl, .int mm, .int (nI nq), .int (nI nh), .ref o5, .ref o6, .ref o7, .ref o8, .ref o9, .ref o10, .ref o11, .ref o12])), (o5, .inl (cI, 8, .inl (upd fo5 nq (fnu 0)))), (o6, .inl (cI, 8, .inl (upd fo6 nq (fnu 1)))), (o7, .inl (cI, 8, .inl (upd fo7 nq (fnu 2)))), (o8, .inl (cI, 8, .inl fo8)), (o9, .inl (cI, 8, .inl fo9)), (nu, .inl (cI, 5, .inl fnu))] H := ⟨hP, hD⟩
    have hP := hPD.1
    have hD := hPD.2
    clear hPD
    refine lv_aload_n hx hb dX5_addQuill_46 rfl (lv_at hl 0 rfl) ?_
    refine va_get (D := (dC, dI)) (ci := 5) (v := .ref o8) (C := RX5) (T := TX5) (N := 13) hx hb hts hi_X5 hown hK hP 0 rfl rfl 8 (by decide) (hts (.fieldLink RX5 38 "LeftQuills$Office" "toldLength" "[I") (wmx 5 rfl)) (fun _ h9 => h9) rfl dX5_addQuill_47 ?_
    refine lv_aload_n hx hb dX5_addQuill_50 rfl (lv_at hl 0 rfl) ?_
    refine va_get (D := (dC, dI)) (ci := 5) (v := .int (nI nq)) (C := RX5) (T := TX5) (N := 13) hx hb hts hi_X5 hown hK hP 0 rfl rfl 3 (by decide) (hts (.fieldLink RX5 22 "LeftQuills$Office" "quills" "I") (wmx 1 rfl)) (fun _ h9 => h9) rfl dX5_addQuill_51 ?_
    refine lv_aload_n hx hb dX5_addQuill_54 rfl (lv_at hl 1 rfl) ?_
    refine lv_iconst (v := 3) hx hb dX5_addQuill_55 (by decide) ?_
    refine va_iald hx hb hK hP 6 0 rfl rfl (vp_in_iff.mpr ⟨by decide, by decide⟩) dX5_addQuill_56 ?_
    refine W.eq (g2 := F0 m 57 ls [.int (fnu 3), .int (nI nq), .ref o8]) (congrArg (fun y9 => F0 m 57 ls (.int (fnu y9) :: [.int (nI nq), .ref o8])) ((show ((3 : Int32)).toNatClampNeg = 3 from by decide))) ?_
    refine va_iast hx hb hK hP hD hS 4 0 rfl rfl (vp_in_nI (n := nq) (N := 8) (by omega) (by decide)) dX5_addQuill_57 (fun H locs hP hD hS => ?_)
    have hcl := (nI_clamp (n := nq) (by omega))
    rw [hcl] at hP hD
    clear hcl
    have hPD : pdW (dC, dI) vwCl A [(h0, .inr (5, [.int (nI st), .int bl, .int mm, .int (nI nq), .int (nI nh), .ref o5, .ref o6, .ref o7, .ref o8, .ref o9, .ref o10, .ref o11, .ref o12])), (o5, .inl (cI, 8, .inl (upd fo5 nq (fnu 0)))), (o6, .inl (cI, 8, .inl (upd fo6 nq (fnu 1)))), (o7, .inl (cI, 8, .inl (upd fo7 nq (fnu 2)))), (o8, .inl (cI, 8, .inl (upd fo8 nq (fnu 3)))), (o9, .inl (cI, 8, .inl fo9)), (nu, .inl (cI, 5, .inl fnu))] H := ⟨hP, hD⟩
    have hP := hPD.1
    have hD := hPD.2
    clear hPD
    refine lv_aload_n hx hb dX5_addQuill_58 rfl (lv_at hl 0 rfl) ?_
    refine va_get (D := (dC, dI)) (ci := 5) (v := .ref o9) (C := RX5) (T := TX5) (N := 13) hx hb hts hi_X5 hown hK hP 0 rfl rfl 9 (by decide) (hts (.fieldLink RX5 41 "LeftQuills$Office" "toldNib" "[I") (wmx 6 rfl)) (fun _ h9 => h9) rfl dX5_addQuill_59 ?_
    refine lv_aload_n hx hb dX5_addQuill_62 rfl (lv_at hl 0 rfl) ?_
    refine va_get (D := (dC, dI)) (ci := 5) (v := .int (nI nq)) (C := RX5) (T := TX5) (N := 13) hx hb hts hi_X5 hown hK hP 0 rfl rfl 3 (by decide) (hts (.fieldLink RX5 22 "LeftQuills$Office" "quills" "I") (wmx 1 rfl)) (fun _ h9 => h9) rfl dX5_addQuill_63 ?_
    refine lv_aload_n hx hb dX5_addQuill_66 rfl (lv_at hl 1 rfl) ?_
    refine lv_iconst (v := 4) hx hb dX5_addQuill_67 (by decide) ?_
    refine va_iald hx hb hK hP 6 0 rfl rfl (vp_in_iff.mpr ⟨by decide, by decide⟩) dX5_addQuill_68 ?_
    refine W.eq (g2 := F0 m 69 ls [.int (fnu 4), .int (nI nq), .ref o9]) (congrArg (fun y9 => F0 m 69 ls (.int (fnu y9) :: [.int (nI nq), .ref o9])) ((show ((4 : Int32)).toNatClampNeg = 4 from by decide))) ?_
    refine va_iast hx hb hK hP hD hS 5 0 rfl rfl (vp_in_nI (n := nq) (N := 8) (by omega) (by decide)) dX5_addQuill_69 (fun H locs hP hD hS => ?_)
    have hcl := (nI_clamp (n := nq) (by omega))
    rw [hcl] at hP hD
    clear hcl
    have hPD : pdW (dC, dI) vwCl A [(h0, .inr (5, [.int (nI st), .int bl, .int mm, .int (nI nq), .int (nI nh), .ref o5, .ref o6, .ref o7, .ref o8, .ref o9, .ref o10, .ref o11, .ref o12])), (o5, .inl (cI, 8, .inl (upd fo5 nq (fnu 0)))), (o6, .inl (cI, 8, .inl (upd fo6 nq (fnu 1)))), (o7, .inl (cI, 8, .inl (upd fo7 nq (fnu 2)))), (o8, .inl (cI, 8, .inl (upd fo8 nq (fnu 3)))), (o9, .inl (cI, 8, .inl (upd fo9 nq (fnu 4)))), (nu, .inl (cI, 5, .inl fnu))] H := ⟨hP, hD⟩
    have hP := hPD.1
    have hD := hPD.2
    clear hPD
    refine lv_aload_n hx hb dX5_addQuill_70 rfl (lv_at hl 0 rfl) ?_
    refine lv_dup hx hb dX5_addQuill_71 rfl ?_
    refine va_get (D := (dC, dI)) (ci := 5) (v := .int (nI nq)) (C := RX5) (T := TX5) (N := 13) hx hb hts hi_X5 hown hK hP 0 rfl rfl 3 (by decide) (hts (.fieldLink RX5 22 "LeftQuills$Office" "quills" "I") (wmx 1 rfl)) (fun _ h9 => h9) rfl dX5_addQuill_72 ?_
    refine lv_iconst (v := 1) hx hb dX5_addQuill_75 (by decide) ?_
    refine lv_iadd hx hb dX5_addQuill_76 ?_
    refine lv_topi (fun z7 ez7 => ?_)
    obtain rfl : z7 = nI (nq + 1) := ez7.trans (nI_add nq 1)
    refine va_put (D := (dC, dI)) (ci := 5) (v := .int (nI (nq + 1))) (ty := .int) (C := RX5) (T := TX5) (N := 13) hx hb hts hi_X5 tyX5 tyX5_ok nmX5 hown hK hP hD hS 0 rfl rfl 3 (by decide) (hts (.fieldLink RX5 22 "LeftQuills$Office" "quills" "I") (wmx 1 rfl)) (fun _ h9 => h9) rfl (by decide +kernel) rfl rfl (Nat.le_of_ble_eq_true rfl) dX5_addQuill_77 (fun H locs hP hD hS => ?_)
    have hPD : pdW (dC, dI) vwCl A [(h0, .inr (5, [.int (nI st), .int bl, .int mm, .int (nI (nq + 1)), .int (nI nh), .ref o5, .ref o6, .ref o7, .ref o8, .ref o9, .ref o10, .ref o11, .ref o12])), (o5, .inl (cI, 8, .inl (upd fo5 nq (fnu 0)))), (o6, .inl (cI, 8, .inl (upd fo6 nq (fnu 1)))), (o7, .inl (cI, 8, .inl (upd fo7 nq (fnu 2)))), (o8, .inl (cI, 8, .inl (upd fo8 nq (fnu 3)))), (o9, .inl (cI, 8, .inl (upd fo9 nq (fnu 4)))), (nu, .inl (cI, 5, .inl fnu))] H := ⟨hP, hD⟩
    have hP := hPD.1
    have hD := hPD.2
    clear hPD
    have hP9 := hP.sub (ws' := [(h0, .inr (5, [.int (nI st), .int bl, .int mm, .int (nI (nq + 1)), .int (nI nh), .ref o5, .ref o6, .ref o7, .ref o8, .ref o9, .ref o10, .ref o11, .ref o12])), (o5, .inl (cI, 8, .inl (upd fo5 nq (fnu 0)))), (o6, .inl (cI, 8, .inl (upd fo6 nq (fnu 1)))), (o7, .inl (cI, 8, .inl (upd fo7 nq (fnu 2)))), (o8, .inl (cI, 8, .inl (upd fo8 nq (fnu 3)))), (o9, .inl (cI, 8, .inl (upd fo9 nq (fnu 4)))), (nu, .inl (cI, 5, .inl fnu))]) [0, 1, 2, 3, 4, 5, 6] rfl
    have hD9 := hD.sub (ws' := [(h0, .inr (5, [.int (nI st), .int bl, .int mm, .int (nI (nq + 1)), .int (nI nh), .ref o5, .ref o6, .ref o7, .ref o8, .ref o9, .ref o10, .ref o11, .ref o12])), (o5, .inl (cI, 8, .inl (upd fo5 nq (fnu 0)))), (o6, .inl (cI, 8, .inl (upd fo6 nq (fnu 1)))), (o7, .inl (cI, 8, .inl (upd fo7 nq (fnu 2)))), (o8, .inl (cI, 8, .inl (upd fo8 nq (fnu 3)))), (o9, .inl (cI, 8, .inl (upd fo9 nq (fnu 4)))), (nu, .inl (cI, 5, .inl fnu))]) [0, 1, 2, 3, 4, 5, 6] (by decide +kernel) rfl
    exact W.vret hx hb hr (fun t ht hW => ⟨⟨(fun _ => 0), rfl, trivial, ⟨(upd fo5 nq (fnu 0)), (upd fo6 nq (fnu 1)), (upd fo7 nq (fnu 2)), (upd fo8 nq (fnu 3)), (upd fo9 nq (fnu 4)), (nq + 1), by omega, rfl, rfl, rfl, rfl, rfl, rfl, va_hq ht hP9, hD9⟩⟩, hS.F ht⟩) hS.2.2 dX5_addQuill_80
  ·
    have c1 : ¬ nq < 8 := fun h => c1 ((nI_ltI (a := nq) (b := 8) (by omega) (by omega)).mpr h)
    omega
set_option maxHeartbeats 4000000 in
set_option maxRecDepth 100000 in
theorem c_X5_addHandF (l : Launch) (dC : Nat → ClassId) (dI : Nat → Nat → Nat) (cI cZ cQ : ClassId) (h0 : Nat) (st : Nat) (bl : Int32) (mm : Int32) (nq : Nat) (nh : Nat) (o5 : Nat) (o6 : Nat) (o7 : Nat) (o8 : Nat) (o9 : Nat) (o10 : Nat) (o11 : Nat) (o12 : Nat) (fo10 : Nat → Int32) (fo11 : Nat → Int32) (fo12 : Nat → Int32) (nu : Nat) (fnu : Nat → Int32) (sz : Nat) (hnq : nq ≤ 8) (hh4 : nh < 4) : Met l yX5_addHand wsX5_addHand ({ frames := 0, cells := 0, slots := 0, locals := 40 }) (va_Pc [.ref h0, .ref nu] (fun U => U.heap.size = sz ∧ va_P (dC, dI) vwCl [(h0, .inr (5, [.int (nI st), .int bl, .int mm, .int (nI nq), .int (nI nh), .ref o5, .ref o6, .ref o7, .ref o8, .ref o9, .ref o10, .ref o11, .ref o12])), (o10, .inl (cI, 4, .inl fo10)), (o11, .inl (cI, 4, .inl fo11)), (o12, .inl (cI, 4, .inl fo12)), (nu, .inl (cI, 5, .inl fnu))] U.heap ∧ va_K (dC, dI) vwCl (tys0 cI cZ cQ) U ∧ va_D (fun _ => True) [(h0, .inr (5, [.int (nI st), .int bl, .int mm, .int (nI nq), .int (nI nh), .ref o5, .ref o6, .ref o7, .ref o8, .ref o9, .ref o10, .ref o11, .ref o12])), (o10, .inl (cI, 4, .inl fo10)), (o11, .inl (cI, 4, .inl fo11)), (o12, .inl (cI, 4, .inl fo12)), (nu, .inl (cI, 5, .inl fnu))])) (va_Qv (fun (u : Nat → Nat) => True) (fun (_ : Nat → Nat) (t : State) => ∃ (gg0 gg1 gg2 : Nat → Int32) (kk0 : Nat), kk0 ≤ 4 ∧ (kk0 = nh + 1) ∧ (gg0 = upd fo10 nh (fnu 0)) ∧ (gg1 = upd fo11 nh (fnu 1)) ∧ (gg2 = upd fo12 nh (fnu 2)) ∧ va_P (dC, dI) vwCl [(h0, .inr (5, [.int (nI st), .int bl, .int mm, .int (nI nq), .int (nI kk0), .ref o5, .ref o6, .ref o7, .ref o8, .ref o9, .ref o10, .ref o11, .ref o12])), (o10, .inl (cI, 4, .inl gg0)), (o11, .inl (cI, 4, .inl gg1)), (o12, .inl (cI, 4, .inl gg2)), (nu, .inl (cI, 5, .inl fnu))] t.heap ∧ va_D (va_A [(h0, .inr (5, [.int (nI st), .int bl, .int mm, .int (nI nq), .int (nI nh), .ref o5, .ref o6, .ref o7, .ref o8, .ref o9, .ref o10, .ref o11, .ref o12])), (o10, .inl (cI, 4, .inl fo10)), (o11, .inl (cI, 4, .inl fo11)), (o12, .inl (cI, 4, .inl fo12)), (nu, .inl (cI, 5, .inl fnu))] sz) [(h0, .inr (5, [.int (nI st), .int bl, .int mm, .int (nI nq), .int (nI kk0), .ref o5, .ref o6, .ref o7, .ref o8, .ref o9, .ref o10, .ref o11, .ref o12])), (o10, .inl (cI, 4, .inl gg0)), (o11, .inl (cI, 4, .inl gg1)), (o12, .inl (cI, 4, .inl gg2)), (nu, .inl (cI, 5, .inl fnu))]) (va_A [(h0, .inr (5, [.int (nI st), .int bl, .int mm, .int (nI nq), .int (nI nh), .ref o5, .ref o6, .ref o7, .ref o8, .ref o9, .ref o10, .ref o11, .ref o12])), (o10, .inl (cI, 4, .inl fo10)), (o11, .inl (cI, 4, .inl fo11)), (o12, .inl (cI, 4, .inl fo12)), (nu, .inl (cI, 5, .inl fnu))] sz)) 0 0 (va_A [(h0, .inr (5, [.int (nI st), .int bl, .int mm, .int (nI nq), .int (nI nh), .ref o5, .ref o6, .ref o7, .ref o8, .ref o9, .ref o10, .ref o11, .ref o12])), (o10, .inl (cI, 4, .inl fo10)), (o11, .inl (cI, 4, .inl fo11)), (o12, .inl (cI, 4, .inl fo12)), (nu, .inl (cI, 5, .inl fnu))] sz) := by
  refine Met.ofW (cc := cX5_addHand) (maxL := 2) (ret := none) (by decide) rfl ?_
  intro p e s m args below meth c s₁ B hml hv
  obtain ⟨rfl, hsz, hP, hK, hD0⟩ := hv
  have hx := B.exec
  have hb := B.bytes
  have hr := B.returns
  have hts := atoms_spec (ws := wsX5_addHand) B.pre
  have hown : s.vm.findClass RX5 = some m.cls := findClass_of_methodNamed B.named
  have hlocks := B.notSynchronized
  have hi_X5 : ∀ w ∈ u_ws RX5 TX5 13, w ∈ wsX5_addHand := fun _ h => List.mem_cons_of_mem _ (List.mem_append_right _ (h))
  subst hsz
  have hD := hD0.self (sz := s.heap.size)
  generalize hAe : va_A [(h0, .inr (5, [.int (nI st), .int bl, .int mm, .int (nI nq), .int (nI nh), .ref o5, .ref o6, .ref o7, .ref o8, .ref o9, .ref o10, .ref o11, .ref o12])), (o10, .inl (cI, 4, .inl fo10)), (o11, .inl (cI, 4, .inl fo11)), (o12, .inl (cI, 4, .inl fo12)), (nu, .inl (cI, 5, .inl fnu))] s.heap.size = A at hD ⊢
  have hA : ∀ q : Nat, s.heap.size ≤ q → A q := fun q h => by rw [← hAe]; exact Or.inr h
  have hS : va_S A s.heap s.heap [] := va_S.rf
  have hl := lv_entry ([.ref h0, .ref nu]) (n := 2) (Nat.le_of_ble_eq_true rfl)
  rw [lg_entry_eq]
  generalize (lg_sl ([.ref h0, .ref nu]) ++ List.replicate (2 - (lg_sl ([.ref h0, .ref nu])).length) Slot.unset).toArray = ls at hl ⊢
  have hl : lv_has ls 2 [(0, .ref h0), (1, .ref nu)] := hl
  refine lv_aload_n hx hb dX5_addHand_0 rfl (lv_at hl 0 rfl) ?_
  refine va_get (D := (dC, dI)) (ci := 5) (v := .int (nI nh)) (C := RX5) (T := TX5) (N := 13) hx hb hts hi_X5 hown hK hP 0 rfl rfl 4 (by decide) (hts (.fieldLink RX5 25 "LeftQuills$Office" "hands" "I") (wmx 1 rfl)) (fun _ h9 => h9) rfl dX5_addHand_1 ?_
  refine lv_iconst (v := 4) hx hb dX5_addHand_4 (by decide) ?_
  refine lv_icmp_lt (tgt := 9) hx hb dX5_addHand_5 (by decide) (fun c1 => ?_) (fun c1 => ?_)
  ·
    have c1 : nh < 4 := (nI_ltI (a := nh) (b := 4) (by omega) (by omega)).mp c1
    refine lv_aload_n hx hb dX5_addHand_9 rfl (lv_at hl 0 rfl) ?_
    refine va_get (D := (dC, dI)) (ci := 5) (v := .ref o10) (C := RX5) (T := TX5) (N := 13) hx hb hts hi_X5 hown hK hP 0 rfl rfl 10 (by decide) (hts (.fieldLink RX5 44 "LeftQuills$Office" "side" "[I") (wmx 2 rfl)) (fun _ h9 => h9) rfl dX5_addHand_10 ?_
    refine lv_aload_n hx hb dX5_addHand_13 rfl (lv_at hl 0 rfl) ?_
    refine va_get (D := (dC, dI)) (ci := 5) (v := .int (nI nh)) (C := RX5) (T := TX5) (N := 13) hx hb hts hi_X5 hown hK hP 0 rfl rfl 4 (by decide) (hts (.fieldLink RX5 25 "LeftQuills$Office" "hands" "I") (wmx 1 rfl)) (fun _ h9 => h9) rfl dX5_addHand_14 ?_
    refine lv_aload_n hx hb dX5_addHand_17 rfl (lv_at hl 1 rfl) ?_
    refine lv_iconst (v := 0) hx hb dX5_addHand_18 (by decide) ?_
    refine va_iald hx hb hK hP 4 0 rfl rfl (vp_in_iff.mpr ⟨by decide, by decide⟩) dX5_addHand_19 ?_
    refine W.eq (g2 := F0 m 20 ls [.int (fnu 0), .int (nI nh), .ref o10]) (congrArg (fun y9 => F0 m 20 ls (.int (fnu y9) :: [.int (nI nh), .ref o10])) ((show ((0 : Int32)).toNatClampNeg = 0 from by decide))) ?_
    refine va_iast hx hb hK hP hD hS 1 0 rfl rfl (vp_in_nI (n := nh) (N := 4) (by omega) (by decide)) dX5_addHand_20 (fun H locs hP hD hS => ?_)
    have hcl := (nI_clamp (n := nh) (by omega))
    rw [hcl] at hP hD
    clear hcl
    have hPD : pdW (dC, dI) vwCl A [(h0, .inr (5, [.int (nI st), .int bl, .int mm, .int (nI nq), .int (nI nh), .ref o5, .ref o6, .ref o7, .ref o8, .ref o9, .ref o10, .ref o11, .ref o12])), (o10, .inl (cI, 4, .inl (upd fo10 nh (fnu 0)))), (o11, .inl (cI, 4, .inl fo11)), (o12, .inl (cI, 4, .inl fo12)), (nu, .inl (cI, 5, .inl fnu))] H := ⟨hP, hD⟩
    have hP := hPD.1
    have hD := hPD.2
    clear hPD
    refine lv_aload_n hx hb dX5_addHand_21 rfl (lv_at hl 0 rfl) ?_
    refine va_get (D := (dC, dI)) (ci := 5) (v := .ref o11) (C := RX5) (T := TX5) (N := 13) hx hb hts hi_X5 hown hK hP 0 rfl rfl 11 (by decide) (hts (.fieldLink RX5 47 "LeftQuills$Office" "presses" "[I") (wmx 3 rfl)) (fun _ h9 => h9) rfl dX5_addHand_22 ?_
    refine lv_aload_n hx hb dX5_addHand_25 rfl (lv_at hl 0 rfl) ?_
    refine va_get (D := (dC, dI)) (ci := 5) (v := .int (nI nh)) (C := RX5) (T := TX5) (N := 13) hx hb hts hi_X5 hown hK hP 0 rfl rfl 4 (by decide) (hts (.fieldLink RX5 25 "LeftQuills$Office" "hands" "I") (wmx 1 rfl)) (fun _ h9 => h9) rfl dX5_addHand_26 ?_
    refine lv_aload_n hx hb dX5_addHand_29 rfl (lv_at hl 1 rfl) ?_
    refine lv_iconst (v := 1) hx hb dX5_addHand_30 (by decide) ?_
    refine va_iald hx hb hK hP 4 0 rfl rfl (vp_in_iff.mpr ⟨by decide, by decide⟩) dX5_addHand_31 ?_
    refine W.eq (g2 := F0 m 32 ls [.int (fnu 1), .int (nI nh), .ref o11]) (congrArg (fun y9 => F0 m 32 ls (.int (fnu y9) :: [.int (nI nh), .ref o11])) ((show ((1 : Int32)).toNatClampNeg = 1 from by decide))) ?_
    refine va_iast hx hb hK hP hD hS 2 0 rfl rfl (vp_in_nI (n := nh) (N := 4) (by omega) (by decide)) dX5_addHand_32 (fun H locs hP hD hS => ?_)
    have hcl := (nI_clamp (n := nh) (by omega))
    rw [hcl] at hP hD
    clear hcl
    have hPD : pdW (dC, dI) vwCl A [(h0, .inr (5, [.int (nI st), .int bl, .int mm, .int (nI nq), .int (nI nh), .ref o5, .ref o6, .ref o7, .ref o8, .ref o9, .ref o10, .ref o11, .ref o12])), (o10, .inl (cI, 4, .inl (upd fo10 nh (fnu 0)))), (o11, .inl (cI, 4, .inl (upd fo11 nh (fnu 1)))), (o12, .inl (cI, 4, .inl fo12)), (nu, .inl (cI, 5, .inl fnu))] H := ⟨hP, hD⟩
    have hP := hPD.1
    have hD := hPD.2
    clear hPD
    refine lv_aload_n hx hb dX5_addHand_33 rfl (lv_at hl 0 rfl) ?_
    refine va_get (D := (dC, dI)) (ci := 5) (v := .ref o12) (C := RX5) (T := TX5) (N := 13) hx hb hts hi_X5 hown hK hP 0 rfl rfl 12 (by decide) (hts (.fieldLink RX5 50 "LeftQuills$Office" "wants" "[I") (wmx 4 rfl)) (fun _ h9 => h9) rfl dX5_addHand_34 ?_
    refine lv_aload_n hx hb dX5_addHand_37 rfl (lv_at hl 0 rfl) ?_
    refine va_get (D := (dC, dI)) (ci := 5) (v := .int (nI nh)) (C := RX5) (T := TX5) (N := 13) hx hb hts hi_X5 hown hK hP 0 rfl rfl 4 (by decide) (hts (.fieldLink RX5 25 "LeftQuills$Office" "hands" "I") (wmx 1 rfl)) (fun _ h9 => h9) rfl dX5_addHand_38 ?_
    refine lv_aload_n hx hb dX5_addHand_41 rfl (lv_at hl 1 rfl) ?_
    refine lv_iconst (v := 2) hx hb dX5_addHand_42 (by decide) ?_
    refine va_iald hx hb hK hP 4 0 rfl rfl (vp_in_iff.mpr ⟨by decide, by decide⟩) dX5_addHand_43 ?_
    refine W.eq (g2 := F0 m 44 ls [.int (fnu 2), .int (nI nh), .ref o12]) (congrArg (fun y9 => F0 m 44 ls (.int (fnu y9) :: [.int (nI nh), .ref o12])) ((show ((2 : Int32)).toNatClampNeg = 2 from by decide))) ?_
    refine va_iast hx hb hK hP hD hS 3 0 rfl rfl (vp_in_nI (n := nh) (N := 4) (by omega) (by decide)) dX5_addHand_44 (fun H locs hP hD hS => ?_)
    have hcl := (nI_clamp (n := nh) (by omega))
    rw [hcl] at hP hD
    clear hcl
    have hPD : pdW (dC, dI) vwCl A [(h0, .inr (5, [.int (nI st), .int bl, .int mm, .int (nI nq), .int (nI nh), .ref o5, .ref o6, .ref o7, .ref o8, .ref o9, .ref o10, .ref o11, .ref o12])), (o10, .inl (cI, 4, .inl (upd fo10 nh (fnu 0)))), (o11, .inl (cI, 4, .inl (upd fo11 nh (fnu 1)))), (o12, .inl (cI, 4, .inl (upd fo12 nh (fnu 2)))), (nu, .inl (cI, 5, .inl fnu))] H := ⟨hP, hD⟩
    have hP := hPD.1
    have hD := hPD.2
    clear hPD
    refine lv_aload_n hx hb dX5_addHand_45 rfl (lv_at hl 0 rfl) ?_
    refine lv_dup hx hb dX5_addHand_46 rfl ?_
    refine va_get (D := (dC, dI)) (ci := 5) (v := .int (nI nh)) (C := RX5) (T := TX5) (N := 13) hx hb hts hi_X5 hown hK hP 0 rfl rfl 4 (by decide) (hts (.fieldLink RX5 25 "LeftQuills$Office" "hands" "I") (wmx 1 rfl)) (fun _ h9 => h9) rfl dX5_addHand_47 ?_
    refine lv_iconst (v := 1) hx hb dX5_addHand_50 (by decide) ?_
    refine lv_iadd hx hb dX5_addHand_51 ?_
    refine lv_topi (fun z5 ez5 => ?_)
    obtain rfl : z5 = nI (nh + 1) := ez5.trans (nI_add nh 1)
    refine va_put (D := (dC, dI)) (ci := 5) (v := .int (nI (nh + 1))) (ty := .int) (C := RX5) (T := TX5) (N := 13) hx hb hts hi_X5 tyX5 tyX5_ok nmX5 hown hK hP hD hS 0 rfl rfl 4 (by decide) (hts (.fieldLink RX5 25 "LeftQuills$Office" "hands" "I") (wmx 1 rfl)) (fun _ h9 => h9) rfl (by decide +kernel) rfl rfl (Nat.le_of_ble_eq_true rfl) dX5_addHand_52 (fun H locs hP hD hS => ?_)
    have hPD : pdW (dC, dI) vwCl A [(h0, .inr (5, [.int (nI st), .int bl, .int mm, .int (nI nq), .int (nI (nh + 1)), .ref o5, .ref o6, .ref o7, .ref o8, .ref o9, .ref o10, .ref o11, .ref o12])), (o10, .inl (cI, 4, .inl (upd fo10 nh (fnu 0)))), (o11, .inl (cI, 4, .inl (upd fo11 nh (fnu 1)))), (o12, .inl (cI, 4, .inl (upd fo12 nh (fnu 2)))), (nu, .inl (cI, 5, .inl fnu))] H := ⟨hP, hD⟩
    have hP := hPD.1
    have hD := hPD.2
    clear hPD
    have hP9 := hP.sub (ws' := [(h0, .inr (5, [.int (nI st), .int bl, .int mm, .int (nI nq), .int (nI (nh + 1)), .ref o5, .ref o6, .ref o7, .ref o8, .ref o9, .ref o10, .ref o11, .ref o12])), (o10, .inl (cI, 4, .inl (upd fo10 nh (fnu 0)))), (o11, .inl (cI, 4, .inl (upd fo11 nh (fnu 1)))), (o12, .inl (cI, 4, .inl (upd fo12 nh (fnu 2)))), (nu, .inl (cI, 5, .inl fnu))]) [0, 1, 2, 3, 4] rfl
    have hD9 := hD.sub (ws' := [(h0, .inr (5, [.int (nI st), .int bl, .int mm, .int (nI nq), .int (nI (nh + 1)), .ref o5, .ref o6, .ref o7, .ref o8, .ref o9, .ref o10, .ref o11, .ref o12])), (o10, .inl (cI, 4, .inl (upd fo10 nh (fnu 0)))), (o11, .inl (cI, 4, .inl (upd fo11 nh (fnu 1)))), (o12, .inl (cI, 4, .inl (upd fo12 nh (fnu 2)))), (nu, .inl (cI, 5, .inl fnu))]) [0, 1, 2, 3, 4] (by decide +kernel) rfl
    exact W.vret hx hb hr (fun t ht hW => ⟨⟨(fun _ => 0), rfl, trivial, ⟨(upd fo10 nh (fnu 0)), (upd fo11 nh (fnu 1)), (upd fo12 nh (fnu 2)), (nh + 1), by omega, rfl, rfl, rfl, rfl, va_hq ht hP9, hD9⟩⟩, hS.F ht⟩) hS.2.2 dX5_addHand_55
  ·
    have c1 : ¬ nh < 4 := fun h => c1 ((nI_ltI (a := nh) (b := 4) (by omega) (by omega)).mpr h)
    omega
set_option maxHeartbeats 4000000 in
set_option maxRecDepth 100000 in
theorem c_X7_readClauseF (l : Launch) (dC : Nat → ClassId) (dI : Nat → Nat → Nat) (cI cZ cQ : ClassId) (h0 : Nat) (dr : Nat) (fa : Int32) (nu : Nat) (le : Nat) (ln : Nat) (at9 : Nat) (fu : Int32) (fle : Nat → Int32) (fnu : Nat → Int32) (st : Nat) (bl : Int32) (mm : Int32) (nq : Nat) (nh : Nat) (o5 : Nat) (o6 : Nat) (o7 : Nat) (o8 : Nat) (o9 : Nat) (o10 : Nat) (o11 : Nat) (o12 : Nat) (fo5 : Nat → Int32) (fo6 : Nat → Int32) (fo7 : Nat → Int32) (fo8 : Nat → Int32) (fo9 : Nat → Int32) (fo10 : Nat → Int32) (fo11 : Nat → Int32) (fo12 : Nat → Int32) (xr : RS) (T0 : Nat → Int32) (sz : Nat) (hln : ln ≤ 220) (hat : at9 < ln) (hst : st ≤ 1) (hnq : nq ≤ 8) (hnh : nh ≤ 4) (hT : ∀ j, j < ln → fle j = T0 j) (hx0 : xr.1 0 = 0) (hx2 : at9 = xr.1 2) (hfu : fu = 0) (hfa : fa = (-1)) (hdr : dRel xr st bl mm nq nh (x8 fo5 fo6 fo7 fo8 fo9 fo10 fo11 fo12)) : Met l yX7_readClause wsX7_readClause ({ frames := 3, cells := 0, slots := 0, locals := 111 }) (va_Pc [.ref h0] (fun U => U.heap.size = sz ∧ va_P (dC, dI) vwCl [(h0, .inr (7, [.ref dr, .int fa, .ref nu, .ref le, .int (nI ln), .int (nI at9), .int fu])), (le, .inl (cI, 220, .inl fle)), (nu, .inl (cI, 5, .inl fnu)), (dr, .inr (5, [.int (nI st), .int bl, .int mm, .int (nI nq), .int (nI nh), .ref o5, .ref o6, .ref o7, .ref o8, .ref o9, .ref o10, .ref o11, .ref o12])), (o5, .inl (cI, 8, .inl fo5)), (o6, .inl (cI, 8, .inl fo6)), (o7, .inl (cI, 8, .inl fo7)), (o8, .inl (cI, 8, .inl fo8)), (o9, .inl (cI, 8, .inl fo9)), (o10, .inl (cI, 4, .inl fo10)), (o11, .inl (cI, 4, .inl fo11)), (o12, .inl (cI, 4, .inl fo12))] U.heap ∧ va_K (dC, dI) vwCl (tys0 cI cZ cQ) U ∧ va_D (fun _ => True) [(h0, .inr (7, [.ref dr, .int fa, .ref nu, .ref le, .int (nI ln), .int (nI at9), .int fu])), (le, .inl (cI, 220, .inl fle)), (nu, .inl (cI, 5, .inl fnu)), (dr, .inr (5, [.int (nI st), .int bl, .int mm, .int (nI nq), .int (nI nh), .ref o5, .ref o6, .ref o7, .ref o8, .ref o9, .ref o10, .ref o11, .ref o12])), (o5, .inl (cI, 8, .inl fo5)), (o6, .inl (cI, 8, .inl fo6)), (o7, .inl (cI, 8, .inl fo7)), (o8, .inl (cI, 8, .inl fo8)), (o9, .inl (cI, 8, .inl fo9)), (o10, .inl (cI, 4, .inl fo10)), (o11, .inl (cI, 4, .inl fo11)), (o12, .inl (cI, 4, .inl fo12))] ∧ xN U ∧ xS (va_A [(h0, .inr (7, [.ref dr, .int fa, .ref nu, .ref le, .int (nI ln), .int (nI at9), .int fu])), (le, .inl (cI, 220, .inl fle)), (nu, .inl (cI, 5, .inl fnu)), (dr, .inr (5, [.int (nI st), .int bl, .int mm, .int (nI nq), .int (nI nh), .ref o5, .ref o6, .ref o7, .ref o8, .ref o9, .ref o10, .ref o11, .ref o12])), (o5, .inl (cI, 8, .inl fo5)), (o6, .inl (cI, 8, .inl fo6)), (o7, .inl (cI, 8, .inl fo7)), (o8, .inl (cI, 8, .inl fo8)), (o9, .inl (cI, 8, .inl fo9)), (o10, .inl (cI, 4, .inl fo10)), (o11, .inl (cI, 4, .inl fo11)), (o12, .inl (cI, 4, .inl fo12))] sz) U U.heap)) (va_Qv (fun (u : Nat → Nat) => True) (fun (_ : Nat → Nat) (t : State) => ∃ (gg0 gg1 gg2 gg3 gg4 gg5 gg6 gg7 gg8 : Nat → Int32) (ii0 ii2 ii4 ii5 : Int32) (kk1 kk3 kk6 kk7 : Nat), kk1 ≤ ln ∧ kk3 ≤ 1 ∧ kk6 ≤ 8 ∧ kk7 ≤ 4 ∧ (cRel (clT T0 ln xr) ii2 ii0 kk1 kk3 ii4 ii5 kk6 kk7 (x8 gg1 gg2 gg3 gg4 gg5 gg6 gg7 gg8)) ∧ va_P (dC, dI) vwCl [(h0, .inr (7, [.ref dr, .int ii0, .ref nu, .ref le, .int (nI ln), .int (nI kk1), .int ii2])), (le, .inl (cI, 220, .inl fle)), (nu, .inl (cI, 5, .inl gg0)), (dr, .inr (5, [.int (nI kk3), .int ii4, .int ii5, .int (nI kk6), .int (nI kk7), .ref o5, .ref o6, .ref o7, .ref o8, .ref o9, .ref o10, .ref o11, .ref o12])), (o5, .inl (cI, 8, .inl gg1)), (o6, .inl (cI, 8, .inl gg2)), (o7, .inl (cI, 8, .inl gg3)), (o8, .inl (cI, 8, .inl gg4)), (o9, .inl (cI, 8, .inl gg5)), (o10, .inl (cI, 4, .inl gg6)), (o11, .inl (cI, 4, .inl gg7)), (o12, .inl (cI, 4, .inl gg8))] t.heap ∧ va_D (va_A [(h0, .inr (7, [.ref dr, .int fa, .ref nu, .ref le, .int (nI ln), .int (nI at9), .int fu])), (le, .inl (cI, 220, .inl fle)), (nu, .inl (cI, 5, .inl fnu)), (dr, .inr (5, [.int (nI st), .int bl, .int mm, .int (nI nq), .int (nI nh), .ref o5, .ref o6, .ref o7, .ref o8, .ref o9, .ref o10, .ref o11, .ref o12])), (o5, .inl (cI, 8, .inl fo5)), (o6, .inl (cI, 8, .inl fo6)), (o7, .inl (cI, 8, .inl fo7)), (o8, .inl (cI, 8, .inl fo8)), (o9, .inl (cI, 8, .inl fo9)), (o10, .inl (cI, 4, .inl fo10)), (o11, .inl (cI, 4, .inl fo11)), (o12, .inl (cI, 4, .inl fo12))] sz) [(h0, .inr (7, [.ref dr, .int ii0, .ref nu, .ref le, .int (nI ln), .int (nI kk1), .int ii2])), (le, .inl (cI, 220, .inl fle)), (nu, .inl (cI, 5, .inl gg0)), (dr, .inr (5, [.int (nI kk3), .int ii4, .int ii5, .int (nI kk6), .int (nI kk7), .ref o5, .ref o6, .ref o7, .ref o8, .ref o9, .ref o10, .ref o11, .ref o12])), (o5, .inl (cI, 8, .inl gg1)), (o6, .inl (cI, 8, .inl gg2)), (o7, .inl (cI, 8, .inl gg3)), (o8, .inl (cI, 8, .inl gg4)), (o9, .inl (cI, 8, .inl gg5)), (o10, .inl (cI, 4, .inl gg6)), (o11, .inl (cI, 4, .inl gg7)), (o12, .inl (cI, 4, .inl gg8))]) (va_A [(h0, .inr (7, [.ref dr, .int fa, .ref nu, .ref le, .int (nI ln), .int (nI at9), .int fu])), (le, .inl (cI, 220, .inl fle)), (nu, .inl (cI, 5, .inl fnu)), (dr, .inr (5, [.int (nI st), .int bl, .int mm, .int (nI nq), .int (nI nh), .ref o5, .ref o6, .ref o7, .ref o8, .ref o9, .ref o10, .ref o11, .ref o12])), (o5, .inl (cI, 8, .inl fo5)), (o6, .inl (cI, 8, .inl fo6)), (o7, .inl (cI, 8, .inl fo7)), (o8, .inl (cI, 8, .inl fo8)), (o9, .inl (cI, 8, .inl fo9)), (o10, .inl (cI, 4, .inl fo10)), (o11, .inl (cI, 4, .inl fo11)), (o12, .inl (cI, 4, .inl fo12))] sz)) 0 0 (va_A [(h0, .inr (7, [.ref dr, .int fa, .ref nu, .ref le, .int (nI ln), .int (nI at9), .int fu])), (le, .inl (cI, 220, .inl fle)), (nu, .inl (cI, 5, .inl fnu)), (dr, .inr (5, [.int (nI st), .int bl, .int mm, .int (nI nq), .int (nI nh), .ref o5, .ref o6, .ref o7, .ref o8, .ref o9, .ref o10, .ref o11, .ref o12])), (o5, .inl (cI, 8, .inl fo5)), (o6, .inl (cI, 8, .inl fo6)), (o7, .inl (cI, 8, .inl fo7)), (o8, .inl (cI, 8, .inl fo8)), (o9, .inl (cI, 8, .inl fo9)), (o10, .inl (cI, 4, .inl fo10)), (o11, .inl (cI, 4, .inl fo11)), (o12, .inl (cI, 4, .inl fo12))] sz) := by
  refine Met.ofW (cc := cX7_readClause) (maxL := 2) (ret := none) (by decide) rfl ?_
  intro p e s m args below meth c s₁ B hml hv
  obtain ⟨rfl, hsz, hP, hK, hD0, hN, hXS⟩ := hv
  have hx := B.exec
  have hb := B.bytes
  have hr := B.returns
  have hts := atoms_spec (ws := wsX7_readClause) B.pre
  have hown : s.vm.findClass RX7 = some m.cls := findClass_of_methodNamed B.named
  have hlocks := B.notSynchronized
  have hi_X5 : ∀ w ∈ u_ws RX5 TX5 13, w ∈ wsX7_readClause := fun _ h => List.mem_cons_of_mem _ (List.mem_append_right _ (h))
  have hi_X7 : ∀ w ∈ u_ws RX7 TX7 7, w ∈ wsX7_readClause := fun _ h => List.mem_cons_of_mem _ (List.mem_append_left _ (List.mem_append_right _ (h)))
  subst hsz
  have hD := hD0.self (sz := s.heap.size)
  generalize hAe : va_A [(h0, .inr (7, [.ref dr, .int fa, .ref nu, .ref le, .int (nI ln), .int (nI at9), .int fu])), (le, .inl (cI, 220, .inl fle)), (nu, .inl (cI, 5, .inl fnu)), (dr, .inr (5, [.int (nI st), .int bl, .int mm, .int (nI nq), .int (nI nh), .ref o5, .ref o6, .ref o7, .ref o8, .ref o9, .ref o10, .ref o11, .ref o12])), (o5, .inl (cI, 8, .inl fo5)), (o6, .inl (cI, 8, .inl fo6)), (o7, .inl (cI, 8, .inl fo7)), (o8, .inl (cI, 8, .inl fo8)), (o9, .inl (cI, 8, .inl fo9)), (o10, .inl (cI, 4, .inl fo10)), (o11, .inl (cI, 4, .inl fo11)), (o12, .inl (cI, 4, .inl fo12))] s.heap.size = A at hD hXS ⊢
  obtain ⟨t_BLADE_LEAST, hZ_BLADE_LEAST, hT_t_BLADE_LEAST⟩ := hXS.1
  obtain ⟨t_BLADE_MOST, hZ_BLADE_MOST, hT_t_BLADE_MOST⟩ := hXS.2.1
  obtain ⟨t_QUILL_LEAST, hZ_QUILL_LEAST, hT_t_QUILL_LEAST⟩ := hXS.2.2.1
  obtain ⟨t_QUILL_MOST, hZ_QUILL_MOST, hT_t_QUILL_MOST⟩ := hXS.2.2.2.1
  obtain ⟨t_HAND_LEAST, hZ_HAND_LEAST, hT_t_HAND_LEAST⟩ := hXS.2.2.2.2.1
  obtain ⟨t_HAND_MOST, hZ_HAND_MOST, hT_t_HAND_MOST⟩ := hXS.2.2.2.2.2
  have hA : ∀ q : Nat, s.heap.size ≤ q → A q := fun q h => by rw [← hAe]; exact Or.inr h
  have hS : va_S A s.heap s.heap [] := va_S.rf
  have hl := lv_entry ([.ref h0]) (n := 2) (Nat.le_of_ble_eq_true rfl)
  rw [lg_entry_eq]
  generalize (lg_sl ([.ref h0]) ++ List.replicate (2 - (lg_sl ([.ref h0])).length) Slot.unset).toArray = ls at hl ⊢
  have hl : lv_has ls 2 [(0, .ref h0)] := hl
  refine lv_aload_n hx hb dX7_readClause_0 rfl (lv_at hl 0 rfl) ?_
  have hPc := hP.sub (ws' := [(h0, .inr (7, [.ref dr, .int fa, .ref nu, .ref le, .int (nI ln), .int (nI at9), .int fu])), (le, .inl (cI, 220, .inl fle))]) [0, 1] rfl
  refine va_calli (va_runV (As := []) (rest := []) ⟨hx, hb, hml, hown, hts⟩ (c_X7_letterHereF l dC dI cI cZ cQ h0 le ln at9 ([.ref dr, .int fa, .ref nu, .ref le, .int (nI ln), .int (nI at9), .int fu]) fle T0 s.heap.size rfl rfl rfl (by omega) (by omega) hT) (cwV 0 hts gX7_readClause_X7_letterHere rfl rfl rfl hd_X7_letterHere_RX7 ⟨Nat.le_of_ble_eq_true rfl, Nat.le_of_ble_eq_true rfl⟩) (pv_R (va_recv hK hP (ci := 7) (q0 := 0) rfl rfl) hK hPc) rfl rfl hl.1 rfl (lv_room (Nat.le_of_ble_eq_true rfl)) dX7_readClause_1 ⟨Nat.le_of_ble_eq_true rfl, Nat.le_of_ble_eq_true rfl⟩) hS (fun q _ h => False.elim h) (fun q h => False.elim h) (fun r1 u2 t H1 locs ht hvm hw3 hB hz1 hk1 hS => ?_)
  have hP := hP.kept (fun k q hk => hk1 q.1 (hP k q hk).lt (fun h => h))
  clear hz1 hk1 hPc
  generalize H1 = H at hP hS ht ⊢
  try dsimp only at hw3
  refine lv_istore_n (lv' := [(1, .int r1), (0, .ref h0)]) hx hb dX7_readClause_4 rfl hl (by decide) rfl (fun ls hl => ?_)
  refine lv_aload_n hx hb dX7_readClause_5 rfl (lv_at hl 1 rfl) ?_
  refine va_get (D := (dC, dI)) (ci := 7) (v := .ref dr) (C := RX7) (T := TX7) (N := 7) hx hb hts hi_X7 hown hK hP 0 rfl rfl 0 (by decide) (hts (.fieldLink RX7 12 "LeftQuills$Reader" "draft" "LLeftQuills$Office;") (wmx 1 rfl)) (fun _ h9 => h9) rfl dX7_readClause_6 ?_
  refine va_get (D := (dC, dI)) (ci := 5) (v := .int (nI st)) (C := RX5) (T := TX5) (N := 13) hx hb hts hi_X5 hown hK hP 3 rfl rfl 0 (by decide) (hts (.fieldLink RX7 66 "LeftQuills$Office" "stands" "Z") (wmx 2 rfl)) (fun _ h9 => h9) rfl dX7_readClause_9 ?_
  refine lv_if_ne (tgt := 31) hx hb dX7_readClause_12 (by decide) (fun c4 => ?_) (fun c4 => ?_)
  ·
    have c4 : ¬ st = 0 := fun h => c4 ((nI_eq (a := st) (b := 0) (by omega) (by omega)).mpr h)
    refine lv_iload_n hx hb dX7_readClause_31 rfl (lv_at hl 0 rfl) ?_
    by_cases c5 : r1 = 104
    · refine lv_lookup (tgt := 160) (off := 128) hx hb dX7_readClause_32 (by decide) (by rw [c5]; decide) (by decide) ?_
      refine lv_aload_n hx hb dX7_readClause_160 rfl (lv_at hl 1 rfl) ?_
      refine lv_aload_n hx hb dX7_readClause_161 rfl (lv_at hl 1 rfl) ?_
      refine va_get (D := (dC, dI)) (ci := 7) (v := .ref dr) (C := RX7) (T := TX7) (N := 7) hx hb hts hi_X7 hown hK hP 0 rfl rfl 0 (by decide) (hts (.fieldLink RX7 12 "LeftQuills$Reader" "draft" "LLeftQuills$Office;") (wmx 1 rfl)) (fun _ h9 => h9) rfl dX7_readClause_162 ?_
      refine va_get (D := (dC, dI)) (ci := 5) (v := .int (nI nh)) (C := RX5) (T := TX5) (N := 13) hx hb hts hi_X5 hown hK hP 3 rfl rfl 4 (by decide) (hts (.fieldLink RX7 104 "LeftQuills$Office" "hands" "I") (wmx 10 rfl)) (fun _ h9 => h9) rfl dX7_readClause_165 ?_
      refine lv_iconst (v := 4) hx hb dX7_readClause_168 (by decide) ?_
      refine lv_icmp_lt (tgt := 176) hx hb dX7_readClause_169 (by decide) (fun c6 => ?_) (fun c6 => ?_)
      ·
        have c6 : nh < 4 := (nI_ltI (a := nh) (b := 4) (by omega) (by omega)).mp c6
        refine lv_iconst (v := 0) hx hb dX7_readClause_176 (by decide) ?_
        have hc9 := va_cut (W' := [(h0, .inr (7, [.ref dr, .int fa, .ref nu, .ref le, .int (nI ln), .int (nI at9), .int fu]))]) hP hD hS hA [0] (by decide) rfl
        have hPc := hc9.1
        have hDc := hc9.2.1
        have hFc := hc9.2.2
        clear hc9
        refine va_calli (va_runV (As := [.int 0]) (rest := []) ⟨hx, hb, hml, hown, hts⟩ (c_X7_startWordF l dC dI cI cZ cQ h0 dr fa nu le ln at9 fu 0 H.size (by omega) (by omega)) (cwV 1 hts gX7_readClause_X7_startWord rfl rfl rfl hd_X7_startWord_RX7 ⟨Nat.le_of_ble_eq_true rfl, Nat.le_of_ble_eq_true rfl⟩) (pv_D (va_recv hK hP (ci := 7) (q0 := 0) rfl rfl) hK hPc hDc) rfl rfl hl.1 rfl (lv_room (Nat.le_of_ble_eq_true rfl)) dX7_readClause_177 ⟨Nat.le_of_ble_eq_true rfl, Nat.le_of_ble_eq_true rfl⟩) hS (fun q _ h => hFc q h) hFc (fun r7 u8 t H1 locs ht hvm hw9 hB hz1 hk1 hS => ?_)
        obtain ⟨i10, i12, k11, hk11, he13, hP1, hD1⟩ := hB
        replace hP1 := va_hp ht hP1
        obtain ⟨hP, hD⟩ := va_join (wr := [(le, .inl (cI, 220, .inl fle)), (nu, .inl (cI, 5, .inl fnu)), (dr, .inr (5, [.int (nI st), .int bl, .int mm, .int (nI nq), .int (nI nh), .ref o5, .ref o6, .ref o7, .ref o8, .ref o9, .ref o10, .ref o11, .ref o12])), (o5, .inl (cI, 8, .inl fo5)), (o6, .inl (cI, 8, .inl fo6)), (o7, .inl (cI, 8, .inl fo7)), (o8, .inl (cI, 8, .inl fo8)), (o9, .inl (cI, 8, .inl fo9)), (o10, .inl (cI, 4, .inl fo10)), (o11, .inl (cI, 4, .inl fo11)), (o12, .inl (cI, 4, .inl fo12))]) (w1 := [(h0, .inr (7, [.ref dr, .int i10, .ref nu, .ref le, .int (nI ln), .int (nI k11), .int i12]))]) hP hD [0] [1, 2, 3, 4, 5, 6, 7, 8, 9, 10, 11] rfl rfl (by decide +kernel) (by decide +kernel) hk1 hFc hP1 hD1
        clear hP1 hD1
        clear hz1 hk1 hPc hDc hFc
        generalize H1 = H at hP hS ht ⊢
        have hPD : pdW (dC, dI) vwCl A [(le, .inl (cI, 220, .inl fle)), (nu, .inl (cI, 5, .inl fnu)), (dr, .inr (5, [.int (nI st), .int bl, .int mm, .int (nI nq), .int (nI nh), .ref o5, .ref o6, .ref o7, .ref o8, .ref o9, .ref o10, .ref o11, .ref o12])), (o5, .inl (cI, 8, .inl fo5)), (o6, .inl (cI, 8, .inl fo6)), (o7, .inl (cI, 8, .inl fo7)), (o8, .inl (cI, 8, .inl fo8)), (o9, .inl (cI, 8, .inl fo9)), (o10, .inl (cI, 4, .inl fo10)), (o11, .inl (cI, 4, .inl fo11)), (o12, .inl (cI, 4, .inl fo12)), (h0, .inr (7, [.ref dr, .int i10, .ref nu, .ref le, .int (nI ln), .int (nI k11), .int i12]))] H := ⟨hP, hD⟩
        have hP := hPD.1
        have hD := hPD.2
        clear hPD
        try dsimp only at hw9
        rcases he13 with ⟨g14, g15, rfl, rfl, rfl⟩ | ⟨g14, g15, g16, g17⟩
        ·
          obtain rfl : r7 = 1 := by rw [hw9, g14]; rfl
          have hPD : pdW (dC, dI) vwCl A [(le, .inl (cI, 220, .inl fle)), (nu, .inl (cI, 5, .inl fnu)), (dr, .inr (5, [.int (nI st), .int bl, .int mm, .int (nI nq), .int (nI nh), .ref o5, .ref o6, .ref o7, .ref o8, .ref o9, .ref o10, .ref o11, .ref o12])), (o5, .inl (cI, 8, .inl fo5)), (o6, .inl (cI, 8, .inl fo6)), (o7, .inl (cI, 8, .inl fo7)), (o8, .inl (cI, 8, .inl fo8)), (o9, .inl (cI, 8, .inl fo9)), (o10, .inl (cI, 4, .inl fo10)), (o11, .inl (cI, 4, .inl fo11)), (o12, .inl (cI, 4, .inl fo12)), (h0, .inr (7, [.ref dr, .int fa, .ref nu, .ref le, .int (nI ln), .int (nI (at9 + 1)), .int fu]))] H := ⟨hP, hD⟩
          have hP := hPD.1
          have hD := hPD.2
          clear hPD
          refine lv_if_eq (tgt := 219) hx hb dX7_readClause_180 (by decide) (fun c18 => ?_) (fun c18 => ?_)
          · exact absurd c18 (by decide)
          clear c18
          refine lv_aload_n hx hb dX7_readClause_183 rfl (lv_at hl 1 rfl) ?_
          refine va_gets hx hb hZ_HAND_LEAST hS hown (hts (.fieldLink RX7 107 "LeftQuills$Reader" "HAND_LEAST" "[I") (wmx 11 rfl)) (fun _ h9 => h9) dX7_readClause_184 ?_
          refine va_gets hx hb hZ_HAND_MOST hS hown (hts (.fieldLink RX7 110 "LeftQuills$Reader" "HAND_MOST" "[I") (wmx 12 rfl)) (fun _ h9 => h9) dX7_readClause_187 ?_
          have hc9 := va_cut (W' := [(h0, .inr (7, [.ref dr, .int fa, .ref nu, .ref le, .int (nI ln), .int (nI (at9 + 1)), .int fu])), (le, .inl (cI, 220, .inl fle)), (nu, .inl (cI, 5, .inl fnu))]) hP hD hS hA [11, 0, 1] (by decide) rfl
          have hPc := hc9.1
          have hDc := hc9.2.1
          have hFc := hc9.2.2
          clear hc9
          refine va_calli (va_runV (As := [.ref t_HAND_LEAST, .ref t_HAND_MOST]) (rest := []) ⟨hx, hb, hml, hown, hts⟩ (c_X7_readNumbersF l dC dI cI cZ cQ h0 dr fa nu le ln (at9 + 1) fu fle fnu t_HAND_LEAST t_HAND_MOST 3 gHL gHM T0 H.size (by omega) (by omega) hT (by omega)) (cwV 2 hts gX7_readClause_X7_readNumbers rfl rfl rfl hd_X7_readNumbers_RX7 ⟨Nat.le_of_ble_eq_true rfl, Nat.le_of_ble_eq_true rfl⟩) ⟨fun a U g mk q => by obtain ⟨q0, q1, qP, qK, qD, qN, qT_t1, qT_t2⟩ := q; exact ⟨q0, q1, qP, va_K.moved (u := U) (U := U.calling g mk a) (Vm.Alike.refl U.vm) qK, qD, qN.calling, va_T.moved (u := U) (Vm.Alike.refl U.vm) qT_t1, va_T.moved (u := U) (Vm.Alike.refl U.vm) qT_t2⟩, va_recv hK hP (ci := 7) (q0 := 11) rfl rfl, fun U hU hW => ⟨rfl, by rw [hU], by rw [hU]; exact hPc, va_K.moved hW.alike hK, hDc.weaken (fun _ _ _ _ => trivial), hN.warm hW, by rw [hU]; exact va_T.moved hW.alike ((hT_t_HAND_LEAST.kept hS.2.1).narrow hFc), by rw [hU]; exact va_T.moved hW.alike ((hT_t_HAND_MOST.kept hS.2.1).narrow hFc)⟩⟩ rfl rfl hl.1 rfl (lv_room (Nat.le_of_ble_eq_true rfl)) dX7_readClause_190 ⟨Nat.le_of_ble_eq_true rfl, Nat.le_of_ble_eq_true rfl⟩) hS (fun q _ h => hFc q h) hFc (fun r19 u20 t H1 locs ht hvm hw21 hB hz1 hk1 hS => ?_)
          obtain ⟨f22, i23, i25, k24, hk24, he26, hP1, hD1⟩ := hB
          replace hP1 := va_hp ht hP1
          obtain ⟨hP, hD⟩ := va_join (wr := [(dr, .inr (5, [.int (nI st), .int bl, .int mm, .int (nI nq), .int (nI nh), .ref o5, .ref o6, .ref o7, .ref o8, .ref o9, .ref o10, .ref o11, .ref o12])), (o5, .inl (cI, 8, .inl fo5)), (o6, .inl (cI, 8, .inl fo6)), (o7, .inl (cI, 8, .inl fo7)), (o8, .inl (cI, 8, .inl fo8)), (o9, .inl (cI, 8, .inl fo9)), (o10, .inl (cI, 4, .inl fo10)), (o11, .inl (cI, 4, .inl fo11)), (o12, .inl (cI, 4, .inl fo12))]) (w1 := [(h0, .inr (7, [.ref dr, .int i23, .ref nu, .ref le, .int (nI ln), .int (nI k24), .int i25])), (le, .inl (cI, 220, .inl fle)), (nu, .inl (cI, 5, .inl f22))]) hP hD [11, 0, 1] [2, 3, 4, 5, 6, 7, 8, 9, 10] rfl rfl (by decide +kernel) (by decide +kernel) hk1 hFc hP1 hD1
          clear hP1 hD1
          clear hz1 hk1 hPc hDc hFc
          generalize H1 = H at hP hS ht ⊢
          have hPD : pdW (dC, dI) vwCl A [(dr, .inr (5, [.int (nI st), .int bl, .int mm, .int (nI nq), .int (nI nh), .ref o5, .ref o6, .ref o7, .ref o8, .ref o9, .ref o10, .ref o11, .ref o12])), (o5, .inl (cI, 8, .inl fo5)), (o6, .inl (cI, 8, .inl fo6)), (o7, .inl (cI, 8, .inl fo7)), (o8, .inl (cI, 8, .inl fo8)), (o9, .inl (cI, 8, .inl fo9)), (o10, .inl (cI, 4, .inl fo10)), (o11, .inl (cI, 4, .inl fo11)), (o12, .inl (cI, 4, .inl fo12)), (h0, .inr (7, [.ref dr, .int i23, .ref nu, .ref le, .int (nI ln), .int (nI k24), .int i25])), (le, .inl (cI, 220, .inl fle)), (nu, .inl (cI, 5, .inl f22))] H := ⟨hP, hD⟩
          have hP := hPD.1
          have hD := hPD.2
          clear hPD
          try dsimp only at hw21
          rcases he26 with ⟨g27, g28, rfl, rfl, rfl, g29⟩ | ⟨g27, g28, g29, g30⟩
          ·
            obtain rfl : r19 = 1 := by rw [hw21, g27]; rfl
            have hPD : pdW (dC, dI) vwCl A [(dr, .inr (5, [.int (nI st), .int bl, .int mm, .int (nI nq), .int (nI nh), .ref o5, .ref o6, .ref o7, .ref o8, .ref o9, .ref o10, .ref o11, .ref o12])), (o5, .inl (cI, 8, .inl fo5)), (o6, .inl (cI, 8, .inl fo6)), (o7, .inl (cI, 8, .inl fo7)), (o8, .inl (cI, 8, .inl fo8)), (o9, .inl (cI, 8, .inl fo9)), (o10, .inl (cI, 4, .inl fo10)), (o11, .inl (cI, 4, .inl fo11)), (o12, .inl (cI, 4, .inl fo12)), (h0, .inr (7, [.ref dr, .int fa, .ref nu, .ref le, .int (nI ln), .int (nI ((clN T0 ln gHL gHM 3 (at9 + 1)).2.2)), .int fu])), (le, .inl (cI, 220, .inl fle)), (nu, .inl (cI, 5, .inl f22))] H := ⟨hP, hD⟩
            have hP := hPD.1
            have hD := hPD.2
            clear hPD
            refine lv_if_eq (tgt := 219) hx hb dX7_readClause_193 (by decide) (fun c31 => ?_) (fun c31 => ?_)
            · exact absurd c31 (by decide)
            clear c31
            refine lv_aload_n hx hb dX7_readClause_196 rfl (lv_at hl 1 rfl) ?_
            refine va_get (D := (dC, dI)) (ci := 7) (v := .ref dr) (C := RX7) (T := TX7) (N := 7) hx hb hts hi_X7 hown hK hP 9 rfl rfl 0 (by decide) (hts (.fieldLink RX7 12 "LeftQuills$Reader" "draft" "LLeftQuills$Office;") (wmx 1 rfl)) (fun _ h9 => h9) rfl dX7_readClause_197 ?_
            refine lv_aload_n hx hb dX7_readClause_200 rfl (lv_at hl 1 rfl) ?_
            refine va_get (D := (dC, dI)) (ci := 7) (v := .ref nu) (C := RX7) (T := TX7) (N := 7) hx hb hts hi_X7 hown hK hP 9 rfl rfl 2 (by decide) (hts (.fieldLink RX7 22 "LeftQuills$Reader" "numbers" "[I") (wmx 6 rfl)) (fun _ h9 => h9) rfl dX7_readClause_201 ?_
            have hc9 := va_cut (W' := [(dr, .inr (5, [.int (nI st), .int bl, .int mm, .int (nI nq), .int (nI nh), .ref o5, .ref o6, .ref o7, .ref o8, .ref o9, .ref o10, .ref o11, .ref o12])), (o10, .inl (cI, 4, .inl fo10)), (o11, .inl (cI, 4, .inl fo11)), (o12, .inl (cI, 4, .inl fo12)), (nu, .inl (cI, 5, .inl f22))]) hP hD hS hA [0, 6, 7, 8, 11] (by decide) rfl
            have hPc := hc9.1
            have hDc := hc9.2.1
            have hFc := hc9.2.2
            clear hc9
            refine va_callv (va_runV (As := [.ref nu]) (rest := []) ⟨hx, hb, hml, hown, hts⟩ (c_X5_addHandF l dC dI cI cZ cQ dr st bl mm nq nh o5 o6 o7 o8 o9 o10 o11 o12 fo10 fo11 fo12 nu f22 H.size (by omega) (by omega)) (cwV 1 hts gX7_readClause_X5_addHand rfl rfl rfl hd_X5_addHand_RX5 ⟨Nat.le_of_ble_eq_true rfl, Nat.le_of_ble_eq_true rfl⟩) (pv_D (va_recv hK hP (ci := 5) (q0 := 0) rfl rfl) hK hPc hDc) rfl rfl hl.1 rfl (lv_room (Nat.le_of_ble_eq_true rfl)) dX7_readClause_204 ⟨Nat.le_of_ble_eq_true rfl, Nat.le_of_ble_eq_true rfl⟩) hS (fun q _ h => hFc q h) hFc (fun u33 t H1 locs ht hvm hw34 hB hz1 hk1 hS => ?_)
            obtain ⟨f35, f36, f37, k38, hk38, he39, he40, he41, he42, hP1, hD1⟩ := hB
            replace hP1 := va_hp ht hP1
            obtain ⟨hP, hD⟩ := va_join (wr := [(o5, .inl (cI, 8, .inl fo5)), (o6, .inl (cI, 8, .inl fo6)), (o7, .inl (cI, 8, .inl fo7)), (o8, .inl (cI, 8, .inl fo8)), (o9, .inl (cI, 8, .inl fo9)), (h0, .inr (7, [.ref dr, .int fa, .ref nu, .ref le, .int (nI ln), .int (nI ((clN T0 ln gHL gHM 3 (at9 + 1)).2.2)), .int fu])), (le, .inl (cI, 220, .inl fle))]) (w1 := [(dr, .inr (5, [.int (nI st), .int bl, .int mm, .int (nI nq), .int (nI k38), .ref o5, .ref o6, .ref o7, .ref o8, .ref o9, .ref o10, .ref o11, .ref o12])), (o10, .inl (cI, 4, .inl f35)), (o11, .inl (cI, 4, .inl f36)), (o12, .inl (cI, 4, .inl f37)), (nu, .inl (cI, 5, .inl f22))]) hP hD [0, 6, 7, 8, 11] [1, 2, 3, 4, 5, 9, 10] rfl rfl (by decide +kernel) (by decide +kernel) hk1 hFc hP1 hD1
            clear hP1 hD1
            clear hz1 hk1 hPc hDc hFc
            generalize H1 = H at hP hS ht ⊢
            have hPD : pdW (dC, dI) vwCl A [(o5, .inl (cI, 8, .inl fo5)), (o6, .inl (cI, 8, .inl fo6)), (o7, .inl (cI, 8, .inl fo7)), (o8, .inl (cI, 8, .inl fo8)), (o9, .inl (cI, 8, .inl fo9)), (h0, .inr (7, [.ref dr, .int fa, .ref nu, .ref le, .int (nI ln), .int (nI ((clN T0 ln gHL gHM 3 (at9 + 1)).2.2)), .int fu])), (le, .inl (cI, 220, .inl fle)), (dr, .inr (5, [.int (nI st), .int bl, .int mm, .int (nI nq), .int (nI k38), .ref o5, .ref o6, .ref o7, .ref o8, .ref o9, .ref o10, .ref o11, .ref o12])), (o10, .inl (cI, 4, .inl f35)), (o11, .inl (cI, 4, .inl f36)), (o12, .inl (cI, 4, .inl f37)), (nu, .inl (cI, 5, .inl f22))] H := ⟨hP, hD⟩
            have hP := hPD.1
            have hD := hPD.2
            clear hPD
            try dsimp only at hw34
            subst he39
            subst he40
            subst he41
            subst he42
            have hPD : pdW (dC, dI) vwCl A [(o5, .inl (cI, 8, .inl fo5)), (o6, .inl (cI, 8, .inl fo6)), (o7, .inl (cI, 8, .inl fo7)), (o8, .inl (cI, 8, .inl fo8)), (o9, .inl (cI, 8, .inl fo9)), (h0, .inr (7, [.ref dr, .int fa, .ref nu, .ref le, .int (nI ln), .int (nI ((clN T0 ln gHL gHM 3 (at9 + 1)).2.2)), .int fu])), (le, .inl (cI, 220, .inl fle)), (dr, .inr (5, [.int (nI st), .int bl, .int mm, .int (nI nq), .int (nI (nh + 1)), .ref o5, .ref o6, .ref o7, .ref o8, .ref o9, .ref o10, .ref o11, .ref o12])), (o10, .inl (cI, 4, .inl (upd fo10 nh (f22 0)))), (o11, .inl (cI, 4, .inl (upd fo11 nh (f22 1)))), (o12, .inl (cI, 4, .inl (upd fo12 nh (f22 2)))), (nu, .inl (cI, 5, .inl f22))] H := ⟨hP, hD⟩
            have hP := hPD.1
            have hD := hPD.2
            clear hPD
            have hr1 : ∀ r, r < 5 → (x8 fo5 fo6 fo7 fo8 fo9 (upd fo10 nh (f22 0)) (upd fo11 nh (f22 1)) (upd fo12 nh (f22 2))) r = (x8 fo5 fo6 fo7 fo8 fo9 fo10 fo11 fo12) r := (fun r hr => by rcases (show r = 0 ∨ r = 1 ∨ r = 2 ∨ r = 3 ∨ r = 4 by omega) with rfl | rfl | rfl | rfl | rfl <;> rfl)
            have hr2 : ∀ r, 5 ≤ r → r < 8 → (x8 fo5 fo6 fo7 fo8 fo9 (upd fo10 nh (f22 0)) (upd fo11 nh (f22 1)) (upd fo12 nh (f22 2))) r = upd ((x8 fo5 fo6 fo7 fo8 fo9 fo10 fo11 fo12) r) nh (vA T0 ln at9 (r - 5)) := (fun r h5 h8 => by
                rcases (show r = 5 ∨ r = 6 ∨ r = 7 by omega) with rfl | rfl | rfl
                · exact congrArg (upd _ _) (g29 0 (by decide))
                · exact congrArg (upd _ _) (g29 1 (by decide))
                · exact congrArg (upd _ _) (g29 2 (by decide))
                )
            refine lv_goto (tgt := 219) hx hb dX7_readClause_207 (by decide) ?_
            have hP9 := hP.sub (ws' := [(h0, .inr (7, [.ref dr, .int fa, .ref nu, .ref le, .int (nI ln), .int (nI ((clN T0 ln gHL gHM 3 (at9 + 1)).2.2)), .int fu])), (le, .inl (cI, 220, .inl fle)), (nu, .inl (cI, 5, .inl f22)), (dr, .inr (5, [.int (nI st), .int bl, .int mm, .int (nI nq), .int (nI (nh + 1)), .ref o5, .ref o6, .ref o7, .ref o8, .ref o9, .ref o10, .ref o11, .ref o12])), (o5, .inl (cI, 8, .inl fo5)), (o6, .inl (cI, 8, .inl fo6)), (o7, .inl (cI, 8, .inl fo7)), (o8, .inl (cI, 8, .inl fo8)), (o9, .inl (cI, 8, .inl fo9)), (o10, .inl (cI, 4, .inl (upd fo10 nh (f22 0)))), (o11, .inl (cI, 4, .inl (upd fo11 nh (f22 1)))), (o12, .inl (cI, 4, .inl (upd fo12 nh (f22 2))))]) [5, 6, 11, 7, 0, 1, 2, 3, 4, 8, 9, 10] rfl
            have hD9 := hD.sub (ws' := [(h0, .inr (7, [.ref dr, .int fa, .ref nu, .ref le, .int (nI ln), .int (nI ((clN T0 ln gHL gHM 3 (at9 + 1)).2.2)), .int fu])), (le, .inl (cI, 220, .inl fle)), (nu, .inl (cI, 5, .inl f22)), (dr, .inr (5, [.int (nI st), .int bl, .int mm, .int (nI nq), .int (nI (nh + 1)), .ref o5, .ref o6, .ref o7, .ref o8, .ref o9, .ref o10, .ref o11, .ref o12])), (o5, .inl (cI, 8, .inl fo5)), (o6, .inl (cI, 8, .inl fo6)), (o7, .inl (cI, 8, .inl fo7)), (o8, .inl (cI, 8, .inl fo8)), (o9, .inl (cI, 8, .inl fo9)), (o10, .inl (cI, 4, .inl (upd fo10 nh (f22 0)))), (o11, .inl (cI, 4, .inl (upd fo11 nh (f22 1)))), (o12, .inl (cI, 4, .inl (upd fo12 nh (f22 2))))]) [5, 6, 11, 7, 0, 1, 2, 3, 4, 8, 9, 10] (by decide +kernel) rfl
            exact W.vret hx hb hr (fun t ht hW => ⟨⟨(fun _ => 0), rfl, trivial, ⟨f22, fo5, fo6, fo7, fo8, fo9, (upd fo10 nh (f22 0)), (upd fo11 nh (f22 1)), (upd fo12 nh (f22 2)), fa, fu, bl, mm, ((clN T0 ln gHL gHM 3 (at9 + 1)).2.2), st, nq, (nh + 1), by omega, by omega, by omega, by omega, (cR_h hx2 hdr (cS_h c4 (by rw [← hw3]; exact c5) (by omega)) g28 hx0 hfu hfa rfl hr1 hr2), va_hq ht hP9, hD9⟩⟩, hS.F ht⟩) hS.2.2 dX7_readClause_219
          ·
            obtain rfl : r19 = 0 := by rw [hw21, g27]; rfl
            refine lv_if_eq (tgt := 219) hx hb dX7_readClause_193 (by decide) (fun c43 => ?_) (fun c43 => ?_)
            rotate_left
            · exact absurd c43 (by decide)
            clear c43
            have hP9 := hP.sub (ws' := [(h0, .inr (7, [.ref dr, .int i23, .ref nu, .ref le, .int (nI ln), .int (nI k24), .int i25])), (le, .inl (cI, 220, .inl fle)), (nu, .inl (cI, 5, .inl f22)), (dr, .inr (5, [.int (nI st), .int bl, .int mm, .int (nI nq), .int (nI nh), .ref o5, .ref o6, .ref o7, .ref o8, .ref o9, .ref o10, .ref o11, .ref o12])), (o5, .inl (cI, 8, .inl fo5)), (o6, .inl (cI, 8, .inl fo6)), (o7, .inl (cI, 8, .inl fo7)), (o8, .inl (cI, 8, .inl fo8)), (o9, .inl (cI, 8, .inl fo9)), (o10, .inl (cI, 4, .inl fo10)), (o11, .inl (cI, 4, .inl fo11)), (o12, .inl (cI, 4, .inl fo12))]) [9, 10, 11, 0, 1, 2, 3, 4, 5, 6, 7, 8] rfl
            have hD9 := hD.sub (ws' := [(h0, .inr (7, [.ref dr, .int i23, .ref nu, .ref le, .int (nI ln), .int (nI k24), .int i25])), (le, .inl (cI, 220, .inl fle)), (nu, .inl (cI, 5, .inl f22)), (dr, .inr (5, [.int (nI st), .int bl, .int mm, .int (nI nq), .int (nI nh), .ref o5, .ref o6, .ref o7, .ref o8, .ref o9, .ref o10, .ref o11, .ref o12])), (o5, .inl (cI, 8, .inl fo5)), (o6, .inl (cI, 8, .inl fo6)), (o7, .inl (cI, 8, .inl fo7)), (o8, .inl (cI, 8, .inl fo8)), (o9, .inl (cI, 8, .inl fo9)), (o10, .inl (cI, 4, .inl fo10)), (o11, .inl (cI, 4, .inl fo11)), (o12, .inl (cI, 4, .inl fo12))]) [9, 10, 11, 0, 1, 2, 3, 4, 5, 6, 7, 8] (by decide +kernel) rfl
            exact W.vret hx hb hr (fun t ht hW => ⟨⟨(fun _ => 0), rfl, trivial, ⟨f22, fo5, fo6, fo7, fo8, fo9, fo10, fo11, fo12, i23, i25, bl, mm, k24, st, nq, nh, by omega, by omega, by omega, by omega, (cR_fail hx2 hdr (cS_h c4 (by rw [← hw3]; exact c5) (by omega)) g28 (Nat.le_trans clN_le (by decide)) g29 g30), va_hq ht hP9, hD9⟩⟩, hS.F ht⟩) hS.2.2 dX7_readClause_219
        ·
          exact absurd rfl g15
      ·
        have c6 : ¬ nh < 4 := fun h => c6 ((nI_ltI (a := nh) (b := 4) (by omega) (by omega)).mpr h)
        refine lv_iconst (v := 1) hx hb dX7_readClause_172 (by decide) ?_
        refine lv_goto (tgt := 177) hx hb dX7_readClause_173 (by decide) ?_
        have hc9 := va_cut (W' := [(h0, .inr (7, [.ref dr, .int fa, .ref nu, .ref le, .int (nI ln), .int (nI at9), .int fu]))]) hP hD hS hA [0] (by decide) rfl
        have hPc := hc9.1
        have hDc := hc9.2.1
        have hFc := hc9.2.2
        clear hc9
        refine va_calli (va_runV (As := [.int 1]) (rest := []) ⟨hx, hb, hml, hown, hts⟩ (c_X7_startWordF l dC dI cI cZ cQ h0 dr fa nu le ln at9 fu 1 H.size (by omega) (by omega)) (cwV 1 hts gX7_readClause_X7_startWord rfl rfl rfl hd_X7_startWord_RX7 ⟨Nat.le_of_ble_eq_true rfl, Nat.le_of_ble_eq_true rfl⟩) (pv_D (va_recv hK hP (ci := 7) (q0 := 0) rfl rfl) hK hPc hDc) rfl rfl hl.1 rfl (lv_room (Nat.le_of_ble_eq_true rfl)) dX7_readClause_177 ⟨Nat.le_of_ble_eq_true rfl, Nat.le_of_ble_eq_true rfl⟩) hS (fun q _ h => hFc q h) hFc (fun r44 u45 t H1 locs ht hvm hw46 hB hz1 hk1 hS => ?_)
        obtain ⟨i47, i49, k48, hk48, he50, hP1, hD1⟩ := hB
        replace hP1 := va_hp ht hP1
        obtain ⟨hP, hD⟩ := va_join (wr := [(le, .inl (cI, 220, .inl fle)), (nu, .inl (cI, 5, .inl fnu)), (dr, .inr (5, [.int (nI st), .int bl, .int mm, .int (nI nq), .int (nI nh), .ref o5, .ref o6, .ref o7, .ref o8, .ref o9, .ref o10, .ref o11, .ref o12])), (o5, .inl (cI, 8, .inl fo5)), (o6, .inl (cI, 8, .inl fo6)), (o7, .inl (cI, 8, .inl fo7)), (o8, .inl (cI, 8, .inl fo8)), (o9, .inl (cI, 8, .inl fo9)), (o10, .inl (cI, 4, .inl fo10)), (o11, .inl (cI, 4, .inl fo11)), (o12, .inl (cI, 4, .inl fo12))]) (w1 := [(h0, .inr (7, [.ref dr, .int i47, .ref nu, .ref le, .int (nI ln), .int (nI k48), .int i49]))]) hP hD [0] [1, 2, 3, 4, 5, 6, 7, 8, 9, 10, 11] rfl rfl (by decide +kernel) (by decide +kernel) hk1 hFc hP1 hD1
        clear hP1 hD1
        clear hz1 hk1 hPc hDc hFc
        generalize H1 = H at hP hS ht ⊢
        have hPD : pdW (dC, dI) vwCl A [(le, .inl (cI, 220, .inl fle)), (nu, .inl (cI, 5, .inl fnu)), (dr, .inr (5, [.int (nI st), .int bl, .int mm, .int (nI nq), .int (nI nh), .ref o5, .ref o6, .ref o7, .ref o8, .ref o9, .ref o10, .ref o11, .ref o12])), (o5, .inl (cI, 8, .inl fo5)), (o6, .inl (cI, 8, .inl fo6)), (o7, .inl (cI, 8, .inl fo7)), (o8, .inl (cI, 8, .inl fo8)), (o9, .inl (cI, 8, .inl fo9)), (o10, .inl (cI, 4, .inl fo10)), (o11, .inl (cI, 4, .inl fo11)), (o12, .inl (cI, 4, .inl fo12)), (h0, .inr (7, [.ref dr, .int i47, .ref nu, .ref le, .int (nI ln), .int (nI k48), .int i49]))] H := ⟨hP, hD⟩
        have hP := hPD.1
        have hD := hPD.2
        clear hPD
        try dsimp only at hw46
        rcases he50 with ⟨g51, g52, rfl, rfl, rfl⟩ | ⟨g51, g52, g53, g54⟩
        ·
          exact absurd g52 (by decide)
        ·
          obtain rfl : r44 = 0 := by rw [hw46, g51]; rfl
          refine lv_if_eq (tgt := 219) hx hb dX7_readClause_180 (by decide) (fun c55 => ?_) (fun c55 => ?_)
          rotate_left
          · exact absurd c55 (by decide)
          clear c55
          have hP9 := hP.sub (ws' := [(h0, .inr (7, [.ref dr, .int i47, .ref nu, .ref le, .int (nI ln), .int (nI k48), .int i49])), (le, .inl (cI, 220, .inl fle)), (nu, .inl (cI, 5, .inl fnu)), (dr, .inr (5, [.int (nI st), .int bl, .int mm, .int (nI nq), .int (nI nh), .ref o5, .ref o6, .ref o7, .ref o8, .ref o9, .ref o10, .ref o11, .ref o12])), (o5, .inl (cI, 8, .inl fo5)), (o6, .inl (cI, 8, .inl fo6)), (o7, .inl (cI, 8, .inl fo7)), (o8, .inl (cI, 8, .inl fo8)), (o9, .inl (cI, 8, .inl fo9)), (o10, .inl (cI, 4, .inl fo10)), (o11, .inl (cI, 4, .inl fo11)), (o12, .inl (cI, 4, .inl fo12))]) [11, 0, 1, 2, 3, 4, 5, 6, 7, 8, 9, 10] rfl
          have hD9 := hD.sub (ws' := [(h0, .inr (7, [.ref dr, .int i47, .ref nu, .ref le, .int (nI ln), .int (nI k48), .int i49])), (le, .inl (cI, 220, .inl fle)), (nu, .inl (cI, 5, .inl fnu)), (dr, .inr (5, [.int (nI st), .int bl, .int mm, .int (nI nq), .int (nI nh), .ref o5, .ref o6, .ref o7, .ref o8, .ref o9, .ref o10, .ref o11, .ref o12])), (o5, .inl (cI, 8, .inl fo5)), (o6, .inl (cI, 8, .inl fo6)), (o7, .inl (cI, 8, .inl fo7)), (o8, .inl (cI, 8, .inl fo8)), (o9, .inl (cI, 8, .inl fo9)), (o10, .inl (cI, 4, .inl fo10)), (o11, .inl (cI, 4, .inl fo11)), (o12, .inl (cI, 4, .inl fo12))]) [11, 0, 1, 2, 3, 4, 5, 6, 7, 8, 9, 10] (by decide +kernel) rfl
          exact W.vret hx hb hr (fun t ht hW => ⟨⟨(fun _ => 0), rfl, trivial, ⟨fnu, fo5, fo6, fo7, fo8, fo9, fo10, fo11, fo12, i47, i49, bl, mm, k48, st, nq, nh, by omega, by omega, by omega, by omega, (cR_fail hx2 hdr (cS_h3 c4 (by rw [← hw3]; exact c5) (by omega)) (by decide) (by decide) g53 g54), va_hq ht hP9, hD9⟩⟩, hS.F ht⟩) hS.2.2 dX7_readClause_219
    by_cases c56 : r1 = 111
    · refine lv_lookup (tgt := 68) (off := 36) hx hb dX7_readClause_32 (by decide) (by rw [c56]; decide) (by decide) ?_
      refine lv_aload_n hx hb dX7_readClause_68 rfl (lv_at hl 1 rfl) ?_
      refine lv_aload_n hx hb dX7_readClause_69 rfl (lv_at hl 1 rfl) ?_
      refine va_get (D := (dC, dI)) (ci := 7) (v := .ref dr) (C := RX7) (T := TX7) (N := 7) hx hb hts hi_X7 hown hK hP 0 rfl rfl 0 (by decide) (hts (.fieldLink RX7 12 "LeftQuills$Reader" "draft" "LLeftQuills$Office;") (wmx 1 rfl)) (fun _ h9 => h9) rfl dX7_readClause_70 ?_
      refine va_get (D := (dC, dI)) (ci := 5) (v := .int (nI st)) (C := RX5) (T := TX5) (N := 13) hx hb hts hi_X5 hown hK hP 3 rfl rfl 0 (by decide) (hts (.fieldLink RX7 66 "LeftQuills$Office" "stands" "Z") (wmx 2 rfl)) (fun _ h9 => h9) rfl dX7_readClause_73 ?_
      have hc9 := va_cut (W' := [(h0, .inr (7, [.ref dr, .int fa, .ref nu, .ref le, .int (nI ln), .int (nI at9), .int fu]))]) hP hD hS hA [0] (by decide) rfl
      have hPc := hc9.1
      have hDc := hc9.2.1
      have hFc := hc9.2.2
      clear hc9
      refine va_calli (va_runV (As := [.int (nI st)]) (rest := []) ⟨hx, hb, hml, hown, hts⟩ (c_X7_startWordF l dC dI cI cZ cQ h0 dr fa nu le ln at9 fu (nI st) H.size (by omega) (by omega)) (cwV 1 hts gX7_readClause_X7_startWord rfl rfl rfl hd_X7_startWord_RX7 ⟨Nat.le_of_ble_eq_true rfl, Nat.le_of_ble_eq_true rfl⟩) (pv_D (va_recv hK hP (ci := 7) (q0 := 0) rfl rfl) hK hPc hDc) rfl rfl hl.1 rfl (lv_room (Nat.le_of_ble_eq_true rfl)) dX7_readClause_76 ⟨Nat.le_of_ble_eq_true rfl, Nat.le_of_ble_eq_true rfl⟩) hS (fun q _ h => hFc q h) hFc (fun r57 u58 t H1 locs ht hvm hw59 hB hz1 hk1 hS => ?_)
      obtain ⟨i60, i62, k61, hk61, he63, hP1, hD1⟩ := hB
      replace hP1 := va_hp ht hP1
      obtain ⟨hP, hD⟩ := va_join (wr := [(le, .inl (cI, 220, .inl fle)), (nu, .inl (cI, 5, .inl fnu)), (dr, .inr (5, [.int (nI st), .int bl, .int mm, .int (nI nq), .int (nI nh), .ref o5, .ref o6, .ref o7, .ref o8, .ref o9, .ref o10, .ref o11, .ref o12])), (o5, .inl (cI, 8, .inl fo5)), (o6, .inl (cI, 8, .inl fo6)), (o7, .inl (cI, 8, .inl fo7)), (o8, .inl (cI, 8, .inl fo8)), (o9, .inl (cI, 8, .inl fo9)), (o10, .inl (cI, 4, .inl fo10)), (o11, .inl (cI, 4, .inl fo11)), (o12, .inl (cI, 4, .inl fo12))]) (w1 := [(h0, .inr (7, [.ref dr, .int i60, .ref nu, .ref le, .int (nI ln), .int (nI k61), .int i62]))]) hP hD [0] [1, 2, 3, 4, 5, 6, 7, 8, 9, 10, 11] rfl rfl (by decide +kernel) (by decide +kernel) hk1 hFc hP1 hD1
      clear hP1 hD1
      clear hz1 hk1 hPc hDc hFc
      generalize H1 = H at hP hS ht ⊢
      have hPD : pdW (dC, dI) vwCl A [(le, .inl (cI, 220, .inl fle)), (nu, .inl (cI, 5, .inl fnu)), (dr, .inr (5, [.int (nI st), .int bl, .int mm, .int (nI nq), .int (nI nh), .ref o5, .ref o6, .ref o7, .ref o8, .ref o9, .ref o10, .ref o11, .ref o12])), (o5, .inl (cI, 8, .inl fo5)), (o6, .inl (cI, 8, .inl fo6)), (o7, .inl (cI, 8, .inl fo7)), (o8, .inl (cI, 8, .inl fo8)), (o9, .inl (cI, 8, .inl fo9)), (o10, .inl (cI, 4, .inl fo10)), (o11, .inl (cI, 4, .inl fo11)), (o12, .inl (cI, 4, .inl fo12)), (h0, .inr (7, [.ref dr, .int i60, .ref nu, .ref le, .int (nI ln), .int (nI k61), .int i62]))] H := ⟨hP, hD⟩
      have hP := hPD.1
      have hD := hPD.2
      clear hPD
      try dsimp only at hw59
      rcases he63 with ⟨g64, g65, rfl, rfl, rfl⟩ | ⟨g64, g65, g66, g67⟩
      ·
        exact absurd ((nI_eq (a := st) (b := 0) (by omega) (by omega)).mp g65) c4
      ·
        obtain rfl : r57 = 0 := by rw [hw59, g64]; rfl
        refine lv_if_eq (tgt := 219) hx hb dX7_readClause_79 (by decide) (fun c68 => ?_) (fun c68 => ?_)
        rotate_left
        · exact absurd c68 (by decide)
        clear c68
        have hP9 := hP.sub (ws' := [(h0, .inr (7, [.ref dr, .int i60, .ref nu, .ref le, .int (nI ln), .int (nI k61), .int i62])), (le, .inl (cI, 220, .inl fle)), (nu, .inl (cI, 5, .inl fnu)), (dr, .inr (5, [.int (nI st), .int bl, .int mm, .int (nI nq), .int (nI nh), .ref o5, .ref o6, .ref o7, .ref o8, .ref o9, .ref o10, .ref o11, .ref o12])), (o5, .inl (cI, 8, .inl fo5)), (o6, .inl (cI, 8, .inl fo6)), (o7, .inl (cI, 8, .inl fo7)), (o8, .inl (cI, 8, .inl fo8)), (o9, .inl (cI, 8, .inl fo9)), (o10, .inl (cI, 4, .inl fo10)), (o11, .inl (cI, 4, .inl fo11)), (o12, .inl (cI, 4, .inl fo12))]) [11, 0, 1, 2, 3, 4, 5, 6, 7, 8, 9, 10] rfl
        have hD9 := hD.sub (ws' := [(h0, .inr (7, [.ref dr, .int i60, .ref nu, .ref le, .int (nI ln), .int (nI k61), .int i62])), (le, .inl (cI, 220, .inl fle)), (nu, .inl (cI, 5, .inl fnu)), (dr, .inr (5, [.int (nI st), .int bl, .int mm, .int (nI nq), .int (nI nh), .ref o5, .ref o6, .ref o7, .ref o8, .ref o9, .ref o10, .ref o11, .ref o12])), (o5, .inl (cI, 8, .inl fo5)), (o6, .inl (cI, 8, .inl fo6)), (o7, .inl (cI, 8, .inl fo7)), (o8, .inl (cI, 8, .inl fo8)), (o9, .inl (cI, 8, .inl fo9)), (o10, .inl (cI, 4, .inl fo10)), (o11, .inl (cI, 4, .inl fo11)), (o12, .inl (cI, 4, .inl fo12))]) [11, 0, 1, 2, 3, 4, 5, 6, 7, 8, 9, 10] (by decide +kernel) rfl
        exact W.vret hx hb hr (fun t ht hW => ⟨⟨(fun _ => 0), rfl, trivial, ⟨fnu, fo5, fo6, fo7, fo8, fo9, fo10, fo11, fo12, i60, i62, bl, mm, k61, st, nq, nh, by omega, by omega, by omega, by omega, (cR_fail hx2 hdr (cS_o3 c4 (by rw [← hw3]; exact c56)) (by decide) (by decide) g66 g67), va_hq ht hP9, hD9⟩⟩, hS.F ht⟩) hS.2.2 dX7_readClause_219
    by_cases c69 : r1 = 113
    · refine lv_lookup (tgt := 109) (off := 77) hx hb dX7_readClause_32 (by decide) (by rw [c69]; decide) (by decide) ?_
      refine lv_aload_n hx hb dX7_readClause_109 rfl (lv_at hl 1 rfl) ?_
      refine lv_aload_n hx hb dX7_readClause_110 rfl (lv_at hl 1 rfl) ?_
      refine va_get (D := (dC, dI)) (ci := 7) (v := .ref dr) (C := RX7) (T := TX7) (N := 7) hx hb hts hi_X7 hown hK hP 0 rfl rfl 0 (by decide) (hts (.fieldLink RX7 12 "LeftQuills$Reader" "draft" "LLeftQuills$Office;") (wmx 1 rfl)) (fun _ h9 => h9) rfl dX7_readClause_111 ?_
      refine va_get (D := (dC, dI)) (ci := 5) (v := .int (nI nq)) (C := RX5) (T := TX5) (N := 13) hx hb hts hi_X5 hown hK hP 3 rfl rfl 3 (by decide) (hts (.fieldLink RX7 92 "LeftQuills$Office" "quills" "I") (wmx 7 rfl)) (fun _ h9 => h9) rfl dX7_readClause_114 ?_
      refine lv_bipush (v := 8) hx hb dX7_readClause_117 (by decide) ?_
      refine lv_icmp_lt (tgt := 126) hx hb dX7_readClause_119 (by decide) (fun c70 => ?_) (fun c70 => ?_)
      ·
        have c70 : nq < 8 := (nI_ltI (a := nq) (b := 8) (by omega) (by omega)).mp c70
        refine lv_iconst (v := 0) hx hb dX7_readClause_126 (by decide) ?_
        have hc9 := va_cut (W' := [(h0, .inr (7, [.ref dr, .int fa, .ref nu, .ref le, .int (nI ln), .int (nI at9), .int fu]))]) hP hD hS hA [0] (by decide) rfl
        have hPc := hc9.1
        have hDc := hc9.2.1
        have hFc := hc9.2.2
        clear hc9
        refine va_calli (va_runV (As := [.int 0]) (rest := []) ⟨hx, hb, hml, hown, hts⟩ (c_X7_startWordF l dC dI cI cZ cQ h0 dr fa nu le ln at9 fu 0 H.size (by omega) (by omega)) (cwV 1 hts gX7_readClause_X7_startWord rfl rfl rfl hd_X7_startWord_RX7 ⟨Nat.le_of_ble_eq_true rfl, Nat.le_of_ble_eq_true rfl⟩) (pv_D (va_recv hK hP (ci := 7) (q0 := 0) rfl rfl) hK hPc hDc) rfl rfl hl.1 rfl (lv_room (Nat.le_of_ble_eq_true rfl)) dX7_readClause_127 ⟨Nat.le_of_ble_eq_true rfl, Nat.le_of_ble_eq_true rfl⟩) hS (fun q _ h => hFc q h) hFc (fun r71 u72 t H1 locs ht hvm hw73 hB hz1 hk1 hS => ?_)
        obtain ⟨i74, i76, k75, hk75, he77, hP1, hD1⟩ := hB
        replace hP1 := va_hp ht hP1
        obtain ⟨hP, hD⟩ := va_join (wr := [(le, .inl (cI, 220, .inl fle)), (nu, .inl (cI, 5, .inl fnu)), (dr, .inr (5, [.int (nI st), .int bl, .int mm, .int (nI nq), .int (nI nh), .ref o5, .ref o6, .ref o7, .ref o8, .ref o9, .ref o10, .ref o11, .ref o12])), (o5, .inl (cI, 8, .inl fo5)), (o6, .inl (cI, 8, .inl fo6)), (o7, .inl (cI, 8, .inl fo7)), (o8, .inl (cI, 8, .inl fo8)), (o9, .inl (cI, 8, .inl fo9)), (o10, .inl (cI, 4, .inl fo10)), (o11, .inl (cI, 4, .inl fo11)), (o12, .inl (cI, 4, .inl fo12))]) (w1 := [(h0, .inr (7, [.ref dr, .int i74, .ref nu, .ref le, .int (nI ln), .int (nI k75), .int i76]))]) hP hD [0] [1, 2, 3, 4, 5, 6, 7, 8, 9, 10, 11] rfl rfl (by decide +kernel) (by decide +kernel) hk1 hFc hP1 hD1
        clear hP1 hD1
        clear hz1 hk1 hPc hDc hFc
        generalize H1 = H at hP hS ht ⊢
        have hPD : pdW (dC, dI) vwCl A [(le, .inl (cI, 220, .inl fle)), (nu, .inl (cI, 5, .inl fnu)), (dr, .inr (5, [.int (nI st), .int bl, .int mm, .int (nI nq), .int (nI nh), .ref o5, .ref o6, .ref o7, .ref o8, .ref o9, .ref o10, .ref o11, .ref o12])), (o5, .inl (cI, 8, .inl fo5)), (o6, .inl (cI, 8, .inl fo6)), (o7, .inl (cI, 8, .inl fo7)), (o8, .inl (cI, 8, .inl fo8)), (o9, .inl (cI, 8, .inl fo9)), (o10, .inl (cI, 4, .inl fo10)), (o11, .inl (cI, 4, .inl fo11)), (o12, .inl (cI, 4, .inl fo12)), (h0, .inr (7, [.ref dr, .int i74, .ref nu, .ref le, .int (nI ln), .int (nI k75), .int i76]))] H := ⟨hP, hD⟩
        have hP := hPD.1
        have hD := hPD.2
        clear hPD
        try dsimp only at hw73
        rcases he77 with ⟨g78, g79, rfl, rfl, rfl⟩ | ⟨g78, g79, g80, g81⟩
        ·
          obtain rfl : r71 = 1 := by rw [hw73, g78]; rfl
          have hPD : pdW (dC, dI) vwCl A [(le, .inl (cI, 220, .inl fle)), (nu, .inl (cI, 5, .inl fnu)), (dr, .inr (5, [.int (nI st), .int bl, .int mm, .int (nI nq), .int (nI nh), .ref o5, .ref o6, .ref o7, .ref o8, .ref o9, .ref o10, .ref o11, .ref o12])), (o5, .inl (cI, 8, .inl fo5)), (o6, .inl (cI, 8, .inl fo6)), (o7, .inl (cI, 8, .inl fo7)), (o8, .inl (cI, 8, .inl fo8)), (o9, .inl (cI, 8, .inl fo9)), (o10, .inl (cI, 4, .inl fo10)), (o11, .inl (cI, 4, .inl fo11)), (o12, .inl (cI, 4, .inl fo12)), (h0, .inr (7, [.ref dr, .int fa, .ref nu, .ref le, .int (nI ln), .int (nI (at9 + 1)), .int fu]))] H := ⟨hP, hD⟩
          have hP := hPD.1
          have hD := hPD.2
          clear hPD
          refine lv_if_eq (tgt := 219) hx hb dX7_readClause_130 (by decide) (fun c82 => ?_) (fun c82 => ?_)
          · exact absurd c82 (by decide)
          clear c82
          refine lv_aload_n hx hb dX7_readClause_133 rfl (lv_at hl 1 rfl) ?_
          refine va_gets hx hb hZ_QUILL_LEAST hS hown (hts (.fieldLink RX7 95 "LeftQuills$Reader" "QUILL_LEAST" "[I") (wmx 8 rfl)) (fun _ h9 => h9) dX7_readClause_134 ?_
          refine va_gets hx hb hZ_QUILL_MOST hS hown (hts (.fieldLink RX7 98 "LeftQuills$Reader" "QUILL_MOST" "[I") (wmx 9 rfl)) (fun _ h9 => h9) dX7_readClause_137 ?_
          have hc9 := va_cut (W' := [(h0, .inr (7, [.ref dr, .int fa, .ref nu, .ref le, .int (nI ln), .int (nI (at9 + 1)), .int fu])), (le, .inl (cI, 220, .inl fle)), (nu, .inl (cI, 5, .inl fnu))]) hP hD hS hA [11, 0, 1] (by decide) rfl
          have hPc := hc9.1
          have hDc := hc9.2.1
          have hFc := hc9.2.2
          clear hc9
          refine va_calli (va_runV (As := [.ref t_QUILL_LEAST, .ref t_QUILL_MOST]) (rest := []) ⟨hx, hb, hml, hown, hts⟩ (c_X7_readNumbersF l dC dI cI cZ cQ h0 dr fa nu le ln (at9 + 1) fu fle fnu t_QUILL_LEAST t_QUILL_MOST 5 gQL gQM T0 H.size (by omega) (by omega) hT (by omega)) (cwV 2 hts gX7_readClause_X7_readNumbers rfl rfl rfl hd_X7_readNumbers_RX7 ⟨Nat.le_of_ble_eq_true rfl, Nat.le_of_ble_eq_true rfl⟩) ⟨fun a U g mk q => by obtain ⟨q0, q1, qP, qK, qD, qN, qT_t1, qT_t2⟩ := q; exact ⟨q0, q1, qP, va_K.moved (u := U) (U := U.calling g mk a) (Vm.Alike.refl U.vm) qK, qD, qN.calling, va_T.moved (u := U) (Vm.Alike.refl U.vm) qT_t1, va_T.moved (u := U) (Vm.Alike.refl U.vm) qT_t2⟩, va_recv hK hP (ci := 7) (q0 := 11) rfl rfl, fun U hU hW => ⟨rfl, by rw [hU], by rw [hU]; exact hPc, va_K.moved hW.alike hK, hDc.weaken (fun _ _ _ _ => trivial), hN.warm hW, by rw [hU]; exact va_T.moved hW.alike ((hT_t_QUILL_LEAST.kept hS.2.1).narrow hFc), by rw [hU]; exact va_T.moved hW.alike ((hT_t_QUILL_MOST.kept hS.2.1).narrow hFc)⟩⟩ rfl rfl hl.1 rfl (lv_room (Nat.le_of_ble_eq_true rfl)) dX7_readClause_140 ⟨Nat.le_of_ble_eq_true rfl, Nat.le_of_ble_eq_true rfl⟩) hS (fun q _ h => hFc q h) hFc (fun r83 u84 t H1 locs ht hvm hw85 hB hz1 hk1 hS => ?_)
          obtain ⟨f86, i87, i89, k88, hk88, he90, hP1, hD1⟩ := hB
          replace hP1 := va_hp ht hP1
          obtain ⟨hP, hD⟩ := va_join (wr := [(dr, .inr (5, [.int (nI st), .int bl, .int mm, .int (nI nq), .int (nI nh), .ref o5, .ref o6, .ref o7, .ref o8, .ref o9, .ref o10, .ref o11, .ref o12])), (o5, .inl (cI, 8, .inl fo5)), (o6, .inl (cI, 8, .inl fo6)), (o7, .inl (cI, 8, .inl fo7)), (o8, .inl (cI, 8, .inl fo8)), (o9, .inl (cI, 8, .inl fo9)), (o10, .inl (cI, 4, .inl fo10)), (o11, .inl (cI, 4, .inl fo11)), (o12, .inl (cI, 4, .inl fo12))]) (w1 := [(h0, .inr (7, [.ref dr, .int i87, .ref nu, .ref le, .int (nI ln), .int (nI k88), .int i89])), (le, .inl (cI, 220, .inl fle)), (nu, .inl (cI, 5, .inl f86))]) hP hD [11, 0, 1] [2, 3, 4, 5, 6, 7, 8, 9, 10] rfl rfl (by decide +kernel) (by decide +kernel) hk1 hFc hP1 hD1
          clear hP1 hD1
          clear hz1 hk1 hPc hDc hFc
          generalize H1 = H at hP hS ht ⊢
          have hPD : pdW (dC, dI) vwCl A [(dr, .inr (5, [.int (nI st), .int bl, .int mm, .int (nI nq), .int (nI nh), .ref o5, .ref o6, .ref o7, .ref o8, .ref o9, .ref o10, .ref o11, .ref o12])), (o5, .inl (cI, 8, .inl fo5)), (o6, .inl (cI, 8, .inl fo6)), (o7, .inl (cI, 8, .inl fo7)), (o8, .inl (cI, 8, .inl fo8)), (o9, .inl (cI, 8, .inl fo9)), (o10, .inl (cI, 4, .inl fo10)), (o11, .inl (cI, 4, .inl fo11)), (o12, .inl (cI, 4, .inl fo12)), (h0, .inr (7, [.ref dr, .int i87, .ref nu, .ref le, .int (nI ln), .int (nI k88), .int i89])), (le, .inl (cI, 220, .inl fle)), (nu, .inl (cI, 5, .inl f86))] H := ⟨hP, hD⟩
          have hP := hPD.1
          have hD := hPD.2
          clear hPD
          try dsimp only at hw85
          rcases he90 with ⟨g91, g92, rfl, rfl, rfl, g93⟩ | ⟨g91, g92, g93, g94⟩
          ·
            obtain rfl : r83 = 1 := by rw [hw85, g91]; rfl
            have hPD : pdW (dC, dI) vwCl A [(dr, .inr (5, [.int (nI st), .int bl, .int mm, .int (nI nq), .int (nI nh), .ref o5, .ref o6, .ref o7, .ref o8, .ref o9, .ref o10, .ref o11, .ref o12])), (o5, .inl (cI, 8, .inl fo5)), (o6, .inl (cI, 8, .inl fo6)), (o7, .inl (cI, 8, .inl fo7)), (o8, .inl (cI, 8, .inl fo8)), (o9, .inl (cI, 8, .inl fo9)), (o10, .inl (cI, 4, .inl fo10)), (o11, .inl (cI, 4, .inl fo11)), (o12, .inl (cI, 4, .inl fo12)), (h0, .inr (7, [.ref dr, .int fa, .ref nu, .ref le, .int (nI ln), .int (nI ((clN T0 ln gQL gQM 5 (at9 + 1)).2.2)), .int fu])), (le, .inl (cI, 220, .inl fle)), (nu, .inl (cI, 5, .inl f86))] H := ⟨hP, hD⟩
            have hP := hPD.1
            have hD := hPD.2
            clear hPD
            refine lv_if_eq (tgt := 219) hx hb dX7_readClause_143 (by decide) (fun c95 => ?_) (fun c95 => ?_)
            · exact absurd c95 (by decide)
            clear c95
            refine lv_aload_n hx hb dX7_readClause_146 rfl (lv_at hl 1 rfl) ?_
            refine va_get (D := (dC, dI)) (ci := 7) (v := .ref dr) (C := RX7) (T := TX7) (N := 7) hx hb hts hi_X7 hown hK hP 9 rfl rfl 0 (by decide) (hts (.fieldLink RX7 12 "LeftQuills$Reader" "draft" "LLeftQuills$Office;") (wmx 1 rfl)) (fun _ h9 => h9) rfl dX7_readClause_147 ?_
            refine lv_aload_n hx hb dX7_readClause_150 rfl (lv_at hl 1 rfl) ?_
            refine va_get (D := (dC, dI)) (ci := 7) (v := .ref nu) (C := RX7) (T := TX7) (N := 7) hx hb hts hi_X7 hown hK hP 9 rfl rfl 2 (by decide) (hts (.fieldLink RX7 22 "LeftQuills$Reader" "numbers" "[I") (wmx 6 rfl)) (fun _ h9 => h9) rfl dX7_readClause_151 ?_
            have hc9 := va_cut (W' := [(dr, .inr (5, [.int (nI st), .int bl, .int mm, .int (nI nq), .int (nI nh), .ref o5, .ref o6, .ref o7, .ref o8, .ref o9, .ref o10, .ref o11, .ref o12])), (o5, .inl (cI, 8, .inl fo5)), (o6, .inl (cI, 8, .inl fo6)), (o7, .inl (cI, 8, .inl fo7)), (o8, .inl (cI, 8, .inl fo8)), (o9, .inl (cI, 8, .inl fo9)), (nu, .inl (cI, 5, .inl f86))]) hP hD hS hA [0, 1, 2, 3, 4, 5, 11] (by decide) rfl
            have hPc := hc9.1
            have hDc := hc9.2.1
            have hFc := hc9.2.2
            clear hc9
            refine va_callv (va_runV (As := [.ref nu]) (rest := []) ⟨hx, hb, hml, hown, hts⟩ (c_X5_addQuillF l dC dI cI cZ cQ dr st bl mm nq nh o5 o6 o7 o8 o9 o10 o11 o12 fo5 fo6 fo7 fo8 fo9 nu f86 H.size (by omega) (by omega)) (cwV 1 hts gX7_readClause_X5_addQuill rfl rfl rfl hd_X5_addQuill_RX5 ⟨Nat.le_of_ble_eq_true rfl, Nat.le_of_ble_eq_true rfl⟩) (pv_D (va_recv hK hP (ci := 5) (q0 := 0) rfl rfl) hK hPc hDc) rfl rfl hl.1 rfl (lv_room (Nat.le_of_ble_eq_true rfl)) dX7_readClause_154 ⟨Nat.le_of_ble_eq_true rfl, Nat.le_of_ble_eq_true rfl⟩) hS (fun q _ h => hFc q h) hFc (fun u97 t H1 locs ht hvm hw98 hB hz1 hk1 hS => ?_)
            obtain ⟨f99, f100, f101, f102, f103, k104, hk104, he105, he106, he107, he108, he109, he110, hP1, hD1⟩ := hB
            replace hP1 := va_hp ht hP1
            obtain ⟨hP, hD⟩ := va_join (wr := [(o10, .inl (cI, 4, .inl fo10)), (o11, .inl (cI, 4, .inl fo11)), (o12, .inl (cI, 4, .inl fo12)), (h0, .inr (7, [.ref dr, .int fa, .ref nu, .ref le, .int (nI ln), .int (nI ((clN T0 ln gQL gQM 5 (at9 + 1)).2.2)), .int fu])), (le, .inl (cI, 220, .inl fle))]) (w1 := [(dr, .inr (5, [.int (nI st), .int bl, .int mm, .int (nI k104), .int (nI nh), .ref o5, .ref o6, .ref o7, .ref o8, .ref o9, .ref o10, .ref o11, .ref o12])), (o5, .inl (cI, 8, .inl f99)), (o6, .inl (cI, 8, .inl f100)), (o7, .inl (cI, 8, .inl f101)), (o8, .inl (cI, 8, .inl f102)), (o9, .inl (cI, 8, .inl f103)), (nu, .inl (cI, 5, .inl f86))]) hP hD [0, 1, 2, 3, 4, 5, 11] [6, 7, 8, 9, 10] rfl rfl (by decide +kernel) (by decide +kernel) hk1 hFc hP1 hD1
            clear hP1 hD1
            clear hz1 hk1 hPc hDc hFc
            generalize H1 = H at hP hS ht ⊢
            have hPD : pdW (dC, dI) vwCl A [(o10, .inl (cI, 4, .inl fo10)), (o11, .inl (cI, 4, .inl fo11)), (o12, .inl (cI, 4, .inl fo12)), (h0, .inr (7, [.ref dr, .int fa, .ref nu, .ref le, .int (nI ln), .int (nI ((clN T0 ln gQL gQM 5 (at9 + 1)).2.2)), .int fu])), (le, .inl (cI, 220, .inl fle)), (dr, .inr (5, [.int (nI st), .int bl, .int mm, .int (nI k104), .int (nI nh), .ref o5, .ref o6, .ref o7, .ref o8, .ref o9, .ref o10, .ref o11, .ref o12])), (o5, .inl (cI, 8, .inl f99)), (o6, .inl (cI, 8, .inl f100)), (o7, .inl (cI, 8, .inl f101)), (o8, .inl (cI, 8, .inl f102)), (o9, .inl (cI, 8, .inl f103)), (nu, .inl (cI, 5, .inl f86))] H := ⟨hP, hD⟩
            have hP := hPD.1
            have hD := hPD.2
            clear hPD
            try dsimp only at hw98
            subst he105
            subst he106
            subst he107
            subst he108
            subst he109
            subst he110
            have hPD : pdW (dC, dI) vwCl A [(o10, .inl (cI, 4, .inl fo10)), (o11, .inl (cI, 4, .inl fo11)), (o12, .inl (cI, 4, .inl fo12)), (h0, .inr (7, [.ref dr, .int fa, .ref nu, .ref le, .int (nI ln), .int (nI ((clN T0 ln gQL gQM 5 (at9 + 1)).2.2)), .int fu])), (le, .inl (cI, 220, .inl fle)), (dr, .inr (5, [.int (nI st), .int bl, .int mm, .int (nI (nq + 1)), .int (nI nh), .ref o5, .ref o6, .ref o7, .ref o8, .ref o9, .ref o10, .ref o11, .ref o12])), (o5, .inl (cI, 8, .inl (upd fo5 nq (f86 0)))), (o6, .inl (cI, 8, .inl (upd fo6 nq (f86 1)))), (o7, .inl (cI, 8, .inl (upd fo7 nq (f86 2)))), (o8, .inl (cI, 8, .inl (upd fo8 nq (f86 3)))), (o9, .inl (cI, 8, .inl (upd fo9 nq (f86 4)))), (nu, .inl (cI, 5, .inl f86))] H := ⟨hP, hD⟩
            have hP := hPD.1
            have hD := hPD.2
            clear hPD
            have hr1 : ∀ r, r < 5 → (x8 (upd fo5 nq (f86 0)) (upd fo6 nq (f86 1)) (upd fo7 nq (f86 2)) (upd fo8 nq (f86 3)) (upd fo9 nq (f86 4)) fo10 fo11 fo12) r = upd ((x8 fo5 fo6 fo7 fo8 fo9 fo10 fo11 fo12) r) nq (vA T0 ln at9 r) := (fun r hr => by
                rcases (show r = 0 ∨ r = 1 ∨ r = 2 ∨ r = 3 ∨ r = 4 by omega) with rfl | rfl | rfl | rfl | rfl
                · exact congrArg (upd _ _) (g93 0 (by decide))
                · exact congrArg (upd _ _) (g93 1 (by decide))
                · exact congrArg (upd _ _) (g93 2 (by decide))
                · exact congrArg (upd _ _) (g93 3 (by decide))
                · exact congrArg (upd _ _) (g93 4 (by decide))
                )
            have hr2 : ∀ r, 5 ≤ r → r < 8 → (x8 (upd fo5 nq (f86 0)) (upd fo6 nq (f86 1)) (upd fo7 nq (f86 2)) (upd fo8 nq (f86 3)) (upd fo9 nq (f86 4)) fo10 fo11 fo12) r = (x8 fo5 fo6 fo7 fo8 fo9 fo10 fo11 fo12) r := (fun r h5 h8 => by rcases (show r = 5 ∨ r = 6 ∨ r = 7 by omega) with rfl | rfl | rfl <;> rfl)
            refine lv_goto (tgt := 219) hx hb dX7_readClause_157 (by decide) ?_
            have hP9 := hP.sub (ws' := [(h0, .inr (7, [.ref dr, .int fa, .ref nu, .ref le, .int (nI ln), .int (nI ((clN T0 ln gQL gQM 5 (at9 + 1)).2.2)), .int fu])), (le, .inl (cI, 220, .inl fle)), (nu, .inl (cI, 5, .inl f86)), (dr, .inr (5, [.int (nI st), .int bl, .int mm, .int (nI (nq + 1)), .int (nI nh), .ref o5, .ref o6, .ref o7, .ref o8, .ref o9, .ref o10, .ref o11, .ref o12])), (o5, .inl (cI, 8, .inl (upd fo5 nq (f86 0)))), (o6, .inl (cI, 8, .inl (upd fo6 nq (f86 1)))), (o7, .inl (cI, 8, .inl (upd fo7 nq (f86 2)))), (o8, .inl (cI, 8, .inl (upd fo8 nq (f86 3)))), (o9, .inl (cI, 8, .inl (upd fo9 nq (f86 4)))), (o10, .inl (cI, 4, .inl fo10)), (o11, .inl (cI, 4, .inl fo11)), (o12, .inl (cI, 4, .inl fo12))]) [3, 4, 11, 5, 6, 7, 8, 9, 10, 0, 1, 2] rfl
            have hD9 := hD.sub (ws' := [(h0, .inr (7, [.ref dr, .int fa, .ref nu, .ref le, .int (nI ln), .int (nI ((clN T0 ln gQL gQM 5 (at9 + 1)).2.2)), .int fu])), (le, .inl (cI, 220, .inl fle)), (nu, .inl (cI, 5, .inl f86)), (dr, .inr (5, [.int (nI st), .int bl, .int mm, .int (nI (nq + 1)), .int (nI nh), .ref o5, .ref o6, .ref o7, .ref o8, .ref o9, .ref o10, .ref o11, .ref o12])), (o5, .inl (cI, 8, .inl (upd fo5 nq (f86 0)))), (o6, .inl (cI, 8, .inl (upd fo6 nq (f86 1)))), (o7, .inl (cI, 8, .inl (upd fo7 nq (f86 2)))), (o8, .inl (cI, 8, .inl (upd fo8 nq (f86 3)))), (o9, .inl (cI, 8, .inl (upd fo9 nq (f86 4)))), (o10, .inl (cI, 4, .inl fo10)), (o11, .inl (cI, 4, .inl fo11)), (o12, .inl (cI, 4, .inl fo12))]) [3, 4, 11, 5, 6, 7, 8, 9, 10, 0, 1, 2] (by decide +kernel) rfl
            exact W.vret hx hb hr (fun t ht hW => ⟨⟨(fun _ => 0), rfl, trivial, ⟨f86, (upd fo5 nq (f86 0)), (upd fo6 nq (f86 1)), (upd fo7 nq (f86 2)), (upd fo8 nq (f86 3)), (upd fo9 nq (f86 4)), fo10, fo11, fo12, fa, fu, bl, mm, ((clN T0 ln gQL gQM 5 (at9 + 1)).2.2), st, (nq + 1), nh, by omega, by omega, by omega, by omega, (cR_q hx2 hdr (cS_q c4 (by rw [← hw3]; exact c69) (by omega)) g92 hx0 hfu hfa rfl hr1 hr2), va_hq ht hP9, hD9⟩⟩, hS.F ht⟩) hS.2.2 dX7_readClause_219
          ·
            obtain rfl : r83 = 0 := by rw [hw85, g91]; rfl
            refine lv_if_eq (tgt := 219) hx hb dX7_readClause_143 (by decide) (fun c111 => ?_) (fun c111 => ?_)
            rotate_left
            · exact absurd c111 (by decide)
            clear c111
            have hP9 := hP.sub (ws' := [(h0, .inr (7, [.ref dr, .int i87, .ref nu, .ref le, .int (nI ln), .int (nI k88), .int i89])), (le, .inl (cI, 220, .inl fle)), (nu, .inl (cI, 5, .inl f86)), (dr, .inr (5, [.int (nI st), .int bl, .int mm, .int (nI nq), .int (nI nh), .ref o5, .ref o6, .ref o7, .ref o8, .ref o9, .ref o10, .ref o11, .ref o12])), (o5, .inl (cI, 8, .inl fo5)), (o6, .inl (cI, 8, .inl fo6)), (o7, .inl (cI, 8, .inl fo7)), (o8, .inl (cI, 8, .inl fo8)), (o9, .inl (cI, 8, .inl fo9)), (o10, .inl (cI, 4, .inl fo10)), (o11, .inl (cI, 4, .inl fo11)), (o12, .inl (cI, 4, .inl fo12))]) [9, 10, 11, 0, 1, 2, 3, 4, 5, 6, 7, 8] rfl
            have hD9 := hD.sub (ws' := [(h0, .inr (7, [.ref dr, .int i87, .ref nu, .ref le, .int (nI ln), .int (nI k88), .int i89])), (le, .inl (cI, 220, .inl fle)), (nu, .inl (cI, 5, .inl f86)), (dr, .inr (5, [.int (nI st), .int bl, .int mm, .int (nI nq), .int (nI nh), .ref o5, .ref o6, .ref o7, .ref o8, .ref o9, .ref o10, .ref o11, .ref o12])), (o5, .inl (cI, 8, .inl fo5)), (o6, .inl (cI, 8, .inl fo6)), (o7, .inl (cI, 8, .inl fo7)), (o8, .inl (cI, 8, .inl fo8)), (o9, .inl (cI, 8, .inl fo9)), (o10, .inl (cI, 4, .inl fo10)), (o11, .inl (cI, 4, .inl fo11)), (o12, .inl (cI, 4, .inl fo12))]) [9, 10, 11, 0, 1, 2, 3, 4, 5, 6, 7, 8] (by decide +kernel) rfl
            exact W.vret hx hb hr (fun t ht hW => ⟨⟨(fun _ => 0), rfl, trivial, ⟨f86, fo5, fo6, fo7, fo8, fo9, fo10, fo11, fo12, i87, i89, bl, mm, k88, st, nq, nh, by omega, by omega, by omega, by omega, (cR_fail hx2 hdr (cS_q c4 (by rw [← hw3]; exact c69) (by omega)) g92 (Nat.le_trans clN_le (by decide)) g93 g94), va_hq ht hP9, hD9⟩⟩, hS.F ht⟩) hS.2.2 dX7_readClause_219
        ·
          exact absurd rfl g79
      ·
        have c70 : ¬ nq < 8 := fun h => c70 ((nI_ltI (a := nq) (b := 8) (by omega) (by omega)).mpr h)
        refine lv_iconst (v := 1) hx hb dX7_readClause_122 (by decide) ?_
        refine lv_goto (tgt := 127) hx hb dX7_readClause_123 (by decide) ?_
        have hc9 := va_cut (W' := [(h0, .inr (7, [.ref dr, .int fa, .ref nu, .ref le, .int (nI ln), .int (nI at9), .int fu]))]) hP hD hS hA [0] (by decide) rfl
        have hPc := hc9.1
        have hDc := hc9.2.1
        have hFc := hc9.2.2
        clear hc9
        refine va_calli (va_runV (As := [.int 1]) (rest := []) ⟨hx, hb, hml, hown, hts⟩ (c_X7_startWordF l dC dI cI cZ cQ h0 dr fa nu le ln at9 fu 1 H.size (by omega) (by omega)) (cwV 1 hts gX7_readClause_X7_startWord rfl rfl rfl hd_X7_startWord_RX7 ⟨Nat.le_of_ble_eq_true rfl, Nat.le_of_ble_eq_true rfl⟩) (pv_D (va_recv hK hP (ci := 7) (q0 := 0) rfl rfl) hK hPc hDc) rfl rfl hl.1 rfl (lv_room (Nat.le_of_ble_eq_true rfl)) dX7_readClause_127 ⟨Nat.le_of_ble_eq_true rfl, Nat.le_of_ble_eq_true rfl⟩) hS (fun q _ h => hFc q h) hFc (fun r112 u113 t H1 locs ht hvm hw114 hB hz1 hk1 hS => ?_)
        obtain ⟨i115, i117, k116, hk116, he118, hP1, hD1⟩ := hB
        replace hP1 := va_hp ht hP1
        obtain ⟨hP, hD⟩ := va_join (wr := [(le, .inl (cI, 220, .inl fle)), (nu, .inl (cI, 5, .inl fnu)), (dr, .inr (5, [.int (nI st), .int bl, .int mm, .int (nI nq), .int (nI nh), .ref o5, .ref o6, .ref o7, .ref o8, .ref o9, .ref o10, .ref o11, .ref o12])), (o5, .inl (cI, 8, .inl fo5)), (o6, .inl (cI, 8, .inl fo6)), (o7, .inl (cI, 8, .inl fo7)), (o8, .inl (cI, 8, .inl fo8)), (o9, .inl (cI, 8, .inl fo9)), (o10, .inl (cI, 4, .inl fo10)), (o11, .inl (cI, 4, .inl fo11)), (o12, .inl (cI, 4, .inl fo12))]) (w1 := [(h0, .inr (7, [.ref dr, .int i115, .ref nu, .ref le, .int (nI ln), .int (nI k116), .int i117]))]) hP hD [0] [1, 2, 3, 4, 5, 6, 7, 8, 9, 10, 11] rfl rfl (by decide +kernel) (by decide +kernel) hk1 hFc hP1 hD1
        clear hP1 hD1
        clear hz1 hk1 hPc hDc hFc
        generalize H1 = H at hP hS ht ⊢
        have hPD : pdW (dC, dI) vwCl A [(le, .inl (cI, 220, .inl fle)), (nu, .inl (cI, 5, .inl fnu)), (dr, .inr (5, [.int (nI st), .int bl, .int mm, .int (nI nq), .int (nI nh), .ref o5, .ref o6, .ref o7, .ref o8, .ref o9, .ref o10, .ref o11, .ref o12])), (o5, .inl (cI, 8, .inl fo5)), (o6, .inl (cI, 8, .inl fo6)), (o7, .inl (cI, 8, .inl fo7)), (o8, .inl (cI, 8, .inl fo8)), (o9, .inl (cI, 8, .inl fo9)), (o10, .inl (cI, 4, .inl fo10)), (o11, .inl (cI, 4, .inl fo11)), (o12, .inl (cI, 4, .inl fo12)), (h0, .inr (7, [.ref dr, .int i115, .ref nu, .ref le, .int (nI ln), .int (nI k116), .int i117]))] H := ⟨hP, hD⟩
        have hP := hPD.1
        have hD := hPD.2
        clear hPD
        try dsimp only at hw114
        rcases he118 with ⟨g119, g120, rfl, rfl, rfl⟩ | ⟨g119, g120, g121, g122⟩
        ·
          exact absurd g120 (by decide)
        ·
          obtain rfl : r112 = 0 := by rw [hw114, g119]; rfl
          refine lv_if_eq (tgt := 219) hx hb dX7_readClause_130 (by decide) (fun c123 => ?_) (fun c123 => ?_)
          rotate_left
          · exact absurd c123 (by decide)
          clear c123
          have hP9 := hP.sub (ws' := [(h0, .inr (7, [.ref dr, .int i115, .ref nu, .ref le, .int (nI ln), .int (nI k116), .int i117])), (le, .inl (cI, 220, .inl fle)), (nu, .inl (cI, 5, .inl fnu)), (dr, .inr (5, [.int (nI st), .int bl, .int mm, .int (nI nq), .int (nI nh), .ref o5, .ref o6, .ref o7, .ref o8, .ref o9, .ref o10, .ref o11, .ref o12])), (o5, .inl (cI, 8, .inl fo5)), (o6, .inl (cI, 8, .inl fo6)), (o7, .inl (cI, 8, .inl fo7)), (o8, .inl (cI, 8, .inl fo8)), (o9, .inl (cI, 8, .inl fo9)), (o10, .inl (cI, 4, .inl fo10)), (o11, .inl (cI, 4, .inl fo11)), (o12, .inl (cI, 4, .inl fo12))]) [11, 0, 1, 2, 3, 4, 5, 6, 7, 8, 9, 10] rfl
          have hD9 := hD.sub (ws' := [(h0, .inr (7, [.ref dr, .int i115, .ref nu, .ref le, .int (nI ln), .int (nI k116), .int i117])), (le, .inl (cI, 220, .inl fle)), (nu, .inl (cI, 5, .inl fnu)), (dr, .inr (5, [.int (nI st), .int bl, .int mm, .int (nI nq), .int (nI nh), .ref o5, .ref o6, .ref o7, .ref o8, .ref o9, .ref o10, .ref o11, .ref o12])), (o5, .inl (cI, 8, .inl fo5)), (o6, .inl (cI, 8, .inl fo6)), (o7, .inl (cI, 8, .inl fo7)), (o8, .inl (cI, 8, .inl fo8)), (o9, .inl (cI, 8, .inl fo9)), (o10, .inl (cI, 4, .inl fo10)), (o11, .inl (cI, 4, .inl fo11)), (o12, .inl (cI, 4, .inl fo12))]) [11, 0, 1, 2, 3, 4, 5, 6, 7, 8, 9, 10] (by decide +kernel) rfl
          exact W.vret hx hb hr (fun t ht hW => ⟨⟨(fun _ => 0), rfl, trivial, ⟨fnu, fo5, fo6, fo7, fo8, fo9, fo10, fo11, fo12, i115, i117, bl, mm, k116, st, nq, nh, by omega, by omega, by omega, by omega, (cR_fail hx2 hdr (cS_q3 c4 (by rw [← hw3]; exact c69) (by omega)) (by decide) (by decide) g121 g122), va_hq ht hP9, hD9⟩⟩, hS.F ht⟩) hS.2.2 dX7_readClause_219
    refine lv_lookup (tgt := 210) (off := 178) hx hb dX7_readClause_32 (by decide) (x_lk3 c5 c56 c69) (by decide) ?_
    refine lv_aload_n hx hb dX7_readClause_210 rfl (lv_at hl 1 rfl) ?_
    refine lv_iconst (v := 1) hx hb dX7_readClause_211 (by decide) ?_
    refine lv_aload_n hx hb dX7_readClause_212 rfl (lv_at hl 1 rfl) ?_
    refine va_get (D := (dC, dI)) (ci := 7) (v := .int (nI at9)) (C := RX7) (T := TX7) (N := 7) hx hb hts hi_X7 hown hK hP 0 rfl rfl 5 (by decide) (hts (.fieldLink RX7 32 "LeftQuills$Reader" "at" "I") (wmx 3 rfl)) (fun _ h9 => h9) rfl dX7_readClause_213 ?_
    have hc9 := va_cut (W' := [(h0, .inr (7, [.ref dr, .int fa, .ref nu, .ref le, .int (nI ln), .int (nI at9), .int fu]))]) hP hD hS hA [0] (by decide) rfl
    have hPc := hc9.1
    have hDc := hc9.2.1
    have hFc := hc9.2.2
    clear hc9
    refine va_callv (va_runV (As := [.int 1, .int (nI at9)]) (rest := []) ⟨hx, hb, hml, hown, hts⟩ (c_X7_failF l dC dI cI cZ cQ h0 dr fa nu le ln at9 fu 1 (nI at9) H.size ) (cwV 2 hts gX7_readClause_X7_fail rfl rfl rfl hd_X7_fail_RX7 ⟨Nat.le_of_ble_eq_true rfl, Nat.le_of_ble_eq_true rfl⟩) (pv_D (va_recv hK hP (ci := 7) (q0 := 0) rfl rfl) hK hPc hDc) rfl rfl hl.1 rfl (lv_room (Nat.le_of_ble_eq_true rfl)) dX7_readClause_216 ⟨Nat.le_of_ble_eq_true rfl, Nat.le_of_ble_eq_true rfl⟩) hS (fun q _ h => hFc q h) hFc (fun u125 t H1 locs ht hvm hw126 hB hz1 hk1 hS => ?_)
    obtain ⟨i127, i128, he129, he130, hP1, hD1⟩ := hB
    replace hP1 := va_hp ht hP1
    obtain ⟨hP, hD⟩ := va_join (wr := [(le, .inl (cI, 220, .inl fle)), (nu, .inl (cI, 5, .inl fnu)), (dr, .inr (5, [.int (nI st), .int bl, .int mm, .int (nI nq), .int (nI nh), .ref o5, .ref o6, .ref o7, .ref o8, .ref o9, .ref o10, .ref o11, .ref o12])), (o5, .inl (cI, 8, .inl fo5)), (o6, .inl (cI, 8, .inl fo6)), (o7, .inl (cI, 8, .inl fo7)), (o8, .inl (cI, 8, .inl fo8)), (o9, .inl (cI, 8, .inl fo9)), (o10, .inl (cI, 4, .inl fo10)), (o11, .inl (cI, 4, .inl fo11)), (o12, .inl (cI, 4, .inl fo12))]) (w1 := [(h0, .inr (7, [.ref dr, .int i127, .ref nu, .ref le, .int (nI ln), .int (nI at9), .int i128]))]) hP hD [0] [1, 2, 3, 4, 5, 6, 7, 8, 9, 10, 11] rfl rfl (by decide +kernel) (by decide +kernel) hk1 hFc hP1 hD1
    clear hP1 hD1
    clear hz1 hk1 hPc hDc hFc
    generalize H1 = H at hP hS ht ⊢
    have hPD : pdW (dC, dI) vwCl A [(le, .inl (cI, 220, .inl fle)), (nu, .inl (cI, 5, .inl fnu)), (dr, .inr (5, [.int (nI st), .int bl, .int mm, .int (nI nq), .int (nI nh), .ref o5, .ref o6, .ref o7, .ref o8, .ref o9, .ref o10, .ref o11, .ref o12])), (o5, .inl (cI, 8, .inl fo5)), (o6, .inl (cI, 8, .inl fo6)), (o7, .inl (cI, 8, .inl fo7)), (o8, .inl (cI, 8, .inl fo8)), (o9, .inl (cI, 8, .inl fo9)), (o10, .inl (cI, 4, .inl fo10)), (o11, .inl (cI, 4, .inl fo11)), (o12, .inl (cI, 4, .inl fo12)), (h0, .inr (7, [.ref dr, .int i127, .ref nu, .ref le, .int (nI ln), .int (nI at9), .int i128]))] H := ⟨hP, hD⟩
    have hP := hPD.1
    have hD := hPD.2
    clear hPD
    try dsimp only at hw126
    have hP9 := hP.sub (ws' := [(h0, .inr (7, [.ref dr, .int i127, .ref nu, .ref le, .int (nI ln), .int (nI at9), .int i128])), (le, .inl (cI, 220, .inl fle)), (nu, .inl (cI, 5, .inl fnu)), (dr, .inr (5, [.int (nI st), .int bl, .int mm, .int (nI nq), .int (nI nh), .ref o5, .ref o6, .ref o7, .ref o8, .ref o9, .ref o10, .ref o11, .ref o12])), (o5, .inl (cI, 8, .inl fo5)), (o6, .inl (cI, 8, .inl fo6)), (o7, .inl (cI, 8, .inl fo7)), (o8, .inl (cI, 8, .inl fo8)), (o9, .inl (cI, 8, .inl fo9)), (o10, .inl (cI, 4, .inl fo10)), (o11, .inl (cI, 4, .inl fo11)), (o12, .inl (cI, 4, .inl fo12))]) [11, 0, 1, 2, 3, 4, 5, 6, 7, 8, 9, 10] rfl
    have hD9 := hD.sub (ws' := [(h0, .inr (7, [.ref dr, .int i127, .ref nu, .ref le, .int (nI ln), .int (nI at9), .int i128])), (le, .inl (cI, 220, .inl fle)), (nu, .inl (cI, 5, .inl fnu)), (dr, .inr (5, [.int (nI st), .int bl, .int mm, .int (nI nq), .int (nI nh), .ref o5, .ref o6, .ref o7, .ref o8, .ref o9, .ref o10, .ref o11, .ref o12])), (o5, .inl (cI, 8, .inl fo5)), (o6, .inl (cI, 8, .inl fo6)), (o7, .inl (cI, 8, .inl fo7)), (o8, .inl (cI, 8, .inl fo8)), (o9, .inl (cI, 8, .inl fo9)), (o10, .inl (cI, 4, .inl fo10)), (o11, .inl (cI, 4, .inl fo11)), (o12, .inl (cI, 4, .inl fo12))]) [11, 0, 1, 2, 3, 4, 5, 6, 7, 8, 9, 10] (by decide +kernel) rfl
    exact W.vret hx hb hr (fun t ht hW => ⟨⟨(fun _ => 0), rfl, trivial, ⟨fnu, fo5, fo6, fo7, fo8, fo9, fo10, fo11, fo12, i127, i128, bl, mm, at9, st, nq, nh, by omega, by omega, by omega, by omega, (cR_fail hx2 hdr (cS_x c4 (by rw [← hw3]; exact c56) (by rw [← hw3]; exact c69) (by rw [← hw3]; exact c5)) (by decide) (by decide) he129 he130), va_hq ht hP9, hD9⟩⟩, hS.F ht⟩) hS.2.2 dX7_readClause_219
  ·
    have c4 : st = 0 := (nI_eq (a := st) (b := 0) (by omega) (by omega)).mp c4
    refine lv_iload_n hx hb dX7_readClause_15 rfl (lv_at hl 0 rfl) ?_
    refine lv_bipush (v := 111) hx hb dX7_readClause_16 (by decide) ?_
    refine lv_icmp_eq (tgt := 31) hx hb dX7_readClause_18 (by decide) (fun c131 => ?_) (fun c131 => ?_)
    ·
      subst c131
      refine lv_iload_n hx hb dX7_readClause_31 rfl (lv_at hl 0 rfl) ?_
      refine lv_lookup (tgt := 68) hx hb dX7_readClause_32 (by decide) (off := 36) (by decide) (by decide) ?_
      refine lv_aload_n hx hb dX7_readClause_68 rfl (lv_at hl 1 rfl) ?_
      refine lv_aload_n hx hb dX7_readClause_69 rfl (lv_at hl 1 rfl) ?_
      refine va_get (D := (dC, dI)) (ci := 7) (v := .ref dr) (C := RX7) (T := TX7) (N := 7) hx hb hts hi_X7 hown hK hP 0 rfl rfl 0 (by decide) (hts (.fieldLink RX7 12 "LeftQuills$Reader" "draft" "LLeftQuills$Office;") (wmx 1 rfl)) (fun _ h9 => h9) rfl dX7_readClause_70 ?_
      refine va_get (D := (dC, dI)) (ci := 5) (v := .int (nI st)) (C := RX5) (T := TX5) (N := 13) hx hb hts hi_X5 hown hK hP 3 rfl rfl 0 (by decide) (hts (.fieldLink RX7 66 "LeftQuills$Office" "stands" "Z") (wmx 2 rfl)) (fun _ h9 => h9) rfl dX7_readClause_73 ?_
      have hc9 := va_cut (W' := [(h0, .inr (7, [.ref dr, .int fa, .ref nu, .ref le, .int (nI ln), .int (nI at9), .int fu]))]) hP hD hS hA [0] (by decide) rfl
      have hPc := hc9.1
      have hDc := hc9.2.1
      have hFc := hc9.2.2
      clear hc9
      refine va_calli (va_runV (As := [.int (nI st)]) (rest := []) ⟨hx, hb, hml, hown, hts⟩ (c_X7_startWordF l dC dI cI cZ cQ h0 dr fa nu le ln at9 fu (nI st) H.size (by omega) (by omega)) (cwV 1 hts gX7_readClause_X7_startWord rfl rfl rfl hd_X7_startWord_RX7 ⟨Nat.le_of_ble_eq_true rfl, Nat.le_of_ble_eq_true rfl⟩) (pv_D (va_recv hK hP (ci := 7) (q0 := 0) rfl rfl) hK hPc hDc) rfl rfl hl.1 rfl (lv_room (Nat.le_of_ble_eq_true rfl)) dX7_readClause_76 ⟨Nat.le_of_ble_eq_true rfl, Nat.le_of_ble_eq_true rfl⟩) hS (fun q _ h => hFc q h) hFc (fun r132 u133 t H1 locs ht hvm hw134 hB hz1 hk1 hS => ?_)
      obtain ⟨i135, i137, k136, hk136, he138, hP1, hD1⟩ := hB
      replace hP1 := va_hp ht hP1
      obtain ⟨hP, hD⟩ := va_join (wr := [(le, .inl (cI, 220, .inl fle)), (nu, .inl (cI, 5, .inl fnu)), (dr, .inr (5, [.int (nI st), .int bl, .int mm, .int (nI nq), .int (nI nh), .ref o5, .ref o6, .ref o7, .ref o8, .ref o9, .ref o10, .ref o11, .ref o12])), (o5, .inl (cI, 8, .inl fo5)), (o6, .inl (cI, 8, .inl fo6)), (o7, .inl (cI, 8, .inl fo7)), (o8, .inl (cI, 8, .inl fo8)), (o9, .inl (cI, 8, .inl fo9)), (o10, .inl (cI, 4, .inl fo10)), (o11, .inl (cI, 4, .inl fo11)), (o12, .inl (cI, 4, .inl fo12))]) (w1 := [(h0, .inr (7, [.ref dr, .int i135, .ref nu, .ref le, .int (nI ln), .int (nI k136), .int i137]))]) hP hD [0] [1, 2, 3, 4, 5, 6, 7, 8, 9, 10, 11] rfl rfl (by decide +kernel) (by decide +kernel) hk1 hFc hP1 hD1
      clear hP1 hD1
      clear hz1 hk1 hPc hDc hFc
      generalize H1 = H at hP hS ht ⊢
      have hPD : pdW (dC, dI) vwCl A [(le, .inl (cI, 220, .inl fle)), (nu, .inl (cI, 5, .inl fnu)), (dr, .inr (5, [.int (nI st), .int bl, .int mm, .int (nI nq), .int (nI nh), .ref o5, .ref o6, .ref o7, .ref o8, .ref o9, .ref o10, .ref o11, .ref o12])), (o5, .inl (cI, 8, .inl fo5)), (o6, .inl (cI, 8, .inl fo6)), (o7, .inl (cI, 8, .inl fo7)), (o8, .inl (cI, 8, .inl fo8)), (o9, .inl (cI, 8, .inl fo9)), (o10, .inl (cI, 4, .inl fo10)), (o11, .inl (cI, 4, .inl fo11)), (o12, .inl (cI, 4, .inl fo12)), (h0, .inr (7, [.ref dr, .int i135, .ref nu, .ref le, .int (nI ln), .int (nI k136), .int i137]))] H := ⟨hP, hD⟩
      have hP := hPD.1
      have hD := hPD.2
      clear hPD
      try dsimp only at hw134
      rcases he138 with ⟨g139, g140, rfl, rfl, rfl⟩ | ⟨g139, g140, g141, g142⟩
      ·
        obtain rfl : r132 = 1 := by rw [hw134, g139]; rfl
        have hPD : pdW (dC, dI) vwCl A [(le, .inl (cI, 220, .inl fle)), (nu, .inl (cI, 5, .inl fnu)), (dr, .inr (5, [.int (nI st), .int bl, .int mm, .int (nI nq), .int (nI nh), .ref o5, .ref o6, .ref o7, .ref o8, .ref o9, .ref o10, .ref o11, .ref o12])), (o5, .inl (cI, 8, .inl fo5)), (o6, .inl (cI, 8, .inl fo6)), (o7, .inl (cI, 8, .inl fo7)), (o8, .inl (cI, 8, .inl fo8)), (o9, .inl (cI, 8, .inl fo9)), (o10, .inl (cI, 4, .inl fo10)), (o11, .inl (cI, 4, .inl fo11)), (o12, .inl (cI, 4, .inl fo12)), (h0, .inr (7, [.ref dr, .int fa, .ref nu, .ref le, .int (nI ln), .int (nI (at9 + 1)), .int fu]))] H := ⟨hP, hD⟩
        have hP := hPD.1
        have hD := hPD.2
        clear hPD
        refine lv_if_eq (tgt := 219) hx hb dX7_readClause_79 (by decide) (fun c143 => ?_) (fun c143 => ?_)
        · exact absurd c143 (by decide)
        clear c143
        refine lv_aload_n hx hb dX7_readClause_82 rfl (lv_at hl 1 rfl) ?_
        refine va_gets hx hb hZ_BLADE_LEAST hS hown (hts (.fieldLink RX7 78 "LeftQuills$Reader" "BLADE_LEAST" "[I") (wmx 4 rfl)) (fun _ h9 => h9) dX7_readClause_83 ?_
        refine va_gets hx hb hZ_BLADE_MOST hS hown (hts (.fieldLink RX7 81 "LeftQuills$Reader" "BLADE_MOST" "[I") (wmx 5 rfl)) (fun _ h9 => h9) dX7_readClause_86 ?_
        have hc9 := va_cut (W' := [(h0, .inr (7, [.ref dr, .int fa, .ref nu, .ref le, .int (nI ln), .int (nI (at9 + 1)), .int fu])), (le, .inl (cI, 220, .inl fle)), (nu, .inl (cI, 5, .inl fnu))]) hP hD hS hA [11, 0, 1] (by decide) rfl
        have hPc := hc9.1
        have hDc := hc9.2.1
        have hFc := hc9.2.2
        clear hc9
        refine va_calli (va_runV (As := [.ref t_BLADE_LEAST, .ref t_BLADE_MOST]) (rest := []) ⟨hx, hb, hml, hown, hts⟩ (c_X7_readNumbersF l dC dI cI cZ cQ h0 dr fa nu le ln (at9 + 1) fu fle fnu t_BLADE_LEAST t_BLADE_MOST 2 gBL gBM T0 H.size (by omega) (by omega) hT (by omega)) (cwV 2 hts gX7_readClause_X7_readNumbers rfl rfl rfl hd_X7_readNumbers_RX7 ⟨Nat.le_of_ble_eq_true rfl, Nat.le_of_ble_eq_true rfl⟩) ⟨fun a U g mk q => by obtain ⟨q0, q1, qP, qK, qD, qN, qT_t1, qT_t2⟩ := q; exact ⟨q0, q1, qP, va_K.moved (u := U) (U := U.calling g mk a) (Vm.Alike.refl U.vm) qK, qD, qN.calling, va_T.moved (u := U) (Vm.Alike.refl U.vm) qT_t1, va_T.moved (u := U) (Vm.Alike.refl U.vm) qT_t2⟩, va_recv hK hP (ci := 7) (q0 := 11) rfl rfl, fun U hU hW => ⟨rfl, by rw [hU], by rw [hU]; exact hPc, va_K.moved hW.alike hK, hDc.weaken (fun _ _ _ _ => trivial), hN.warm hW, by rw [hU]; exact va_T.moved hW.alike ((hT_t_BLADE_LEAST.kept hS.2.1).narrow hFc), by rw [hU]; exact va_T.moved hW.alike ((hT_t_BLADE_MOST.kept hS.2.1).narrow hFc)⟩⟩ rfl rfl hl.1 rfl (lv_room (Nat.le_of_ble_eq_true rfl)) dX7_readClause_89 ⟨Nat.le_of_ble_eq_true rfl, Nat.le_of_ble_eq_true rfl⟩) hS (fun q _ h => hFc q h) hFc (fun r144 u145 t H1 locs ht hvm hw146 hB hz1 hk1 hS => ?_)
        obtain ⟨f147, i148, i150, k149, hk149, he151, hP1, hD1⟩ := hB
        replace hP1 := va_hp ht hP1
        obtain ⟨hP, hD⟩ := va_join (wr := [(dr, .inr (5, [.int (nI st), .int bl, .int mm, .int (nI nq), .int (nI nh), .ref o5, .ref o6, .ref o7, .ref o8, .ref o9, .ref o10, .ref o11, .ref o12])), (o5, .inl (cI, 8, .inl fo5)), (o6, .inl (cI, 8, .inl fo6)), (o7, .inl (cI, 8, .inl fo7)), (o8, .inl (cI, 8, .inl fo8)), (o9, .inl (cI, 8, .inl fo9)), (o10, .inl (cI, 4, .inl fo10)), (o11, .inl (cI, 4, .inl fo11)), (o12, .inl (cI, 4, .inl fo12))]) (w1 := [(h0, .inr (7, [.ref dr, .int i148, .ref nu, .ref le, .int (nI ln), .int (nI k149), .int i150])), (le, .inl (cI, 220, .inl fle)), (nu, .inl (cI, 5, .inl f147))]) hP hD [11, 0, 1] [2, 3, 4, 5, 6, 7, 8, 9, 10] rfl rfl (by decide +kernel) (by decide +kernel) hk1 hFc hP1 hD1
        clear hP1 hD1
        clear hz1 hk1 hPc hDc hFc
        generalize H1 = H at hP hS ht ⊢
        have hPD : pdW (dC, dI) vwCl A [(dr, .inr (5, [.int (nI st), .int bl, .int mm, .int (nI nq), .int (nI nh), .ref o5, .ref o6, .ref o7, .ref o8, .ref o9, .ref o10, .ref o11, .ref o12])), (o5, .inl (cI, 8, .inl fo5)), (o6, .inl (cI, 8, .inl fo6)), (o7, .inl (cI, 8, .inl fo7)), (o8, .inl (cI, 8, .inl fo8)), (o9, .inl (cI, 8, .inl fo9)), (o10, .inl (cI, 4, .inl fo10)), (o11, .inl (cI, 4, .inl fo11)), (o12, .inl (cI, 4, .inl fo12)), (h0, .inr (7, [.ref dr, .int i148, .ref nu, .ref le, .int (nI ln), .int (nI k149), .int i150])), (le, .inl (cI, 220, .inl fle)), (nu, .inl (cI, 5, .inl f147))] H := ⟨hP, hD⟩
        have hP := hPD.1
        have hD := hPD.2
        clear hPD
        try dsimp only at hw146
        rcases he151 with ⟨g152, g153, rfl, rfl, rfl, g154⟩ | ⟨g152, g153, g154, g155⟩
        ·
          obtain rfl : r144 = 1 := by rw [hw146, g152]; rfl
          have hPD : pdW (dC, dI) vwCl A [(dr, .inr (5, [.int (nI st), .int bl, .int mm, .int (nI nq), .int (nI nh), .ref o5, .ref o6, .ref o7, .ref o8, .ref o9, .ref o10, .ref o11, .ref o12])), (o5, .inl (cI, 8, .inl fo5)), (o6, .inl (cI, 8, .inl fo6)), (o7, .inl (cI, 8, .inl fo7)), (o8, .inl (cI, 8, .inl fo8)), (o9, .inl (cI, 8, .inl fo9)), (o10, .inl (cI, 4, .inl fo10)), (o11, .inl (cI, 4, .inl fo11)), (o12, .inl (cI, 4, .inl fo12)), (h0, .inr (7, [.ref dr, .int fa, .ref nu, .ref le, .int (nI ln), .int (nI ((clN T0 ln gBL gBM 2 (at9 + 1)).2.2)), .int fu])), (le, .inl (cI, 220, .inl fle)), (nu, .inl (cI, 5, .inl f147))] H := ⟨hP, hD⟩
          have hP := hPD.1
          have hD := hPD.2
          clear hPD
          refine lv_if_eq (tgt := 219) hx hb dX7_readClause_92 (by decide) (fun c156 => ?_) (fun c156 => ?_)
          · exact absurd c156 (by decide)
          clear c156
          refine lv_aload_n hx hb dX7_readClause_95 rfl (lv_at hl 1 rfl) ?_
          refine va_get (D := (dC, dI)) (ci := 7) (v := .ref dr) (C := RX7) (T := TX7) (N := 7) hx hb hts hi_X7 hown hK hP 9 rfl rfl 0 (by decide) (hts (.fieldLink RX7 12 "LeftQuills$Reader" "draft" "LLeftQuills$Office;") (wmx 1 rfl)) (fun _ h9 => h9) rfl dX7_readClause_96 ?_
          refine lv_aload_n hx hb dX7_readClause_99 rfl (lv_at hl 1 rfl) ?_
          refine va_get (D := (dC, dI)) (ci := 7) (v := .ref nu) (C := RX7) (T := TX7) (N := 7) hx hb hts hi_X7 hown hK hP 9 rfl rfl 2 (by decide) (hts (.fieldLink RX7 22 "LeftQuills$Reader" "numbers" "[I") (wmx 6 rfl)) (fun _ h9 => h9) rfl dX7_readClause_100 ?_
          have hc9 := va_cut (W' := [(dr, .inr (5, [.int (nI st), .int bl, .int mm, .int (nI nq), .int (nI nh), .ref o5, .ref o6, .ref o7, .ref o8, .ref o9, .ref o10, .ref o11, .ref o12])), (nu, .inl (cI, 5, .inl f147))]) hP hD hS hA [0, 11] (by decide) rfl
          have hPc := hc9.1
          have hDc := hc9.2.1
          have hFc := hc9.2.2
          clear hc9
          refine va_callv (va_runV (As := [.ref nu]) (rest := []) ⟨hx, hb, hml, hown, hts⟩ (c_X5_setBladeF l dC dI cI cZ cQ dr st bl mm nq nh o5 o6 o7 o8 o9 o10 o11 o12 nu f147 H.size ) (cwV 1 hts gX7_readClause_X5_setBlade rfl rfl rfl hd_X5_setBlade_RX5 ⟨Nat.le_of_ble_eq_true rfl, Nat.le_of_ble_eq_true rfl⟩) (pv_D (va_recv hK hP (ci := 5) (q0 := 0) rfl rfl) hK hPc hDc) rfl rfl hl.1 rfl (lv_room (Nat.le_of_ble_eq_true rfl)) dX7_readClause_103 ⟨Nat.le_of_ble_eq_true rfl, Nat.le_of_ble_eq_true rfl⟩) hS (fun q _ h => hFc q h) hFc (fun u158 t H1 locs ht hvm hw159 hB hz1 hk1 hS => ?_)
          obtain ⟨i161, i162, k160, hk160, he163, he164, he165, hP1, hD1⟩ := hB
          replace hP1 := va_hp ht hP1
          obtain ⟨hP, hD⟩ := va_join (wr := [(o5, .inl (cI, 8, .inl fo5)), (o6, .inl (cI, 8, .inl fo6)), (o7, .inl (cI, 8, .inl fo7)), (o8, .inl (cI, 8, .inl fo8)), (o9, .inl (cI, 8, .inl fo9)), (o10, .inl (cI, 4, .inl fo10)), (o11, .inl (cI, 4, .inl fo11)), (o12, .inl (cI, 4, .inl fo12)), (h0, .inr (7, [.ref dr, .int fa, .ref nu, .ref le, .int (nI ln), .int (nI ((clN T0 ln gBL gBM 2 (at9 + 1)).2.2)), .int fu])), (le, .inl (cI, 220, .inl fle))]) (w1 := [(dr, .inr (5, [.int (nI k160), .int i161, .int i162, .int (nI nq), .int (nI nh), .ref o5, .ref o6, .ref o7, .ref o8, .ref o9, .ref o10, .ref o11, .ref o12])), (nu, .inl (cI, 5, .inl f147))]) hP hD [0, 11] [1, 2, 3, 4, 5, 6, 7, 8, 9, 10] rfl rfl (by decide +kernel) (by decide +kernel) hk1 hFc hP1 hD1
          clear hP1 hD1
          clear hz1 hk1 hPc hDc hFc
          generalize H1 = H at hP hS ht ⊢
          have hPD : pdW (dC, dI) vwCl A [(o5, .inl (cI, 8, .inl fo5)), (o6, .inl (cI, 8, .inl fo6)), (o7, .inl (cI, 8, .inl fo7)), (o8, .inl (cI, 8, .inl fo8)), (o9, .inl (cI, 8, .inl fo9)), (o10, .inl (cI, 4, .inl fo10)), (o11, .inl (cI, 4, .inl fo11)), (o12, .inl (cI, 4, .inl fo12)), (h0, .inr (7, [.ref dr, .int fa, .ref nu, .ref le, .int (nI ln), .int (nI ((clN T0 ln gBL gBM 2 (at9 + 1)).2.2)), .int fu])), (le, .inl (cI, 220, .inl fle)), (dr, .inr (5, [.int (nI k160), .int i161, .int i162, .int (nI nq), .int (nI nh), .ref o5, .ref o6, .ref o7, .ref o8, .ref o9, .ref o10, .ref o11, .ref o12])), (nu, .inl (cI, 5, .inl f147))] H := ⟨hP, hD⟩
          have hP := hPD.1
          have hD := hPD.2
          clear hPD
          try dsimp only at hw159
          subst he163
          have hPD : pdW (dC, dI) vwCl A [(o5, .inl (cI, 8, .inl fo5)), (o6, .inl (cI, 8, .inl fo6)), (o7, .inl (cI, 8, .inl fo7)), (o8, .inl (cI, 8, .inl fo8)), (o9, .inl (cI, 8, .inl fo9)), (o10, .inl (cI, 4, .inl fo10)), (o11, .inl (cI, 4, .inl fo11)), (o12, .inl (cI, 4, .inl fo12)), (h0, .inr (7, [.ref dr, .int fa, .ref nu, .ref le, .int (nI ln), .int (nI ((clN T0 ln gBL gBM 2 (at9 + 1)).2.2)), .int fu])), (le, .inl (cI, 220, .inl fle)), (dr, .inr (5, [.int 1, .int i161, .int i162, .int (nI nq), .int (nI nh), .ref o5, .ref o6, .ref o7, .ref o8, .ref o9, .ref o10, .ref o11, .ref o12])), (nu, .inl (cI, 5, .inl f147))] H := ⟨hP, hD⟩
          have hP := hPD.1
          have hD := hPD.2
          clear hPD
          refine lv_goto (tgt := 219) hx hb dX7_readClause_106 (by decide) ?_
          have hP9 := hP.sub (ws' := [(h0, .inr (7, [.ref dr, .int fa, .ref nu, .ref le, .int (nI ln), .int (nI ((clN T0 ln gBL gBM 2 (at9 + 1)).2.2)), .int fu])), (le, .inl (cI, 220, .inl fle)), (nu, .inl (cI, 5, .inl f147)), (dr, .inr (5, [.int 1, .int i161, .int i162, .int (nI nq), .int (nI nh), .ref o5, .ref o6, .ref o7, .ref o8, .ref o9, .ref o10, .ref o11, .ref o12])), (o5, .inl (cI, 8, .inl fo5)), (o6, .inl (cI, 8, .inl fo6)), (o7, .inl (cI, 8, .inl fo7)), (o8, .inl (cI, 8, .inl fo8)), (o9, .inl (cI, 8, .inl fo9)), (o10, .inl (cI, 4, .inl fo10)), (o11, .inl (cI, 4, .inl fo11)), (o12, .inl (cI, 4, .inl fo12))]) [8, 9, 11, 10, 0, 1, 2, 3, 4, 5, 6, 7] rfl
          have hD9 := hD.sub (ws' := [(h0, .inr (7, [.ref dr, .int fa, .ref nu, .ref le, .int (nI ln), .int (nI ((clN T0 ln gBL gBM 2 (at9 + 1)).2.2)), .int fu])), (le, .inl (cI, 220, .inl fle)), (nu, .inl (cI, 5, .inl f147)), (dr, .inr (5, [.int 1, .int i161, .int i162, .int (nI nq), .int (nI nh), .ref o5, .ref o6, .ref o7, .ref o8, .ref o9, .ref o10, .ref o11, .ref o12])), (o5, .inl (cI, 8, .inl fo5)), (o6, .inl (cI, 8, .inl fo6)), (o7, .inl (cI, 8, .inl fo7)), (o8, .inl (cI, 8, .inl fo8)), (o9, .inl (cI, 8, .inl fo9)), (o10, .inl (cI, 4, .inl fo10)), (o11, .inl (cI, 4, .inl fo11)), (o12, .inl (cI, 4, .inl fo12))]) [8, 9, 11, 10, 0, 1, 2, 3, 4, 5, 6, 7] (by decide +kernel) rfl
          exact W.vret hx hb hr (fun t ht hW => ⟨⟨(fun _ => 0), rfl, trivial, ⟨f147, fo5, fo6, fo7, fo8, fo9, fo10, fo11, fo12, fa, fu, i161, i162, ((clN T0 ln gBL gBM 2 (at9 + 1)).2.2), 1, nq, nh, by omega, by omega, by omega, by omega, (cR_o hx2 hdr (cS_o c4 (hw3.symm)) g153 hx0 hfu hfa rfl (he164.trans (g154 0 (by decide))) (he165.trans (g154 1 (by decide)))), va_hq ht hP9, hD9⟩⟩, hS.F ht⟩) hS.2.2 dX7_readClause_219
        ·
          obtain rfl : r144 = 0 := by rw [hw146, g152]; rfl
          refine lv_if_eq (tgt := 219) hx hb dX7_readClause_92 (by decide) (fun c166 => ?_) (fun c166 => ?_)
          rotate_left
          · exact absurd c166 (by decide)
          clear c166
          have hP9 := hP.sub (ws' := [(h0, .inr (7, [.ref dr, .int i148, .ref nu, .ref le, .int (nI ln), .int (nI k149), .int i150])), (le, .inl (cI, 220, .inl fle)), (nu, .inl (cI, 5, .inl f147)), (dr, .inr (5, [.int (nI st), .int bl, .int mm, .int (nI nq), .int (nI nh), .ref o5, .ref o6, .ref o7, .ref o8, .ref o9, .ref o10, .ref o11, .ref o12])), (o5, .inl (cI, 8, .inl fo5)), (o6, .inl (cI, 8, .inl fo6)), (o7, .inl (cI, 8, .inl fo7)), (o8, .inl (cI, 8, .inl fo8)), (o9, .inl (cI, 8, .inl fo9)), (o10, .inl (cI, 4, .inl fo10)), (o11, .inl (cI, 4, .inl fo11)), (o12, .inl (cI, 4, .inl fo12))]) [9, 10, 11, 0, 1, 2, 3, 4, 5, 6, 7, 8] rfl
          have hD9 := hD.sub (ws' := [(h0, .inr (7, [.ref dr, .int i148, .ref nu, .ref le, .int (nI ln), .int (nI k149), .int i150])), (le, .inl (cI, 220, .inl fle)), (nu, .inl (cI, 5, .inl f147)), (dr, .inr (5, [.int (nI st), .int bl, .int mm, .int (nI nq), .int (nI nh), .ref o5, .ref o6, .ref o7, .ref o8, .ref o9, .ref o10, .ref o11, .ref o12])), (o5, .inl (cI, 8, .inl fo5)), (o6, .inl (cI, 8, .inl fo6)), (o7, .inl (cI, 8, .inl fo7)), (o8, .inl (cI, 8, .inl fo8)), (o9, .inl (cI, 8, .inl fo9)), (o10, .inl (cI, 4, .inl fo10)), (o11, .inl (cI, 4, .inl fo11)), (o12, .inl (cI, 4, .inl fo12))]) [9, 10, 11, 0, 1, 2, 3, 4, 5, 6, 7, 8] (by decide +kernel) rfl
          exact W.vret hx hb hr (fun t ht hW => ⟨⟨(fun _ => 0), rfl, trivial, ⟨f147, fo5, fo6, fo7, fo8, fo9, fo10, fo11, fo12, i148, i150, bl, mm, k149, st, nq, nh, by omega, by omega, by omega, by omega, (cR_fail hx2 hdr (cS_o c4 (hw3.symm)) g153 (Nat.le_trans clN_le (by decide)) g154 g155), va_hq ht hP9, hD9⟩⟩, hS.F ht⟩) hS.2.2 dX7_readClause_219
      ·
        exact absurd (by rw [c4]; rfl) g140
    ·
      refine lv_aload_n hx hb dX7_readClause_21 rfl (lv_at hl 1 rfl) ?_
      refine lv_iconst (v := 1) hx hb dX7_readClause_22 (by decide) ?_
      refine lv_aload_n hx hb dX7_readClause_23 rfl (lv_at hl 1 rfl) ?_
      refine va_get (D := (dC, dI)) (ci := 7) (v := .int (nI at9)) (C := RX7) (T := TX7) (N := 7) hx hb hts hi_X7 hown hK hP 0 rfl rfl 5 (by decide) (hts (.fieldLink RX7 32 "LeftQuills$Reader" "at" "I") (wmx 3 rfl)) (fun _ h9 => h9) rfl dX7_readClause_24 ?_
      have hc9 := va_cut (W' := [(h0, .inr (7, [.ref dr, .int fa, .ref nu, .ref le, .int (nI ln), .int (nI at9), .int fu]))]) hP hD hS hA [0] (by decide) rfl
      have hPc := hc9.1
      have hDc := hc9.2.1
      have hFc := hc9.2.2
      clear hc9
      refine va_callv (va_runV (As := [.int 1, .int (nI at9)]) (rest := []) ⟨hx, hb, hml, hown, hts⟩ (c_X7_failF l dC dI cI cZ cQ h0 dr fa nu le ln at9 fu 1 (nI at9) H.size ) (cwV 2 hts gX7_readClause_X7_fail rfl rfl rfl hd_X7_fail_RX7 ⟨Nat.le_of_ble_eq_true rfl, Nat.le_of_ble_eq_true rfl⟩) (pv_D (va_recv hK hP (ci := 7) (q0 := 0) rfl rfl) hK hPc hDc) rfl rfl hl.1 rfl (lv_room (Nat.le_of_ble_eq_true rfl)) dX7_readClause_27 ⟨Nat.le_of_ble_eq_true rfl, Nat.le_of_ble_eq_true rfl⟩) hS (fun q _ h => hFc q h) hFc (fun u168 t H1 locs ht hvm hw169 hB hz1 hk1 hS => ?_)
      obtain ⟨i170, i171, he172, he173, hP1, hD1⟩ := hB
      replace hP1 := va_hp ht hP1
      obtain ⟨hP, hD⟩ := va_join (wr := [(le, .inl (cI, 220, .inl fle)), (nu, .inl (cI, 5, .inl fnu)), (dr, .inr (5, [.int (nI st), .int bl, .int mm, .int (nI nq), .int (nI nh), .ref o5, .ref o6, .ref o7, .ref o8, .ref o9, .ref o10, .ref o11, .ref o12])), (o5, .inl (cI, 8, .inl fo5)), (o6, .inl (cI, 8, .inl fo6)), (o7, .inl (cI, 8, .inl fo7)), (o8, .inl (cI, 8, .inl fo8)), (o9, .inl (cI, 8, .inl fo9)), (o10, .inl (cI, 4, .inl fo10)), (o11, .inl (cI, 4, .inl fo11)), (o12, .inl (cI, 4, .inl fo12))]) (w1 := [(h0, .inr (7, [.ref dr, .int i170, .ref nu, .ref le, .int (nI ln), .int (nI at9), .int i171]))]) hP hD [0] [1, 2, 3, 4, 5, 6, 7, 8, 9, 10, 11] rfl rfl (by decide +kernel) (by decide +kernel) hk1 hFc hP1 hD1
      clear hP1 hD1
      clear hz1 hk1 hPc hDc hFc
      generalize H1 = H at hP hS ht ⊢
      have hPD : pdW (dC, dI) vwCl A [(le, .inl (cI, 220, .inl fle)), (nu, .inl (cI, 5, .inl fnu)), (dr, .inr (5, [.int (nI st), .int bl, .int mm, .int (nI nq), .int (nI nh), .ref o5, .ref o6, .ref o7, .ref o8, .ref o9, .ref o10, .ref o11, .ref o12])), (o5, .inl (cI, 8, .inl fo5)), (o6, .inl (cI, 8, .inl fo6)), (o7, .inl (cI, 8, .inl fo7)), (o8, .inl (cI, 8, .inl fo8)), (o9, .inl (cI, 8, .inl fo9)), (o10, .inl (cI, 4, .inl fo10)), (o11, .inl (cI, 4, .inl fo11)), (o12, .inl (cI, 4, .inl fo12)), (h0, .inr (7, [.ref dr, .int i170, .ref nu, .ref le, .int (nI ln), .int (nI at9), .int i171]))] H := ⟨hP, hD⟩
      have hP := hPD.1
      have hD := hPD.2
      clear hPD
      try dsimp only at hw169
      have hP9 := hP.sub (ws' := [(h0, .inr (7, [.ref dr, .int i170, .ref nu, .ref le, .int (nI ln), .int (nI at9), .int i171])), (le, .inl (cI, 220, .inl fle)), (nu, .inl (cI, 5, .inl fnu)), (dr, .inr (5, [.int (nI st), .int bl, .int mm, .int (nI nq), .int (nI nh), .ref o5, .ref o6, .ref o7, .ref o8, .ref o9, .ref o10, .ref o11, .ref o12])), (o5, .inl (cI, 8, .inl fo5)), (o6, .inl (cI, 8, .inl fo6)), (o7, .inl (cI, 8, .inl fo7)), (o8, .inl (cI, 8, .inl fo8)), (o9, .inl (cI, 8, .inl fo9)), (o10, .inl (cI, 4, .inl fo10)), (o11, .inl (cI, 4, .inl fo11)), (o12, .inl (cI, 4, .inl fo12))]) [11, 0, 1, 2, 3, 4, 5, 6, 7, 8, 9, 10] rfl
      have hD9 := hD.sub (ws' := [(h0, .inr (7, [.ref dr, .int i170, .ref nu, .ref le, .int (nI ln), .int (nI at9), .int i171])), (le, .inl (cI, 220, .inl fle)), (nu, .inl (cI, 5, .inl fnu)), (dr, .inr (5, [.int (nI st), .int bl, .int mm, .int (nI nq), .int (nI nh), .ref o5, .ref o6, .ref o7, .ref o8, .ref o9, .ref o10, .ref o11, .ref o12])), (o5, .inl (cI, 8, .inl fo5)), (o6, .inl (cI, 8, .inl fo6)), (o7, .inl (cI, 8, .inl fo7)), (o8, .inl (cI, 8, .inl fo8)), (o9, .inl (cI, 8, .inl fo9)), (o10, .inl (cI, 4, .inl fo10)), (o11, .inl (cI, 4, .inl fo11)), (o12, .inl (cI, 4, .inl fo12))]) [11, 0, 1, 2, 3, 4, 5, 6, 7, 8, 9, 10] (by decide +kernel) rfl
      exact W.vret hx hb hr (fun t ht hW => ⟨⟨(fun _ => 0), rfl, trivial, ⟨fnu, fo5, fo6, fo7, fo8, fo9, fo10, fo11, fo12, i170, i171, bl, mm, at9, st, nq, nh, by omega, by omega, by omega, by omega, (cR_fail hx2 hdr (cS_1 c4 (by rw [← hw3]; exact c131)) (by decide) (by decide) he172 he173), va_hq ht hP9, hD9⟩⟩, hS.F ht⟩) hS.2.2 dX7_readClause_30
set_option maxHeartbeats 4000000 in
set_option maxRecDepth 100000 in
theorem c_X7_readTextF (l : Launch) (dC : Nat → ClassId) (dI : Nat → Nat → Nat) (cI cZ cQ : ClassId) (h0 : Nat) (dr : Nat) (fa : Int32) (nu : Nat) (le : Nat) (ln : Nat) (at9 : Nat) (fu : Int32) (hx9 : Nat) (fhx : Nat → Int32) (fle : Nat → Int32) (fnu : Nat → Int32) (st : Nat) (bl : Int32) (mm : Int32) (nq : Nat) (nh : Nat) (o5 : Nat) (o6 : Nat) (o7 : Nat) (o8 : Nat) (o9 : Nat) (o10 : Nat) (o11 : Nat) (o12 : Nat) (fo5 : Nat → Int32) (fo6 : Nat → Int32) (fo7 : Nat → Int32) (fo8 : Nat → Int32) (fo9 : Nat → Int32) (fo10 : Nat → Int32) (fo11 : Nat → Int32) (fo12 : Nat → Int32) (tl : Nat) (T0 : Nat → Int32) (sz : Nat) (htl : tl ≤ 220) (hnq : nq ≤ 8) (hnh : nh ≤ 4) (hT : ∀ j, j < tl → fhx j = T0 j) : Met l yX7_readText wsX7_readText ({ frames := 4, cells := 0, slots := 0, locals := 132 }) (va_Pc [.ref h0, .ref hx9, .int (nI tl)] (fun U => U.heap.size = sz ∧ va_P (dC, dI) vwCl [(h0, .inr (7, [.ref dr, .int fa, .ref nu, .ref le, .int (nI ln), .int (nI at9), .int fu])), (hx9, .inl (cI, 220, .inl fhx)), (le, .inl (cI, 220, .inl fle)), (nu, .inl (cI, 5, .inl fnu)), (dr, .inr (5, [.int (nI st), .int bl, .int mm, .int (nI nq), .int (nI nh), .ref o5, .ref o6, .ref o7, .ref o8, .ref o9, .ref o10, .ref o11, .ref o12])), (o5, .inl (cI, 8, .inl fo5)), (o6, .inl (cI, 8, .inl fo6)), (o7, .inl (cI, 8, .inl fo7)), (o8, .inl (cI, 8, .inl fo8)), (o9, .inl (cI, 8, .inl fo9)), (o10, .inl (cI, 4, .inl fo10)), (o11, .inl (cI, 4, .inl fo11)), (o12, .inl (cI, 4, .inl fo12))] U.heap ∧ va_K (dC, dI) vwCl (tys0 cI cZ cQ) U ∧ va_D (fun _ => True) [(h0, .inr (7, [.ref dr, .int fa, .ref nu, .ref le, .int (nI ln), .int (nI at9), .int fu])), (hx9, .inl (cI, 220, .inl fhx)), (le, .inl (cI, 220, .inl fle)), (nu, .inl (cI, 5, .inl fnu)), (dr, .inr (5, [.int (nI st), .int bl, .int mm, .int (nI nq), .int (nI nh), .ref o5, .ref o6, .ref o7, .ref o8, .ref o9, .ref o10, .ref o11, .ref o12])), (o5, .inl (cI, 8, .inl fo5)), (o6, .inl (cI, 8, .inl fo6)), (o7, .inl (cI, 8, .inl fo7)), (o8, .inl (cI, 8, .inl fo8)), (o9, .inl (cI, 8, .inl fo9)), (o10, .inl (cI, 4, .inl fo10)), (o11, .inl (cI, 4, .inl fo11)), (o12, .inl (cI, 4, .inl fo12))] ∧ xN U ∧ xS (va_A [(h0, .inr (7, [.ref dr, .int fa, .ref nu, .ref le, .int (nI ln), .int (nI at9), .int fu])), (hx9, .inl (cI, 220, .inl fhx)), (le, .inl (cI, 220, .inl fle)), (nu, .inl (cI, 5, .inl fnu)), (dr, .inr (5, [.int (nI st), .int bl, .int mm, .int (nI nq), .int (nI nh), .ref o5, .ref o6, .ref o7, .ref o8, .ref o9, .ref o10, .ref o11, .ref o12])), (o5, .inl (cI, 8, .inl fo5)), (o6, .inl (cI, 8, .inl fo6)), (o7, .inl (cI, 8, .inl fo7)), (o8, .inl (cI, 8, .inl fo8)), (o9, .inl (cI, 8, .inl fo9)), (o10, .inl (cI, 4, .inl fo10)), (o11, .inl (cI, 4, .inl fo11)), (o12, .inl (cI, 4, .inl fo12))] sz) U U.heap)) (va_Qi (fun (r : Int32) (u : Nat → Nat) => r = nI ((rdT T0 tl (tl + 1) rs0).1 0)) (fun (_ : Nat → Nat) (t : State) => ∃ (gg0 gg1 gg2 gg3 gg4 gg5 gg6 gg7 gg8 gg9 : Nat → Int32) (ii0 ii3 ii5 ii6 : Int32) (kk1 kk2 kk4 kk7 kk8 : Nat), kk1 ≤ 220 ∧ kk2 ≤ 220 ∧ kk4 ≤ 1 ∧ kk7 ≤ 8 ∧ kk8 ≤ 4 ∧ (fRel (rdT T0 tl (tl + 1) rs0) ii3 ii0 kk4 ii5 ii6 kk7 kk8 (x8 gg2 gg3 gg4 gg5 gg6 gg7 gg8 gg9)) ∧ va_P (dC, dI) vwCl [(h0, .inr (7, [.ref dr, .int ii0, .ref nu, .ref le, .int (nI kk1), .int (nI kk2), .int ii3])), (hx9, .inl (cI, 220, .inl fhx)), (le, .inl (cI, 220, .inl gg0)), (nu, .inl (cI, 5, .inl gg1)), (dr, .inr (5, [.int (nI kk4), .int ii5, .int ii6, .int (nI kk7), .int (nI kk8), .ref o5, .ref o6, .ref o7, .ref o8, .ref o9, .ref o10, .ref o11, .ref o12])), (o5, .inl (cI, 8, .inl gg2)), (o6, .inl (cI, 8, .inl gg3)), (o7, .inl (cI, 8, .inl gg4)), (o8, .inl (cI, 8, .inl gg5)), (o9, .inl (cI, 8, .inl gg6)), (o10, .inl (cI, 4, .inl gg7)), (o11, .inl (cI, 4, .inl gg8)), (o12, .inl (cI, 4, .inl gg9))] t.heap ∧ va_D (va_A [(h0, .inr (7, [.ref dr, .int fa, .ref nu, .ref le, .int (nI ln), .int (nI at9), .int fu])), (hx9, .inl (cI, 220, .inl fhx)), (le, .inl (cI, 220, .inl fle)), (nu, .inl (cI, 5, .inl fnu)), (dr, .inr (5, [.int (nI st), .int bl, .int mm, .int (nI nq), .int (nI nh), .ref o5, .ref o6, .ref o7, .ref o8, .ref o9, .ref o10, .ref o11, .ref o12])), (o5, .inl (cI, 8, .inl fo5)), (o6, .inl (cI, 8, .inl fo6)), (o7, .inl (cI, 8, .inl fo7)), (o8, .inl (cI, 8, .inl fo8)), (o9, .inl (cI, 8, .inl fo9)), (o10, .inl (cI, 4, .inl fo10)), (o11, .inl (cI, 4, .inl fo11)), (o12, .inl (cI, 4, .inl fo12))] sz) [(h0, .inr (7, [.ref dr, .int ii0, .ref nu, .ref le, .int (nI kk1), .int (nI kk2), .int ii3])), (hx9, .inl (cI, 220, .inl fhx)), (le, .inl (cI, 220, .inl gg0)), (nu, .inl (cI, 5, .inl gg1)), (dr, .inr (5, [.int (nI kk4), .int ii5, .int ii6, .int (nI kk7), .int (nI kk8), .ref o5, .ref o6, .ref o7, .ref o8, .ref o9, .ref o10, .ref o11, .ref o12])), (o5, .inl (cI, 8, .inl gg2)), (o6, .inl (cI, 8, .inl gg3)), (o7, .inl (cI, 8, .inl gg4)), (o8, .inl (cI, 8, .inl gg5)), (o9, .inl (cI, 8, .inl gg6)), (o10, .inl (cI, 4, .inl gg7)), (o11, .inl (cI, 4, .inl gg8)), (o12, .inl (cI, 4, .inl gg9))]) (va_A [(h0, .inr (7, [.ref dr, .int fa, .ref nu, .ref le, .int (nI ln), .int (nI at9), .int fu])), (hx9, .inl (cI, 220, .inl fhx)), (le, .inl (cI, 220, .inl fle)), (nu, .inl (cI, 5, .inl fnu)), (dr, .inr (5, [.int (nI st), .int bl, .int mm, .int (nI nq), .int (nI nh), .ref o5, .ref o6, .ref o7, .ref o8, .ref o9, .ref o10, .ref o11, .ref o12])), (o5, .inl (cI, 8, .inl fo5)), (o6, .inl (cI, 8, .inl fo6)), (o7, .inl (cI, 8, .inl fo7)), (o8, .inl (cI, 8, .inl fo8)), (o9, .inl (cI, 8, .inl fo9)), (o10, .inl (cI, 4, .inl fo10)), (o11, .inl (cI, 4, .inl fo11)), (o12, .inl (cI, 4, .inl fo12))] sz)) 0 0 (va_A [(h0, .inr (7, [.ref dr, .int fa, .ref nu, .ref le, .int (nI ln), .int (nI at9), .int fu])), (hx9, .inl (cI, 220, .inl fhx)), (le, .inl (cI, 220, .inl fle)), (nu, .inl (cI, 5, .inl fnu)), (dr, .inr (5, [.int (nI st), .int bl, .int mm, .int (nI nq), .int (nI nh), .ref o5, .ref o6, .ref o7, .ref o8, .ref o9, .ref o10, .ref o11, .ref o12])), (o5, .inl (cI, 8, .inl fo5)), (o6, .inl (cI, 8, .inl fo6)), (o7, .inl (cI, 8, .inl fo7)), (o8, .inl (cI, 8, .inl fo8)), (o9, .inl (cI, 8, .inl fo9)), (o10, .inl (cI, 4, .inl fo10)), (o11, .inl (cI, 4, .inl fo11)), (o12, .inl (cI, 4, .inl fo12))] sz) := by
  refine Met.ofW (cc := cX7_readText) (maxL := 4) (ret := (some .int)) (by decide) rfl ?_
  intro p e s m args below meth c s₁ B hml hv
  obtain ⟨rfl, hsz, hP, hK, hD0, hN, hXS⟩ := hv
  have hx := B.exec
  have hb := B.bytes
  have hr := B.returns
  have hts := atoms_spec (ws := wsX7_readText) B.pre
  have hown : s.vm.findClass RX7 = some m.cls := findClass_of_methodNamed B.named
  have hlocks := B.notSynchronized
  have hi_X7 : ∀ w ∈ u_ws RX7 TX7 7, w ∈ wsX7_readText := fun _ h => List.mem_cons_of_mem _ (List.mem_append_left _ (List.mem_append_right _ (h)))
  subst hsz
  have hD := hD0.self (sz := s.heap.size)
  generalize hAe : va_A [(h0, .inr (7, [.ref dr, .int fa, .ref nu, .ref le, .int (nI ln), .int (nI at9), .int fu])), (hx9, .inl (cI, 220, .inl fhx)), (le, .inl (cI, 220, .inl fle)), (nu, .inl (cI, 5, .inl fnu)), (dr, .inr (5, [.int (nI st), .int bl, .int mm, .int (nI nq), .int (nI nh), .ref o5, .ref o6, .ref o7, .ref o8, .ref o9, .ref o10, .ref o11, .ref o12])), (o5, .inl (cI, 8, .inl fo5)), (o6, .inl (cI, 8, .inl fo6)), (o7, .inl (cI, 8, .inl fo7)), (o8, .inl (cI, 8, .inl fo8)), (o9, .inl (cI, 8, .inl fo9)), (o10, .inl (cI, 4, .inl fo10)), (o11, .inl (cI, 4, .inl fo11)), (o12, .inl (cI, 4, .inl fo12))] s.heap.size = A at hD hXS ⊢
  obtain ⟨t_BLADE_LEAST, hZ_BLADE_LEAST, hT_t_BLADE_LEAST⟩ := hXS.1
  obtain ⟨t_BLADE_MOST, hZ_BLADE_MOST, hT_t_BLADE_MOST⟩ := hXS.2.1
  obtain ⟨t_QUILL_LEAST, hZ_QUILL_LEAST, hT_t_QUILL_LEAST⟩ := hXS.2.2.1
  obtain ⟨t_QUILL_MOST, hZ_QUILL_MOST, hT_t_QUILL_MOST⟩ := hXS.2.2.2.1
  obtain ⟨t_HAND_LEAST, hZ_HAND_LEAST, hT_t_HAND_LEAST⟩ := hXS.2.2.2.2.1
  obtain ⟨t_HAND_MOST, hZ_HAND_MOST, hT_t_HAND_MOST⟩ := hXS.2.2.2.2.2
  have hA : ∀ q : Nat, s.heap.size ≤ q → A q := fun q h => by rw [← hAe]; exact Or.inr h
  have hS : va_S A s.heap s.heap [] := va_S.rf
  have hl := lv_entry ([.ref h0, .ref hx9, .int (nI tl)]) (n := 4) (Nat.le_of_ble_eq_true rfl)
  rw [lg_entry_eq]
  generalize (lg_sl ([.ref h0, .ref hx9, .int (nI tl)]) ++ List.replicate (4 - (lg_sl ([.ref h0, .ref hx9, .int (nI tl)])).length) Slot.unset).toArray = ls at hl ⊢
  have hl : lv_has ls 4 [(0, .ref h0), (1, .ref hx9), (2, .int (nI tl))] := hl
  refine lv_aload_n hx hb dX7_readText_0 rfl (lv_at hl 0 rfl) ?_
  refine va_get (D := (dC, dI)) (ci := 7) (v := .ref dr) (C := RX7) (T := TX7) (N := 7) hx hb hts hi_X7 hown hK hP 0 rfl rfl 0 (by decide) (hts (.fieldLink RX7 12 "LeftQuills$Reader" "draft" "LLeftQuills$Office;") (wmx 1 rfl)) (fun _ h9 => h9) rfl dX7_readText_1 ?_
  have hc9 := va_cut (W' := [(dr, .inr (5, [.int (nI st), .int bl, .int mm, .int (nI nq), .int (nI nh), .ref o5, .ref o6, .ref o7, .ref o8, .ref o9, .ref o10, .ref o11, .ref o12]))]) hP hD hS hA [4] (by decide) rfl
  have hPc := hc9.1
  have hDc := hc9.2.1
  have hFc := hc9.2.2
  clear hc9
  refine va_callv (va_runV (As := []) (rest := []) ⟨hx, hb, hml, hown, hts⟩ (c_X5_clearF l dC dI cI cZ cQ dr st bl mm nq nh o5 o6 o7 o8 o9 o10 o11 o12 s.heap.size ) (cwV 0 hts gX7_readText_X5_clear rfl rfl rfl hd_X5_clear_RX5 ⟨Nat.le_of_ble_eq_true rfl, Nat.le_of_ble_eq_true rfl⟩) (pv_D (va_recv hK hP (ci := 5) (q0 := 4) rfl rfl) hK hPc hDc) rfl rfl hl.1 rfl (lv_room (Nat.le_of_ble_eq_true rfl)) dX7_readText_4 ⟨Nat.le_of_ble_eq_true rfl, Nat.le_of_ble_eq_true rfl⟩) hS (fun q _ h => hFc q h) hFc (fun u2 t H1 locs ht hvm hw3 hB hz1 hk1 hS => ?_)
  obtain ⟨i5, i6, k4, k7, k8, hk4, hk7, hk8, he9, he10, he11, he12, he13, hP1, hD1⟩ := hB
  replace hP1 := va_hp ht hP1
  obtain ⟨hP, hD⟩ := va_join (wr := [(h0, .inr (7, [.ref dr, .int fa, .ref nu, .ref le, .int (nI ln), .int (nI at9), .int fu])), (hx9, .inl (cI, 220, .inl fhx)), (le, .inl (cI, 220, .inl fle)), (nu, .inl (cI, 5, .inl fnu)), (o5, .inl (cI, 8, .inl fo5)), (o6, .inl (cI, 8, .inl fo6)), (o7, .inl (cI, 8, .inl fo7)), (o8, .inl (cI, 8, .inl fo8)), (o9, .inl (cI, 8, .inl fo9)), (o10, .inl (cI, 4, .inl fo10)), (o11, .inl (cI, 4, .inl fo11)), (o12, .inl (cI, 4, .inl fo12))]) (w1 := [(dr, .inr (5, [.int (nI k4), .int i5, .int i6, .int (nI k7), .int (nI k8), .ref o5, .ref o6, .ref o7, .ref o8, .ref o9, .ref o10, .ref o11, .ref o12]))]) hP hD [4] [0, 1, 2, 3, 5, 6, 7, 8, 9, 10, 11, 12] rfl rfl (by decide +kernel) (by decide +kernel) hk1 hFc hP1 hD1
  clear hP1 hD1
  clear hz1 hk1 hPc hDc hFc
  generalize H1 = H at hP hS ht ⊢
  have hPD : pdW (dC, dI) vwCl A [(h0, .inr (7, [.ref dr, .int fa, .ref nu, .ref le, .int (nI ln), .int (nI at9), .int fu])), (hx9, .inl (cI, 220, .inl fhx)), (le, .inl (cI, 220, .inl fle)), (nu, .inl (cI, 5, .inl fnu)), (o5, .inl (cI, 8, .inl fo5)), (o6, .inl (cI, 8, .inl fo6)), (o7, .inl (cI, 8, .inl fo7)), (o8, .inl (cI, 8, .inl fo8)), (o9, .inl (cI, 8, .inl fo9)), (o10, .inl (cI, 4, .inl fo10)), (o11, .inl (cI, 4, .inl fo11)), (o12, .inl (cI, 4, .inl fo12)), (dr, .inr (5, [.int (nI k4), .int i5, .int i6, .int (nI k7), .int (nI k8), .ref o5, .ref o6, .ref o7, .ref o8, .ref o9, .ref o10, .ref o11, .ref o12]))] H := ⟨hP, hD⟩
  have hP := hPD.1
  have hD := hPD.2
  clear hPD
  try dsimp only at hw3
  subst he9
  subst he10
  subst he11
  subst he12
  subst he13
  have hPD : pdW (dC, dI) vwCl A [(h0, .inr (7, [.ref dr, .int fa, .ref nu, .ref le, .int (nI ln), .int (nI at9), .int fu])), (hx9, .inl (cI, 220, .inl fhx)), (le, .inl (cI, 220, .inl fle)), (nu, .inl (cI, 5, .inl fnu)), (o5, .inl (cI, 8, .inl fo5)), (o6, .inl (cI, 8, .inl fo6)), (o7, .inl (cI, 8, .inl fo7)), (o8, .inl (cI, 8, .inl fo8)), (o9, .inl (cI, 8, .inl fo9)), (o10, .inl (cI, 4, .inl fo10)), (o11, .inl (cI, 4, .inl fo11)), (o12, .inl (cI, 4, .inl fo12)), (dr, .inr (5, [.int 0, .int 0, .int 0, .int 0, .int 0, .ref o5, .ref o6, .ref o7, .ref o8, .ref o9, .ref o10, .ref o11, .ref o12]))] H := ⟨hP, hD⟩
  have hP := hPD.1
  have hD := hPD.2
  clear hPD
  refine lv_aload_n hx hb dX7_readText_7 rfl (lv_at hl 0 rfl) ?_
  refine lv_iconst (v := 0) hx hb dX7_readText_8 (by decide) ?_
  refine va_put (D := (dC, dI)) (ci := 7) (v := .int 0) (ty := .int) (C := RX7) (T := TX7) (N := 7) hx hb hts hi_X7 tyX7 tyX7_ok nmX7 hown hK hP hD hS 0 rfl rfl 5 (by decide) (hts (.fieldLink RX7 32 "LeftQuills$Reader" "at" "I") (wmx 2 rfl)) (fun _ h9 => h9) rfl (by decide +kernel) rfl rfl (Nat.le_of_ble_eq_true rfl) dX7_readText_9 (fun H locs hP hD hS => ?_)
  have hPD : pdW (dC, dI) vwCl A [(h0, .inr (7, [.ref dr, .int fa, .ref nu, .ref le, .int (nI ln), .int 0, .int fu])), (hx9, .inl (cI, 220, .inl fhx)), (le, .inl (cI, 220, .inl fle)), (nu, .inl (cI, 5, .inl fnu)), (o5, .inl (cI, 8, .inl fo5)), (o6, .inl (cI, 8, .inl fo6)), (o7, .inl (cI, 8, .inl fo7)), (o8, .inl (cI, 8, .inl fo8)), (o9, .inl (cI, 8, .inl fo9)), (o10, .inl (cI, 4, .inl fo10)), (o11, .inl (cI, 4, .inl fo11)), (o12, .inl (cI, 4, .inl fo12)), (dr, .inr (5, [.int 0, .int 0, .int 0, .int 0, .int 0, .ref o5, .ref o6, .ref o7, .ref o8, .ref o9, .ref o10, .ref o11, .ref o12]))] H := ⟨hP, hD⟩
  have hP := hPD.1
  have hD := hPD.2
  clear hPD
  refine lv_aload_n hx hb dX7_readText_12 rfl (lv_at hl 0 rfl) ?_
  refine lv_iconst (v := 0) hx hb dX7_readText_13 (by decide) ?_
  refine va_put (D := (dC, dI)) (ci := 7) (v := .int 0) (ty := .int) (C := RX7) (T := TX7) (N := 7) hx hb hts hi_X7 tyX7 tyX7_ok nmX7 hown hK hP hD hS 0 rfl rfl 6 (by decide) (hts (.fieldLink RX7 35 "LeftQuills$Reader" "fault" "I") (wmx 3 rfl)) (fun _ h9 => h9) rfl (by decide +kernel) rfl rfl (Nat.le_of_ble_eq_true rfl) dX7_readText_14 (fun H locs hP hD hS => ?_)
  have hPD : pdW (dC, dI) vwCl A [(h0, .inr (7, [.ref dr, .int fa, .ref nu, .ref le, .int (nI ln), .int 0, .int 0])), (hx9, .inl (cI, 220, .inl fhx)), (le, .inl (cI, 220, .inl fle)), (nu, .inl (cI, 5, .inl fnu)), (o5, .inl (cI, 8, .inl fo5)), (o6, .inl (cI, 8, .inl fo6)), (o7, .inl (cI, 8, .inl fo7)), (o8, .inl (cI, 8, .inl fo8)), (o9, .inl (cI, 8, .inl fo9)), (o10, .inl (cI, 4, .inl fo10)), (o11, .inl (cI, 4, .inl fo11)), (o12, .inl (cI, 4, .inl fo12)), (dr, .inr (5, [.int 0, .int 0, .int 0, .int 0, .int 0, .ref o5, .ref o6, .ref o7, .ref o8, .ref o9, .ref o10, .ref o11, .ref o12]))] H := ⟨hP, hD⟩
  have hP := hPD.1
  have hD := hPD.2
  clear hPD
  refine lv_aload_n hx hb dX7_readText_17 rfl (lv_at hl 0 rfl) ?_
  refine lv_iconst (v := (-1)) hx hb dX7_readText_18 (by decide) ?_
  refine va_put (D := (dC, dI)) (ci := 7) (v := .int (-1)) (ty := .int) (C := RX7) (T := TX7) (N := 7) hx hb hts hi_X7 tyX7 tyX7_ok nmX7 hown hK hP hD hS 0 rfl rfl 1 (by decide) (hts (.fieldLink RX7 18 "LeftQuills$Reader" "faultAt" "I") (wmx 4 rfl)) (fun _ h9 => h9) rfl (by decide +kernel) rfl rfl (Nat.le_of_ble_eq_true rfl) dX7_readText_19 (fun H locs hP hD hS => ?_)
  have hPD : pdW (dC, dI) vwCl A [(h0, .inr (7, [.ref dr, .int (-1), .ref nu, .ref le, .int (nI ln), .int 0, .int 0])), (hx9, .inl (cI, 220, .inl fhx)), (le, .inl (cI, 220, .inl fle)), (nu, .inl (cI, 5, .inl fnu)), (o5, .inl (cI, 8, .inl fo5)), (o6, .inl (cI, 8, .inl fo6)), (o7, .inl (cI, 8, .inl fo7)), (o8, .inl (cI, 8, .inl fo8)), (o9, .inl (cI, 8, .inl fo9)), (o10, .inl (cI, 4, .inl fo10)), (o11, .inl (cI, 4, .inl fo11)), (o12, .inl (cI, 4, .inl fo12)), (dr, .inr (5, [.int 0, .int 0, .int 0, .int 0, .int 0, .ref o5, .ref o6, .ref o7, .ref o8, .ref o9, .ref o10, .ref o11, .ref o12]))] H := ⟨hP, hD⟩
  have hP := hPD.1
  have hD := hPD.2
  clear hPD
  refine lv_aload_n hx hb dX7_readText_22 rfl (lv_at hl 0 rfl) ?_
  refine lv_iconst (v := 0) hx hb dX7_readText_23 (by decide) ?_
  refine lv_iload_n hx hb dX7_readText_24 rfl (lv_at hl 2 rfl) ?_
  refine lv_aload_n hx hb dX7_readText_25 rfl (lv_at hl 1 rfl) ?_
  refine va_alen (v := 220) hx hb hK hP 1 0 rfl rfl rfl dX7_readText_26 ?_
  refine lv_sipush (v := 220) hx hb dX7_readText_27 (by decide) ?_
  refine va_mmin hx hb (hml.trans hl.1.symm) hown (hts (.methodLink RX7 41 Lib.Math.min.name) (wmx 5 rfl)) (hts (.static Lib.Math.min.name) (wmx 6 rfl)) (hts (.initialized "java/lang/Math") (wmx 7 rfl)) (hts (.code Lib.Math.min.name Lib.Math.min.code 2 (some .int)) (wmx 8 rfl)) (Nat.le_of_ble_eq_true rfl) (Nat.le_of_ble_eq_true rfl) (Nat.le_of_ble_eq_true rfl) (Nat.le_of_ble_eq_true rfl) dX7_readText_30 ?_
  refine lv_topi (fun z14 ez14 => ?_)
  obtain rfl : z14 = 220 := ez14.trans (by decide)
  refine va_mmin hx hb (hml.trans hl.1.symm) hown (hts (.methodLink RX7 41 Lib.Math.min.name) (wmx 5 rfl)) (hts (.static Lib.Math.min.name) (wmx 6 rfl)) (hts (.initialized "java/lang/Math") (wmx 7 rfl)) (hts (.code Lib.Math.min.name Lib.Math.min.code 2 (some .int)) (wmx 8 rfl)) (Nat.le_of_ble_eq_true rfl) (Nat.le_of_ble_eq_true rfl) (Nat.le_of_ble_eq_true rfl) (Nat.le_of_ble_eq_true rfl) dX7_readText_33 ?_
  refine lv_topi (fun z15 ez15 => ?_)
  obtain rfl : z15 = nI (min tl 220) := ez15.trans (x_minN (a := tl) (b := 220) (by omega) (by omega))
  refine va_mmax hx hb (hml.trans hl.1.symm) hown (hts (.methodLink RX7 47 Lib.Math.max.name) (wmx 9 rfl)) (hts (.static Lib.Math.max.name) (wmx 10 rfl)) (hts (.initialized "java/lang/Math") (wmx 7 rfl)) (hts (.code Lib.Math.max.name Lib.Math.max.code 2 (some .int)) (wmx 11 rfl)) (Nat.le_of_ble_eq_true rfl) (Nat.le_of_ble_eq_true rfl) (Nat.le_of_ble_eq_true rfl) (Nat.le_of_ble_eq_true rfl) dX7_readText_36 ?_
  refine lv_topi (fun z16 ez16 => ?_)
  obtain rfl : z16 = nI (max 0 (min tl 220)) := ez16.trans (x_maxN (a := 0) (b := min tl 220) (by omega) (by omega))
  refine lv_topi (fun z17 ez17 => ?_)
  obtain rfl : z17 = nI tl := ez17.trans (by rw [show max 0 (min tl 220) = tl from by omega])
  refine va_put (D := (dC, dI)) (ci := 7) (v := .int (nI tl)) (ty := .int) (C := RX7) (T := TX7) (N := 7) hx hb hts hi_X7 tyX7 tyX7_ok nmX7 hown hK hP hD hS 0 rfl rfl 4 (by decide) (hts (.fieldLink RX7 29 "LeftQuills$Reader" "length" "I") (wmx 12 rfl)) (fun _ h9 => h9) rfl (by decide +kernel) rfl rfl (Nat.le_of_ble_eq_true rfl) dX7_readText_39 (fun H locs hP hD hS => ?_)
  have hPD : pdW (dC, dI) vwCl A [(h0, .inr (7, [.ref dr, .int (-1), .ref nu, .ref le, .int (nI tl), .int 0, .int 0])), (hx9, .inl (cI, 220, .inl fhx)), (le, .inl (cI, 220, .inl fle)), (nu, .inl (cI, 5, .inl fnu)), (o5, .inl (cI, 8, .inl fo5)), (o6, .inl (cI, 8, .inl fo6)), (o7, .inl (cI, 8, .inl fo7)), (o8, .inl (cI, 8, .inl fo8)), (o9, .inl (cI, 8, .inl fo9)), (o10, .inl (cI, 4, .inl fo10)), (o11, .inl (cI, 4, .inl fo11)), (o12, .inl (cI, 4, .inl fo12)), (dr, .inr (5, [.int 0, .int 0, .int 0, .int 0, .int 0, .ref o5, .ref o6, .ref o7, .ref o8, .ref o9, .ref o10, .ref o11, .ref o12]))] H := ⟨hP, hD⟩
  have hP := hPD.1
  have hD := hPD.2
  clear hPD
  refine lv_aload_n hx hb dX7_readText_42 rfl (lv_at hl 1 rfl) ?_
  refine lv_iconst (v := 0) hx hb dX7_readText_43 (by decide) ?_
  refine lv_aload_n hx hb dX7_readText_44 rfl (lv_at hl 0 rfl) ?_
  refine va_get (D := (dC, dI)) (ci := 7) (v := .ref le) (C := RX7) (T := TX7) (N := 7) hx hb hts hi_X7 hown hK hP 0 rfl rfl 3 (by decide) (hts (.fieldLink RX7 26 "LeftQuills$Reader" "letters" "[I") (wmx 13 rfl)) (fun _ h9 => h9) rfl dX7_readText_45 ?_
  refine lv_iconst (v := 0) hx hb dX7_readText_48 (by decide) ?_
  refine lv_aload_n hx hb dX7_readText_49 rfl (lv_at hl 0 rfl) ?_
  refine va_get (D := (dC, dI)) (ci := 7) (v := .int (nI tl)) (C := RX7) (T := TX7) (N := 7) hx hb hts hi_X7 hown hK hP 0 rfl rfl 4 (by decide) (hts (.fieldLink RX7 29 "LeftQuills$Reader" "length" "I") (wmx 12 rfl)) (fun _ h9 => h9) rfl dX7_readText_50 ?_
  refine va_copyi hx hb (hml.trans hl.1.symm) hown (hts (.methodLink RX7 50 arraycopyName) (wmx 14 rfl)) (hts (.native arraycopyName) (wmx 15 rfl)) (hts (.static arraycopyName) (wmx 16 rfl)) (hts (.initialized "java/lang/System") (wmx 17 rfl)) hK hP hD hS 1 2 0 0 rfl rfl rfl rfl rfl (by decide) (by decide) (nI_pos (n := tl) (by omega)) (by have e0 : ((0 : Int32)).toNatClampNeg = 0 := (by decide); have e1 := nI_clamp (n := tl) (by omega); omega) (by have e0 : ((0 : Int32)).toNatClampNeg = 0 := (by decide); have e1 := nI_clamp (n := tl) (by omega); omega) (fun _ _ => rfl) (Nat.le_of_ble_eq_true rfl) (Nat.le_of_ble_eq_true rfl) dX7_readText_53 (fun H locs hP hD hS => ?_)
  generalize hgf18 : va_cpy _ _ _ _ _ = f18 at hP hD
  have hPD : pdW (dC, dI) vwCl A [(h0, .inr (7, [.ref dr, .int (-1), .ref nu, .ref le, .int (nI tl), .int 0, .int 0])), (hx9, .inl (cI, 220, .inl fhx)), (le, .inl (cI, 220, .inl f18)), (nu, .inl (cI, 5, .inl fnu)), (o5, .inl (cI, 8, .inl fo5)), (o6, .inl (cI, 8, .inl fo6)), (o7, .inl (cI, 8, .inl fo7)), (o8, .inl (cI, 8, .inl fo8)), (o9, .inl (cI, 8, .inl fo9)), (o10, .inl (cI, 4, .inl fo10)), (o11, .inl (cI, 4, .inl fo11)), (o12, .inl (cI, 4, .inl fo12)), (dr, .inr (5, [.int 0, .int 0, .int 0, .int 0, .int 0, .ref o5, .ref o6, .ref o7, .ref o8, .ref o9, .ref o10, .ref o11, .ref o12]))] H := ⟨hP, hD⟩
  have hP := hPD.1
  have hD := hPD.2
  clear hPD
  have hT9 : ∀ j, j < tl → f18 j = T0 j := fun j hj => by rw [← hgf18]; exact (cpy_lt (by decide) (by decide) (nI_clamp (n := tl) (by omega)) hj).trans (hT j hj)
  refine lv_iconst (v := 0) hx hb dX7_readText_56 (by decide) ?_
  refine lv_istore_n (lv' := [(3, .int 0), (0, .ref h0), (1, .ref hx9), (2, .int (nI tl))]) hx hb dX7_readText_57 rfl hl (by decide) rfl (fun ls hl => ?_)
  refine (fun (K : ∀ (d58 : Nat) (k58 : Nat) (f58_nu : Nat → Int32) (f58_o5 : Nat → Int32) (f58_o6 : Nat → Int32) (f58_o7 : Nat → Int32) (f58_o8 : Nat → Int32) (f58_o9 : Nat → Int32) (f58_o10 : Nat → Int32) (f58_o11 : Nat → Int32) (f58_o12 : Nat → Int32) (v58_h0_1 : Int32) (v58_h0_6 : Int32) (v58_dr_1 : Int32) (v58_dr_2 : Int32) (v58_h0_5 : Nat) (v58_dr_0 : Nat) (v58_dr_3 : Nat) (v58_dr_4 : Nat) (y58 : RS) (H : Heap) (locs : List Loc) (ls : Array Slot), k58 + d58 = tl + 1 → v58_h0_5 ≤ tl → v58_dr_0 ≤ 1 → v58_dr_3 ≤ 8 → v58_dr_4 ≤ 4 → cRel y58 v58_h0_6 v58_h0_1 v58_h0_5 v58_dr_0 v58_dr_1 v58_dr_2 v58_dr_3 v58_dr_4 (x8 f58_o5 f58_o6 f58_o7 f58_o8 f58_o9 f58_o10 f58_o11 f58_o12) → rdT T0 tl (tl + 1 - k58) y58 = rdT T0 tl (tl + 1) rs0 → va_P (dC, dI) vwCl [(h0, .inr (7, [.ref dr, .int v58_h0_1, .ref nu, .ref le, .int (nI tl), .int (nI v58_h0_5), .int v58_h0_6])), (hx9, .inl (cI, 220, .inl fhx)), (le, .inl (cI, 220, .inl f18)), (nu, .inl (cI, 5, .inl f58_nu)), (o5, .inl (cI, 8, .inl f58_o5)), (o6, .inl (cI, 8, .inl f58_o6)), (o7, .inl (cI, 8, .inl f58_o7)), (o8, .inl (cI, 8, .inl f58_o8)), (o9, .inl (cI, 8, .inl f58_o9)), (o10, .inl (cI, 4, .inl f58_o10)), (o11, .inl (cI, 4, .inl f58_o11)), (o12, .inl (cI, 4, .inl f58_o12)), (dr, .inr (5, [.int (nI v58_dr_0), .int v58_dr_1, .int v58_dr_2, .int (nI v58_dr_3), .int (nI v58_dr_4), .ref o5, .ref o6, .ref o7, .ref o8, .ref o9, .ref o10, .ref o11, .ref o12]))] H → va_D A [(h0, .inr (7, [.ref dr, .int v58_h0_1, .ref nu, .ref le, .int (nI tl), .int (nI v58_h0_5), .int v58_h0_6])), (hx9, .inl (cI, 220, .inl fhx)), (le, .inl (cI, 220, .inl f18)), (nu, .inl (cI, 5, .inl f58_nu)), (o5, .inl (cI, 8, .inl f58_o5)), (o6, .inl (cI, 8, .inl f58_o6)), (o7, .inl (cI, 8, .inl f58_o7)), (o8, .inl (cI, 8, .inl f58_o8)), (o9, .inl (cI, 8, .inl f58_o9)), (o10, .inl (cI, 4, .inl f58_o10)), (o11, .inl (cI, 4, .inl f58_o11)), (o12, .inl (cI, 4, .inl f58_o12)), (dr, .inr (5, [.int (nI v58_dr_0), .int v58_dr_1, .int v58_dr_2, .int (nI v58_dr_3), .int (nI v58_dr_4), .ref o5, .ref o6, .ref o7, .ref o8, .ref o9, .ref o10, .ref o11, .ref o12]))] → va_S A s.heap H locs → lv_has ls 4 [(3, .int (nI k58)), (0, .ref h0), (1, .ref hx9), (2, .int (nI tl))] → W p l e _ s m _ below meth c H locs _ _ _ (F0 m 58 ls [])) => K (tl + 1) 0 fnu fo5 fo6 fo7 fo8 fo9 fo10 fo11 fo12 (-1) 0 0 0 0 0 0 0 rs0 _ _ _ (by omega) (by omega) (by omega) (by omega) (by omega) (cr_0 rfl) rfl hP hD hS (lv_sub hl [0, 1, 2, 3] rfl)) ?_
  intro d58
  induction d58 with
  | zero =>
    intro k58 f58_nu f58_o5 f58_o6 f58_o7 f58_o8 f58_o9 f58_o10 f58_o11 f58_o12 v58_h0_1 v58_h0_6 v58_dr_1 v58_dr_2 v58_h0_5 v58_dr_0 v58_dr_3 v58_dr_4 y58 H locs ls hk58 hA58 hS58 hQ58 hH58 hc58 hy58 hP hD hS hl
    refine lv_iload_n hx hb dX7_readText_58 rfl (lv_at hl 0 rfl) ?_
    refine lv_aload_n hx hb dX7_readText_59 rfl (lv_at hl 1 rfl) ?_
    refine va_get (D := (dC, dI)) (ci := 7) (v := .int (nI tl)) (C := RX7) (T := TX7) (N := 7) hx hb hts hi_X7 hown hK hP 0 rfl rfl 4 (by decide) (hts (.fieldLink RX7 29 "LeftQuills$Reader" "length" "I") (wmx 12 rfl)) (fun _ h9 => h9) rfl dX7_readText_60 ?_
    refine lv_icmp_gt (tgt := 101) hx hb dX7_readText_63 (by decide) (fun c19 => ?_) (fun c19 => ?_)
    ·
      have c19 : tl < k58 := (nI_ltI (a := tl) (b := k58) (by omega) (by omega)).mp c19
      have hy9 : rdT T0 tl (tl + 1) rs0 = y58 := by rw [← hy58, show tl + 1 - k58 = 0 from by omega]; rfl
      refine lv_aload_n hx hb dX7_readText_101 rfl (lv_at hl 1 rfl) ?_
      refine va_get (D := (dC, dI)) (ci := 7) (v := .int v58_h0_6) (C := RX7) (T := TX7) (N := 7) hx hb hts hi_X7 hown hK hP 0 rfl rfl 6 (by decide) (hts (.fieldLink RX7 35 "LeftQuills$Reader" "fault" "I") (wmx 3 rfl)) (fun _ h9 => h9) rfl dX7_readText_102 ?_
      have hP9 := hP.sub (ws' := [(h0, .inr (7, [.ref dr, .int v58_h0_1, .ref nu, .ref le, .int (nI tl), .int (nI v58_h0_5), .int v58_h0_6])), (hx9, .inl (cI, 220, .inl fhx)), (le, .inl (cI, 220, .inl f18)), (nu, .inl (cI, 5, .inl f58_nu)), (dr, .inr (5, [.int (nI v58_dr_0), .int v58_dr_1, .int v58_dr_2, .int (nI v58_dr_3), .int (nI v58_dr_4), .ref o5, .ref o6, .ref o7, .ref o8, .ref o9, .ref o10, .ref o11, .ref o12])), (o5, .inl (cI, 8, .inl f58_o5)), (o6, .inl (cI, 8, .inl f58_o6)), (o7, .inl (cI, 8, .inl f58_o7)), (o8, .inl (cI, 8, .inl f58_o8)), (o9, .inl (cI, 8, .inl f58_o9)), (o10, .inl (cI, 4, .inl f58_o10)), (o11, .inl (cI, 4, .inl f58_o11)), (o12, .inl (cI, 4, .inl f58_o12))]) [0, 1, 2, 3, 12, 4, 5, 6, 7, 8, 9, 10, 11] rfl
      have hD9 := hD.sub (ws' := [(h0, .inr (7, [.ref dr, .int v58_h0_1, .ref nu, .ref le, .int (nI tl), .int (nI v58_h0_5), .int v58_h0_6])), (hx9, .inl (cI, 220, .inl fhx)), (le, .inl (cI, 220, .inl f18)), (nu, .inl (cI, 5, .inl f58_nu)), (dr, .inr (5, [.int (nI v58_dr_0), .int v58_dr_1, .int v58_dr_2, .int (nI v58_dr_3), .int (nI v58_dr_4), .ref o5, .ref o6, .ref o7, .ref o8, .ref o9, .ref o10, .ref o11, .ref o12])), (o5, .inl (cI, 8, .inl f58_o5)), (o6, .inl (cI, 8, .inl f58_o6)), (o7, .inl (cI, 8, .inl f58_o7)), (o8, .inl (cI, 8, .inl f58_o8)), (o9, .inl (cI, 8, .inl f58_o9)), (o10, .inl (cI, 4, .inl f58_o10)), (o11, .inl (cI, 4, .inl f58_o11)), (o12, .inl (cI, 4, .inl f58_o12))]) [0, 1, 2, 3, 12, 4, 5, 6, 7, 8, 9, 10, 11] (by decide +kernel) rfl
      exact W.iret (v := v58_h0_6) hx hb hr (fun t ht hW => ⟨⟨v58_h0_6, (fun _ => 0), rfl, (fr_fu (by rw [hy9]; exact cf hc58)), ⟨f18, f58_nu, f58_o5, f58_o6, f58_o7, f58_o8, f58_o9, f58_o10, f58_o11, f58_o12, v58_h0_1, v58_h0_6, v58_dr_1, v58_dr_2, tl, v58_h0_5, v58_dr_0, v58_dr_3, v58_dr_4, by omega, by omega, by omega, by omega, by omega, (by rw [hy9]; exact cf hc58), va_hq ht hP9, hD9⟩⟩, hS.F ht⟩) hS.2.2 dX7_readText_105
    ·
      have c19 : ¬ tl < k58 := fun h => c19 ((nI_ltI (a := tl) (b := k58) (by omega) (by omega)).mpr h)
      omega
  | succ d58 ih58 =>
    intro k58 f58_nu f58_o5 f58_o6 f58_o7 f58_o8 f58_o9 f58_o10 f58_o11 f58_o12 v58_h0_1 v58_h0_6 v58_dr_1 v58_dr_2 v58_h0_5 v58_dr_0 v58_dr_3 v58_dr_4 y58 H locs ls hk58 hA58 hS58 hQ58 hH58 hc58 hy58 hP hD hS hl
    refine lv_iload_n hx hb dX7_readText_58 rfl (lv_at hl 0 rfl) ?_
    refine lv_aload_n hx hb dX7_readText_59 rfl (lv_at hl 1 rfl) ?_
    refine va_get (D := (dC, dI)) (ci := 7) (v := .int (nI tl)) (C := RX7) (T := TX7) (N := 7) hx hb hts hi_X7 hown hK hP 0 rfl rfl 4 (by decide) (hts (.fieldLink RX7 29 "LeftQuills$Reader" "length" "I") (wmx 12 rfl)) (fun _ h9 => h9) rfl dX7_readText_60 ?_
    refine lv_icmp_gt (tgt := 101) hx hb dX7_readText_63 (by decide) (fun c20 => ?_) (fun c20 => ?_)
    ·
      have c20 : tl < k58 := (nI_ltI (a := tl) (b := k58) (by omega) (by omega)).mp c20
      omega
    ·
      have c20 : ¬ tl < k58 := fun h => c20 ((nI_ltI (a := tl) (b := k58) (by omega) (by omega)).mpr h)
      refine lv_aload_n hx hb dX7_readText_66 rfl (lv_at hl 1 rfl) ?_
      have hc9 := va_cut (W' := [(h0, .inr (7, [.ref dr, .int v58_h0_1, .ref nu, .ref le, .int (nI tl), .int (nI v58_h0_5), .int v58_h0_6])), (le, .inl (cI, 220, .inl f18))]) hP hD hS hA [0, 2] (by decide) rfl
      have hPc := hc9.1
      have hDc := hc9.2.1
      have hFc := hc9.2.2
      clear hc9
      refine va_callv (va_runV (As := []) (rest := []) ⟨hx, hb, hml, hown, hts⟩ (c_X7_skipBlanksF l dC dI cI cZ cQ h0 dr v58_h0_1 nu le tl v58_h0_5 v58_h0_6 f18 T0 H.size (by omega) (by omega) hT9) (cwV 0 hts gX7_readText_X7_skipBlanks rfl rfl rfl hd_X7_skipBlanks_RX7 ⟨Nat.le_of_ble_eq_true rfl, Nat.le_of_ble_eq_true rfl⟩) (pv_D (va_recv hK hP (ci := 7) (q0 := 0) rfl rfl) hK hPc hDc) rfl rfl hl.1 rfl (lv_room (Nat.le_of_ble_eq_true rfl)) dX7_readText_67 ⟨Nat.le_of_ble_eq_true rfl, Nat.le_of_ble_eq_true rfl⟩) hS (fun q _ h => hFc q h) hFc (fun u22 t H1 locs ht hvm hw23 hB hz1 hk1 hS => ?_)
      obtain ⟨k24, hk24, he25, hP1, hD1⟩ := hB
      replace hP1 := va_hp ht hP1
      obtain ⟨hP, hD⟩ := va_join (wr := [(hx9, .inl (cI, 220, .inl fhx)), (nu, .inl (cI, 5, .inl f58_nu)), (o5, .inl (cI, 8, .inl f58_o5)), (o6, .inl (cI, 8, .inl f58_o6)), (o7, .inl (cI, 8, .inl f58_o7)), (o8, .inl (cI, 8, .inl f58_o8)), (o9, .inl (cI, 8, .inl f58_o9)), (o10, .inl (cI, 4, .inl f58_o10)), (o11, .inl (cI, 4, .inl f58_o11)), (o12, .inl (cI, 4, .inl f58_o12)), (dr, .inr (5, [.int (nI v58_dr_0), .int v58_dr_1, .int v58_dr_2, .int (nI v58_dr_3), .int (nI v58_dr_4), .ref o5, .ref o6, .ref o7, .ref o8, .ref o9, .ref o10, .ref o11, .ref o12]))]) (w1 := [(h0, .inr (7, [.ref dr, .int v58_h0_1, .ref nu, .ref le, .int (nI tl), .int (nI k24), .int v58_h0_6])), (le, .inl (cI, 220, .inl f18))]) hP hD [0, 2] [1, 3, 4, 5, 6, 7, 8, 9, 10, 11, 12] rfl rfl (by decide +kernel) (by decide +kernel) hk1 hFc hP1 hD1
      clear hP1 hD1
      clear hz1 hk1 hPc hDc hFc
      generalize H1 = H at hP hS ht ⊢
      have hPD : pdW (dC, dI) vwCl A [(hx9, .inl (cI, 220, .inl fhx)), (nu, .inl (cI, 5, .inl f58_nu)), (o5, .inl (cI, 8, .inl f58_o5)), (o6, .inl (cI, 8, .inl f58_o6)), (o7, .inl (cI, 8, .inl f58_o7)), (o8, .inl (cI, 8, .inl f58_o8)), (o9, .inl (cI, 8, .inl f58_o9)), (o10, .inl (cI, 4, .inl f58_o10)), (o11, .inl (cI, 4, .inl f58_o11)), (o12, .inl (cI, 4, .inl f58_o12)), (dr, .inr (5, [.int (nI v58_dr_0), .int v58_dr_1, .int v58_dr_2, .int (nI v58_dr_3), .int (nI v58_dr_4), .ref o5, .ref o6, .ref o7, .ref o8, .ref o9, .ref o10, .ref o11, .ref o12])), (h0, .inr (7, [.ref dr, .int v58_h0_1, .ref nu, .ref le, .int (nI tl), .int (nI k24), .int v58_h0_6])), (le, .inl (cI, 220, .inl f18))] H := ⟨hP, hD⟩
      have hP := hPD.1
      have hD := hPD.2
      clear hPD
      try dsimp only at hw23
      refine lv_aload_n hx hb dX7_readText_70 rfl (lv_at hl 1 rfl) ?_
      refine va_get (D := (dC, dI)) (ci := 7) (v := .int v58_h0_6) (C := RX7) (T := TX7) (N := 7) hx hb hts hi_X7 hown hK hP 11 rfl rfl 6 (by decide) (hts (.fieldLink RX7 35 "LeftQuills$Reader" "fault" "I") (wmx 3 rfl)) (fun _ h9 => h9) rfl dX7_readText_71 ?_
      refine lv_if_ne (tgt := 101) hx hb dX7_readText_74 (by decide) (fun c26 => ?_) (fun c26 => ?_)
      ·
        have hy9 : rdT T0 tl (tl + 1) rs0 = y58 := hy58.symm.trans (rdT_stop (Or.inl (cr_no hc58 c26)))
        refine lv_aload_n hx hb dX7_readText_101 rfl (lv_at hl 1 rfl) ?_
        refine va_get (D := (dC, dI)) (ci := 7) (v := .int v58_h0_6) (C := RX7) (T := TX7) (N := 7) hx hb hts hi_X7 hown hK hP 11 rfl rfl 6 (by decide) (hts (.fieldLink RX7 35 "LeftQuills$Reader" "fault" "I") (wmx 3 rfl)) (fun _ h9 => h9) rfl dX7_readText_102 ?_
        have hP9 := hP.sub (ws' := [(h0, .inr (7, [.ref dr, .int v58_h0_1, .ref nu, .ref le, .int (nI tl), .int (nI k24), .int v58_h0_6])), (hx9, .inl (cI, 220, .inl fhx)), (le, .inl (cI, 220, .inl f18)), (nu, .inl (cI, 5, .inl f58_nu)), (dr, .inr (5, [.int (nI v58_dr_0), .int v58_dr_1, .int v58_dr_2, .int (nI v58_dr_3), .int (nI v58_dr_4), .ref o5, .ref o6, .ref o7, .ref o8, .ref o9, .ref o10, .ref o11, .ref o12])), (o5, .inl (cI, 8, .inl f58_o5)), (o6, .inl (cI, 8, .inl f58_o6)), (o7, .inl (cI, 8, .inl f58_o7)), (o8, .inl (cI, 8, .inl f58_o8)), (o9, .inl (cI, 8, .inl f58_o9)), (o10, .inl (cI, 4, .inl f58_o10)), (o11, .inl (cI, 4, .inl f58_o11)), (o12, .inl (cI, 4, .inl f58_o12))]) [11, 0, 12, 1, 10, 2, 3, 4, 5, 6, 7, 8, 9] rfl
        have hD9 := hD.sub (ws' := [(h0, .inr (7, [.ref dr, .int v58_h0_1, .ref nu, .ref le, .int (nI tl), .int (nI k24), .int v58_h0_6])), (hx9, .inl (cI, 220, .inl fhx)), (le, .inl (cI, 220, .inl f18)), (nu, .inl (cI, 5, .inl f58_nu)), (dr, .inr (5, [.int (nI v58_dr_0), .int v58_dr_1, .int v58_dr_2, .int (nI v58_dr_3), .int (nI v58_dr_4), .ref o5, .ref o6, .ref o7, .ref o8, .ref o9, .ref o10, .ref o11, .ref o12])), (o5, .inl (cI, 8, .inl f58_o5)), (o6, .inl (cI, 8, .inl f58_o6)), (o7, .inl (cI, 8, .inl f58_o7)), (o8, .inl (cI, 8, .inl f58_o8)), (o9, .inl (cI, 8, .inl f58_o9)), (o10, .inl (cI, 4, .inl f58_o10)), (o11, .inl (cI, 4, .inl f58_o11)), (o12, .inl (cI, 4, .inl f58_o12))]) [11, 0, 12, 1, 10, 2, 3, 4, 5, 6, 7, 8, 9] (by decide +kernel) rfl
        exact W.iret (v := v58_h0_6) hx hb hr (fun t ht hW => ⟨⟨v58_h0_6, (fun _ => 0), rfl, (fr_fu (by rw [hy9]; exact cf hc58)), ⟨f18, f58_nu, f58_o5, f58_o6, f58_o7, f58_o8, f58_o9, f58_o10, f58_o11, f58_o12, v58_h0_1, v58_h0_6, v58_dr_1, v58_dr_2, tl, k24, v58_dr_0, v58_dr_3, v58_dr_4, by omega, by omega, by omega, by omega, by omega, (by rw [hy9]; exact cf hc58), va_hq ht hP9, hD9⟩⟩, hS.F ht⟩) hS.2.2 dX7_readText_105
      ·
        refine lv_aload_n hx hb dX7_readText_77 rfl (lv_at hl 1 rfl) ?_
        refine va_get (D := (dC, dI)) (ci := 7) (v := .int (nI k24)) (C := RX7) (T := TX7) (N := 7) hx hb hts hi_X7 hown hK hP 11 rfl rfl 5 (by decide) (hts (.fieldLink RX7 32 "LeftQuills$Reader" "at" "I") (wmx 2 rfl)) (fun _ h9 => h9) rfl dX7_readText_78 ?_
        refine lv_aload_n hx hb dX7_readText_81 rfl (lv_at hl 1 rfl) ?_
        refine va_get (D := (dC, dI)) (ci := 7) (v := .int (nI tl)) (C := RX7) (T := TX7) (N := 7) hx hb hts hi_X7 hown hK hP 11 rfl rfl 4 (by decide) (hts (.fieldLink RX7 29 "LeftQuills$Reader" "length" "I") (wmx 12 rfl)) (fun _ h9 => h9) rfl dX7_readText_82 ?_
        refine lv_icmp_lt (tgt := 91) hx hb dX7_readText_85 (by decide) (fun c27 => ?_) (fun c27 => ?_)
        ·
          have c27 : k24 < tl := (nI_ltI (a := k24) (b := tl) (by omega) (by omega)).mp c27
          have hcy := cr_yes hc58 c26
          have hgo : ¬ (y58.1 0 ≠ 0 ∨ tl ≤ sk T0 tl (y58.1 2)) := by rw [← hcy.2.2.1, ← he25]; exact fun h9 => h9.elim (fun h8 => h8 hcy.1) (fun h8 => absurd h8 (by omega))
          have hx2 : k24 = (skT T0 tl y58).1 2 := he25.trans (congrArg (sk T0 tl) hcy.2.2.1)
          refine lv_aload_n hx hb dX7_readText_91 rfl (lv_at hl 1 rfl) ?_
          have hc9 := va_cut (W' := [(h0, .inr (7, [.ref dr, .int v58_h0_1, .ref nu, .ref le, .int (nI tl), .int (nI k24), .int v58_h0_6])), (le, .inl (cI, 220, .inl f18)), (nu, .inl (cI, 5, .inl f58_nu)), (dr, .inr (5, [.int (nI v58_dr_0), .int v58_dr_1, .int v58_dr_2, .int (nI v58_dr_3), .int (nI v58_dr_4), .ref o5, .ref o6, .ref o7, .ref o8, .ref o9, .ref o10, .ref o11, .ref o12])), (o5, .inl (cI, 8, .inl f58_o5)), (o6, .inl (cI, 8, .inl f58_o6)), (o7, .inl (cI, 8, .inl f58_o7)), (o8, .inl (cI, 8, .inl f58_o8)), (o9, .inl (cI, 8, .inl f58_o9)), (o10, .inl (cI, 4, .inl f58_o10)), (o11, .inl (cI, 4, .inl f58_o11)), (o12, .inl (cI, 4, .inl f58_o12))]) hP hD hS hA [11, 12, 1, 10, 2, 3, 4, 5, 6, 7, 8, 9] (by decide) rfl
          have hPc := hc9.1
          have hDc := hc9.2.1
          have hFc := hc9.2.2
          clear hc9
          refine va_callv (va_runV (As := []) (rest := []) ⟨hx, hb, hml, hown, hts⟩ (c_X7_readClauseF l dC dI cI cZ cQ h0 dr v58_h0_1 nu le tl k24 v58_h0_6 f18 f58_nu v58_dr_0 v58_dr_1 v58_dr_2 v58_dr_3 v58_dr_4 o5 o6 o7 o8 o9 o10 o11 o12 f58_o5 f58_o6 f58_o7 f58_o8 f58_o9 f58_o10 f58_o11 f58_o12 (skT T0 tl y58) T0 H.size (by omega) (by omega) (by omega) (by omega) (by omega) hT9 hcy.1 hx2 c26 hcy.2.1 hcy.2.2.2) (cwV 0 hts gX7_readText_X7_readClause rfl rfl rfl hd_X7_readClause_RX7 ⟨Nat.le_of_ble_eq_true rfl, Nat.le_of_ble_eq_true rfl⟩) ⟨fun a U g mk q => by obtain ⟨q0, q1, qP, qK, qD, qN, qXS⟩ := q; exact ⟨q0, q1, qP, va_K.moved (u := U) (U := U.calling g mk a) (Vm.Alike.refl U.vm) qK, qD, qN.calling, xS.moved (u := U) (Vm.Alike.refl U.vm) qXS⟩, va_recv hK hP (ci := 7) (q0 := 11) rfl rfl, fun U hU hW => ⟨rfl, by rw [hU], by rw [hU]; exact hPc, va_K.moved hW.alike hK, hDc.weaken (fun _ _ _ _ => trivial), hN.warm hW, by rw [hU]; exact xS.moved hW.alike (xS.narrow (xS.kept hXS hS.2.1) hFc)⟩⟩ rfl rfl hl.1 rfl (lv_room (Nat.le_of_ble_eq_true rfl)) dX7_readText_92 ⟨Nat.le_of_ble_eq_true rfl, Nat.le_of_ble_eq_true rfl⟩) hS (fun q _ h => hFc q h) hFc (fun u29 t H1 locs ht hvm hw30 hB hz1 hk1 hS => ?_)
          obtain ⟨f31, f32, f33, f34, f35, f36, f37, f38, f39, i40, i42, i44, i45, k41, k43, k46, k47, hk41, hk43, hk46, hk47, he48, hP1, hD1⟩ := hB
          replace hP1 := va_hp ht hP1
          obtain ⟨hP, hD⟩ := va_join (wr := [(hx9, .inl (cI, 220, .inl fhx))]) (w1 := [(h0, .inr (7, [.ref dr, .int i40, .ref nu, .ref le, .int (nI tl), .int (nI k41), .int i42])), (le, .inl (cI, 220, .inl f18)), (nu, .inl (cI, 5, .inl f31)), (dr, .inr (5, [.int (nI k43), .int i44, .int i45, .int (nI k46), .int (nI k47), .ref o5, .ref o6, .ref o7, .ref o8, .ref o9, .ref o10, .ref o11, .ref o12])), (o5, .inl (cI, 8, .inl f32)), (o6, .inl (cI, 8, .inl f33)), (o7, .inl (cI, 8, .inl f34)), (o8, .inl (cI, 8, .inl f35)), (o9, .inl (cI, 8, .inl f36)), (o10, .inl (cI, 4, .inl f37)), (o11, .inl (cI, 4, .inl f38)), (o12, .inl (cI, 4, .inl f39))]) hP hD [11, 12, 1, 10, 2, 3, 4, 5, 6, 7, 8, 9] [0] rfl rfl (by decide +kernel) (by decide +kernel) hk1 hFc hP1 hD1
          clear hP1 hD1
          clear hz1 hk1 hPc hDc hFc
          generalize H1 = H at hP hS ht ⊢
          have hPD : pdW (dC, dI) vwCl A [(hx9, .inl (cI, 220, .inl fhx)), (h0, .inr (7, [.ref dr, .int i40, .ref nu, .ref le, .int (nI tl), .int (nI k41), .int i42])), (le, .inl (cI, 220, .inl f18)), (nu, .inl (cI, 5, .inl f31)), (dr, .inr (5, [.int (nI k43), .int i44, .int i45, .int (nI k46), .int (nI k47), .ref o5, .ref o6, .ref o7, .ref o8, .ref o9, .ref o10, .ref o11, .ref o12])), (o5, .inl (cI, 8, .inl f32)), (o6, .inl (cI, 8, .inl f33)), (o7, .inl (cI, 8, .inl f34)), (o8, .inl (cI, 8, .inl f35)), (o9, .inl (cI, 8, .inl f36)), (o10, .inl (cI, 4, .inl f37)), (o11, .inl (cI, 4, .inl f38)), (o12, .inl (cI, 4, .inl f39))] H := ⟨hP, hD⟩
          have hP := hPD.1
          have hD := hPD.2
          clear hPD
          try dsimp only at hw30
          refine lv_iinc (v := nI (k58 + 1)) (lv' := [(3, .int (nI (k58 + 1))), (0, .ref h0), (1, .ref hx9), (2, .int (nI tl))]) hx hb dX7_readText_95 hl (k := 0) rfl ((rfl : nI k58 + Int32.ofInt 1 = nI k58 + 1).trans (nI_add k58 1)) (by decide) rfl (fun ls hl => ?_)
          refine lv_goto (tgt := 58) hx hb dX7_readText_98 (by decide) ?_
          exact ih58 (k58 + 1) f31 f32 f33 f34 f35 f36 f37 f38 f39 i40 i42 i44 i45 k41 k43 k46 k47 (clT T0 tl (skT T0 tl y58)) _ _ _ (by omega) (by omega) (by omega) (by omega) (by omega) he48 ((rdT_step (by omega) hgo).trans hy58) (hP.sub [1, 0, 2, 3, 5, 6, 7, 8, 9, 10, 11, 12, 4] rfl) (hD.sub [1, 0, 2, 3, 5, 6, 7, 8, 9, 10, 11, 12, 4] (by decide +kernel) rfl) hS (lv_sub hl [0, 1, 2, 3] rfl)
        ·
          have c27 : ¬ k24 < tl := fun h => c27 ((nI_ltI (a := k24) (b := tl) (by omega) (by omega)).mpr h)
          refine lv_goto (tgt := 101) hx hb dX7_readText_88 (by decide) ?_
          have hcy := cr_yes hc58 c26
          have hy9 : rdT T0 tl (tl + 1) rs0 = y58 := hy58.symm.trans (rdT_stop (Or.inr (by rw [← hcy.2.2.1, ← he25]; omega)))
          refine lv_aload_n hx hb dX7_readText_101 rfl (lv_at hl 1 rfl) ?_
          refine va_get (D := (dC, dI)) (ci := 7) (v := .int v58_h0_6) (C := RX7) (T := TX7) (N := 7) hx hb hts hi_X7 hown hK hP 11 rfl rfl 6 (by decide) (hts (.fieldLink RX7 35 "LeftQuills$Reader" "fault" "I") (wmx 3 rfl)) (fun _ h9 => h9) rfl dX7_readText_102 ?_
          have hP9 := hP.sub (ws' := [(h0, .inr (7, [.ref dr, .int v58_h0_1, .ref nu, .ref le, .int (nI tl), .int (nI k24), .int v58_h0_6])), (hx9, .inl (cI, 220, .inl fhx)), (le, .inl (cI, 220, .inl f18)), (nu, .inl (cI, 5, .inl f58_nu)), (dr, .inr (5, [.int (nI v58_dr_0), .int v58_dr_1, .int v58_dr_2, .int (nI v58_dr_3), .int (nI v58_dr_4), .ref o5, .ref o6, .ref o7, .ref o8, .ref o9, .ref o10, .ref o11, .ref o12])), (o5, .inl (cI, 8, .inl f58_o5)), (o6, .inl (cI, 8, .inl f58_o6)), (o7, .inl (cI, 8, .inl f58_o7)), (o8, .inl (cI, 8, .inl f58_o8)), (o9, .inl (cI, 8, .inl f58_o9)), (o10, .inl (cI, 4, .inl f58_o10)), (o11, .inl (cI, 4, .inl f58_o11)), (o12, .inl (cI, 4, .inl f58_o12))]) [11, 0, 12, 1, 10, 2, 3, 4, 5, 6, 7, 8, 9] rfl
          have hD9 := hD.sub (ws' := [(h0, .inr (7, [.ref dr, .int v58_h0_1, .ref nu, .ref le, .int (nI tl), .int (nI k24), .int v58_h0_6])), (hx9, .inl (cI, 220, .inl fhx)), (le, .inl (cI, 220, .inl f18)), (nu, .inl (cI, 5, .inl f58_nu)), (dr, .inr (5, [.int (nI v58_dr_0), .int v58_dr_1, .int v58_dr_2, .int (nI v58_dr_3), .int (nI v58_dr_4), .ref o5, .ref o6, .ref o7, .ref o8, .ref o9, .ref o10, .ref o11, .ref o12])), (o5, .inl (cI, 8, .inl f58_o5)), (o6, .inl (cI, 8, .inl f58_o6)), (o7, .inl (cI, 8, .inl f58_o7)), (o8, .inl (cI, 8, .inl f58_o8)), (o9, .inl (cI, 8, .inl f58_o9)), (o10, .inl (cI, 4, .inl f58_o10)), (o11, .inl (cI, 4, .inl f58_o11)), (o12, .inl (cI, 4, .inl f58_o12))]) [11, 0, 12, 1, 10, 2, 3, 4, 5, 6, 7, 8, 9] (by decide +kernel) rfl
          exact W.iret (v := v58_h0_6) hx hb hr (fun t ht hW => ⟨⟨v58_h0_6, (fun _ => 0), rfl, (fr_fu (by rw [hy9]; exact cf hc58)), ⟨f18, f58_nu, f58_o5, f58_o6, f58_o7, f58_o8, f58_o9, f58_o10, f58_o11, f58_o12, v58_h0_1, v58_h0_6, v58_dr_1, v58_dr_2, tl, k24, v58_dr_0, v58_dr_3, v58_dr_4, by omega, by omega, by omega, by omega, by omega, (by rw [hy9]; exact cf hc58), va_hq ht hP9, hD9⟩⟩, hS.F ht⟩) hS.2.2 dX7_readText_105
