set_option maxHeartbeats 4000000 in
set_option maxRecDepth 100000 in
theorem c_X2_addF (l : Launch) (dC : Nat → ClassId) (dI : Nat → Nat → Nat) (cI cZ cQ : ClassId) (h0 : Nat) (n : Nat) (ho : Nat) (e2 : Nat) (e3 : Nat) (e4 : Nat) (fe2 : Nat → Int32) (fe3 : Nat → Int32) (fe4 : Nat → Int32) (j : Nat) (a0 : Int32) (a1 : Int32) (sz : Nat) (hn : n < 6) (hj : j < 8) (hqi : qIn fe2 n) : Met l yX2_add wsX2_add ({ frames := 0, cells := 0, slots := 0, locals := 40 }) (va_Pc [.ref h0, .int (nI j), .int a0, .int a1] (fun U => U.heap.size = sz ∧ va_P (dC, dI) vwCl [(h0, .inr (2, [.int (nI n), .ref ho, .ref e2, .ref e3, .ref e4])), (e2, .inl (cI, 6, .inl fe2)), (e3, .inl (cI, 6, .inl fe3)), (e4, .inl (cI, 6, .inl fe4))] U.heap ∧ va_K (dC, dI) vwCl (tys0 cI cZ cQ) U ∧ va_D (fun _ => True) [(h0, .inr (2, [.int (nI n), .ref ho, .ref e2, .ref e3, .ref e4])), (e2, .inl (cI, 6, .inl fe2)), (e3, .inl (cI, 6, .inl fe3)), (e4, .inl (cI, 6, .inl fe4))])) (va_Qv (fun (u : Nat → Nat) => True) (fun (_ : Nat → Nat) (t : State) => ∃ (gg0 gg1 gg2 : Nat → Int32) (kk0 : Nat), kk0 ≤ 6 ∧ (qIn gg0 kk0) ∧ (kk0 = n + 1) ∧ va_P (dC, dI) vwCl [(h0, .inr (2, [.int (nI kk0), .ref ho, .ref e2, .ref e3, .ref e4])), (e2, .inl (cI, 6, .inl gg0)), (e3, .inl (cI, 6, .inl gg1)), (e4, .inl (cI, 6, .inl gg2))] t.heap ∧ va_D (va_A [(h0, .inr (2, [.int (nI n), .ref ho, .ref e2, .ref e3, .ref e4])), (e2, .inl (cI, 6, .inl fe2)), (e3, .inl (cI, 6, .inl fe3)), (e4, .inl (cI, 6, .inl fe4))] sz) [(h0, .inr (2, [.int (nI kk0), .ref ho, .ref e2, .ref e3, .ref e4])), (e2, .inl (cI, 6, .inl gg0)), (e3, .inl (cI, 6, .inl gg1)), (e4, .inl (cI, 6, .inl gg2))]) (va_A [(h0, .inr (2, [.int (nI n), .ref ho, .ref e2, .ref e3, .ref e4])), (e2, .inl (cI, 6, .inl fe2)), (e3, .inl (cI, 6, .inl fe3)), (e4, .inl (cI, 6, .inl fe4))] sz)) 0 0 (va_A [(h0, .inr (2, [.int (nI n), .ref ho, .ref e2, .ref e3, .ref e4])), (e2, .inl (cI, 6, .inl fe2)), (e3, .inl (cI, 6, .inl fe3)), (e4, .inl (cI, 6, .inl fe4))] sz) := by
  refine Met.ofW (cc := cX2_add) (maxL := 4) (ret := none) (by decide) rfl ?_
  intro p e s m args below meth c s₁ B hml hv
  obtain ⟨rfl, hsz, hP, hK, hD0⟩ := hv
  have hx := B.exec
  have hb := B.bytes
  have hr := B.returns
  have hts := atoms_spec (ws := wsX2_add) B.pre
  have hown : s.vm.findClass RX2 = some m.cls := findClass_of_methodNamed B.named
  have hlocks := B.notSynchronized
  have hi_X2 : ∀ w ∈ u_ws RX2 TX2 5, w ∈ wsX2_add := fun _ h => List.mem_cons_of_mem _ (List.mem_append_right _ (h))
  subst hsz
  have hD := hD0.self (sz := s.heap.size)
  generalize hAe : va_A [(h0, .inr (2, [.int (nI n), .ref ho, .ref e2, .ref e3, .ref e4])), (e2, .inl (cI, 6, .inl fe2)), (e3, .inl (cI, 6, .inl fe3)), (e4, .inl (cI, 6, .inl fe4))] s.heap.size = A at hD ⊢
  have hA : ∀ q : Nat, s.heap.size ≤ q → A q := fun q h => by rw [← hAe]; exact Or.inr h
  have hS : va_S A s.heap s.heap [] := va_S.rf
  have hl := lv_entry ([.ref h0, .int (nI j), .int a0, .int a1]) (n := 4) (Nat.le_of_ble_eq_true rfl)
  rw [lg_entry_eq]
  generalize (lg_sl ([.ref h0, .int (nI j), .int a0, .int a1]) ++ List.replicate (4 - (lg_sl ([.ref h0, .int (nI j), .int a0, .int a1])).length) Slot.unset).toArray = ls at hl ⊢
  have hl : lv_has ls 4 [(0, .ref h0), (1, .int (nI j)), (2, .int a0), (3, .int a1)] := hl
  refine lv_aload_n hx hb dX2_add_0 rfl (lv_at hl 0 rfl) ?_
  refine va_get (D := (dC, dI)) (ci := 2) (v := .int (nI n)) (C := RX2) (T := TX2) (N := 5) hx hb hts hi_X2 hown hK hP 0 rfl rfl 0 (by decide) (hts (.fieldLink RX2 9 "LeftQuills$Evidence" "count" "I") (wmx 1 rfl)) (fun _ h9 => h9) rfl dX2_add_1 ?_
  refine lv_bipush (v := 6) hx hb dX2_add_4 (by decide) ?_
  refine lv_icmp_lt (tgt := 10) hx hb dX2_add_6 (by decide) (fun c1 => ?_) (fun c1 => ?_)
  ·
    have c1 : n < 6 := (nI_ltI (a := n) (b := 6) (by omega) (by omega)).mp c1
    refine lv_aload_n hx hb dX2_add_10 rfl (lv_at hl 0 rfl) ?_
    refine va_get (D := (dC, dI)) (ci := 2) (v := .ref e2) (C := RX2) (T := TX2) (N := 5) hx hb hts hi_X2 hown hK hP 0 rfl rfl 2 (by decide) (hts (.fieldLink RX2 15 "LeftQuills$Evidence" "quill" "[I") (wmx 2 rfl)) (fun _ h9 => h9) rfl dX2_add_11 ?_
    refine lv_aload_n hx hb dX2_add_14 rfl (lv_at hl 0 rfl) ?_
    refine va_get (D := (dC, dI)) (ci := 2) (v := .int (nI n)) (C := RX2) (T := TX2) (N := 5) hx hb hts hi_X2 hown hK hP 0 rfl rfl 0 (by decide) (hts (.fieldLink RX2 9 "LeftQuills$Evidence" "count" "I") (wmx 1 rfl)) (fun _ h9 => h9) rfl dX2_add_15 ?_
    refine lv_iload_n hx hb dX2_add_18 rfl (lv_at hl 1 rfl) ?_
    refine va_iast hx hb hK hP hD hS 1 0 rfl rfl (vp_in_nI (n := n) (N := 6) (by omega) (by decide)) dX2_add_19 (fun H locs hP hD hS => ?_)
    have hcl := (nI_clamp (n := n) (by omega))
    rw [hcl] at hP hD
    clear hcl
    have hPD : pdW (dC, dI) vwCl A [(h0, .inr (2, [.int (nI n), .ref ho, .ref e2, .ref e3, .ref e4])), (e2, .inl (cI, 6, .inl (upd fe2 n (nI j)))), (e3, .inl (cI, 6, .inl fe3)), (e4, .inl (cI, 6, .inl fe4))] H := ⟨hP, hD⟩
    have hP := hPD.1
    have hD := hPD.2
    clear hPD
    refine lv_aload_n hx hb dX2_add_20 rfl (lv_at hl 0 rfl) ?_
    refine va_get (D := (dC, dI)) (ci := 2) (v := .ref e3) (C := RX2) (T := TX2) (N := 5) hx hb hts hi_X2 hown hK hP 0 rfl rfl 3 (by decide) (hts (.fieldLink RX2 19 "LeftQuills$Evidence" "pages" "[I") (wmx 3 rfl)) (fun _ h9 => h9) rfl dX2_add_21 ?_
    refine lv_aload_n hx hb dX2_add_24 rfl (lv_at hl 0 rfl) ?_
    refine va_get (D := (dC, dI)) (ci := 2) (v := .int (nI n)) (C := RX2) (T := TX2) (N := 5) hx hb hts hi_X2 hown hK hP 0 rfl rfl 0 (by decide) (hts (.fieldLink RX2 9 "LeftQuills$Evidence" "count" "I") (wmx 1 rfl)) (fun _ h9 => h9) rfl dX2_add_25 ?_
    refine lv_iload_n hx hb dX2_add_28 rfl (lv_at hl 2 rfl) ?_
    refine va_iast hx hb hK hP hD hS 2 0 rfl rfl (vp_in_nI (n := n) (N := 6) (by omega) (by decide)) dX2_add_29 (fun H locs hP hD hS => ?_)
    generalize hgf3 : upd fe3 ((nI n).toNatClampNeg) a0 = f3 at hP hD
    have hPD : pdW (dC, dI) vwCl A [(h0, .inr (2, [.int (nI n), .ref ho, .ref e2, .ref e3, .ref e4])), (e2, .inl (cI, 6, .inl (upd fe2 n (nI j)))), (e3, .inl (cI, 6, .inl f3)), (e4, .inl (cI, 6, .inl fe4))] H := ⟨hP, hD⟩
    have hP := hPD.1
    have hD := hPD.2
    clear hPD
    refine lv_aload_n hx hb dX2_add_30 rfl (lv_at hl 0 rfl) ?_
    refine va_get (D := (dC, dI)) (ci := 2) (v := .ref e4) (C := RX2) (T := TX2) (N := 5) hx hb hts hi_X2 hown hK hP 0 rfl rfl 4 (by decide) (hts (.fieldLink RX2 22 "LeftQuills$Evidence" "softness" "[I") (wmx 4 rfl)) (fun _ h9 => h9) rfl dX2_add_31 ?_
    refine lv_aload_n hx hb dX2_add_34 rfl (lv_at hl 0 rfl) ?_
    refine va_get (D := (dC, dI)) (ci := 2) (v := .int (nI n)) (C := RX2) (T := TX2) (N := 5) hx hb hts hi_X2 hown hK hP 0 rfl rfl 0 (by decide) (hts (.fieldLink RX2 9 "LeftQuills$Evidence" "count" "I") (wmx 1 rfl)) (fun _ h9 => h9) rfl dX2_add_35 ?_
    refine lv_iload_n hx hb dX2_add_38 rfl (lv_at hl 3 rfl) ?_
    refine va_iast hx hb hK hP hD hS 3 0 rfl rfl (vp_in_nI (n := n) (N := 6) (by omega) (by decide)) dX2_add_39 (fun H locs hP hD hS => ?_)
    generalize hgf4 : upd fe4 ((nI n).toNatClampNeg) a1 = f4 at hP hD
    have hPD : pdW (dC, dI) vwCl A [(h0, .inr (2, [.int (nI n), .ref ho, .ref e2, .ref e3, .ref e4])), (e2, .inl (cI, 6, .inl (upd fe2 n (nI j)))), (e3, .inl (cI, 6, .inl f3)), (e4, .inl (cI, 6, .inl f4))] H := ⟨hP, hD⟩
    have hP := hPD.1
    have hD := hPD.2
    clear hPD
    refine lv_aload_n hx hb dX2_add_40 rfl (lv_at hl 0 rfl) ?_
    refine lv_dup hx hb dX2_add_41 rfl ?_
    refine va_get (D := (dC, dI)) (ci := 2) (v := .int (nI n)) (C := RX2) (T := TX2) (N := 5) hx hb hts hi_X2 hown hK hP 0 rfl rfl 0 (by decide) (hts (.fieldLink RX2 9 "LeftQuills$Evidence" "count" "I") (wmx 1 rfl)) (fun _ h9 => h9) rfl dX2_add_42 ?_
    refine lv_iconst (v := 1) hx hb dX2_add_45 (by decide) ?_
    refine lv_iadd hx hb dX2_add_46 ?_
    refine lv_topi (fun z5 ez5 => ?_)
    obtain rfl : z5 = nI (n + 1) := ez5.trans (nI_add n 1)
    refine va_put (D := (dC, dI)) (ci := 2) (v := .int (nI (n + 1))) (ty := .int) (C := RX2) (T := TX2) (N := 5) hx hb hts hi_X2 tyX2 tyX2_ok nmX2 hown hK hP hD hS 0 rfl rfl 0 (by decide) (hts (.fieldLink RX2 9 "LeftQuills$Evidence" "count" "I") (wmx 1 rfl)) (fun _ h9 => h9) rfl (by decide +kernel) rfl rfl (Nat.le_of_ble_eq_true rfl) dX2_add_47 (fun H locs hP hD hS => ?_)
    have hPD : pdW (dC, dI) vwCl A [(h0, .inr (2, [.int (nI (n + 1)), .ref ho, .ref e2, .ref e3, .ref e4])), (e2, .inl (cI, 6, .inl (upd fe2 n (nI j)))), (e3, .inl (cI, 6, .inl f3)), (e4, .inl (cI, 6, .inl f4))] H := ⟨hP, hD⟩
    have hP := hPD.1
    have hD := hPD.2
    clear hPD
    have hP9 := hP.sub (ws' := [(h0, .inr (2, [.int (nI (n + 1)), .ref ho, .ref e2, .ref e3, .ref e4])), (e2, .inl (cI, 6, .inl (upd fe2 n (nI j)))), (e3, .inl (cI, 6, .inl f3)), (e4, .inl (cI, 6, .inl f4))]) [0, 1, 2, 3] rfl
    have hD9 := hD.sub (ws' := [(h0, .inr (2, [.int (nI (n + 1)), .ref ho, .ref e2, .ref e3, .ref e4])), (e2, .inl (cI, 6, .inl (upd fe2 n (nI j)))), (e3, .inl (cI, 6, .inl f3)), (e4, .inl (cI, 6, .inl f4))]) [0, 1, 2, 3] (by decide +kernel) rfl
    exact W.vret hx hb hr (fun t ht hW => ⟨⟨(fun _ => 0), rfl, trivial, ⟨(upd fe2 n (nI j)), f3, f4, (n + 1), by omega, qIn_add hqi hj, rfl, va_hq ht hP9, hD9⟩⟩, hS.F ht⟩) hS.2.2 dX2_add_50
  ·
    have c1 : ¬ n < 6 := fun h => c1 ((nI_ltI (a := n) (b := 6) (by omega) (by omega)).mpr h)
    omega
set_option maxHeartbeats 4000000 in
set_option maxRecDepth 100000 in
theorem c_X0_addF (l : Launch) (dC : Nat → ClassId) (dI : Nat → Nat → Nat) (cI cZ cQ : ClassId) (h0 : Nat) (n : Nat) (b1 : Nat) (b2 : Nat) (fb1 : Nat → Int32) (fb2 : Nat → Int32) (j : Nat) (a0 : Int32) (sz : Nat) (hn : n < 15) (hj : j < 8) (hqi : qIn fb1 n) : Met l yX0_add wsX0_add ({ frames := 0, cells := 0, slots := 0, locals := 40 }) (va_Pc [.ref h0, .int (nI j), .int a0] (fun U => U.heap.size = sz ∧ va_P (dC, dI) vwCl [(h0, .inr (0, [.int (nI n), .ref b1, .ref b2])), (b1, .inl (cI, 15, .inl fb1)), (b2, .inl (cI, 15, .inl fb2))] U.heap ∧ va_K (dC, dI) vwCl (tys0 cI cZ cQ) U ∧ va_D (fun _ => True) [(h0, .inr (0, [.int (nI n), .ref b1, .ref b2])), (b1, .inl (cI, 15, .inl fb1)), (b2, .inl (cI, 15, .inl fb2))])) (va_Qv (fun (u : Nat → Nat) => True) (fun (_ : Nat → Nat) (t : State) => ∃ (gg0 gg1 : Nat → Int32) (kk0 : Nat), kk0 ≤ 15 ∧ (qIn gg0 kk0) ∧ (kk0 = n + 1) ∧ va_P (dC, dI) vwCl [(h0, .inr (0, [.int (nI kk0), .ref b1, .ref b2])), (b1, .inl (cI, 15, .inl gg0)), (b2, .inl (cI, 15, .inl gg1))] t.heap ∧ va_D (va_A [(h0, .inr (0, [.int (nI n), .ref b1, .ref b2])), (b1, .inl (cI, 15, .inl fb1)), (b2, .inl (cI, 15, .inl fb2))] sz) [(h0, .inr (0, [.int (nI kk0), .ref b1, .ref b2])), (b1, .inl (cI, 15, .inl gg0)), (b2, .inl (cI, 15, .inl gg1))]) (va_A [(h0, .inr (0, [.int (nI n), .ref b1, .ref b2])), (b1, .inl (cI, 15, .inl fb1)), (b2, .inl (cI, 15, .inl fb2))] sz)) 0 0 (va_A [(h0, .inr (0, [.int (nI n), .ref b1, .ref b2])), (b1, .inl (cI, 15, .inl fb1)), (b2, .inl (cI, 15, .inl fb2))] sz) := by
  refine Met.ofW (cc := cX0_add) (maxL := 3) (ret := none) (by decide) rfl ?_
  intro p e s m args below meth c s₁ B hml hv
  obtain ⟨rfl, hsz, hP, hK, hD0⟩ := hv
  have hx := B.exec
  have hb := B.bytes
  have hr := B.returns
  have hts := atoms_spec (ws := wsX0_add) B.pre
  have hown : s.vm.findClass RX0 = some m.cls := findClass_of_methodNamed B.named
  have hlocks := B.notSynchronized
  have hi_X0 : ∀ w ∈ u_ws RX0 TX0 3, w ∈ wsX0_add := fun _ h => List.mem_cons_of_mem _ (List.mem_append_right _ (h))
  subst hsz
  have hD := hD0.self (sz := s.heap.size)
  generalize hAe : va_A [(h0, .inr (0, [.int (nI n), .ref b1, .ref b2])), (b1, .inl (cI, 15, .inl fb1)), (b2, .inl (cI, 15, .inl fb2))] s.heap.size = A at hD ⊢
  have hA : ∀ q : Nat, s.heap.size ≤ q → A q := fun q h => by rw [← hAe]; exact Or.inr h
  have hS : va_S A s.heap s.heap [] := va_S.rf
  have hl := lv_entry ([.ref h0, .int (nI j), .int a0]) (n := 3) (Nat.le_of_ble_eq_true rfl)
  rw [lg_entry_eq]
  generalize (lg_sl ([.ref h0, .int (nI j), .int a0]) ++ List.replicate (3 - (lg_sl ([.ref h0, .int (nI j), .int a0])).length) Slot.unset).toArray = ls at hl ⊢
  have hl : lv_has ls 3 [(0, .ref h0), (1, .int (nI j)), (2, .int a0)] := hl
  refine lv_aload_n hx hb dX0_add_0 rfl (lv_at hl 0 rfl) ?_
  refine va_get (D := (dC, dI)) (ci := 0) (v := .int (nI n)) (C := RX0) (T := TX0) (N := 3) hx hb hts hi_X0 hown hK hP 0 rfl rfl 0 (by decide) (hts (.fieldLink RX0 9 "LeftQuills$Book" "count" "I") (wmx 1 rfl)) (fun _ h9 => h9) rfl dX0_add_1 ?_
  refine lv_bipush (v := 15) hx hb dX0_add_4 (by decide) ?_
  refine lv_icmp_lt (tgt := 10) hx hb dX0_add_6 (by decide) (fun c1 => ?_) (fun c1 => ?_)
  ·
    have c1 : n < 15 := (nI_ltI (a := n) (b := 15) (by omega) (by omega)).mp c1
    refine lv_aload_n hx hb dX0_add_10 rfl (lv_at hl 0 rfl) ?_
    refine va_get (D := (dC, dI)) (ci := 0) (v := .ref b1) (C := RX0) (T := TX0) (N := 3) hx hb hts hi_X0 hown hK hP 0 rfl rfl 1 (by decide) (hts (.fieldLink RX0 15 "LeftQuills$Book" "quill" "[I") (wmx 2 rfl)) (fun _ h9 => h9) rfl dX0_add_11 ?_
    refine lv_aload_n hx hb dX0_add_14 rfl (lv_at hl 0 rfl) ?_
    refine va_get (D := (dC, dI)) (ci := 0) (v := .int (nI n)) (C := RX0) (T := TX0) (N := 3) hx hb hts hi_X0 hown hK hP 0 rfl rfl 0 (by decide) (hts (.fieldLink RX0 9 "LeftQuills$Book" "count" "I") (wmx 1 rfl)) (fun _ h9 => h9) rfl dX0_add_15 ?_
    refine lv_iload_n hx hb dX0_add_18 rfl (lv_at hl 1 rfl) ?_
    refine va_iast hx hb hK hP hD hS 1 0 rfl rfl (vp_in_nI (n := n) (N := 15) (by omega) (by decide)) dX0_add_19 (fun H locs hP hD hS => ?_)
    have hcl := (nI_clamp (n := n) (by omega))
    rw [hcl] at hP hD
    clear hcl
    have hPD : pdW (dC, dI) vwCl A [(h0, .inr (0, [.int (nI n), .ref b1, .ref b2])), (b1, .inl (cI, 15, .inl (upd fb1 n (nI j)))), (b2, .inl (cI, 15, .inl fb2))] H := ⟨hP, hD⟩
    have hP := hPD.1
    have hD := hPD.2
    clear hPD
    refine lv_aload_n hx hb dX0_add_20 rfl (lv_at hl 0 rfl) ?_
    refine va_get (D := (dC, dI)) (ci := 0) (v := .ref b2) (C := RX0) (T := TX0) (N := 3) hx hb hts hi_X0 hown hK hP 0 rfl rfl 2 (by decide) (hts (.fieldLink RX0 19 "LeftQuills$Book" "softness" "[I") (wmx 3 rfl)) (fun _ h9 => h9) rfl dX0_add_21 ?_
    refine lv_aload_n hx hb dX0_add_24 rfl (lv_at hl 0 rfl) ?_
    refine va_get (D := (dC, dI)) (ci := 0) (v := .int (nI n)) (C := RX0) (T := TX0) (N := 3) hx hb hts hi_X0 hown hK hP 0 rfl rfl 0 (by decide) (hts (.fieldLink RX0 9 "LeftQuills$Book" "count" "I") (wmx 1 rfl)) (fun _ h9 => h9) rfl dX0_add_25 ?_
    refine lv_iload_n hx hb dX0_add_28 rfl (lv_at hl 2 rfl) ?_
    refine va_iast hx hb hK hP hD hS 2 0 rfl rfl (vp_in_nI (n := n) (N := 15) (by omega) (by decide)) dX0_add_29 (fun H locs hP hD hS => ?_)
    generalize hgf3 : upd fb2 ((nI n).toNatClampNeg) a0 = f3 at hP hD
    have hPD : pdW (dC, dI) vwCl A [(h0, .inr (0, [.int (nI n), .ref b1, .ref b2])), (b1, .inl (cI, 15, .inl (upd fb1 n (nI j)))), (b2, .inl (cI, 15, .inl f3))] H := ⟨hP, hD⟩
    have hP := hPD.1
    have hD := hPD.2
    clear hPD
    refine lv_aload_n hx hb dX0_add_30 rfl (lv_at hl 0 rfl) ?_
    refine lv_dup hx hb dX0_add_31 rfl ?_
    refine va_get (D := (dC, dI)) (ci := 0) (v := .int (nI n)) (C := RX0) (T := TX0) (N := 3) hx hb hts hi_X0 hown hK hP 0 rfl rfl 0 (by decide) (hts (.fieldLink RX0 9 "LeftQuills$Book" "count" "I") (wmx 1 rfl)) (fun _ h9 => h9) rfl dX0_add_32 ?_
    refine lv_iconst (v := 1) hx hb dX0_add_35 (by decide) ?_
    refine lv_iadd hx hb dX0_add_36 ?_
    refine lv_topi (fun z4 ez4 => ?_)
    obtain rfl : z4 = nI (n + 1) := ez4.trans (nI_add n 1)
    refine va_put (D := (dC, dI)) (ci := 0) (v := .int (nI (n + 1))) (ty := .int) (C := RX0) (T := TX0) (N := 3) hx hb hts hi_X0 tyX0 tyX0_ok nmX0 hown hK hP hD hS 0 rfl rfl 0 (by decide) (hts (.fieldLink RX0 9 "LeftQuills$Book" "count" "I") (wmx 1 rfl)) (fun _ h9 => h9) rfl (by decide +kernel) rfl rfl (Nat.le_of_ble_eq_true rfl) dX0_add_37 (fun H locs hP hD hS => ?_)
    have hPD : pdW (dC, dI) vwCl A [(h0, .inr (0, [.int (nI (n + 1)), .ref b1, .ref b2])), (b1, .inl (cI, 15, .inl (upd fb1 n (nI j)))), (b2, .inl (cI, 15, .inl f3))] H := ⟨hP, hD⟩
    have hP := hPD.1
    have hD := hPD.2
    clear hPD
    have hP9 := hP.sub (ws' := [(h0, .inr (0, [.int (nI (n + 1)), .ref b1, .ref b2])), (b1, .inl (cI, 15, .inl (upd fb1 n (nI j)))), (b2, .inl (cI, 15, .inl f3))]) [0, 1, 2] rfl
    have hD9 := hD.sub (ws' := [(h0, .inr (0, [.int (nI (n + 1)), .ref b1, .ref b2])), (b1, .inl (cI, 15, .inl (upd fb1 n (nI j)))), (b2, .inl (cI, 15, .inl f3))]) [0, 1, 2] (by decide +kernel) rfl
    exact W.vret hx hb hr (fun t ht hW => ⟨⟨(fun _ => 0), rfl, trivial, ⟨(upd fb1 n (nI j)), f3, (n + 1), by omega, qIn_add hqi hj, rfl, va_hq ht hP9, hD9⟩⟩, hS.F ht⟩) hS.2.2 dX0_add_40
  ·
    have c1 : ¬ n < 15 := fun h => c1 ((nI_ltI (a := n) (b := 15) (by omega) (by omega)).mpr h)
    omega
set_option maxHeartbeats 4000000 in
set_option maxRecDepth 100000 in
theorem c_X10_wornF (l : Launch) (dC : Nat → ClassId) (dI : Nat → Nat → Nat) (cI cZ cQ : ClassId) (h0 : Nat) (x4 : Nat) (x12 : Nat) (f_h0 : List Value) (nq : Nat) (f_x4 : List Value) (n : Nat) (ho : Nat) (e2 : Nat) (e3 : Nat) (e4 : Nat) (fe2 : Nat → Int32) (fe3 : Nat → Int32) (fe4 : Nat → Int32) (q0 : Int32) (q1 : Int32) (q2 : Int32) (sz : Nat) (e_h0_4 : fAt f_h0 4 = some (.ref x4)) (e_h0_12 : fAt f_h0 12 = some (.ref x12)) (e_x4_3 : fAt f_x4 3 = some (.int (nI nq))) (hnq : nq ≤ 8) (hn : n ≤ 6) (hqi : qIn fe2 n) : Met l yX10_worn wsX10_worn ({ frames := 1, cells := 0, slots := 0, locals := 63 }) (va_Pc [.ref h0, .int q0, .int q1, .int q2] (fun U => U.heap.size = sz ∧ va_P (dC, dI) vwCl [(h0, .inr (10, f_h0)), (x4, .inr (5, f_x4)), (x12, .inr (2, [.int (nI n), .ref ho, .ref e2, .ref e3, .ref e4])), (e2, .inl (cI, 6, .inl fe2)), (e3, .inl (cI, 6, .inl fe3)), (e4, .inl (cI, 6, .inl fe4))] U.heap ∧ va_K (dC, dI) vwCl (tys0 cI cZ cQ) U ∧ va_D (fun _ => True) [(h0, .inr (10, f_h0)), (x4, .inr (5, f_x4)), (x12, .inr (2, [.int (nI n), .ref ho, .ref e2, .ref e3, .ref e4])), (e2, .inl (cI, 6, .inl fe2)), (e3, .inl (cI, 6, .inl fe3)), (e4, .inl (cI, 6, .inl fe4))])) (va_Qi (fun (r : Int32) (u : Nat → Nat) => r = wornR q0 q1 q2 nq n) (fun (_ : Nat → Nat) (t : State) => ∃ (gg0 gg1 gg2 : Nat → Int32) (kk0 : Nat), kk0 ≤ 6 ∧ (qIn gg0 kk0) ∧ (kk0 = wornN q0 q1 q2 nq n) ∧ va_P (dC, dI) vwCl [(h0, .inr (10, f_h0)), (x4, .inr (5, f_x4)), (x12, .inr (2, [.int (nI kk0), .ref ho, .ref e2, .ref e3, .ref e4])), (e2, .inl (cI, 6, .inl gg0)), (e3, .inl (cI, 6, .inl gg1)), (e4, .inl (cI, 6, .inl gg2))] t.heap ∧ va_D (va_A [(h0, .inr (10, f_h0)), (x4, .inr (5, f_x4)), (x12, .inr (2, [.int (nI n), .ref ho, .ref e2, .ref e3, .ref e4])), (e2, .inl (cI, 6, .inl fe2)), (e3, .inl (cI, 6, .inl fe3)), (e4, .inl (cI, 6, .inl fe4))] sz) [(h0, .inr (10, f_h0)), (x4, .inr (5, f_x4)), (x12, .inr (2, [.int (nI kk0), .ref ho, .ref e2, .ref e3, .ref e4])), (e2, .inl (cI, 6, .inl gg0)), (e3, .inl (cI, 6, .inl gg1)), (e4, .inl (cI, 6, .inl gg2))]) (va_A [(h0, .inr (10, f_h0)), (x4, .inr (5, f_x4)), (x12, .inr (2, [.int (nI n), .ref ho, .ref e2, .ref e3, .ref e4])), (e2, .inl (cI, 6, .inl fe2)), (e3, .inl (cI, 6, .inl fe3)), (e4, .inl (cI, 6, .inl fe4))] sz)) 0 0 (va_A [(h0, .inr (10, f_h0)), (x4, .inr (5, f_x4)), (x12, .inr (2, [.int (nI n), .ref ho, .ref e2, .ref e3, .ref e4])), (e2, .inl (cI, 6, .inl fe2)), (e3, .inl (cI, 6, .inl fe3)), (e4, .inl (cI, 6, .inl fe4))] sz) := by
  refine Met.ofW (cc := cX10_worn) (maxL := 4) (ret := (some .int)) (by decide) rfl ?_
  intro p e s m args below meth c s₁ B hml hv
  obtain ⟨rfl, hsz, hP, hK, hD0⟩ := hv
  have hx := B.exec
  have hb := B.bytes
  have hr := B.returns
  have hts := atoms_spec (ws := wsX10_worn) B.pre
  have hown : s.vm.findClass RX10 = some m.cls := findClass_of_methodNamed B.named
  have hlocks := B.notSynchronized
  have hi_X10 : ∀ w ∈ u_ws RX10 TX10 14, w ∈ wsX10_worn := fun _ h => List.mem_cons_of_mem _ (List.mem_append_left _ (List.mem_append_left _ (List.mem_append_right _ (h))))
  have hi_X2 : ∀ w ∈ u_ws RX2 TX2 5, w ∈ wsX10_worn := fun _ h => List.mem_cons_of_mem _ (List.mem_append_left _ (List.mem_append_right _ (h)))
  subst hsz
  have hD := hD0.self (sz := s.heap.size)
  generalize hAe : va_A [(h0, .inr (10, f_h0)), (x4, .inr (5, f_x4)), (x12, .inr (2, [.int (nI n), .ref ho, .ref e2, .ref e3, .ref e4])), (e2, .inl (cI, 6, .inl fe2)), (e3, .inl (cI, 6, .inl fe3)), (e4, .inl (cI, 6, .inl fe4))] s.heap.size = A at hD ⊢
  have hA : ∀ q : Nat, s.heap.size ≤ q → A q := fun q h => by rw [← hAe]; exact Or.inr h
  have hS : va_S A s.heap s.heap [] := va_S.rf
  have hl := lv_entry ([.ref h0, .int q0, .int q1, .int q2]) (n := 4) (Nat.le_of_ble_eq_true rfl)
  rw [lg_entry_eq]
  generalize (lg_sl ([.ref h0, .int q0, .int q1, .int q2]) ++ List.replicate (4 - (lg_sl ([.ref h0, .int q0, .int q1, .int q2])).length) Slot.unset).toArray = ls at hl ⊢
  have hl : lv_has ls 4 [(0, .ref h0), (1, .int q0), (2, .int q1), (3, .int q2)] := hl
  refine lv_aload_n hx hb dX10_worn_0 rfl (lv_at hl 0 rfl) ?_
  refine lv_iload_n hx hb dX10_worn_1 rfl (lv_at hl 1 rfl) ?_
  have hPc := hP.sub (ws' := [(h0, .inr (10, f_h0)), (x4, .inr (5, f_x4))]) [0, 1] rfl
  refine va_calli (va_runV (As := [.int q0]) (rest := []) ⟨hx, hb, hml, hown, hts⟩ (c_X10_isQuill l dC dI cI cZ cQ h0 x4 f_h0 (nI nq) f_x4 q0 s.heap.size e_h0_4 e_x4_3) (cwV 1 hts gX10_worn_X10_isQuill rfl rfl rfl hd_X10_isQuill_RX10 ⟨Nat.le_of_ble_eq_true rfl, Nat.le_of_ble_eq_true rfl⟩) (pv_R (va_recv hK hP (ci := 10) (q0 := 0) rfl rfl) hK hPc) rfl rfl hl.1 rfl (lv_room (Nat.le_of_ble_eq_true rfl)) dX10_worn_2 ⟨Nat.le_of_ble_eq_true rfl, Nat.le_of_ble_eq_true rfl⟩) hS (fun q _ h => False.elim h) (fun q h => False.elim h) (fun r1 u2 t H1 locs ht hvm hw3 hB hz1 hk1 hS => ?_)
  have hP := hP.kept (fun k q hk => hk1 q.1 (hP k q hk).lt (fun h => h))
  clear hz1 hk1 hPc
  generalize H1 = H at hP hS ht ⊢
  try dsimp only at hw3
  rcases hw3 with ⟨rfl, hw3⟩ | ⟨rfl, hw3⟩
  ·
    obtain ⟨j4, hj4, rfl⟩ := x_ix hw3 (by omega)
    refine lv_if_ne (tgt := 11) hx hb dX10_worn_5 (by decide) (fun c5 => ?_) (fun c5 => ?_)
    rotate_left
    · exact absurd c5 (by decide)
    clear c5
    refine lv_iload_n hx hb dX10_worn_11 rfl (lv_at hl 2 rfl) ?_
    refine lv_iconst (v := 1) hx hb dX10_worn_12 (by decide) ?_
    refine lv_bipush (v := 9) hx hb dX10_worn_13 (by decide) ?_
    have hPc := hP.sub (ws' := []) [] rfl
    refine va_calli (va_runS (As := [.int q1, .int 1, .int 9]) (rest := []) ⟨hx, hb, hml, hown, hts⟩ (c_X10_within l dC dI cI cZ cQ q1 1 9 H.size ) (va_cwS 3 hts gX10_worn_X10_within rfl rfl rfl (by decide +kernel) ⟨Nat.le_of_ble_eq_true rfl, Nat.le_of_ble_eq_true rfl⟩) (ps_R hK hPc) rfl rfl hl.1 rfl (lv_room (Nat.le_of_ble_eq_true rfl)) dX10_worn_15 ⟨Nat.le_of_ble_eq_true rfl, Nat.le_of_ble_eq_true rfl⟩) hS (fun q _ h => False.elim h) (fun q h => False.elim h) (fun r6 u7 t H1 locs ht hvm hw8 hB hz1 hk1 hS => ?_)
    have hP := hP.kept (fun k q hk => hk1 q.1 (hP k q hk).lt (fun h => h))
    clear hz1 hk1 hPc
    generalize H1 = H at hP hS ht ⊢
    try dsimp only at hw8
    rcases hw8 with ⟨rfl, hw8⟩ | ⟨rfl, hw8⟩
    ·
      refine lv_if_eq (tgt := 31) hx hb dX10_worn_18 (by decide) (fun c9 => ?_) (fun c9 => ?_)
      · exact absurd c9 (by decide)
      clear c9
      refine lv_iload_n hx hb dX10_worn_21 rfl (lv_at hl 3 rfl) ?_
      refine lv_iconst (v := 0) hx hb dX10_worn_22 (by decide) ?_
      refine lv_bipush (v := 99) hx hb dX10_worn_23 (by decide) ?_
      have hPc := hP.sub (ws' := []) [] rfl
      refine va_calli (va_runS (As := [.int q2, .int 0, .int 99]) (rest := []) ⟨hx, hb, hml, hown, hts⟩ (c_X10_within l dC dI cI cZ cQ q2 0 99 H.size ) (va_cwS 3 hts gX10_worn_X10_within rfl rfl rfl (by decide +kernel) ⟨Nat.le_of_ble_eq_true rfl, Nat.le_of_ble_eq_true rfl⟩) (ps_R hK hPc) rfl rfl hl.1 rfl (lv_room (Nat.le_of_ble_eq_true rfl)) dX10_worn_25 ⟨Nat.le_of_ble_eq_true rfl, Nat.le_of_ble_eq_true rfl⟩) hS (fun q _ h => False.elim h) (fun q h => False.elim h) (fun r10 u11 t H1 locs ht hvm hw12 hB hz1 hk1 hS => ?_)
      have hP := hP.kept (fun k q hk => hk1 q.1 (hP k q hk).lt (fun h => h))
      clear hz1 hk1 hPc
      generalize H1 = H at hP hS ht ⊢
      try dsimp only at hw12
      rcases hw12 with ⟨rfl, hw12⟩ | ⟨rfl, hw12⟩
      ·
        refine lv_if_ne (tgt := 34) hx hb dX10_worn_28 (by decide) (fun c13 => ?_) (fun c13 => ?_)
        rotate_left
        · exact absurd c13 (by decide)
        clear c13
        refine lv_aload_n hx hb dX10_worn_34 rfl (lv_at hl 0 rfl) ?_
        refine va_get (D := (dC, dI)) (ci := 10) (v := .ref x12) (C := RX10) (T := TX10) (N := 14) hx hb hts hi_X10 hown hK hP 0 rfl rfl 12 (by decide) (hts (.fieldLink RX10 88 "LeftQuills" "evidence" "LLeftQuills$Evidence;") (wmx 3 rfl)) (fun _ h9 => h9) e_h0_12 dX10_worn_35 ?_
        refine va_get (D := (dC, dI)) (ci := 2) (v := .int (nI n)) (C := RX2) (T := TX2) (N := 5) hx hb hts hi_X2 hown hK hP 2 rfl rfl 0 (by decide) (hts (.fieldLink RX10 123 "LeftQuills$Evidence" "count" "I") (wmx 4 rfl)) (fun _ h9 => h9) rfl dX10_worn_38 ?_
        refine lv_bipush (v := 6) hx hb dX10_worn_41 (by decide) ?_
        refine lv_icmp_lt (tgt := 49) hx hb dX10_worn_43 (by decide) (fun c14 => ?_) (fun c14 => ?_)
        ·
          have c14 : n < 6 := (nI_ltI (a := n) (b := 6) (by omega) (by omega)).mp c14
          refine lv_aload_n hx hb dX10_worn_49 rfl (lv_at hl 0 rfl) ?_
          refine va_get (D := (dC, dI)) (ci := 10) (v := .ref x12) (C := RX10) (T := TX10) (N := 14) hx hb hts hi_X10 hown hK hP 0 rfl rfl 12 (by decide) (hts (.fieldLink RX10 88 "LeftQuills" "evidence" "LLeftQuills$Evidence;") (wmx 3 rfl)) (fun _ h9 => h9) e_h0_12 dX10_worn_50 ?_
          refine lv_iload_n hx hb dX10_worn_53 rfl (lv_at hl 1 rfl) ?_
          refine lv_iload_n hx hb dX10_worn_54 rfl (lv_at hl 2 rfl) ?_
          refine lv_iload_n hx hb dX10_worn_55 rfl (lv_at hl 3 rfl) ?_
          have hc9 := va_cut (W' := [(x12, .inr (2, [.int (nI n), .ref ho, .ref e2, .ref e3, .ref e4])), (e2, .inl (cI, 6, .inl fe2)), (e3, .inl (cI, 6, .inl fe3)), (e4, .inl (cI, 6, .inl fe4))]) hP hD hS hA [2, 3, 4, 5] (by decide) rfl
          have hPc := hc9.1
          have hDc := hc9.2.1
          have hFc := hc9.2.2
          clear hc9
          refine va_callv (va_runV (As := [.int (nI j4), .int q1, .int q2]) (rest := []) ⟨hx, hb, hml, hown, hts⟩ (c_X2_addF l dC dI cI cZ cQ x12 n ho e2 e3 e4 fe2 fe3 fe4 j4 q1 q2 H.size (by omega) (by omega) (by first | assumption | decide)) (cwV 3 hts gX10_worn_X2_add rfl rfl rfl hd_X2_add_RX2 ⟨Nat.le_of_ble_eq_true rfl, Nat.le_of_ble_eq_true rfl⟩) (pv_D (va_recv hK hP (ci := 2) (q0 := 2) rfl rfl) hK hPc hDc) rfl rfl hl.1 rfl (lv_room (Nat.le_of_ble_eq_true rfl)) dX10_worn_56 ⟨Nat.le_of_ble_eq_true rfl, Nat.le_of_ble_eq_true rfl⟩) hS (fun q _ h => hFc q h) hFc (fun u16 t H1 locs ht hvm hw17 hB hz1 hk1 hS => ?_)
          obtain ⟨f18, f19, f20, k21, hk21, he22, he23, hP1, hD1⟩ := hB
          replace hP1 := va_hp ht hP1
          obtain ⟨hP, hD⟩ := va_join (wr := [(h0, .inr (10, f_h0)), (x4, .inr (5, f_x4))]) (w1 := [(x12, .inr (2, [.int (nI k21), .ref ho, .ref e2, .ref e3, .ref e4])), (e2, .inl (cI, 6, .inl f18)), (e3, .inl (cI, 6, .inl f19)), (e4, .inl (cI, 6, .inl f20))]) hP hD [2, 3, 4, 5] [0, 1] rfl rfl (by decide +kernel) (by decide +kernel) hk1 hFc hP1 hD1
          clear hP1 hD1
          clear hz1 hk1 hPc hDc hFc
          generalize H1 = H at hP hS ht ⊢
          have hPD : pdW (dC, dI) vwCl A [(h0, .inr (10, f_h0)), (x4, .inr (5, f_x4)), (x12, .inr (2, [.int (nI k21), .ref ho, .ref e2, .ref e3, .ref e4])), (e2, .inl (cI, 6, .inl f18)), (e3, .inl (cI, 6, .inl f19)), (e4, .inl (cI, 6, .inl f20))] H := ⟨hP, hD⟩
          have hP := hPD.1
          have hD := hPD.2
          clear hPD
          try dsimp only at hw17
          subst he23
          have hPD : pdW (dC, dI) vwCl A [(h0, .inr (10, f_h0)), (x4, .inr (5, f_x4)), (x12, .inr (2, [.int (nI (n + 1)), .ref ho, .ref e2, .ref e3, .ref e4])), (e2, .inl (cI, 6, .inl f18)), (e3, .inl (cI, 6, .inl f19)), (e4, .inl (cI, 6, .inl f20))] H := ⟨hP, hD⟩
          have hP := hPD.1
          have hD := hPD.2
          clear hPD
          refine lv_aload_n hx hb dX10_worn_59 rfl (lv_at hl 0 rfl) ?_
          refine va_get (D := (dC, dI)) (ci := 10) (v := .ref x12) (C := RX10) (T := TX10) (N := 14) hx hb hts hi_X10 hown hK hP 0 rfl rfl 12 (by decide) (hts (.fieldLink RX10 88 "LeftQuills" "evidence" "LLeftQuills$Evidence;") (wmx 3 rfl)) (fun _ h9 => h9) e_h0_12 dX10_worn_60 ?_
          refine va_get (D := (dC, dI)) (ci := 2) (v := .int (nI (n + 1))) (C := RX2) (T := TX2) (N := 5) hx hb hts hi_X2 hown hK hP 2 rfl rfl 0 (by decide) (hts (.fieldLink RX10 123 "LeftQuills$Evidence" "count" "I") (wmx 4 rfl)) (fun _ h9 => h9) rfl dX10_worn_63 ?_
          have hP9 := hP.sub (ws' := [(h0, .inr (10, f_h0)), (x4, .inr (5, f_x4)), (x12, .inr (2, [.int (nI (n + 1)), .ref ho, .ref e2, .ref e3, .ref e4])), (e2, .inl (cI, 6, .inl f18)), (e3, .inl (cI, 6, .inl f19)), (e4, .inl (cI, 6, .inl f20))]) [0, 1, 2, 3, 4, 5] rfl
          have hD9 := hD.sub (ws' := [(h0, .inr (10, f_h0)), (x4, .inr (5, f_x4)), (x12, .inr (2, [.int (nI (n + 1)), .ref ho, .ref e2, .ref e3, .ref e4])), (e2, .inl (cI, 6, .inl f18)), (e3, .inl (cI, 6, .inl f19)), (e4, .inl (cI, 6, .inl f20))]) [0, 1, 2, 3, 4, 5] (by decide +kernel) rfl
          exact W.iret (v := nI (n + 1)) hx hb hr (fun t ht hW => ⟨⟨nI (n + 1), (fun _ => 0), rfl, (by unfold wornR; rw [if_pos hw3, if_pos hw8, if_pos hw12, if_pos (by omega)]), ⟨f18, f19, f20, (n + 1), by omega, he22, (by unfold wornN; rw [if_pos hw3, if_pos hw8, if_pos hw12, if_pos (by omega)]), va_hq ht hP9, hD9⟩⟩, hS.F ht⟩) hS.2.2 dX10_worn_66
        ·
          have c14 : ¬ n < 6 := fun h => c14 ((nI_ltI (a := n) (b := 6) (by omega) (by omega)).mpr h)
          refine lv_ldc (v := (-1000000004)) hx hb hown (hts (.constant RX10 104 (-1000000004)) (wmx 5 rfl)) dX10_worn_46 ?_
          have hP9 := hP.sub (ws' := [(h0, .inr (10, f_h0)), (x4, .inr (5, f_x4)), (x12, .inr (2, [.int (nI n), .ref ho, .ref e2, .ref e3, .ref e4])), (e2, .inl (cI, 6, .inl fe2)), (e3, .inl (cI, 6, .inl fe3)), (e4, .inl (cI, 6, .inl fe4))]) [0, 1, 2, 3, 4, 5] rfl
          have hD9 := hD.sub (ws' := [(h0, .inr (10, f_h0)), (x4, .inr (5, f_x4)), (x12, .inr (2, [.int (nI n), .ref ho, .ref e2, .ref e3, .ref e4])), (e2, .inl (cI, 6, .inl fe2)), (e3, .inl (cI, 6, .inl fe3)), (e4, .inl (cI, 6, .inl fe4))]) [0, 1, 2, 3, 4, 5] (by decide +kernel) rfl
          exact W.iret (v := (-1000000004)) hx hb hr (fun t ht hW => ⟨⟨(-1000000004), (fun _ => 0), rfl, (by unfold wornR; rw [if_pos hw3, if_pos hw8, if_pos hw12, if_neg (by omega)]), ⟨fe2, fe3, fe4, n, by omega, hqi, (by unfold wornN; rw [if_pos hw3, if_pos hw8, if_pos hw12, if_neg (by omega)]), va_hq ht hP9, hD9⟩⟩, hS.F ht⟩) hS.2.2 dX10_worn_48
      ·
        refine lv_if_ne (tgt := 34) hx hb dX10_worn_28 (by decide) (fun c24 => ?_) (fun c24 => ?_)
        · exact absurd c24 (by decide)
        clear c24
        refine lv_ldc (v := (-1000000002)) hx hb hown (hts (.constant RX10 103 (-1000000002)) (wmx 2 rfl)) dX10_worn_31 ?_
        have hP9 := hP.sub (ws' := [(h0, .inr (10, f_h0)), (x4, .inr (5, f_x4)), (x12, .inr (2, [.int (nI n), .ref ho, .ref e2, .ref e3, .ref e4])), (e2, .inl (cI, 6, .inl fe2)), (e3, .inl (cI, 6, .inl fe3)), (e4, .inl (cI, 6, .inl fe4))]) [0, 1, 2, 3, 4, 5] rfl
        have hD9 := hD.sub (ws' := [(h0, .inr (10, f_h0)), (x4, .inr (5, f_x4)), (x12, .inr (2, [.int (nI n), .ref ho, .ref e2, .ref e3, .ref e4])), (e2, .inl (cI, 6, .inl fe2)), (e3, .inl (cI, 6, .inl fe3)), (e4, .inl (cI, 6, .inl fe4))]) [0, 1, 2, 3, 4, 5] (by decide +kernel) rfl
        exact W.iret (v := (-1000000002)) hx hb hr (fun t ht hW => ⟨⟨(-1000000002), (fun _ => 0), rfl, (by unfold wornR; rw [if_pos hw3, if_pos hw8, if_neg hw12]), ⟨fe2, fe3, fe4, n, by omega, hqi, (by unfold wornN; rw [if_pos hw3, if_pos hw8, if_neg hw12]), va_hq ht hP9, hD9⟩⟩, hS.F ht⟩) hS.2.2 dX10_worn_33
    ·
      refine lv_if_eq (tgt := 31) hx hb dX10_worn_18 (by decide) (fun c25 => ?_) (fun c25 => ?_)
      rotate_left
      · exact absurd c25 (by decide)
      clear c25
      refine lv_ldc (v := (-1000000002)) hx hb hown (hts (.constant RX10 103 (-1000000002)) (wmx 2 rfl)) dX10_worn_31 ?_
      have hP9 := hP.sub (ws' := [(h0, .inr (10, f_h0)), (x4, .inr (5, f_x4)), (x12, .inr (2, [.int (nI n), .ref ho, .ref e2, .ref e3, .ref e4])), (e2, .inl (cI, 6, .inl fe2)), (e3, .inl (cI, 6, .inl fe3)), (e4, .inl (cI, 6, .inl fe4))]) [0, 1, 2, 3, 4, 5] rfl
      have hD9 := hD.sub (ws' := [(h0, .inr (10, f_h0)), (x4, .inr (5, f_x4)), (x12, .inr (2, [.int (nI n), .ref ho, .ref e2, .ref e3, .ref e4])), (e2, .inl (cI, 6, .inl fe2)), (e3, .inl (cI, 6, .inl fe3)), (e4, .inl (cI, 6, .inl fe4))]) [0, 1, 2, 3, 4, 5] (by decide +kernel) rfl
      exact W.iret (v := (-1000000002)) hx hb hr (fun t ht hW => ⟨⟨(-1000000002), (fun _ => 0), rfl, (by unfold wornR; rw [if_pos hw3, if_neg hw8]), ⟨fe2, fe3, fe4, n, by omega, hqi, (by unfold wornN; rw [if_pos hw3, if_neg hw8]), va_hq ht hP9, hD9⟩⟩, hS.F ht⟩) hS.2.2 dX10_worn_33
  ·
    refine lv_if_ne (tgt := 11) hx hb dX10_worn_5 (by decide) (fun c26 => ?_) (fun c26 => ?_)
    · exact absurd c26 (by decide)
    clear c26
    refine lv_ldc (v := (-1000000001)) hx hb hown (hts (.constant RX10 160 (-1000000001)) (wmx 1 rfl)) dX10_worn_8 ?_
    have hP9 := hP.sub (ws' := [(h0, .inr (10, f_h0)), (x4, .inr (5, f_x4)), (x12, .inr (2, [.int (nI n), .ref ho, .ref e2, .ref e3, .ref e4])), (e2, .inl (cI, 6, .inl fe2)), (e3, .inl (cI, 6, .inl fe3)), (e4, .inl (cI, 6, .inl fe4))]) [0, 1, 2, 3, 4, 5] rfl
    have hD9 := hD.sub (ws' := [(h0, .inr (10, f_h0)), (x4, .inr (5, f_x4)), (x12, .inr (2, [.int (nI n), .ref ho, .ref e2, .ref e3, .ref e4])), (e2, .inl (cI, 6, .inl fe2)), (e3, .inl (cI, 6, .inl fe3)), (e4, .inl (cI, 6, .inl fe4))]) [0, 1, 2, 3, 4, 5] (by decide +kernel) rfl
    exact W.iret (v := (-1000000001)) hx hb hr (fun t ht hW => ⟨⟨(-1000000001), (fun _ => 0), rfl, (by unfold wornR; rw [if_neg hw3]), ⟨fe2, fe3, fe4, n, by omega, hqi, (by unfold wornN; rw [if_neg hw3]), va_hq ht hP9, hD9⟩⟩, hS.F ht⟩) hS.2.2 dX10_worn_10
set_option maxHeartbeats 4000000 in
set_option maxRecDepth 100000 in
theorem c_X10_noteF (l : Launch) (dC : Nat → ClassId) (dI : Nat → Nat → Nat) (cI cZ cQ : ClassId) (h0 : Nat) (x4 : Nat) (x13 : Nat) (f_h0 : List Value) (nq : Nat) (f_x4 : List Value) (n : Nat) (b1 : Nat) (b2 : Nat) (fb1 : Nat → Int32) (fb2 : Nat → Int32) (q0 : Int32) (q1 : Int32) (sz : Nat) (e_h0_4 : fAt f_h0 4 = some (.ref x4)) (e_h0_13 : fAt f_h0 13 = some (.ref x13)) (e_x4_3 : fAt f_x4 3 = some (.int (nI nq))) (hnq : nq ≤ 8) (hn : n ≤ 15) (hqi : qIn fb1 n) : Met l yX10_note wsX10_note ({ frames := 1, cells := 0, slots := 0, locals := 62 }) (va_Pc [.ref h0, .int q0, .int q1] (fun U => U.heap.size = sz ∧ va_P (dC, dI) vwCl [(h0, .inr (10, f_h0)), (x4, .inr (5, f_x4)), (x13, .inr (0, [.int (nI n), .ref b1, .ref b2])), (b1, .inl (cI, 15, .inl fb1)), (b2, .inl (cI, 15, .inl fb2))] U.heap ∧ va_K (dC, dI) vwCl (tys0 cI cZ cQ) U ∧ va_D (fun _ => True) [(h0, .inr (10, f_h0)), (x4, .inr (5, f_x4)), (x13, .inr (0, [.int (nI n), .ref b1, .ref b2])), (b1, .inl (cI, 15, .inl fb1)), (b2, .inl (cI, 15, .inl fb2))])) (va_Qi (fun (r : Int32) (u : Nat → Nat) => r = noteR q0 q1 nq n) (fun (_ : Nat → Nat) (t : State) => ∃ (gg0 gg1 : Nat → Int32) (kk0 : Nat), kk0 ≤ 15 ∧ (qIn gg0 kk0) ∧ (kk0 = noteN q0 q1 nq n) ∧ va_P (dC, dI) vwCl [(h0, .inr (10, f_h0)), (x4, .inr (5, f_x4)), (x13, .inr (0, [.int (nI kk0), .ref b1, .ref b2])), (b1, .inl (cI, 15, .inl gg0)), (b2, .inl (cI, 15, .inl gg1))] t.heap ∧ va_D (va_A [(h0, .inr (10, f_h0)), (x4, .inr (5, f_x4)), (x13, .inr (0, [.int (nI n), .ref b1, .ref b2])), (b1, .inl (cI, 15, .inl fb1)), (b2, .inl (cI, 15, .inl fb2))] sz) [(h0, .inr (10, f_h0)), (x4, .inr (5, f_x4)), (x13, .inr (0, [.int (nI kk0), .ref b1, .ref b2])), (b1, .inl (cI, 15, .inl gg0)), (b2, .inl (cI, 15, .inl gg1))]) (va_A [(h0, .inr (10, f_h0)), (x4, .inr (5, f_x4)), (x13, .inr (0, [.int (nI n), .ref b1, .ref b2])), (b1, .inl (cI, 15, .inl fb1)), (b2, .inl (cI, 15, .inl fb2))] sz)) 0 0 (va_A [(h0, .inr (10, f_h0)), (x4, .inr (5, f_x4)), (x13, .inr (0, [.int (nI n), .ref b1, .ref b2])), (b1, .inl (cI, 15, .inl fb1)), (b2, .inl (cI, 15, .inl fb2))] sz) := by
  refine Met.ofW (cc := cX10_note) (maxL := 3) (ret := (some .int)) (by decide) rfl ?_
  intro p e s m args below meth c s₁ B hml hv
  obtain ⟨rfl, hsz, hP, hK, hD0⟩ := hv
  have hx := B.exec
  have hb := B.bytes
  have hr := B.returns
  have hts := atoms_spec (ws := wsX10_note) B.pre
  have hown : s.vm.findClass RX10 = some m.cls := findClass_of_methodNamed B.named
  have hlocks := B.notSynchronized
  have hi_X0 : ∀ w ∈ u_ws RX0 TX0 3, w ∈ wsX10_note := fun _ h => List.mem_cons_of_mem _ (List.mem_append_left _ (List.mem_append_right _ (h)))
  have hi_X10 : ∀ w ∈ u_ws RX10 TX10 14, w ∈ wsX10_note := fun _ h => List.mem_cons_of_mem _ (List.mem_append_left _ (List.mem_append_left _ (List.mem_append_right _ (h))))
  subst hsz
  have hD := hD0.self (sz := s.heap.size)
  generalize hAe : va_A [(h0, .inr (10, f_h0)), (x4, .inr (5, f_x4)), (x13, .inr (0, [.int (nI n), .ref b1, .ref b2])), (b1, .inl (cI, 15, .inl fb1)), (b2, .inl (cI, 15, .inl fb2))] s.heap.size = A at hD ⊢
  have hA : ∀ q : Nat, s.heap.size ≤ q → A q := fun q h => by rw [← hAe]; exact Or.inr h
  have hS : va_S A s.heap s.heap [] := va_S.rf
  have hl := lv_entry ([.ref h0, .int q0, .int q1]) (n := 3) (Nat.le_of_ble_eq_true rfl)
  rw [lg_entry_eq]
  generalize (lg_sl ([.ref h0, .int q0, .int q1]) ++ List.replicate (3 - (lg_sl ([.ref h0, .int q0, .int q1])).length) Slot.unset).toArray = ls at hl ⊢
  have hl : lv_has ls 3 [(0, .ref h0), (1, .int q0), (2, .int q1)] := hl
  refine lv_aload_n hx hb dX10_note_0 rfl (lv_at hl 0 rfl) ?_
  refine lv_iload_n hx hb dX10_note_1 rfl (lv_at hl 1 rfl) ?_
  have hPc := hP.sub (ws' := [(h0, .inr (10, f_h0)), (x4, .inr (5, f_x4))]) [0, 1] rfl
  refine va_calli (va_runV (As := [.int q0]) (rest := []) ⟨hx, hb, hml, hown, hts⟩ (c_X10_isQuill l dC dI cI cZ cQ h0 x4 f_h0 (nI nq) f_x4 q0 s.heap.size e_h0_4 e_x4_3) (cwV 1 hts gX10_note_X10_isQuill rfl rfl rfl hd_X10_isQuill_RX10 ⟨Nat.le_of_ble_eq_true rfl, Nat.le_of_ble_eq_true rfl⟩) (pv_R (va_recv hK hP (ci := 10) (q0 := 0) rfl rfl) hK hPc) rfl rfl hl.1 rfl (lv_room (Nat.le_of_ble_eq_true rfl)) dX10_note_2 ⟨Nat.le_of_ble_eq_true rfl, Nat.le_of_ble_eq_true rfl⟩) hS (fun q _ h => False.elim h) (fun q h => False.elim h) (fun r1 u2 t H1 locs ht hvm hw3 hB hz1 hk1 hS => ?_)
  have hP := hP.kept (fun k q hk => hk1 q.1 (hP k q hk).lt (fun h => h))
  clear hz1 hk1 hPc
  generalize H1 = H at hP hS ht ⊢
  try dsimp only at hw3
  rcases hw3 with ⟨rfl, hw3⟩ | ⟨rfl, hw3⟩
  ·
    obtain ⟨j4, hj4, rfl⟩ := x_ix hw3 (by omega)
    refine lv_if_ne (tgt := 11) hx hb dX10_note_5 (by decide) (fun c5 => ?_) (fun c5 => ?_)
    rotate_left
    · exact absurd c5 (by decide)
    clear c5
    refine lv_iload_n hx hb dX10_note_11 rfl (lv_at hl 2 rfl) ?_
    refine lv_iconst (v := 0) hx hb dX10_note_12 (by decide) ?_
    refine lv_bipush (v := 99) hx hb dX10_note_13 (by decide) ?_
    have hPc := hP.sub (ws' := []) [] rfl
    refine va_calli (va_runS (As := [.int q1, .int 0, .int 99]) (rest := []) ⟨hx, hb, hml, hown, hts⟩ (c_X10_within l dC dI cI cZ cQ q1 0 99 H.size ) (va_cwS 3 hts gX10_note_X10_within rfl rfl rfl (by decide +kernel) ⟨Nat.le_of_ble_eq_true rfl, Nat.le_of_ble_eq_true rfl⟩) (ps_R hK hPc) rfl rfl hl.1 rfl (lv_room (Nat.le_of_ble_eq_true rfl)) dX10_note_15 ⟨Nat.le_of_ble_eq_true rfl, Nat.le_of_ble_eq_true rfl⟩) hS (fun q _ h => False.elim h) (fun q h => False.elim h) (fun r6 u7 t H1 locs ht hvm hw8 hB hz1 hk1 hS => ?_)
    have hP := hP.kept (fun k q hk => hk1 q.1 (hP k q hk).lt (fun h => h))
    clear hz1 hk1 hPc
    generalize H1 = H at hP hS ht ⊢
    try dsimp only at hw8
    rcases hw8 with ⟨rfl, hw8⟩ | ⟨rfl, hw8⟩
    ·
      refine lv_if_ne (tgt := 24) hx hb dX10_note_18 (by decide) (fun c9 => ?_) (fun c9 => ?_)
      rotate_left
      · exact absurd c9 (by decide)
      clear c9
      refine lv_aload_n hx hb dX10_note_24 rfl (lv_at hl 0 rfl) ?_
      refine va_get (D := (dC, dI)) (ci := 10) (v := .ref x13) (C := RX10) (T := TX10) (N := 14) hx hb hts hi_X10 hown hK hP 0 rfl rfl 13 (by decide) (hts (.fieldLink RX10 95 "LeftQuills" "book" "LLeftQuills$Book;") (wmx 3 rfl)) (fun _ h9 => h9) e_h0_13 dX10_note_25 ?_
      refine va_get (D := (dC, dI)) (ci := 0) (v := .int (nI n)) (C := RX0) (T := TX0) (N := 3) hx hb hts hi_X0 hown hK hP 2 rfl rfl 0 (by decide) (hts (.fieldLink RX10 126 "LeftQuills$Book" "count" "I") (wmx 4 rfl)) (fun _ h9 => h9) rfl dX10_note_28 ?_
      refine lv_bipush (v := 15) hx hb dX10_note_31 (by decide) ?_
      refine lv_icmp_lt (tgt := 39) hx hb dX10_note_33 (by decide) (fun c10 => ?_) (fun c10 => ?_)
      ·
        have c10 : n < 15 := (nI_ltI (a := n) (b := 15) (by omega) (by omega)).mp c10
        refine lv_aload_n hx hb dX10_note_39 rfl (lv_at hl 0 rfl) ?_
        refine va_get (D := (dC, dI)) (ci := 10) (v := .ref x13) (C := RX10) (T := TX10) (N := 14) hx hb hts hi_X10 hown hK hP 0 rfl rfl 13 (by decide) (hts (.fieldLink RX10 95 "LeftQuills" "book" "LLeftQuills$Book;") (wmx 3 rfl)) (fun _ h9 => h9) e_h0_13 dX10_note_40 ?_
        refine lv_iload_n hx hb dX10_note_43 rfl (lv_at hl 1 rfl) ?_
        refine lv_iload_n hx hb dX10_note_44 rfl (lv_at hl 2 rfl) ?_
        have hc9 := va_cut (W' := [(x13, .inr (0, [.int (nI n), .ref b1, .ref b2])), (b1, .inl (cI, 15, .inl fb1)), (b2, .inl (cI, 15, .inl fb2))]) hP hD hS hA [2, 3, 4] (by decide) rfl
        have hPc := hc9.1
        have hDc := hc9.2.1
        have hFc := hc9.2.2
        clear hc9
        refine va_callv (va_runV (As := [.int (nI j4), .int q1]) (rest := []) ⟨hx, hb, hml, hown, hts⟩ (c_X0_addF l dC dI cI cZ cQ x13 n b1 b2 fb1 fb2 j4 q1 H.size (by omega) (by omega) (by first | assumption | decide)) (cwV 2 hts gX10_note_X0_add rfl rfl rfl hd_X0_add_RX0 ⟨Nat.le_of_ble_eq_true rfl, Nat.le_of_ble_eq_true rfl⟩) (pv_D (va_recv hK hP (ci := 0) (q0 := 2) rfl rfl) hK hPc hDc) rfl rfl hl.1 rfl (lv_room (Nat.le_of_ble_eq_true rfl)) dX10_note_45 ⟨Nat.le_of_ble_eq_true rfl, Nat.le_of_ble_eq_true rfl⟩) hS (fun q _ h => hFc q h) hFc (fun u12 t H1 locs ht hvm hw13 hB hz1 hk1 hS => ?_)
        obtain ⟨f14, f15, k16, hk16, he17, he18, hP1, hD1⟩ := hB
        replace hP1 := va_hp ht hP1
        obtain ⟨hP, hD⟩ := va_join (wr := [(h0, .inr (10, f_h0)), (x4, .inr (5, f_x4))]) (w1 := [(x13, .inr (0, [.int (nI k16), .ref b1, .ref b2])), (b1, .inl (cI, 15, .inl f14)), (b2, .inl (cI, 15, .inl f15))]) hP hD [2, 3, 4] [0, 1] rfl rfl (by decide +kernel) (by decide +kernel) hk1 hFc hP1 hD1
        clear hP1 hD1
        clear hz1 hk1 hPc hDc hFc
        generalize H1 = H at hP hS ht ⊢
        have hPD : pdW (dC, dI) vwCl A [(h0, .inr (10, f_h0)), (x4, .inr (5, f_x4)), (x13, .inr (0, [.int (nI k16), .ref b1, .ref b2])), (b1, .inl (cI, 15, .inl f14)), (b2, .inl (cI, 15, .inl f15))] H := ⟨hP, hD⟩
        have hP := hPD.1
        have hD := hPD.2
        clear hPD
        try dsimp only at hw13
        subst he18
        have hPD : pdW (dC, dI) vwCl A [(h0, .inr (10, f_h0)), (x4, .inr (5, f_x4)), (x13, .inr (0, [.int (nI (n + 1)), .ref b1, .ref b2])), (b1, .inl (cI, 15, .inl f14)), (b2, .inl (cI, 15, .inl f15))] H := ⟨hP, hD⟩
        have hP := hPD.1
        have hD := hPD.2
        clear hPD
        refine lv_aload_n hx hb dX10_note_48 rfl (lv_at hl 0 rfl) ?_
        refine va_get (D := (dC, dI)) (ci := 10) (v := .ref x13) (C := RX10) (T := TX10) (N := 14) hx hb hts hi_X10 hown hK hP 0 rfl rfl 13 (by decide) (hts (.fieldLink RX10 95 "LeftQuills" "book" "LLeftQuills$Book;") (wmx 3 rfl)) (fun _ h9 => h9) e_h0_13 dX10_note_49 ?_
        refine va_get (D := (dC, dI)) (ci := 0) (v := .int (nI (n + 1))) (C := RX0) (T := TX0) (N := 3) hx hb hts hi_X0 hown hK hP 2 rfl rfl 0 (by decide) (hts (.fieldLink RX10 126 "LeftQuills$Book" "count" "I") (wmx 4 rfl)) (fun _ h9 => h9) rfl dX10_note_52 ?_
        have hP9 := hP.sub (ws' := [(h0, .inr (10, f_h0)), (x4, .inr (5, f_x4)), (x13, .inr (0, [.int (nI (n + 1)), .ref b1, .ref b2])), (b1, .inl (cI, 15, .inl f14)), (b2, .inl (cI, 15, .inl f15))]) [0, 1, 2, 3, 4] rfl
        have hD9 := hD.sub (ws' := [(h0, .inr (10, f_h0)), (x4, .inr (5, f_x4)), (x13, .inr (0, [.int (nI (n + 1)), .ref b1, .ref b2])), (b1, .inl (cI, 15, .inl f14)), (b2, .inl (cI, 15, .inl f15))]) [0, 1, 2, 3, 4] (by decide +kernel) rfl
        exact W.iret (v := nI (n + 1)) hx hb hr (fun t ht hW => ⟨⟨nI (n + 1), (fun _ => 0), rfl, (by unfold noteR; rw [if_pos hw3, if_pos hw8, if_pos (by omega)]), ⟨f14, f15, (n + 1), by omega, he17, (by unfold noteN; rw [if_pos hw3, if_pos hw8, if_pos (by omega)]), va_hq ht hP9, hD9⟩⟩, hS.F ht⟩) hS.2.2 dX10_note_55
      ·
        have c10 : ¬ n < 15 := fun h => c10 ((nI_ltI (a := n) (b := 15) (by omega) (by omega)).mpr h)
        refine lv_ldc (v := (-1000000004)) hx hb hown (hts (.constant RX10 104 (-1000000004)) (wmx 5 rfl)) dX10_note_36 ?_
        have hP9 := hP.sub (ws' := [(h0, .inr (10, f_h0)), (x4, .inr (5, f_x4)), (x13, .inr (0, [.int (nI n), .ref b1, .ref b2])), (b1, .inl (cI, 15, .inl fb1)), (b2, .inl (cI, 15, .inl fb2))]) [0, 1, 2, 3, 4] rfl
        have hD9 := hD.sub (ws' := [(h0, .inr (10, f_h0)), (x4, .inr (5, f_x4)), (x13, .inr (0, [.int (nI n), .ref b1, .ref b2])), (b1, .inl (cI, 15, .inl fb1)), (b2, .inl (cI, 15, .inl fb2))]) [0, 1, 2, 3, 4] (by decide +kernel) rfl
        exact W.iret (v := (-1000000004)) hx hb hr (fun t ht hW => ⟨⟨(-1000000004), (fun _ => 0), rfl, (by unfold noteR; rw [if_pos hw3, if_pos hw8, if_neg (by omega)]), ⟨fb1, fb2, n, by omega, hqi, (by unfold noteN; rw [if_pos hw3, if_pos hw8, if_neg (by omega)]), va_hq ht hP9, hD9⟩⟩, hS.F ht⟩) hS.2.2 dX10_note_38
    ·
      refine lv_if_ne (tgt := 24) hx hb dX10_note_18 (by decide) (fun c19 => ?_) (fun c19 => ?_)
      · exact absurd c19 (by decide)
      clear c19
      refine lv_ldc (v := (-1000000002)) hx hb hown (hts (.constant RX10 103 (-1000000002)) (wmx 2 rfl)) dX10_note_21 ?_
      have hP9 := hP.sub (ws' := [(h0, .inr (10, f_h0)), (x4, .inr (5, f_x4)), (x13, .inr (0, [.int (nI n), .ref b1, .ref b2])), (b1, .inl (cI, 15, .inl fb1)), (b2, .inl (cI, 15, .inl fb2))]) [0, 1, 2, 3, 4] rfl
      have hD9 := hD.sub (ws' := [(h0, .inr (10, f_h0)), (x4, .inr (5, f_x4)), (x13, .inr (0, [.int (nI n), .ref b1, .ref b2])), (b1, .inl (cI, 15, .inl fb1)), (b2, .inl (cI, 15, .inl fb2))]) [0, 1, 2, 3, 4] (by decide +kernel) rfl
      exact W.iret (v := (-1000000002)) hx hb hr (fun t ht hW => ⟨⟨(-1000000002), (fun _ => 0), rfl, (by unfold noteR; rw [if_pos hw3, if_neg hw8]), ⟨fb1, fb2, n, by omega, hqi, (by unfold noteN; rw [if_pos hw3, if_neg hw8]), va_hq ht hP9, hD9⟩⟩, hS.F ht⟩) hS.2.2 dX10_note_23
  ·
    refine lv_if_ne (tgt := 11) hx hb dX10_note_5 (by decide) (fun c20 => ?_) (fun c20 => ?_)
    · exact absurd c20 (by decide)
    clear c20
    refine lv_ldc (v := (-1000000001)) hx hb hown (hts (.constant RX10 160 (-1000000001)) (wmx 1 rfl)) dX10_note_8 ?_
    have hP9 := hP.sub (ws' := [(h0, .inr (10, f_h0)), (x4, .inr (5, f_x4)), (x13, .inr (0, [.int (nI n), .ref b1, .ref b2])), (b1, .inl (cI, 15, .inl fb1)), (b2, .inl (cI, 15, .inl fb2))]) [0, 1, 2, 3, 4] rfl
    have hD9 := hD.sub (ws' := [(h0, .inr (10, f_h0)), (x4, .inr (5, f_x4)), (x13, .inr (0, [.int (nI n), .ref b1, .ref b2])), (b1, .inl (cI, 15, .inl fb1)), (b2, .inl (cI, 15, .inl fb2))]) [0, 1, 2, 3, 4] (by decide +kernel) rfl
    exact W.iret (v := (-1000000001)) hx hb hr (fun t ht hW => ⟨⟨(-1000000001), (fun _ => 0), rfl, (by unfold noteR; rw [if_neg hw3]), ⟨fb1, fb2, n, by omega, hqi, (by unfold noteN; rw [if_neg hw3]), va_hq ht hP9, hD9⟩⟩, hS.F ht⟩) hS.2.2 dX10_note_10
set_option maxHeartbeats 4000000 in
set_option maxRecDepth 100000 in
theorem c_X10_tearF (l : Launch) (dC : Nat → ClassId) (dI : Nat → Nat → Nat) (cI cZ cQ : ClassId) (h0 : Nat) (x12 : Nat) (x13 : Nat) (f_h0 : List Value) (n : Nat) (ho : Nat) (e2 : Nat) (e3 : Nat) (e4 : Nat) (nk : Nat) (b1 : Nat) (b2 : Nat) (sz : Nat) (e_h0_12 : fAt f_h0 12 = some (.ref x12)) (e_h0_13 : fAt f_h0 13 = some (.ref x13)) (hn : n ≤ 6) (hnk : nk ≤ 15) : Met l yX10_tear wsX10_tear ({ frames := 0, cells := 0, slots := 0, locals := 40 }) (va_Pc [.ref h0] (fun U => U.heap.size = sz ∧ va_P (dC, dI) vwCl [(h0, .inr (10, f_h0)), (x12, .inr (2, [.int (nI n), .ref ho, .ref e2, .ref e3, .ref e4])), (x13, .inr (0, [.int (nI nk), .ref b1, .ref b2]))] U.heap ∧ va_K (dC, dI) vwCl (tys0 cI cZ cQ) U ∧ va_D (fun _ => True) [(h0, .inr (10, f_h0)), (x12, .inr (2, [.int (nI n), .ref ho, .ref e2, .ref e3, .ref e4])), (x13, .inr (0, [.int (nI nk), .ref b1, .ref b2]))])) (va_Qi (fun (r : Int32) (u : Nat → Nat) => r = nI (n + nk)) (fun (_ : Nat → Nat) (t : State) => ∃ (kk0 kk1 : Nat), kk0 ≤ 0 ∧ kk1 ≤ 0 ∧ va_P (dC, dI) vwCl [(h0, .inr (10, f_h0)), (x12, .inr (2, [.int (nI kk0), .ref ho, .ref e2, .ref e3, .ref e4])), (x13, .inr (0, [.int (nI kk1), .ref b1, .ref b2]))] t.heap ∧ va_D (va_A [(h0, .inr (10, f_h0)), (x12, .inr (2, [.int (nI n), .ref ho, .ref e2, .ref e3, .ref e4])), (x13, .inr (0, [.int (nI nk), .ref b1, .ref b2]))] sz) [(h0, .inr (10, f_h0)), (x12, .inr (2, [.int (nI kk0), .ref ho, .ref e2, .ref e3, .ref e4])), (x13, .inr (0, [.int (nI kk1), .ref b1, .ref b2]))]) (va_A [(h0, .inr (10, f_h0)), (x12, .inr (2, [.int (nI n), .ref ho, .ref e2, .ref e3, .ref e4])), (x13, .inr (0, [.int (nI nk), .ref b1, .ref b2]))] sz)) 0 0 (va_A [(h0, .inr (10, f_h0)), (x12, .inr (2, [.int (nI n), .ref ho, .ref e2, .ref e3, .ref e4])), (x13, .inr (0, [.int (nI nk), .ref b1, .ref b2]))] sz) := by
  refine Met.ofW (cc := cX10_tear) (maxL := 2) (ret := (some .int)) (by decide) rfl ?_
  intro p e s m args below meth c s₁ B hml hv
  obtain ⟨rfl, hsz, hP, hK, hD0⟩ := hv
  have hx := B.exec
  have hb := B.bytes
  have hr := B.returns
  have hts := atoms_spec (ws := wsX10_tear) B.pre
  have hown : s.vm.findClass RX10 = some m.cls := findClass_of_methodNamed B.named
  have hlocks := B.notSynchronized
  have hi_X0 : ∀ w ∈ u_ws RX0 TX0 3, w ∈ wsX10_tear := fun _ h => List.mem_cons_of_mem _ (List.mem_append_right _ (h))
  have hi_X10 : ∀ w ∈ u_ws RX10 TX10 14, w ∈ wsX10_tear := fun _ h => List.mem_cons_of_mem _ (List.mem_append_left _ (List.mem_append_left _ (List.mem_append_right _ (h))))
  have hi_X2 : ∀ w ∈ u_ws RX2 TX2 5, w ∈ wsX10_tear := fun _ h => List.mem_cons_of_mem _ (List.mem_append_left _ (List.mem_append_right _ (h)))
  subst hsz
  have hD := hD0.self (sz := s.heap.size)
  generalize hAe : va_A [(h0, .inr (10, f_h0)), (x12, .inr (2, [.int (nI n), .ref ho, .ref e2, .ref e3, .ref e4])), (x13, .inr (0, [.int (nI nk), .ref b1, .ref b2]))] s.heap.size = A at hD ⊢
  have hA : ∀ q : Nat, s.heap.size ≤ q → A q := fun q h => by rw [← hAe]; exact Or.inr h
  have hS : va_S A s.heap s.heap [] := va_S.rf
  have hl := lv_entry ([.ref h0]) (n := 2) (Nat.le_of_ble_eq_true rfl)
  rw [lg_entry_eq]
  generalize (lg_sl ([.ref h0]) ++ List.replicate (2 - (lg_sl ([.ref h0])).length) Slot.unset).toArray = ls at hl ⊢
  have hl : lv_has ls 2 [(0, .ref h0)] := hl
  refine lv_aload_n hx hb dX10_tear_0 rfl (lv_at hl 0 rfl) ?_
  refine va_get (D := (dC, dI)) (ci := 10) (v := .ref x12) (C := RX10) (T := TX10) (N := 14) hx hb hts hi_X10 hown hK hP 0 rfl rfl 12 (by decide) (hts (.fieldLink RX10 88 "LeftQuills" "evidence" "LLeftQuills$Evidence;") (wmx 1 rfl)) (fun _ h9 => h9) e_h0_12 dX10_tear_1 ?_
  refine va_get (D := (dC, dI)) (ci := 2) (v := .int (nI n)) (C := RX2) (T := TX2) (N := 5) hx hb hts hi_X2 hown hK hP 1 rfl rfl 0 (by decide) (hts (.fieldLink RX10 123 "LeftQuills$Evidence" "count" "I") (wmx 2 rfl)) (fun _ h9 => h9) rfl dX10_tear_4 ?_
  refine lv_aload_n hx hb dX10_tear_7 rfl (lv_at hl 0 rfl) ?_
  refine va_get (D := (dC, dI)) (ci := 10) (v := .ref x13) (C := RX10) (T := TX10) (N := 14) hx hb hts hi_X10 hown hK hP 0 rfl rfl 13 (by decide) (hts (.fieldLink RX10 95 "LeftQuills" "book" "LLeftQuills$Book;") (wmx 3 rfl)) (fun _ h9 => h9) e_h0_13 dX10_tear_8 ?_
  refine va_get (D := (dC, dI)) (ci := 0) (v := .int (nI nk)) (C := RX0) (T := TX0) (N := 3) hx hb hts hi_X0 hown hK hP 2 rfl rfl 0 (by decide) (hts (.fieldLink RX10 126 "LeftQuills$Book" "count" "I") (wmx 4 rfl)) (fun _ h9 => h9) rfl dX10_tear_11 ?_
  refine lv_iadd hx hb dX10_tear_14 ?_
  refine lv_topi (fun z1 ez1 => ?_)
  obtain rfl : z1 = nI (n + nk) := ez1.trans (nI_add n nk)
  refine lv_istore_n (lv' := [(1, .int (nI (n + nk))), (0, .ref h0)]) hx hb dX10_tear_15 rfl hl (by decide) rfl (fun ls hl => ?_)
  refine lv_aload_n hx hb dX10_tear_16 rfl (lv_at hl 1 rfl) ?_
  refine va_get (D := (dC, dI)) (ci := 10) (v := .ref x12) (C := RX10) (T := TX10) (N := 14) hx hb hts hi_X10 hown hK hP 0 rfl rfl 12 (by decide) (hts (.fieldLink RX10 88 "LeftQuills" "evidence" "LLeftQuills$Evidence;") (wmx 1 rfl)) (fun _ h9 => h9) e_h0_12 dX10_tear_17 ?_
  refine lv_iconst (v := 0) hx hb dX10_tear_20 (by decide) ?_
  refine va_put (D := (dC, dI)) (ci := 2) (v := .int 0) (ty := .int) (C := RX2) (T := TX2) (N := 5) hx hb hts hi_X2 tyX2 tyX2_ok nmX2 hown hK hP hD hS 1 rfl rfl 0 (by decide) (hts (.fieldLink RX10 123 "LeftQuills$Evidence" "count" "I") (wmx 2 rfl)) (fun _ h9 => h9) rfl (by decide +kernel) rfl rfl (Nat.le_of_ble_eq_true rfl) dX10_tear_21 (fun H locs hP hD hS => ?_)
  have hPD : pdW (dC, dI) vwCl A [(h0, .inr (10, f_h0)), (x12, .inr (2, [.int 0, .ref ho, .ref e2, .ref e3, .ref e4])), (x13, .inr (0, [.int (nI nk), .ref b1, .ref b2]))] H := ⟨hP, hD⟩
  have hP := hPD.1
  have hD := hPD.2
  clear hPD
  refine lv_aload_n hx hb dX10_tear_24 rfl (lv_at hl 1 rfl) ?_
  refine va_get (D := (dC, dI)) (ci := 10) (v := .ref x13) (C := RX10) (T := TX10) (N := 14) hx hb hts hi_X10 hown hK hP 0 rfl rfl 13 (by decide) (hts (.fieldLink RX10 95 "LeftQuills" "book" "LLeftQuills$Book;") (wmx 3 rfl)) (fun _ h9 => h9) e_h0_13 dX10_tear_25 ?_
  refine lv_iconst (v := 0) hx hb dX10_tear_28 (by decide) ?_
  refine va_put (D := (dC, dI)) (ci := 0) (v := .int 0) (ty := .int) (C := RX0) (T := TX0) (N := 3) hx hb hts hi_X0 tyX0 tyX0_ok nmX0 hown hK hP hD hS 2 rfl rfl 0 (by decide) (hts (.fieldLink RX10 126 "LeftQuills$Book" "count" "I") (wmx 4 rfl)) (fun _ h9 => h9) rfl (by decide +kernel) rfl rfl (Nat.le_of_ble_eq_true rfl) dX10_tear_29 (fun H locs hP hD hS => ?_)
  have hPD : pdW (dC, dI) vwCl A [(h0, .inr (10, f_h0)), (x12, .inr (2, [.int 0, .ref ho, .ref e2, .ref e3, .ref e4])), (x13, .inr (0, [.int 0, .ref b1, .ref b2]))] H := ⟨hP, hD⟩
  have hP := hPD.1
  have hD := hPD.2
  clear hPD
  refine lv_iload_n hx hb dX10_tear_32 rfl (lv_at hl 0 rfl) ?_
  have hP9 := hP.sub (ws' := [(h0, .inr (10, f_h0)), (x12, .inr (2, [.int 0, .ref ho, .ref e2, .ref e3, .ref e4])), (x13, .inr (0, [.int 0, .ref b1, .ref b2]))]) [0, 1, 2] rfl
  have hD9 := hD.sub (ws' := [(h0, .inr (10, f_h0)), (x12, .inr (2, [.int 0, .ref ho, .ref e2, .ref e3, .ref e4])), (x13, .inr (0, [.int 0, .ref b1, .ref b2]))]) [0, 1, 2] (by decide +kernel) rfl
  exact W.iret (v := nI (n + nk)) hx hb hr (fun t ht hW => ⟨⟨nI (n + nk), (fun _ => 0), rfl, rfl, ⟨0, 0, by omega, by omega, va_hq ht hP9, hD9⟩⟩, hS.F ht⟩) hS.2.2 dX10_tear_33
set_option maxHeartbeats 4000000 in
set_option maxRecDepth 100000 in
theorem c_X11_wornF (l : Launch) (dC : Nat → ClassId) (dI : Nat → Nat → Nat) (cI cZ cQ : ClassId) (h0 : Nat) (n0 : Int32) (n1 : Int32) (nq : Nat) (m3 : Nat) (m4 : Nat) (m5 : Nat) (nh : Nat) (m7 : Nat) (m8 : Nat) (m9 : Nat) (m10 : Nat) (sd : Nat) (m12 : Nat) (tx : Nat) (n14 : Int32) (at9 : Nat) (n16 : Int32) (n17 : Int32) (m18 : Nat) (rq : Nat) (m20 : Nat) (m21 : Nat) (m22 : Nat) (m23 : Nat) (m24 : Nat) (rh : Nat) (m26 : Nat) (m27 : Nat) (m28 : Nat) (un : Nat) (m30 : Nat) (n31 : Int32) (n32 : Int32) (m33 : Nat) (n34 : Int32) (n35 : Int32) (m36 : Nat) (wm : Nat) (m38 : Nat) (m39 : Nat) (m40 : Nat) (bk : Nat) (m42 : Nat) (m43 : Nat) (m44 : Nat) (m45 : Nat) (fm38 : Nat → Int32) (fm39 : Nat → Int32) (fm40 : Nat → Int32) (q0 : Int32) (q1 : Int32) (q2 : Int32) (sz : Nat) (hnq : nq ≤ 8) (hwm : wm ≤ 6) (hqi : qLt fm38 wm nq) (hpi : cIn fm39 wm) : Met l yX11_worn wsX11_worn ({ frames := 2, cells := 0, slots := 0, locals := 86 }) (va_Pc [.ref h0, .int q0, .int q1, .int q2] (fun U => U.heap.size = sz ∧ va_P (dC, dI) vwCl [(h0, .inr (11, (.int n0 :: .int n1 :: .int (nI nq) :: .ref m3 :: .ref m4 :: .ref m5 :: .int (nI nh) :: .ref m7 :: .ref m8 :: .ref m9 :: .ref m10 :: .int (nI sd) :: .ref m12 :: .int (nI tx) :: .int n14 :: .int (nI at9) :: .int n16 :: .int n17 :: .ref m18 :: .int (nI rq) :: .ref m20 :: .ref m21 :: .ref m22 :: .ref m23 :: .ref m24 :: .int (nI rh) :: .ref m26 :: .ref m27 :: .ref m28 :: .int (nI un) :: .ref m30 :: .int n31 :: .int n32 :: .ref m33 :: .int n34 :: .int n35 :: .ref m36 :: .int (nI wm) :: .ref m38 :: .ref m39 :: .ref m40 :: .int (nI bk) :: .ref m42 :: .ref m43 :: .ref m44 :: .ref m45 :: []))), (m38, .inl (cI, 6, .inl fm38)), (m39, .inl (cI, 6, .inl fm39)), (m40, .inl (cI, 6, .inl fm40))] U.heap ∧ va_K (dC, dI) vwCl (tys0 cI cZ cQ) U ∧ va_D (fun _ => True) [(h0, .inr (11, (.int n0 :: .int n1 :: .int (nI nq) :: .ref m3 :: .ref m4 :: .ref m5 :: .int (nI nh) :: .ref m7 :: .ref m8 :: .ref m9 :: .ref m10 :: .int (nI sd) :: .ref m12 :: .int (nI tx) :: .int n14 :: .int (nI at9) :: .int n16 :: .int n17 :: .ref m18 :: .int (nI rq) :: .ref m20 :: .ref m21 :: .ref m22 :: .ref m23 :: .ref m24 :: .int (nI rh) :: .ref m26 :: .ref m27 :: .ref m28 :: .int (nI un) :: .ref m30 :: .int n31 :: .int n32 :: .ref m33 :: .int n34 :: .int n35 :: .ref m36 :: .int (nI wm) :: .ref m38 :: .ref m39 :: .ref m40 :: .int (nI bk) :: .ref m42 :: .ref m43 :: .ref m44 :: .ref m45 :: []))), (m38, .inl (cI, 6, .inl fm38)), (m39, .inl (cI, 6, .inl fm39)), (m40, .inl (cI, 6, .inl fm40))])) (va_Qi (fun (r : Int32) (u : Nat → Nat) => r = wornR q0 q1 q2 nq wm) (fun (_ : Nat → Nat) (t : State) => ∃ (gg0 gg1 gg2 : Nat → Int32) (kk0 : Nat), kk0 ≤ 6 ∧ (qLt gg0 kk0 nq) ∧ (cIn gg1 kk0) ∧ (kk0 = wornN q0 q1 q2 nq wm) ∧ va_P (dC, dI) vwCl [(h0, .inr (11, (.int n0 :: .int n1 :: .int (nI nq) :: .ref m3 :: .ref m4 :: .ref m5 :: .int (nI nh) :: .ref m7 :: .ref m8 :: .ref m9 :: .ref m10 :: .int (nI sd) :: .ref m12 :: .int (nI tx) :: .int n14 :: .int (nI at9) :: .int n16 :: .int n17 :: .ref m18 :: .int (nI rq) :: .ref m20 :: .ref m21 :: .ref m22 :: .ref m23 :: .ref m24 :: .int (nI rh) :: .ref m26 :: .ref m27 :: .ref m28 :: .int (nI un) :: .ref m30 :: .int n31 :: .int n32 :: .ref m33 :: .int n34 :: .int n35 :: .ref m36 :: .int (nI kk0) :: .ref m38 :: .ref m39 :: .ref m40 :: .int (nI bk) :: .ref m42 :: .ref m43 :: .ref m44 :: .ref m45 :: []))), (m38, .inl (cI, 6, .inl gg0)), (m39, .inl (cI, 6, .inl gg1)), (m40, .inl (cI, 6, .inl gg2))] t.heap ∧ va_D (va_A [(h0, .inr (11, (.int n0 :: .int n1 :: .int (nI nq) :: .ref m3 :: .ref m4 :: .ref m5 :: .int (nI nh) :: .ref m7 :: .ref m8 :: .ref m9 :: .ref m10 :: .int (nI sd) :: .ref m12 :: .int (nI tx) :: .int n14 :: .int (nI at9) :: .int n16 :: .int n17 :: .ref m18 :: .int (nI rq) :: .ref m20 :: .ref m21 :: .ref m22 :: .ref m23 :: .ref m24 :: .int (nI rh) :: .ref m26 :: .ref m27 :: .ref m28 :: .int (nI un) :: .ref m30 :: .int n31 :: .int n32 :: .ref m33 :: .int n34 :: .int n35 :: .ref m36 :: .int (nI wm) :: .ref m38 :: .ref m39 :: .ref m40 :: .int (nI bk) :: .ref m42 :: .ref m43 :: .ref m44 :: .ref m45 :: []))), (m38, .inl (cI, 6, .inl fm38)), (m39, .inl (cI, 6, .inl fm39)), (m40, .inl (cI, 6, .inl fm40))] sz) [(h0, .inr (11, (.int n0 :: .int n1 :: .int (nI nq) :: .ref m3 :: .ref m4 :: .ref m5 :: .int (nI nh) :: .ref m7 :: .ref m8 :: .ref m9 :: .ref m10 :: .int (nI sd) :: .ref m12 :: .int (nI tx) :: .int n14 :: .int (nI at9) :: .int n16 :: .int n17 :: .ref m18 :: .int (nI rq) :: .ref m20 :: .ref m21 :: .ref m22 :: .ref m23 :: .ref m24 :: .int (nI rh) :: .ref m26 :: .ref m27 :: .ref m28 :: .int (nI un) :: .ref m30 :: .int n31 :: .int n32 :: .ref m33 :: .int n34 :: .int n35 :: .ref m36 :: .int (nI kk0) :: .ref m38 :: .ref m39 :: .ref m40 :: .int (nI bk) :: .ref m42 :: .ref m43 :: .ref m44 :: .ref m45 :: []))), (m38, .inl (cI, 6, .inl gg0)), (m39, .inl (cI, 6, .inl gg1)), (m40, .inl (cI, 6, .inl gg2))]) (va_A [(h0, .inr (11, (.int n0 :: .int n1 :: .int (nI nq) :: .ref m3 :: .ref m4 :: .ref m5 :: .int (nI nh) :: .ref m7 :: .ref m8 :: .ref m9 :: .ref m10 :: .int (nI sd) :: .ref m12 :: .int (nI tx) :: .int n14 :: .int (nI at9) :: .int n16 :: .int n17 :: .ref m18 :: .int (nI rq) :: .ref m20 :: .ref m21 :: .ref m22 :: .ref m23 :: .ref m24 :: .int (nI rh) :: .ref m26 :: .ref m27 :: .ref m28 :: .int (nI un) :: .ref m30 :: .int n31 :: .int n32 :: .ref m33 :: .int n34 :: .int n35 :: .ref m36 :: .int (nI wm) :: .ref m38 :: .ref m39 :: .ref m40 :: .int (nI bk) :: .ref m42 :: .ref m43 :: .ref m44 :: .ref m45 :: []))), (m38, .inl (cI, 6, .inl fm38)), (m39, .inl (cI, 6, .inl fm39)), (m40, .inl (cI, 6, .inl fm40))] sz)) 0 0 (va_A [(h0, .inr (11, (.int n0 :: .int n1 :: .int (nI nq) :: .ref m3 :: .ref m4 :: .ref m5 :: .int (nI nh) :: .ref m7 :: .ref m8 :: .ref m9 :: .ref m10 :: .int (nI sd) :: .ref m12 :: .int (nI tx) :: .int n14 :: .int (nI at9) :: .int n16 :: .int n17 :: .ref m18 :: .int (nI rq) :: .ref m20 :: .ref m21 :: .ref m22 :: .ref m23 :: .ref m24 :: .int (nI rh) :: .ref m26 :: .ref m27 :: .ref m28 :: .int (nI un) :: .ref m30 :: .int n31 :: .int n32 :: .ref m33 :: .int n34 :: .int n35 :: .ref m36 :: .int (nI wm) :: .ref m38 :: .ref m39 :: .ref m40 :: .int (nI bk) :: .ref m42 :: .ref m43 :: .ref m44 :: .ref m45 :: []))), (m38, .inl (cI, 6, .inl fm38)), (m39, .inl (cI, 6, .inl fm39)), (m40, .inl (cI, 6, .inl fm40))] sz) := by
  refine Met.ofW (cc := cX11_worn) (maxL := 4) (ret := (some .int)) (by decide) rfl ?_
  intro p e s m args below meth c s₁ B hml hv
  obtain ⟨rfl, hsz, hP, hK, hD0⟩ := hv
  have hx := B.exec
  have hb := B.bytes
  have hr := B.returns
  have hts := atoms_spec (ws := wsX11_worn) B.pre
  have hown : s.vm.findClass RX11 = some m.cls := findClass_of_methodNamed B.named
  have hlocks := B.notSynchronized
  have hi_X11 : ∀ w ∈ u_ws RX11 TX11 46, w ∈ wsX11_worn := fun _ h => List.mem_cons_of_mem _ (List.mem_append_right _ (h))
  subst hsz
  have hD := hD0.self (sz := s.heap.size)
  generalize hAe : va_A [(h0, .inr (11, (.int n0 :: .int n1 :: .int (nI nq) :: .ref m3 :: .ref m4 :: .ref m5 :: .int (nI nh) :: .ref m7 :: .ref m8 :: .ref m9 :: .ref m10 :: .int (nI sd) :: .ref m12 :: .int (nI tx) :: .int n14 :: .int (nI at9) :: .int n16 :: .int n17 :: .ref m18 :: .int (nI rq) :: .ref m20 :: .ref m21 :: .ref m22 :: .ref m23 :: .ref m24 :: .int (nI rh) :: .ref m26 :: .ref m27 :: .ref m28 :: .int (nI un) :: .ref m30 :: .int n31 :: .int n32 :: .ref m33 :: .int n34 :: .int n35 :: .ref m36 :: .int (nI wm) :: .ref m38 :: .ref m39 :: .ref m40 :: .int (nI bk) :: .ref m42 :: .ref m43 :: .ref m44 :: .ref m45 :: []))), (m38, .inl (cI, 6, .inl fm38)), (m39, .inl (cI, 6, .inl fm39)), (m40, .inl (cI, 6, .inl fm40))] s.heap.size = A at hD ⊢
  have hA : ∀ q : Nat, s.heap.size ≤ q → A q := fun q h => by rw [← hAe]; exact Or.inr h
  have hS : va_S A s.heap s.heap [] := va_S.rf
  have hl := lv_entry ([.ref h0, .int q0, .int q1, .int q2]) (n := 4) (Nat.le_of_ble_eq_true rfl)
  rw [lg_entry_eq]
  generalize (lg_sl ([.ref h0, .int q0, .int q1, .int q2]) ++ List.replicate (4 - (lg_sl ([.ref h0, .int q0, .int q1, .int q2])).length) Slot.unset).toArray = ls at hl ⊢
  have hl : lv_has ls 4 [(0, .ref h0), (1, .int q0), (2, .int q1), (3, .int q2)] := hl
  refine lv_aload_n hx hb dX11_worn_0 rfl (lv_at hl 0 rfl) ?_
  refine lv_iload_n hx hb dX11_worn_1 rfl (lv_at hl 1 rfl) ?_
  have hPc := hP.sub (ws' := [(h0, .inr (11, (.int n0 :: .int n1 :: .int (nI nq) :: .ref m3 :: .ref m4 :: .ref m5 :: .int (nI nh) :: .ref m7 :: .ref m8 :: .ref m9 :: .ref m10 :: .int (nI sd) :: .ref m12 :: .int (nI tx) :: .int n14 :: .int (nI at9) :: .int n16 :: .int n17 :: .ref m18 :: .int (nI rq) :: .ref m20 :: .ref m21 :: .ref m22 :: .ref m23 :: .ref m24 :: .int (nI rh) :: .ref m26 :: .ref m27 :: .ref m28 :: .int (nI un) :: .ref m30 :: .int n31 :: .int n32 :: .ref m33 :: .int n34 :: .int n35 :: .ref m36 :: .int (nI wm) :: .ref m38 :: .ref m39 :: .ref m40 :: .int (nI bk) :: .ref m42 :: .ref m43 :: .ref m44 :: .ref m45 :: [])))]) [0] rfl
  refine va_calli (va_runV (As := [.int q0]) (rest := []) ⟨hx, hb, hml, hown, hts⟩ (c_X11_isQuill l dC dI cI cZ cQ h0 (nI nq) ((.int n0 :: .int n1 :: .int (nI nq) :: .ref m3 :: .ref m4 :: .ref m5 :: .int (nI nh) :: .ref m7 :: .ref m8 :: .ref m9 :: .ref m10 :: .int (nI sd) :: .ref m12 :: .int (nI tx) :: .int n14 :: .int (nI at9) :: .int n16 :: .int n17 :: .ref m18 :: .int (nI rq) :: .ref m20 :: .ref m21 :: .ref m22 :: .ref m23 :: .ref m24 :: .int (nI rh) :: .ref m26 :: .ref m27 :: .ref m28 :: .int (nI un) :: .ref m30 :: .int n31 :: .int n32 :: .ref m33 :: .int n34 :: .int n35 :: .ref m36 :: .int (nI wm) :: .ref m38 :: .ref m39 :: .ref m40 :: .int (nI bk) :: .ref m42 :: .ref m43 :: .ref m44 :: .ref m45 :: [])) q0 s.heap.size rfl (nI_pos' (n := nq) (by omega))) (cwV 1 hts gX11_worn_X11_isQuill rfl rfl rfl hd_X11_isQuill_RX11 ⟨Nat.le_of_ble_eq_true rfl, Nat.le_of_ble_eq_true rfl⟩) (pv_R (va_recv hK hP (ci := 11) (q0 := 0) rfl rfl) hK hPc) rfl rfl hl.1 rfl (lv_room (Nat.le_of_ble_eq_true rfl)) dX11_worn_2 ⟨Nat.le_of_ble_eq_true rfl, Nat.le_of_ble_eq_true rfl⟩) hS (fun q _ h => False.elim h) (fun q h => False.elim h) (fun r1 u2 t H1 locs ht hvm hw3 hB hz1 hk1 hS => ?_)
  have hP := hP.kept (fun k q hk => hk1 q.1 (hP k q hk).lt (fun h => h))
  clear hz1 hk1 hPc
  generalize H1 = H at hP hS ht ⊢
  try dsimp only at hw3
  rcases hw3 with ⟨rfl, hw3⟩ | ⟨rfl, hw3⟩
  ·
    obtain ⟨j4, hj4, rfl⟩ := x_ix hw3 (by omega)
    refine lv_if_ne (tgt := 11) hx hb dX11_worn_5 (by decide) (fun c5 => ?_) (fun c5 => ?_)
    rotate_left
    · exact absurd c5 (by decide)
    clear c5
    refine lv_iload_n hx hb dX11_worn_11 rfl (lv_at hl 2 rfl) ?_
    refine lv_i2l hx hb dX11_worn_12 rfl ?_
    refine lv_lconst (v := 1) hx hb dX11_worn_13 (by decide) ?_
    refine lv_topl (fun z6 ez6 => ?_)
    obtain rfl : z6 = (1 : Int32).toInt64 := ez6.trans (by decide)
    refine lv_ldc2 (v := 9) hx hb hown (hts (.constantLong RX11 229 9) (wmx 2 rfl)) dX11_worn_14 ?_
    refine lv_topl (fun z7 ez7 => ?_)
    obtain rfl : z7 = (9 : Int32).toInt64 := ez7.trans (by decide)
    have hPc := hP.sub (ws' := []) [] rfl
    refine va_calli (va_runS (As := [.long q1.toInt64, .long ((1 : Int32).toInt64), .long ((9 : Int32).toInt64)]) (rest := []) ⟨hx, hb, hml, hown, hts⟩ (c_X11_in l dC dI cI cZ cQ q1 1 9 H.size ) (va_cwS 3 hts gX11_worn_X11_in rfl rfl rfl (by decide +kernel) ⟨Nat.le_of_ble_eq_true rfl, Nat.le_of_ble_eq_true rfl⟩) (ps_R hK hPc) rfl rfl hl.1 rfl (lv_room (Nat.le_of_ble_eq_true rfl)) dX11_worn_17 ⟨Nat.le_of_ble_eq_true rfl, Nat.le_of_ble_eq_true rfl⟩) hS (fun q _ h => False.elim h) (fun q h => False.elim h) (fun r8 u9 t H1 locs ht hvm hw10 hB hz1 hk1 hS => ?_)
    have hP := hP.kept (fun k q hk => hk1 q.1 (hP k q hk).lt (fun h => h))
    clear hz1 hk1 hPc
    generalize H1 = H at hP hS ht ⊢
    try dsimp only at hw10
    rcases hw10 with ⟨rfl, hw10⟩ | ⟨rfl, hw10⟩
    ·
      obtain ⟨j11, haj11, hbj11, rfl⟩ := x_rng (a := 1) (b := 9) (by decide) (by decide) hw10
      refine lv_if_eq (tgt := 35) hx hb dX11_worn_20 (by decide) (fun c12 => ?_) (fun c12 => ?_)
      · exact absurd c12 (by decide)
      clear c12
      refine lv_iload_n hx hb dX11_worn_23 rfl (lv_at hl 3 rfl) ?_
      refine lv_i2l hx hb dX11_worn_24 rfl ?_
      refine lv_lconst (v := 0) hx hb dX11_worn_25 (by decide) ?_
      refine lv_topl (fun z13 ez13 => ?_)
      obtain rfl : z13 = (0 : Int32).toInt64 := ez13.trans (by decide)
      refine lv_ldc2 (v := 99) hx hb hown (hts (.constantLong RX11 313 99) (wmx 3 rfl)) dX11_worn_26 ?_
      refine lv_topl (fun z14 ez14 => ?_)
      obtain rfl : z14 = (99 : Int32).toInt64 := ez14.trans (by decide)
      have hPc := hP.sub (ws' := []) [] rfl
      refine va_calli (va_runS (As := [.long q2.toInt64, .long ((0 : Int32).toInt64), .long ((99 : Int32).toInt64)]) (rest := []) ⟨hx, hb, hml, hown, hts⟩ (c_X11_in l dC dI cI cZ cQ q2 0 99 H.size ) (va_cwS 3 hts gX11_worn_X11_in rfl rfl rfl (by decide +kernel) ⟨Nat.le_of_ble_eq_true rfl, Nat.le_of_ble_eq_true rfl⟩) (ps_R hK hPc) rfl rfl hl.1 rfl (lv_room (Nat.le_of_ble_eq_true rfl)) dX11_worn_29 ⟨Nat.le_of_ble_eq_true rfl, Nat.le_of_ble_eq_true rfl⟩) hS (fun q _ h => False.elim h) (fun q h => False.elim h) (fun r15 u16 t H1 locs ht hvm hw17 hB hz1 hk1 hS => ?_)
      have hP := hP.kept (fun k q hk => hk1 q.1 (hP k q hk).lt (fun h => h))
      clear hz1 hk1 hPc
      generalize H1 = H at hP hS ht ⊢
      try dsimp only at hw17
      rcases hw17 with ⟨rfl, hw17⟩ | ⟨rfl, hw17⟩
      ·
        refine lv_if_ne (tgt := 38) hx hb dX11_worn_32 (by decide) (fun c18 => ?_) (fun c18 => ?_)
        rotate_left
        · exact absurd c18 (by decide)
        clear c18
        refine lv_aload_n hx hb dX11_worn_38 rfl (lv_at hl 0 rfl) ?_
        refine va_get (D := (dC, dI)) (ci := 11) (v := .int (nI wm)) (C := RX11) (T := TX11) (N := 46) hx hb hts hi_X11 hown hK hP 0 rfl rfl 37 (by decide) (hts (.fieldLink RX11 168 "LeftQuillsModel" "wornMany" "I") (wmx 5 rfl)) (fun _ h9 => h9) rfl dX11_worn_39 ?_
        refine lv_bipush (v := 6) hx hb dX11_worn_42 (by decide) ?_
        refine lv_icmp_ne (tgt := 50) hx hb dX11_worn_44 (by decide) (fun c19 => ?_) (fun c19 => ?_)
        ·
          have c19 : ¬ wm = 6 := fun h => c19 ((nI_eq (a := wm) (b := 6) (by omega) (by omega)).mpr h)
          refine lv_aload_n hx hb dX11_worn_50 rfl (lv_at hl 0 rfl) ?_
          refine va_get (D := (dC, dI)) (ci := 11) (v := .ref m38) (C := RX11) (T := TX11) (N := 46) hx hb hts hi_X11 hown hK hP 0 rfl rfl 38 (by decide) (hts (.fieldLink RX11 74 "LeftQuillsModel" "wornQuill" "[I") (wmx 7 rfl)) (fun _ h9 => h9) rfl dX11_worn_51 ?_
          refine lv_aload_n hx hb dX11_worn_54 rfl (lv_at hl 0 rfl) ?_
          refine va_get (D := (dC, dI)) (ci := 11) (v := .int (nI wm)) (C := RX11) (T := TX11) (N := 46) hx hb hts hi_X11 hown hK hP 0 rfl rfl 37 (by decide) (hts (.fieldLink RX11 168 "LeftQuillsModel" "wornMany" "I") (wmx 5 rfl)) (fun _ h9 => h9) rfl dX11_worn_55 ?_
          refine lv_iload_n hx hb dX11_worn_58 rfl (lv_at hl 1 rfl) ?_
          refine va_iast hx hb hK hP hD hS 1 0 rfl rfl (vp_in_nI (n := wm) (N := 6) (by omega) (by decide)) dX11_worn_59 (fun H locs hP hD hS => ?_)
          have hcl := (nI_clamp (n := wm) (by omega))
          rw [hcl] at hP hD
          clear hcl
          have hPD : pdW (dC, dI) vwCl A [(h0, .inr (11, (.int n0 :: .int n1 :: .int (nI nq) :: .ref m3 :: .ref m4 :: .ref m5 :: .int (nI nh) :: .ref m7 :: .ref m8 :: .ref m9 :: .ref m10 :: .int (nI sd) :: .ref m12 :: .int (nI tx) :: .int n14 :: .int (nI at9) :: .int n16 :: .int n17 :: .ref m18 :: .int (nI rq) :: .ref m20 :: .ref m21 :: .ref m22 :: .ref m23 :: .ref m24 :: .int (nI rh) :: .ref m26 :: .ref m27 :: .ref m28 :: .int (nI un) :: .ref m30 :: .int n31 :: .int n32 :: .ref m33 :: .int n34 :: .int n35 :: .ref m36 :: .int (nI wm) :: .ref m38 :: .ref m39 :: .ref m40 :: .int (nI bk) :: .ref m42 :: .ref m43 :: .ref m44 :: .ref m45 :: []))), (m38, .inl (cI, 6, .inl (upd fm38 wm (nI j4)))), (m39, .inl (cI, 6, .inl fm39)), (m40, .inl (cI, 6, .inl fm40))] H := ⟨hP, hD⟩
          have hP := hPD.1
          have hD := hPD.2
          clear hPD
          refine lv_aload_n hx hb dX11_worn_60 rfl (lv_at hl 0 rfl) ?_
          refine va_get (D := (dC, dI)) (ci := 11) (v := .ref m39) (C := RX11) (T := TX11) (N := 46) hx hb hts hi_X11 hown hK hP 0 rfl rfl 39 (by decide) (hts (.fieldLink RX11 77 "LeftQuillsModel" "wornPages" "[I") (wmx 8 rfl)) (fun _ h9 => h9) rfl dX11_worn_61 ?_
          refine lv_aload_n hx hb dX11_worn_64 rfl (lv_at hl 0 rfl) ?_
          refine va_get (D := (dC, dI)) (ci := 11) (v := .int (nI wm)) (C := RX11) (T := TX11) (N := 46) hx hb hts hi_X11 hown hK hP 0 rfl rfl 37 (by decide) (hts (.fieldLink RX11 168 "LeftQuillsModel" "wornMany" "I") (wmx 5 rfl)) (fun _ h9 => h9) rfl dX11_worn_65 ?_
          refine lv_iload_n hx hb dX11_worn_68 rfl (lv_at hl 2 rfl) ?_
          refine va_iast hx hb hK hP hD hS 2 0 rfl rfl (vp_in_nI (n := wm) (N := 6) (by omega) (by decide)) dX11_worn_69 (fun H locs hP hD hS => ?_)
          have hcl := (nI_clamp (n := wm) (by omega))
          rw [hcl] at hP hD
          clear hcl
          have hPD : pdW (dC, dI) vwCl A [(h0, .inr (11, (.int n0 :: .int n1 :: .int (nI nq) :: .ref m3 :: .ref m4 :: .ref m5 :: .int (nI nh) :: .ref m7 :: .ref m8 :: .ref m9 :: .ref m10 :: .int (nI sd) :: .ref m12 :: .int (nI tx) :: .int n14 :: .int (nI at9) :: .int n16 :: .int n17 :: .ref m18 :: .int (nI rq) :: .ref m20 :: .ref m21 :: .ref m22 :: .ref m23 :: .ref m24 :: .int (nI rh) :: .ref m26 :: .ref m27 :: .ref m28 :: .int (nI un) :: .ref m30 :: .int n31 :: .int n32 :: .ref m33 :: .int n34 :: .int n35 :: .ref m36 :: .int (nI wm) :: .ref m38 :: .ref m39 :: .ref m40 :: .int (nI bk) :: .ref m42 :: .ref m43 :: .ref m44 :: .ref m45 :: []))), (m38, .inl (cI, 6, .inl (upd fm38 wm (nI j4)))), (m39, .inl (cI, 6, .inl (upd fm39 wm (nI j11)))), (m40, .inl (cI, 6, .inl fm40))] H := ⟨hP, hD⟩
          have hP := hPD.1
          have hD := hPD.2
          clear hPD
          refine lv_aload_n hx hb dX11_worn_70 rfl (lv_at hl 0 rfl) ?_
          refine va_get (D := (dC, dI)) (ci := 11) (v := .ref m40) (C := RX11) (T := TX11) (N := 46) hx hb hts hi_X11 hown hK hP 0 rfl rfl 40 (by decide) (hts (.fieldLink RX11 80 "LeftQuillsModel" "wornSoft" "[I") (wmx 9 rfl)) (fun _ h9 => h9) rfl dX11_worn_71 ?_
          refine lv_aload_n hx hb dX11_worn_74 rfl (lv_at hl 0 rfl) ?_
          refine va_get (D := (dC, dI)) (ci := 11) (v := .int (nI wm)) (C := RX11) (T := TX11) (N := 46) hx hb hts hi_X11 hown hK hP 0 rfl rfl 37 (by decide) (hts (.fieldLink RX11 168 "LeftQuillsModel" "wornMany" "I") (wmx 5 rfl)) (fun _ h9 => h9) rfl dX11_worn_75 ?_
          refine lv_iload_n hx hb dX11_worn_78 rfl (lv_at hl 3 rfl) ?_
          refine va_iast hx hb hK hP hD hS 3 0 rfl rfl (vp_in_nI (n := wm) (N := 6) (by omega) (by decide)) dX11_worn_79 (fun H locs hP hD hS => ?_)
          generalize hgf22 : upd fm40 ((nI wm).toNatClampNeg) q2 = f22 at hP hD
          have hPD : pdW (dC, dI) vwCl A [(h0, .inr (11, (.int n0 :: .int n1 :: .int (nI nq) :: .ref m3 :: .ref m4 :: .ref m5 :: .int (nI nh) :: .ref m7 :: .ref m8 :: .ref m9 :: .ref m10 :: .int (nI sd) :: .ref m12 :: .int (nI tx) :: .int n14 :: .int (nI at9) :: .int n16 :: .int n17 :: .ref m18 :: .int (nI rq) :: .ref m20 :: .ref m21 :: .ref m22 :: .ref m23 :: .ref m24 :: .int (nI rh) :: .ref m26 :: .ref m27 :: .ref m28 :: .int (nI un) :: .ref m30 :: .int n31 :: .int n32 :: .ref m33 :: .int n34 :: .int n35 :: .ref m36 :: .int (nI wm) :: .ref m38 :: .ref m39 :: .ref m40 :: .int (nI bk) :: .ref m42 :: .ref m43 :: .ref m44 :: .ref m45 :: []))), (m38, .inl (cI, 6, .inl (upd fm38 wm (nI j4)))), (m39, .inl (cI, 6, .inl (upd fm39 wm (nI j11)))), (m40, .inl (cI, 6, .inl f22))] H := ⟨hP, hD⟩
          have hP := hPD.1
          have hD := hPD.2
          clear hPD
          refine lv_aload_n hx hb dX11_worn_80 rfl (lv_at hl 0 rfl) ?_
          refine lv_dup hx hb dX11_worn_81 rfl ?_
          refine va_get (D := (dC, dI)) (ci := 11) (v := .int (nI wm)) (C := RX11) (T := TX11) (N := 46) hx hb hts hi_X11 hown hK hP 0 rfl rfl 37 (by decide) (hts (.fieldLink RX11 168 "LeftQuillsModel" "wornMany" "I") (wmx 5 rfl)) (fun _ h9 => h9) rfl dX11_worn_82 ?_
          refine lv_iconst (v := 1) hx hb dX11_worn_85 (by decide) ?_
          refine lv_iadd hx hb dX11_worn_86 ?_
          refine lv_topi (fun z23 ez23 => ?_)
          obtain rfl : z23 = nI (wm + 1) := ez23.trans (nI_add wm 1)
          refine va_put (D := (dC, dI)) (ci := 11) (v := .int (nI (wm + 1))) (ty := .int) (C := RX11) (T := TX11) (N := 46) hx hb hts hi_X11 tyX11 tyX11_ok nmX11 hown hK hP hD hS 0 rfl rfl 37 (by decide) (hts (.fieldLink RX11 168 "LeftQuillsModel" "wornMany" "I") (wmx 5 rfl)) (fun _ h9 => h9) rfl (by decide +kernel) rfl rfl (Nat.le_of_ble_eq_true rfl) dX11_worn_87 (fun H locs hP hD hS => ?_)
          have hPD : pdW (dC, dI) vwCl A [(h0, .inr (11, (.int n0 :: .int n1 :: .int (nI nq) :: .ref m3 :: .ref m4 :: .ref m5 :: .int (nI nh) :: .ref m7 :: .ref m8 :: .ref m9 :: .ref m10 :: .int (nI sd) :: .ref m12 :: .int (nI tx) :: .int n14 :: .int (nI at9) :: .int n16 :: .int n17 :: .ref m18 :: .int (nI rq) :: .ref m20 :: .ref m21 :: .ref m22 :: .ref m23 :: .ref m24 :: .int (nI rh) :: .ref m26 :: .ref m27 :: .ref m28 :: .int (nI un) :: .ref m30 :: .int n31 :: .int n32 :: .ref m33 :: .int n34 :: .int n35 :: .ref m36 :: .int (nI (wm + 1)) :: .ref m38 :: .ref m39 :: .ref m40 :: .int (nI bk) :: .ref m42 :: .ref m43 :: .ref m44 :: .ref m45 :: []))), (m38, .inl (cI, 6, .inl (upd fm38 wm (nI j4)))), (m39, .inl (cI, 6, .inl (upd fm39 wm (nI j11)))), (m40, .inl (cI, 6, .inl f22))] H := ⟨hP, hD⟩
          have hP := hPD.1
          have hD := hPD.2
          clear hPD
          refine lv_aload_n hx hb dX11_worn_90 rfl (lv_at hl 0 rfl) ?_
          refine va_get (D := (dC, dI)) (ci := 11) (v := .int (nI (wm + 1))) (C := RX11) (T := TX11) (N := 46) hx hb hts hi_X11 hown hK hP 0 rfl rfl 37 (by decide) (hts (.fieldLink RX11 168 "LeftQuillsModel" "wornMany" "I") (wmx 5 rfl)) (fun _ h9 => h9) rfl dX11_worn_91 ?_
          have hP9 := hP.sub (ws' := [(h0, .inr (11, (.int n0 :: .int n1 :: .int (nI nq) :: .ref m3 :: .ref m4 :: .ref m5 :: .int (nI nh) :: .ref m7 :: .ref m8 :: .ref m9 :: .ref m10 :: .int (nI sd) :: .ref m12 :: .int (nI tx) :: .int n14 :: .int (nI at9) :: .int n16 :: .int n17 :: .ref m18 :: .int (nI rq) :: .ref m20 :: .ref m21 :: .ref m22 :: .ref m23 :: .ref m24 :: .int (nI rh) :: .ref m26 :: .ref m27 :: .ref m28 :: .int (nI un) :: .ref m30 :: .int n31 :: .int n32 :: .ref m33 :: .int n34 :: .int n35 :: .ref m36 :: .int (nI (wm + 1)) :: .ref m38 :: .ref m39 :: .ref m40 :: .int (nI bk) :: .ref m42 :: .ref m43 :: .ref m44 :: .ref m45 :: []))), (m38, .inl (cI, 6, .inl (upd fm38 wm (nI j4)))), (m39, .inl (cI, 6, .inl (upd fm39 wm (nI j11)))), (m40, .inl (cI, 6, .inl f22))]) [0, 1, 2, 3] rfl
          have hD9 := hD.sub (ws' := [(h0, .inr (11, (.int n0 :: .int n1 :: .int (nI nq) :: .ref m3 :: .ref m4 :: .ref m5 :: .int (nI nh) :: .ref m7 :: .ref m8 :: .ref m9 :: .ref m10 :: .int (nI sd) :: .ref m12 :: .int (nI tx) :: .int n14 :: .int (nI at9) :: .int n16 :: .int n17 :: .ref m18 :: .int (nI rq) :: .ref m20 :: .ref m21 :: .ref m22 :: .ref m23 :: .ref m24 :: .int (nI rh) :: .ref m26 :: .ref m27 :: .ref m28 :: .int (nI un) :: .ref m30 :: .int n31 :: .int n32 :: .ref m33 :: .int n34 :: .int n35 :: .ref m36 :: .int (nI (wm + 1)) :: .ref m38 :: .ref m39 :: .ref m40 :: .int (nI bk) :: .ref m42 :: .ref m43 :: .ref m44 :: .ref m45 :: []))), (m38, .inl (cI, 6, .inl (upd fm38 wm (nI j4)))), (m39, .inl (cI, 6, .inl (upd fm39 wm (nI j11)))), (m40, .inl (cI, 6, .inl f22))]) [0, 1, 2, 3] (by decide +kernel) rfl
          exact W.iret (v := nI (wm + 1)) hx hb hr (fun t ht hW => ⟨⟨nI (wm + 1), (fun _ => 0), rfl, (by unfold wornR; rw [if_pos hw3, if_pos hw10, if_pos hw17, if_pos (by omega)]), ⟨(upd fm38 wm (nI j4)), (upd fm39 wm (nI j11)), f22, (wm + 1), by omega, qLt_add hqi (by omega), cIn_add hpi (by omega), (by unfold wornN; rw [if_pos hw3, if_pos hw10, if_pos hw17, if_pos (by omega)]), va_hq ht hP9, hD9⟩⟩, hS.F ht⟩) hS.2.2 dX11_worn_94
        ·
          have c19 : wm = 6 := (nI_eq (a := wm) (b := 6) (by omega) (by omega)).mp c19
          refine lv_ldc (v := (-1000000004)) hx hb hown (hts (.constant RX11 115 (-1000000004)) (wmx 6 rfl)) dX11_worn_47 ?_
          have hP9 := hP.sub (ws' := [(h0, .inr (11, (.int n0 :: .int n1 :: .int (nI nq) :: .ref m3 :: .ref m4 :: .ref m5 :: .int (nI nh) :: .ref m7 :: .ref m8 :: .ref m9 :: .ref m10 :: .int (nI sd) :: .ref m12 :: .int (nI tx) :: .int n14 :: .int (nI at9) :: .int n16 :: .int n17 :: .ref m18 :: .int (nI rq) :: .ref m20 :: .ref m21 :: .ref m22 :: .ref m23 :: .ref m24 :: .int (nI rh) :: .ref m26 :: .ref m27 :: .ref m28 :: .int (nI un) :: .ref m30 :: .int n31 :: .int n32 :: .ref m33 :: .int n34 :: .int n35 :: .ref m36 :: .int (nI wm) :: .ref m38 :: .ref m39 :: .ref m40 :: .int (nI bk) :: .ref m42 :: .ref m43 :: .ref m44 :: .ref m45 :: []))), (m38, .inl (cI, 6, .inl fm38)), (m39, .inl (cI, 6, .inl fm39)), (m40, .inl (cI, 6, .inl fm40))]) [0, 1, 2, 3] rfl
          have hD9 := hD.sub (ws' := [(h0, .inr (11, (.int n0 :: .int n1 :: .int (nI nq) :: .ref m3 :: .ref m4 :: .ref m5 :: .int (nI nh) :: .ref m7 :: .ref m8 :: .ref m9 :: .ref m10 :: .int (nI sd) :: .ref m12 :: .int (nI tx) :: .int n14 :: .int (nI at9) :: .int n16 :: .int n17 :: .ref m18 :: .int (nI rq) :: .ref m20 :: .ref m21 :: .ref m22 :: .ref m23 :: .ref m24 :: .int (nI rh) :: .ref m26 :: .ref m27 :: .ref m28 :: .int (nI un) :: .ref m30 :: .int n31 :: .int n32 :: .ref m33 :: .int n34 :: .int n35 :: .ref m36 :: .int (nI wm) :: .ref m38 :: .ref m39 :: .ref m40 :: .int (nI bk) :: .ref m42 :: .ref m43 :: .ref m44 :: .ref m45 :: []))), (m38, .inl (cI, 6, .inl fm38)), (m39, .inl (cI, 6, .inl fm39)), (m40, .inl (cI, 6, .inl fm40))]) [0, 1, 2, 3] (by decide +kernel) rfl
          exact W.iret (v := (-1000000004)) hx hb hr (fun t ht hW => ⟨⟨(-1000000004), (fun _ => 0), rfl, (by unfold wornR; rw [if_pos hw3, if_pos hw10, if_pos hw17, if_neg (by omega)]), ⟨fm38, fm39, fm40, wm, by omega, hqi, hpi, (by unfold wornN; rw [if_pos hw3, if_pos hw10, if_pos hw17, if_neg (by omega)]), va_hq ht hP9, hD9⟩⟩, hS.F ht⟩) hS.2.2 dX11_worn_49
      ·
        refine lv_if_ne (tgt := 38) hx hb dX11_worn_32 (by decide) (fun c24 => ?_) (fun c24 => ?_)
        · exact absurd c24 (by decide)
        clear c24
        refine lv_ldc (v := (-1000000002)) hx hb hown (hts (.constant RX11 111 (-1000000002)) (wmx 4 rfl)) dX11_worn_35 ?_
        have hP9 := hP.sub (ws' := [(h0, .inr (11, (.int n0 :: .int n1 :: .int (nI nq) :: .ref m3 :: .ref m4 :: .ref m5 :: .int (nI nh) :: .ref m7 :: .ref m8 :: .ref m9 :: .ref m10 :: .int (nI sd) :: .ref m12 :: .int (nI tx) :: .int n14 :: .int (nI at9) :: .int n16 :: .int n17 :: .ref m18 :: .int (nI rq) :: .ref m20 :: .ref m21 :: .ref m22 :: .ref m23 :: .ref m24 :: .int (nI rh) :: .ref m26 :: .ref m27 :: .ref m28 :: .int (nI un) :: .ref m30 :: .int n31 :: .int n32 :: .ref m33 :: .int n34 :: .int n35 :: .ref m36 :: .int (nI wm) :: .ref m38 :: .ref m39 :: .ref m40 :: .int (nI bk) :: .ref m42 :: .ref m43 :: .ref m44 :: .ref m45 :: []))), (m38, .inl (cI, 6, .inl fm38)), (m39, .inl (cI, 6, .inl fm39)), (m40, .inl (cI, 6, .inl fm40))]) [0, 1, 2, 3] rfl
        have hD9 := hD.sub (ws' := [(h0, .inr (11, (.int n0 :: .int n1 :: .int (nI nq) :: .ref m3 :: .ref m4 :: .ref m5 :: .int (nI nh) :: .ref m7 :: .ref m8 :: .ref m9 :: .ref m10 :: .int (nI sd) :: .ref m12 :: .int (nI tx) :: .int n14 :: .int (nI at9) :: .int n16 :: .int n17 :: .ref m18 :: .int (nI rq) :: .ref m20 :: .ref m21 :: .ref m22 :: .ref m23 :: .ref m24 :: .int (nI rh) :: .ref m26 :: .ref m27 :: .ref m28 :: .int (nI un) :: .ref m30 :: .int n31 :: .int n32 :: .ref m33 :: .int n34 :: .int n35 :: .ref m36 :: .int (nI wm) :: .ref m38 :: .ref m39 :: .ref m40 :: .int (nI bk) :: .ref m42 :: .ref m43 :: .ref m44 :: .ref m45 :: []))), (m38, .inl (cI, 6, .inl fm38)), (m39, .inl (cI, 6, .inl fm39)), (m40, .inl (cI, 6, .inl fm40))]) [0, 1, 2, 3] (by decide +kernel) rfl
        exact W.iret (v := (-1000000002)) hx hb hr (fun t ht hW => ⟨⟨(-1000000002), (fun _ => 0), rfl, (by unfold wornR; rw [if_pos hw3, if_pos hw10, if_neg hw17]), ⟨fm38, fm39, fm40, wm, by omega, hqi, hpi, (by unfold wornN; rw [if_pos hw3, if_pos hw10, if_neg hw17]), va_hq ht hP9, hD9⟩⟩, hS.F ht⟩) hS.2.2 dX11_worn_37
    ·
      refine lv_if_eq (tgt := 35) hx hb dX11_worn_20 (by decide) (fun c25 => ?_) (fun c25 => ?_)
      rotate_left
      · exact absurd c25 (by decide)
      clear c25
      refine lv_ldc (v := (-1000000002)) hx hb hown (hts (.constant RX11 111 (-1000000002)) (wmx 4 rfl)) dX11_worn_35 ?_
      have hP9 := hP.sub (ws' := [(h0, .inr (11, (.int n0 :: .int n1 :: .int (nI nq) :: .ref m3 :: .ref m4 :: .ref m5 :: .int (nI nh) :: .ref m7 :: .ref m8 :: .ref m9 :: .ref m10 :: .int (nI sd) :: .ref m12 :: .int (nI tx) :: .int n14 :: .int (nI at9) :: .int n16 :: .int n17 :: .ref m18 :: .int (nI rq) :: .ref m20 :: .ref m21 :: .ref m22 :: .ref m23 :: .ref m24 :: .int (nI rh) :: .ref m26 :: .ref m27 :: .ref m28 :: .int (nI un) :: .ref m30 :: .int n31 :: .int n32 :: .ref m33 :: .int n34 :: .int n35 :: .ref m36 :: .int (nI wm) :: .ref m38 :: .ref m39 :: .ref m40 :: .int (nI bk) :: .ref m42 :: .ref m43 :: .ref m44 :: .ref m45 :: []))), (m38, .inl (cI, 6, .inl fm38)), (m39, .inl (cI, 6, .inl fm39)), (m40, .inl (cI, 6, .inl fm40))]) [0, 1, 2, 3] rfl
      have hD9 := hD.sub (ws' := [(h0, .inr (11, (.int n0 :: .int n1 :: .int (nI nq) :: .ref m3 :: .ref m4 :: .ref m5 :: .int (nI nh) :: .ref m7 :: .ref m8 :: .ref m9 :: .ref m10 :: .int (nI sd) :: .ref m12 :: .int (nI tx) :: .int n14 :: .int (nI at9) :: .int n16 :: .int n17 :: .ref m18 :: .int (nI rq) :: .ref m20 :: .ref m21 :: .ref m22 :: .ref m23 :: .ref m24 :: .int (nI rh) :: .ref m26 :: .ref m27 :: .ref m28 :: .int (nI un) :: .ref m30 :: .int n31 :: .int n32 :: .ref m33 :: .int n34 :: .int n35 :: .ref m36 :: .int (nI wm) :: .ref m38 :: .ref m39 :: .ref m40 :: .int (nI bk) :: .ref m42 :: .ref m43 :: .ref m44 :: .ref m45 :: []))), (m38, .inl (cI, 6, .inl fm38)), (m39, .inl (cI, 6, .inl fm39)), (m40, .inl (cI, 6, .inl fm40))]) [0, 1, 2, 3] (by decide +kernel) rfl
      exact W.iret (v := (-1000000002)) hx hb hr (fun t ht hW => ⟨⟨(-1000000002), (fun _ => 0), rfl, (by unfold wornR; rw [if_pos hw3, if_neg hw10]), ⟨fm38, fm39, fm40, wm, by omega, hqi, hpi, (by unfold wornN; rw [if_pos hw3, if_neg hw10]), va_hq ht hP9, hD9⟩⟩, hS.F ht⟩) hS.2.2 dX11_worn_37
  ·
    refine lv_if_ne (tgt := 11) hx hb dX11_worn_5 (by decide) (fun c26 => ?_) (fun c26 => ?_)
    · exact absurd c26 (by decide)
    clear c26
    refine lv_ldc (v := (-1000000001)) hx hb hown (hts (.constant RX11 188 (-1000000001)) (wmx 1 rfl)) dX11_worn_8 ?_
    have hP9 := hP.sub (ws' := [(h0, .inr (11, (.int n0 :: .int n1 :: .int (nI nq) :: .ref m3 :: .ref m4 :: .ref m5 :: .int (nI nh) :: .ref m7 :: .ref m8 :: .ref m9 :: .ref m10 :: .int (nI sd) :: .ref m12 :: .int (nI tx) :: .int n14 :: .int (nI at9) :: .int n16 :: .int n17 :: .ref m18 :: .int (nI rq) :: .ref m20 :: .ref m21 :: .ref m22 :: .ref m23 :: .ref m24 :: .int (nI rh) :: .ref m26 :: .ref m27 :: .ref m28 :: .int (nI un) :: .ref m30 :: .int n31 :: .int n32 :: .ref m33 :: .int n34 :: .int n35 :: .ref m36 :: .int (nI wm) :: .ref m38 :: .ref m39 :: .ref m40 :: .int (nI bk) :: .ref m42 :: .ref m43 :: .ref m44 :: .ref m45 :: []))), (m38, .inl (cI, 6, .inl fm38)), (m39, .inl (cI, 6, .inl fm39)), (m40, .inl (cI, 6, .inl fm40))]) [0, 1, 2, 3] rfl
    have hD9 := hD.sub (ws' := [(h0, .inr (11, (.int n0 :: .int n1 :: .int (nI nq) :: .ref m3 :: .ref m4 :: .ref m5 :: .int (nI nh) :: .ref m7 :: .ref m8 :: .ref m9 :: .ref m10 :: .int (nI sd) :: .ref m12 :: .int (nI tx) :: .int n14 :: .int (nI at9) :: .int n16 :: .int n17 :: .ref m18 :: .int (nI rq) :: .ref m20 :: .ref m21 :: .ref m22 :: .ref m23 :: .ref m24 :: .int (nI rh) :: .ref m26 :: .ref m27 :: .ref m28 :: .int (nI un) :: .ref m30 :: .int n31 :: .int n32 :: .ref m33 :: .int n34 :: .int n35 :: .ref m36 :: .int (nI wm) :: .ref m38 :: .ref m39 :: .ref m40 :: .int (nI bk) :: .ref m42 :: .ref m43 :: .ref m44 :: .ref m45 :: []))), (m38, .inl (cI, 6, .inl fm38)), (m39, .inl (cI, 6, .inl fm39)), (m40, .inl (cI, 6, .inl fm40))]) [0, 1, 2, 3] (by decide +kernel) rfl
    exact W.iret (v := (-1000000001)) hx hb hr (fun t ht hW => ⟨⟨(-1000000001), (fun _ => 0), rfl, (by unfold wornR; rw [if_neg hw3]), ⟨fm38, fm39, fm40, wm, by omega, hqi, hpi, (by unfold wornN; rw [if_neg hw3]), va_hq ht hP9, hD9⟩⟩, hS.F ht⟩) hS.2.2 dX11_worn_10
set_option maxHeartbeats 4000000 in
set_option maxRecDepth 100000 in
theorem c_X11_noteF (l : Launch) (dC : Nat → ClassId) (dI : Nat → Nat → Nat) (cI cZ cQ : ClassId) (h0 : Nat) (n0 : Int32) (n1 : Int32) (nq : Nat) (m3 : Nat) (m4 : Nat) (m5 : Nat) (nh : Nat) (m7 : Nat) (m8 : Nat) (m9 : Nat) (m10 : Nat) (sd : Nat) (m12 : Nat) (tx : Nat) (n14 : Int32) (at9 : Nat) (n16 : Int32) (n17 : Int32) (m18 : Nat) (rq : Nat) (m20 : Nat) (m21 : Nat) (m22 : Nat) (m23 : Nat) (m24 : Nat) (rh : Nat) (m26 : Nat) (m27 : Nat) (m28 : Nat) (un : Nat) (m30 : Nat) (n31 : Int32) (n32 : Int32) (m33 : Nat) (n34 : Int32) (n35 : Int32) (m36 : Nat) (wm : Nat) (m38 : Nat) (m39 : Nat) (m40 : Nat) (bk : Nat) (m42 : Nat) (m43 : Nat) (m44 : Nat) (m45 : Nat) (fm42 : Nat → Int32) (fm43 : Nat → Int32) (q0 : Int32) (q1 : Int32) (sz : Nat) (hnq : nq ≤ 8) (hbk : bk ≤ 15) (hqi : qIn fm42 bk) : Met l yX11_note wsX11_note ({ frames := 2, cells := 0, slots := 0, locals := 86 }) (va_Pc [.ref h0, .int q0, .int q1] (fun U => U.heap.size = sz ∧ va_P (dC, dI) vwCl [(h0, .inr (11, (.int n0 :: .int n1 :: .int (nI nq) :: .ref m3 :: .ref m4 :: .ref m5 :: .int (nI nh) :: .ref m7 :: .ref m8 :: .ref m9 :: .ref m10 :: .int (nI sd) :: .ref m12 :: .int (nI tx) :: .int n14 :: .int (nI at9) :: .int n16 :: .int n17 :: .ref m18 :: .int (nI rq) :: .ref m20 :: .ref m21 :: .ref m22 :: .ref m23 :: .ref m24 :: .int (nI rh) :: .ref m26 :: .ref m27 :: .ref m28 :: .int (nI un) :: .ref m30 :: .int n31 :: .int n32 :: .ref m33 :: .int n34 :: .int n35 :: .ref m36 :: .int (nI wm) :: .ref m38 :: .ref m39 :: .ref m40 :: .int (nI bk) :: .ref m42 :: .ref m43 :: .ref m44 :: .ref m45 :: []))), (m42, .inl (cI, 15, .inl fm42)), (m43, .inl (cI, 15, .inl fm43))] U.heap ∧ va_K (dC, dI) vwCl (tys0 cI cZ cQ) U ∧ va_D (fun _ => True) [(h0, .inr (11, (.int n0 :: .int n1 :: .int (nI nq) :: .ref m3 :: .ref m4 :: .ref m5 :: .int (nI nh) :: .ref m7 :: .ref m8 :: .ref m9 :: .ref m10 :: .int (nI sd) :: .ref m12 :: .int (nI tx) :: .int n14 :: .int (nI at9) :: .int n16 :: .int n17 :: .ref m18 :: .int (nI rq) :: .ref m20 :: .ref m21 :: .ref m22 :: .ref m23 :: .ref m24 :: .int (nI rh) :: .ref m26 :: .ref m27 :: .ref m28 :: .int (nI un) :: .ref m30 :: .int n31 :: .int n32 :: .ref m33 :: .int n34 :: .int n35 :: .ref m36 :: .int (nI wm) :: .ref m38 :: .ref m39 :: .ref m40 :: .int (nI bk) :: .ref m42 :: .ref m43 :: .ref m44 :: .ref m45 :: []))), (m42, .inl (cI, 15, .inl fm42)), (m43, .inl (cI, 15, .inl fm43))])) (va_Qi (fun (r : Int32) (u : Nat → Nat) => r = noteR q0 q1 nq bk) (fun (_ : Nat → Nat) (t : State) => ∃ (gg0 gg1 : Nat → Int32) (kk0 : Nat), kk0 ≤ 15 ∧ (qIn gg0 kk0) ∧ (kk0 = noteN q0 q1 nq bk) ∧ va_P (dC, dI) vwCl [(h0, .inr (11, (.int n0 :: .int n1 :: .int (nI nq) :: .ref m3 :: .ref m4 :: .ref m5 :: .int (nI nh) :: .ref m7 :: .ref m8 :: .ref m9 :: .ref m10 :: .int (nI sd) :: .ref m12 :: .int (nI tx) :: .int n14 :: .int (nI at9) :: .int n16 :: .int n17 :: .ref m18 :: .int (nI rq) :: .ref m20 :: .ref m21 :: .ref m22 :: .ref m23 :: .ref m24 :: .int (nI rh) :: .ref m26 :: .ref m27 :: .ref m28 :: .int (nI un) :: .ref m30 :: .int n31 :: .int n32 :: .ref m33 :: .int n34 :: .int n35 :: .ref m36 :: .int (nI wm) :: .ref m38 :: .ref m39 :: .ref m40 :: .int (nI kk0) :: .ref m42 :: .ref m43 :: .ref m44 :: .ref m45 :: []))), (m42, .inl (cI, 15, .inl gg0)), (m43, .inl (cI, 15, .inl gg1))] t.heap ∧ va_D (va_A [(h0, .inr (11, (.int n0 :: .int n1 :: .int (nI nq) :: .ref m3 :: .ref m4 :: .ref m5 :: .int (nI nh) :: .ref m7 :: .ref m8 :: .ref m9 :: .ref m10 :: .int (nI sd) :: .ref m12 :: .int (nI tx) :: .int n14 :: .int (nI at9) :: .int n16 :: .int n17 :: .ref m18 :: .int (nI rq) :: .ref m20 :: .ref m21 :: .ref m22 :: .ref m23 :: .ref m24 :: .int (nI rh) :: .ref m26 :: .ref m27 :: .ref m28 :: .int (nI un) :: .ref m30 :: .int n31 :: .int n32 :: .ref m33 :: .int n34 :: .int n35 :: .ref m36 :: .int (nI wm) :: .ref m38 :: .ref m39 :: .ref m40 :: .int (nI bk) :: .ref m42 :: .ref m43 :: .ref m44 :: .ref m45 :: []))), (m42, .inl (cI, 15, .inl fm42)), (m43, .inl (cI, 15, .inl fm43))] sz) [(h0, .inr (11, (.int n0 :: .int n1 :: .int (nI nq) :: .ref m3 :: .ref m4 :: .ref m5 :: .int (nI nh) :: .ref m7 :: .ref m8 :: .ref m9 :: .ref m10 :: .int (nI sd) :: .ref m12 :: .int (nI tx) :: .int n14 :: .int (nI at9) :: .int n16 :: .int n17 :: .ref m18 :: .int (nI rq) :: .ref m20 :: .ref m21 :: .ref m22 :: .ref m23 :: .ref m24 :: .int (nI rh) :: .ref m26 :: .ref m27 :: .ref m28 :: .int (nI un) :: .ref m30 :: .int n31 :: .int n32 :: .ref m33 :: .int n34 :: .int n35 :: .ref m36 :: .int (nI wm) :: .ref m38 :: .ref m39 :: .ref m40 :: .int (nI kk0) :: .ref m42 :: .ref m43 :: .ref m44 :: .ref m45 :: []))), (m42, .inl (cI, 15, .inl gg0)), (m43, .inl (cI, 15, .inl gg1))]) (va_A [(h0, .inr (11, (.int n0 :: .int n1 :: .int (nI nq) :: .ref m3 :: .ref m4 :: .ref m5 :: .int (nI nh) :: .ref m7 :: .ref m8 :: .ref m9 :: .ref m10 :: .int (nI sd) :: .ref m12 :: .int (nI tx) :: .int n14 :: .int (nI at9) :: .int n16 :: .int n17 :: .ref m18 :: .int (nI rq) :: .ref m20 :: .ref m21 :: .ref m22 :: .ref m23 :: .ref m24 :: .int (nI rh) :: .ref m26 :: .ref m27 :: .ref m28 :: .int (nI un) :: .ref m30 :: .int n31 :: .int n32 :: .ref m33 :: .int n34 :: .int n35 :: .ref m36 :: .int (nI wm) :: .ref m38 :: .ref m39 :: .ref m40 :: .int (nI bk) :: .ref m42 :: .ref m43 :: .ref m44 :: .ref m45 :: []))), (m42, .inl (cI, 15, .inl fm42)), (m43, .inl (cI, 15, .inl fm43))] sz)) 0 0 (va_A [(h0, .inr (11, (.int n0 :: .int n1 :: .int (nI nq) :: .ref m3 :: .ref m4 :: .ref m5 :: .int (nI nh) :: .ref m7 :: .ref m8 :: .ref m9 :: .ref m10 :: .int (nI sd) :: .ref m12 :: .int (nI tx) :: .int n14 :: .int (nI at9) :: .int n16 :: .int n17 :: .ref m18 :: .int (nI rq) :: .ref m20 :: .ref m21 :: .ref m22 :: .ref m23 :: .ref m24 :: .int (nI rh) :: .ref m26 :: .ref m27 :: .ref m28 :: .int (nI un) :: .ref m30 :: .int n31 :: .int n32 :: .ref m33 :: .int n34 :: .int n35 :: .ref m36 :: .int (nI wm) :: .ref m38 :: .ref m39 :: .ref m40 :: .int (nI bk) :: .ref m42 :: .ref m43 :: .ref m44 :: .ref m45 :: []))), (m42, .inl (cI, 15, .inl fm42)), (m43, .inl (cI, 15, .inl fm43))] sz) := by
  refine Met.ofW (cc := cX11_note) (maxL := 3) (ret := (some .int)) (by decide) rfl ?_
  intro p e s m args below meth c s₁ B hml hv
  obtain ⟨rfl, hsz, hP, hK, hD0⟩ := hv
  have hx := B.exec
  have hb := B.bytes
  have hr := B.returns
  have hts := atoms_spec (ws := wsX11_note) B.pre
  have hown : s.vm.findClass RX11 = some m.cls := findClass_of_methodNamed B.named
  have hlocks := B.notSynchronized
  have hi_X11 : ∀ w ∈ u_ws RX11 TX11 46, w ∈ wsX11_note := fun _ h => List.mem_cons_of_mem _ (List.mem_append_right _ (h))
  subst hsz
  have hD := hD0.self (sz := s.heap.size)
  generalize hAe : va_A [(h0, .inr (11, (.int n0 :: .int n1 :: .int (nI nq) :: .ref m3 :: .ref m4 :: .ref m5 :: .int (nI nh) :: .ref m7 :: .ref m8 :: .ref m9 :: .ref m10 :: .int (nI sd) :: .ref m12 :: .int (nI tx) :: .int n14 :: .int (nI at9) :: .int n16 :: .int n17 :: .ref m18 :: .int (nI rq) :: .ref m20 :: .ref m21 :: .ref m22 :: .ref m23 :: .ref m24 :: .int (nI rh) :: .ref m26 :: .ref m27 :: .ref m28 :: .int (nI un) :: .ref m30 :: .int n31 :: .int n32 :: .ref m33 :: .int n34 :: .int n35 :: .ref m36 :: .int (nI wm) :: .ref m38 :: .ref m39 :: .ref m40 :: .int (nI bk) :: .ref m42 :: .ref m43 :: .ref m44 :: .ref m45 :: []))), (m42, .inl (cI, 15, .inl fm42)), (m43, .inl (cI, 15, .inl fm43))] s.heap.size = A at hD ⊢
  have hA : ∀ q : Nat, s.heap.size ≤ q → A q := fun q h => by rw [← hAe]; exact Or.inr h
  have hS : va_S A s.heap s.heap [] := va_S.rf
  have hl := lv_entry ([.ref h0, .int q0, .int q1]) (n := 3) (Nat.le_of_ble_eq_true rfl)
  rw [lg_entry_eq]
  generalize (lg_sl ([.ref h0, .int q0, .int q1]) ++ List.replicate (3 - (lg_sl ([.ref h0, .int q0, .int q1])).length) Slot.unset).toArray = ls at hl ⊢
  have hl : lv_has ls 3 [(0, .ref h0), (1, .int q0), (2, .int q1)] := hl
  refine lv_aload_n hx hb dX11_note_0 rfl (lv_at hl 0 rfl) ?_
  refine lv_iload_n hx hb dX11_note_1 rfl (lv_at hl 1 rfl) ?_
  have hPc := hP.sub (ws' := [(h0, .inr (11, (.int n0 :: .int n1 :: .int (nI nq) :: .ref m3 :: .ref m4 :: .ref m5 :: .int (nI nh) :: .ref m7 :: .ref m8 :: .ref m9 :: .ref m10 :: .int (nI sd) :: .ref m12 :: .int (nI tx) :: .int n14 :: .int (nI at9) :: .int n16 :: .int n17 :: .ref m18 :: .int (nI rq) :: .ref m20 :: .ref m21 :: .ref m22 :: .ref m23 :: .ref m24 :: .int (nI rh) :: .ref m26 :: .ref m27 :: .ref m28 :: .int (nI un) :: .ref m30 :: .int n31 :: .int n32 :: .ref m33 :: .int n34 :: .int n35 :: .ref m36 :: .int (nI wm) :: .ref m38 :: .ref m39 :: .ref m40 :: .int (nI bk) :: .ref m42 :: .ref m43 :: .ref m44 :: .ref m45 :: [])))]) [0] rfl
  refine va_calli (va_runV (As := [.int q0]) (rest := []) ⟨hx, hb, hml, hown, hts⟩ (c_X11_isQuill l dC dI cI cZ cQ h0 (nI nq) ((.int n0 :: .int n1 :: .int (nI nq) :: .ref m3 :: .ref m4 :: .ref m5 :: .int (nI nh) :: .ref m7 :: .ref m8 :: .ref m9 :: .ref m10 :: .int (nI sd) :: .ref m12 :: .int (nI tx) :: .int n14 :: .int (nI at9) :: .int n16 :: .int n17 :: .ref m18 :: .int (nI rq) :: .ref m20 :: .ref m21 :: .ref m22 :: .ref m23 :: .ref m24 :: .int (nI rh) :: .ref m26 :: .ref m27 :: .ref m28 :: .int (nI un) :: .ref m30 :: .int n31 :: .int n32 :: .ref m33 :: .int n34 :: .int n35 :: .ref m36 :: .int (nI wm) :: .ref m38 :: .ref m39 :: .ref m40 :: .int (nI bk) :: .ref m42 :: .ref m43 :: .ref m44 :: .ref m45 :: [])) q0 s.heap.size rfl (nI_pos' (n := nq) (by omega))) (cwV 1 hts gX11_note_X11_isQuill rfl rfl rfl hd_X11_isQuill_RX11 ⟨Nat.le_of_ble_eq_true rfl, Nat.le_of_ble_eq_true rfl⟩) (pv_R (va_recv hK hP (ci := 11) (q0 := 0) rfl rfl) hK hPc) rfl rfl hl.1 rfl (lv_room (Nat.le_of_ble_eq_true rfl)) dX11_note_2 ⟨Nat.le_of_ble_eq_true rfl, Nat.le_of_ble_eq_true rfl⟩) hS (fun q _ h => False.elim h) (fun q h => False.elim h) (fun r1 u2 t H1 locs ht hvm hw3 hB hz1 hk1 hS => ?_)
  have hP := hP.kept (fun k q hk => hk1 q.1 (hP k q hk).lt (fun h => h))
  clear hz1 hk1 hPc
  generalize H1 = H at hP hS ht ⊢
  try dsimp only at hw3
  rcases hw3 with ⟨rfl, hw3⟩ | ⟨rfl, hw3⟩
  ·
    obtain ⟨j4, hj4, rfl⟩ := x_ix hw3 (by omega)
    refine lv_if_ne (tgt := 11) hx hb dX11_note_5 (by decide) (fun c5 => ?_) (fun c5 => ?_)
    rotate_left
    · exact absurd c5 (by decide)
    clear c5
    refine lv_iload_n hx hb dX11_note_11 rfl (lv_at hl 2 rfl) ?_
    refine lv_i2l hx hb dX11_note_12 rfl ?_
    refine lv_lconst (v := 0) hx hb dX11_note_13 (by decide) ?_
    refine lv_topl (fun z6 ez6 => ?_)
    obtain rfl : z6 = (0 : Int32).toInt64 := ez6.trans (by decide)
    refine lv_ldc2 (v := 99) hx hb hown (hts (.constantLong RX11 313 99) (wmx 2 rfl)) dX11_note_14 ?_
    refine lv_topl (fun z7 ez7 => ?_)
    obtain rfl : z7 = (99 : Int32).toInt64 := ez7.trans (by decide)
    have hPc := hP.sub (ws' := []) [] rfl
    refine va_calli (va_runS (As := [.long q1.toInt64, .long ((0 : Int32).toInt64), .long ((99 : Int32).toInt64)]) (rest := []) ⟨hx, hb, hml, hown, hts⟩ (c_X11_in l dC dI cI cZ cQ q1 0 99 H.size ) (va_cwS 3 hts gX11_note_X11_in rfl rfl rfl (by decide +kernel) ⟨Nat.le_of_ble_eq_true rfl, Nat.le_of_ble_eq_true rfl⟩) (ps_R hK hPc) rfl rfl hl.1 rfl (lv_room (Nat.le_of_ble_eq_true rfl)) dX11_note_17 ⟨Nat.le_of_ble_eq_true rfl, Nat.le_of_ble_eq_true rfl⟩) hS (fun q _ h => False.elim h) (fun q h => False.elim h) (fun r8 u9 t H1 locs ht hvm hw10 hB hz1 hk1 hS => ?_)
    have hP := hP.kept (fun k q hk => hk1 q.1 (hP k q hk).lt (fun h => h))
    clear hz1 hk1 hPc
    generalize H1 = H at hP hS ht ⊢
    try dsimp only at hw10
    rcases hw10 with ⟨rfl, hw10⟩ | ⟨rfl, hw10⟩
    ·
      refine lv_if_ne (tgt := 26) hx hb dX11_note_20 (by decide) (fun c11 => ?_) (fun c11 => ?_)
      rotate_left
      · exact absurd c11 (by decide)
      clear c11
      refine lv_aload_n hx hb dX11_note_26 rfl (lv_at hl 0 rfl) ?_
      refine va_get (D := (dC, dI)) (ci := 11) (v := .int (nI bk)) (C := RX11) (T := TX11) (N := 46) hx hb hts hi_X11 hown hK hP 0 rfl rfl 41 (by decide) (hts (.fieldLink RX11 171 "LeftQuillsModel" "booked" "I") (wmx 4 rfl)) (fun _ h9 => h9) rfl dX11_note_27 ?_
      refine lv_bipush (v := 15) hx hb dX11_note_30 (by decide) ?_
      refine lv_icmp_ne (tgt := 38) hx hb dX11_note_32 (by decide) (fun c12 => ?_) (fun c12 => ?_)
      ·
        have c12 : ¬ bk = 15 := fun h => c12 ((nI_eq (a := bk) (b := 15) (by omega) (by omega)).mpr h)
        refine lv_aload_n hx hb dX11_note_38 rfl (lv_at hl 0 rfl) ?_
        refine va_get (D := (dC, dI)) (ci := 11) (v := .ref m42) (C := RX11) (T := TX11) (N := 46) hx hb hts hi_X11 hown hK hP 0 rfl rfl 42 (by decide) (hts (.fieldLink RX11 83 "LeftQuillsModel" "bookQuill" "[I") (wmx 6 rfl)) (fun _ h9 => h9) rfl dX11_note_39 ?_
        refine lv_aload_n hx hb dX11_note_42 rfl (lv_at hl 0 rfl) ?_
        refine va_get (D := (dC, dI)) (ci := 11) (v := .int (nI bk)) (C := RX11) (T := TX11) (N := 46) hx hb hts hi_X11 hown hK hP 0 rfl rfl 41 (by decide) (hts (.fieldLink RX11 171 "LeftQuillsModel" "booked" "I") (wmx 4 rfl)) (fun _ h9 => h9) rfl dX11_note_43 ?_
        refine lv_iload_n hx hb dX11_note_46 rfl (lv_at hl 1 rfl) ?_
        refine va_iast hx hb hK hP hD hS 1 0 rfl rfl (vp_in_nI (n := bk) (N := 15) (by omega) (by decide)) dX11_note_47 (fun H locs hP hD hS => ?_)
        have hcl := (nI_clamp (n := bk) (by omega))
        rw [hcl] at hP hD
        clear hcl
        have hPD : pdW (dC, dI) vwCl A [(h0, .inr (11, (.int n0 :: .int n1 :: .int (nI nq) :: .ref m3 :: .ref m4 :: .ref m5 :: .int (nI nh) :: .ref m7 :: .ref m8 :: .ref m9 :: .ref m10 :: .int (nI sd) :: .ref m12 :: .int (nI tx) :: .int n14 :: .int (nI at9) :: .int n16 :: .int n17 :: .ref m18 :: .int (nI rq) :: .ref m20 :: .ref m21 :: .ref m22 :: .ref m23 :: .ref m24 :: .int (nI rh) :: .ref m26 :: .ref m27 :: .ref m28 :: .int (nI un) :: .ref m30 :: .int n31 :: .int n32 :: .ref m33 :: .int n34 :: .int n35 :: .ref m36 :: .int (nI wm) :: .ref m38 :: .ref m39 :: .ref m40 :: .int (nI bk) :: .ref m42 :: .ref m43 :: .ref m44 :: .ref m45 :: []))), (m42, .inl (cI, 15, .inl (upd fm42 bk (nI j4)))), (m43, .inl (cI, 15, .inl fm43))] H := ⟨hP, hD⟩
        have hP := hPD.1
        have hD := hPD.2
        clear hPD
        refine lv_aload_n hx hb dX11_note_48 rfl (lv_at hl 0 rfl) ?_
        refine va_get (D := (dC, dI)) (ci := 11) (v := .ref m43) (C := RX11) (T := TX11) (N := 46) hx hb hts hi_X11 hown hK hP 0 rfl rfl 43 (by decide) (hts (.fieldLink RX11 86 "LeftQuillsModel" "bookSoft" "[I") (wmx 7 rfl)) (fun _ h9 => h9) rfl dX11_note_49 ?_
        refine lv_aload_n hx hb dX11_note_52 rfl (lv_at hl 0 rfl) ?_
        refine va_get (D := (dC, dI)) (ci := 11) (v := .int (nI bk)) (C := RX11) (T := TX11) (N := 46) hx hb hts hi_X11 hown hK hP 0 rfl rfl 41 (by decide) (hts (.fieldLink RX11 171 "LeftQuillsModel" "booked" "I") (wmx 4 rfl)) (fun _ h9 => h9) rfl dX11_note_53 ?_
        refine lv_iload_n hx hb dX11_note_56 rfl (lv_at hl 2 rfl) ?_
        refine va_iast hx hb hK hP hD hS 2 0 rfl rfl (vp_in_nI (n := bk) (N := 15) (by omega) (by decide)) dX11_note_57 (fun H locs hP hD hS => ?_)
        generalize hgf14 : upd fm43 ((nI bk).toNatClampNeg) q1 = f14 at hP hD
        have hPD : pdW (dC, dI) vwCl A [(h0, .inr (11, (.int n0 :: .int n1 :: .int (nI nq) :: .ref m3 :: .ref m4 :: .ref m5 :: .int (nI nh) :: .ref m7 :: .ref m8 :: .ref m9 :: .ref m10 :: .int (nI sd) :: .ref m12 :: .int (nI tx) :: .int n14 :: .int (nI at9) :: .int n16 :: .int n17 :: .ref m18 :: .int (nI rq) :: .ref m20 :: .ref m21 :: .ref m22 :: .ref m23 :: .ref m24 :: .int (nI rh) :: .ref m26 :: .ref m27 :: .ref m28 :: .int (nI un) :: .ref m30 :: .int n31 :: .int n32 :: .ref m33 :: .int n34 :: .int n35 :: .ref m36 :: .int (nI wm) :: .ref m38 :: .ref m39 :: .ref m40 :: .int (nI bk) :: .ref m42 :: .ref m43 :: .ref m44 :: .ref m45 :: []))), (m42, .inl (cI, 15, .inl (upd fm42 bk (nI j4)))), (m43, .inl (cI, 15, .inl f14))] H := ⟨hP, hD⟩
        have hP := hPD.1
        have hD := hPD.2
        clear hPD
        refine lv_aload_n hx hb dX11_note_58 rfl (lv_at hl 0 rfl) ?_
        refine lv_dup hx hb dX11_note_59 rfl ?_
        refine va_get (D := (dC, dI)) (ci := 11) (v := .int (nI bk)) (C := RX11) (T := TX11) (N := 46) hx hb hts hi_X11 hown hK hP 0 rfl rfl 41 (by decide) (hts (.fieldLink RX11 171 "LeftQuillsModel" "booked" "I") (wmx 4 rfl)) (fun _ h9 => h9) rfl dX11_note_60 ?_
        refine lv_iconst (v := 1) hx hb dX11_note_63 (by decide) ?_
        refine lv_iadd hx hb dX11_note_64 ?_
        refine lv_topi (fun z15 ez15 => ?_)
        obtain rfl : z15 = nI (bk + 1) := ez15.trans (nI_add bk 1)
        refine va_put (D := (dC, dI)) (ci := 11) (v := .int (nI (bk + 1))) (ty := .int) (C := RX11) (T := TX11) (N := 46) hx hb hts hi_X11 tyX11 tyX11_ok nmX11 hown hK hP hD hS 0 rfl rfl 41 (by decide) (hts (.fieldLink RX11 171 "LeftQuillsModel" "booked" "I") (wmx 4 rfl)) (fun _ h9 => h9) rfl (by decide +kernel) rfl rfl (Nat.le_of_ble_eq_true rfl) dX11_note_65 (fun H locs hP hD hS => ?_)
        have hPD : pdW (dC, dI) vwCl A [(h0, .inr (11, (.int n0 :: .int n1 :: .int (nI nq) :: .ref m3 :: .ref m4 :: .ref m5 :: .int (nI nh) :: .ref m7 :: .ref m8 :: .ref m9 :: .ref m10 :: .int (nI sd) :: .ref m12 :: .int (nI tx) :: .int n14 :: .int (nI at9) :: .int n16 :: .int n17 :: .ref m18 :: .int (nI rq) :: .ref m20 :: .ref m21 :: .ref m22 :: .ref m23 :: .ref m24 :: .int (nI rh) :: .ref m26 :: .ref m27 :: .ref m28 :: .int (nI un) :: .ref m30 :: .int n31 :: .int n32 :: .ref m33 :: .int n34 :: .int n35 :: .ref m36 :: .int (nI wm) :: .ref m38 :: .ref m39 :: .ref m40 :: .int (nI (bk + 1)) :: .ref m42 :: .ref m43 :: .ref m44 :: .ref m45 :: []))), (m42, .inl (cI, 15, .inl (upd fm42 bk (nI j4)))), (m43, .inl (cI, 15, .inl f14))] H := ⟨hP, hD⟩
        have hP := hPD.1
        have hD := hPD.2
        clear hPD
        refine lv_aload_n hx hb dX11_note_68 rfl (lv_at hl 0 rfl) ?_
        refine va_get (D := (dC, dI)) (ci := 11) (v := .int (nI (bk + 1))) (C := RX11) (T := TX11) (N := 46) hx hb hts hi_X11 hown hK hP 0 rfl rfl 41 (by decide) (hts (.fieldLink RX11 171 "LeftQuillsModel" "booked" "I") (wmx 4 rfl)) (fun _ h9 => h9) rfl dX11_note_69 ?_
        have hP9 := hP.sub (ws' := [(h0, .inr (11, (.int n0 :: .int n1 :: .int (nI nq) :: .ref m3 :: .ref m4 :: .ref m5 :: .int (nI nh) :: .ref m7 :: .ref m8 :: .ref m9 :: .ref m10 :: .int (nI sd) :: .ref m12 :: .int (nI tx) :: .int n14 :: .int (nI at9) :: .int n16 :: .int n17 :: .ref m18 :: .int (nI rq) :: .ref m20 :: .ref m21 :: .ref m22 :: .ref m23 :: .ref m24 :: .int (nI rh) :: .ref m26 :: .ref m27 :: .ref m28 :: .int (nI un) :: .ref m30 :: .int n31 :: .int n32 :: .ref m33 :: .int n34 :: .int n35 :: .ref m36 :: .int (nI wm) :: .ref m38 :: .ref m39 :: .ref m40 :: .int (nI (bk + 1)) :: .ref m42 :: .ref m43 :: .ref m44 :: .ref m45 :: []))), (m42, .inl (cI, 15, .inl (upd fm42 bk (nI j4)))), (m43, .inl (cI, 15, .inl f14))]) [0, 1, 2] rfl
        have hD9 := hD.sub (ws' := [(h0, .inr (11, (.int n0 :: .int n1 :: .int (nI nq) :: .ref m3 :: .ref m4 :: .ref m5 :: .int (nI nh) :: .ref m7 :: .ref m8 :: .ref m9 :: .ref m10 :: .int (nI sd) :: .ref m12 :: .int (nI tx) :: .int n14 :: .int (nI at9) :: .int n16 :: .int n17 :: .ref m18 :: .int (nI rq) :: .ref m20 :: .ref m21 :: .ref m22 :: .ref m23 :: .ref m24 :: .int (nI rh) :: .ref m26 :: .ref m27 :: .ref m28 :: .int (nI un) :: .ref m30 :: .int n31 :: .int n32 :: .ref m33 :: .int n34 :: .int n35 :: .ref m36 :: .int (nI wm) :: .ref m38 :: .ref m39 :: .ref m40 :: .int (nI (bk + 1)) :: .ref m42 :: .ref m43 :: .ref m44 :: .ref m45 :: []))), (m42, .inl (cI, 15, .inl (upd fm42 bk (nI j4)))), (m43, .inl (cI, 15, .inl f14))]) [0, 1, 2] (by decide +kernel) rfl
        exact W.iret (v := nI (bk + 1)) hx hb hr (fun t ht hW => ⟨⟨nI (bk + 1), (fun _ => 0), rfl, (by unfold noteR; rw [if_pos hw3, if_pos hw10, if_pos (by omega)]), ⟨(upd fm42 bk (nI j4)), f14, (bk + 1), by omega, qIn_add hqi (by omega), (by unfold noteN; rw [if_pos hw3, if_pos hw10, if_pos (by omega)]), va_hq ht hP9, hD9⟩⟩, hS.F ht⟩) hS.2.2 dX11_note_72
      ·
        have c12 : bk = 15 := (nI_eq (a := bk) (b := 15) (by omega) (by omega)).mp c12
        refine lv_ldc (v := (-1000000004)) hx hb hown (hts (.constant RX11 115 (-1000000004)) (wmx 5 rfl)) dX11_note_35 ?_
        have hP9 := hP.sub (ws' := [(h0, .inr (11, (.int n0 :: .int n1 :: .int (nI nq) :: .ref m3 :: .ref m4 :: .ref m5 :: .int (nI nh) :: .ref m7 :: .ref m8 :: .ref m9 :: .ref m10 :: .int (nI sd) :: .ref m12 :: .int (nI tx) :: .int n14 :: .int (nI at9) :: .int n16 :: .int n17 :: .ref m18 :: .int (nI rq) :: .ref m20 :: .ref m21 :: .ref m22 :: .ref m23 :: .ref m24 :: .int (nI rh) :: .ref m26 :: .ref m27 :: .ref m28 :: .int (nI un) :: .ref m30 :: .int n31 :: .int n32 :: .ref m33 :: .int n34 :: .int n35 :: .ref m36 :: .int (nI wm) :: .ref m38 :: .ref m39 :: .ref m40 :: .int (nI bk) :: .ref m42 :: .ref m43 :: .ref m44 :: .ref m45 :: []))), (m42, .inl (cI, 15, .inl fm42)), (m43, .inl (cI, 15, .inl fm43))]) [0, 1, 2] rfl
        have hD9 := hD.sub (ws' := [(h0, .inr (11, (.int n0 :: .int n1 :: .int (nI nq) :: .ref m3 :: .ref m4 :: .ref m5 :: .int (nI nh) :: .ref m7 :: .ref m8 :: .ref m9 :: .ref m10 :: .int (nI sd) :: .ref m12 :: .int (nI tx) :: .int n14 :: .int (nI at9) :: .int n16 :: .int n17 :: .ref m18 :: .int (nI rq) :: .ref m20 :: .ref m21 :: .ref m22 :: .ref m23 :: .ref m24 :: .int (nI rh) :: .ref m26 :: .ref m27 :: .ref m28 :: .int (nI un) :: .ref m30 :: .int n31 :: .int n32 :: .ref m33 :: .int n34 :: .int n35 :: .ref m36 :: .int (nI wm) :: .ref m38 :: .ref m39 :: .ref m40 :: .int (nI bk) :: .ref m42 :: .ref m43 :: .ref m44 :: .ref m45 :: []))), (m42, .inl (cI, 15, .inl fm42)), (m43, .inl (cI, 15, .inl fm43))]) [0, 1, 2] (by decide +kernel) rfl
        exact W.iret (v := (-1000000004)) hx hb hr (fun t ht hW => ⟨⟨(-1000000004), (fun _ => 0), rfl, (by unfold noteR; rw [if_pos hw3, if_pos hw10, if_neg (by omega)]), ⟨fm42, fm43, bk, by omega, hqi, (by unfold noteN; rw [if_pos hw3, if_pos hw10, if_neg (by omega)]), va_hq ht hP9, hD9⟩⟩, hS.F ht⟩) hS.2.2 dX11_note_37
    ·
      refine lv_if_ne (tgt := 26) hx hb dX11_note_20 (by decide) (fun c16 => ?_) (fun c16 => ?_)
      · exact absurd c16 (by decide)
      clear c16
      refine lv_ldc (v := (-1000000002)) hx hb hown (hts (.constant RX11 111 (-1000000002)) (wmx 3 rfl)) dX11_note_23 ?_
      have hP9 := hP.sub (ws' := [(h0, .inr (11, (.int n0 :: .int n1 :: .int (nI nq) :: .ref m3 :: .ref m4 :: .ref m5 :: .int (nI nh) :: .ref m7 :: .ref m8 :: .ref m9 :: .ref m10 :: .int (nI sd) :: .ref m12 :: .int (nI tx) :: .int n14 :: .int (nI at9) :: .int n16 :: .int n17 :: .ref m18 :: .int (nI rq) :: .ref m20 :: .ref m21 :: .ref m22 :: .ref m23 :: .ref m24 :: .int (nI rh) :: .ref m26 :: .ref m27 :: .ref m28 :: .int (nI un) :: .ref m30 :: .int n31 :: .int n32 :: .ref m33 :: .int n34 :: .int n35 :: .ref m36 :: .int (nI wm) :: .ref m38 :: .ref m39 :: .ref m40 :: .int (nI bk) :: .ref m42 :: .ref m43 :: .ref m44 :: .ref m45 :: []))), (m42, .inl (cI, 15, .inl fm42)), (m43, .inl (cI, 15, .inl fm43))]) [0, 1, 2] rfl
      have hD9 := hD.sub (ws' := [(h0, .inr (11, (.int n0 :: .int n1 :: .int (nI nq) :: .ref m3 :: .ref m4 :: .ref m5 :: .int (nI nh) :: .ref m7 :: .ref m8 :: .ref m9 :: .ref m10 :: .int (nI sd) :: .ref m12 :: .int (nI tx) :: .int n14 :: .int (nI at9) :: .int n16 :: .int n17 :: .ref m18 :: .int (nI rq) :: .ref m20 :: .ref m21 :: .ref m22 :: .ref m23 :: .ref m24 :: .int (nI rh) :: .ref m26 :: .ref m27 :: .ref m28 :: .int (nI un) :: .ref m30 :: .int n31 :: .int n32 :: .ref m33 :: .int n34 :: .int n35 :: .ref m36 :: .int (nI wm) :: .ref m38 :: .ref m39 :: .ref m40 :: .int (nI bk) :: .ref m42 :: .ref m43 :: .ref m44 :: .ref m45 :: []))), (m42, .inl (cI, 15, .inl fm42)), (m43, .inl (cI, 15, .inl fm43))]) [0, 1, 2] (by decide +kernel) rfl
      exact W.iret (v := (-1000000002)) hx hb hr (fun t ht hW => ⟨⟨(-1000000002), (fun _ => 0), rfl, (by unfold noteR; rw [if_pos hw3, if_neg hw10]), ⟨fm42, fm43, bk, by omega, hqi, (by unfold noteN; rw [if_pos hw3, if_neg hw10]), va_hq ht hP9, hD9⟩⟩, hS.F ht⟩) hS.2.2 dX11_note_25
  ·
    refine lv_if_ne (tgt := 11) hx hb dX11_note_5 (by decide) (fun c17 => ?_) (fun c17 => ?_)
    · exact absurd c17 (by decide)
    clear c17
    refine lv_ldc (v := (-1000000001)) hx hb hown (hts (.constant RX11 188 (-1000000001)) (wmx 1 rfl)) dX11_note_8 ?_
    have hP9 := hP.sub (ws' := [(h0, .inr (11, (.int n0 :: .int n1 :: .int (nI nq) :: .ref m3 :: .ref m4 :: .ref m5 :: .int (nI nh) :: .ref m7 :: .ref m8 :: .ref m9 :: .ref m10 :: .int (nI sd) :: .ref m12 :: .int (nI tx) :: .int n14 :: .int (nI at9) :: .int n16 :: .int n17 :: .ref m18 :: .int (nI rq) :: .ref m20 :: .ref m21 :: .ref m22 :: .ref m23 :: .ref m24 :: .int (nI rh) :: .ref m26 :: .ref m27 :: .ref m28 :: .int (nI un) :: .ref m30 :: .int n31 :: .int n32 :: .ref m33 :: .int n34 :: .int n35 :: .ref m36 :: .int (nI wm) :: .ref m38 :: .ref m39 :: .ref m40 :: .int (nI bk) :: .ref m42 :: .ref m43 :: .ref m44 :: .ref m45 :: []))), (m42, .inl (cI, 15, .inl fm42)), (m43, .inl (cI, 15, .inl fm43))]) [0, 1, 2] rfl
    have hD9 := hD.sub (ws' := [(h0, .inr (11, (.int n0 :: .int n1 :: .int (nI nq) :: .ref m3 :: .ref m4 :: .ref m5 :: .int (nI nh) :: .ref m7 :: .ref m8 :: .ref m9 :: .ref m10 :: .int (nI sd) :: .ref m12 :: .int (nI tx) :: .int n14 :: .int (nI at9) :: .int n16 :: .int n17 :: .ref m18 :: .int (nI rq) :: .ref m20 :: .ref m21 :: .ref m22 :: .ref m23 :: .ref m24 :: .int (nI rh) :: .ref m26 :: .ref m27 :: .ref m28 :: .int (nI un) :: .ref m30 :: .int n31 :: .int n32 :: .ref m33 :: .int n34 :: .int n35 :: .ref m36 :: .int (nI wm) :: .ref m38 :: .ref m39 :: .ref m40 :: .int (nI bk) :: .ref m42 :: .ref m43 :: .ref m44 :: .ref m45 :: []))), (m42, .inl (cI, 15, .inl fm42)), (m43, .inl (cI, 15, .inl fm43))]) [0, 1, 2] (by decide +kernel) rfl
    exact W.iret (v := (-1000000001)) hx hb hr (fun t ht hW => ⟨⟨(-1000000001), (fun _ => 0), rfl, (by unfold noteR; rw [if_neg hw3]), ⟨fm42, fm43, bk, by omega, hqi, (by unfold noteN; rw [if_neg hw3]), va_hq ht hP9, hD9⟩⟩, hS.F ht⟩) hS.2.2 dX11_note_10
set_option maxHeartbeats 4000000 in
set_option maxRecDepth 100000 in
theorem c_X11_tearF (l : Launch) (dC : Nat → ClassId) (dI : Nat → Nat → Nat) (cI cZ cQ : ClassId) (h0 : Nat) (n0 : Int32) (n1 : Int32) (nq : Nat) (m3 : Nat) (m4 : Nat) (m5 : Nat) (nh : Nat) (m7 : Nat) (m8 : Nat) (m9 : Nat) (m10 : Nat) (sd : Nat) (m12 : Nat) (tx : Nat) (n14 : Int32) (at9 : Nat) (n16 : Int32) (n17 : Int32) (m18 : Nat) (rq : Nat) (m20 : Nat) (m21 : Nat) (m22 : Nat) (m23 : Nat) (m24 : Nat) (rh : Nat) (m26 : Nat) (m27 : Nat) (m28 : Nat) (un : Nat) (m30 : Nat) (n31 : Int32) (n32 : Int32) (m33 : Nat) (n34 : Int32) (n35 : Int32) (m36 : Nat) (wm : Nat) (m38 : Nat) (m39 : Nat) (m40 : Nat) (bk : Nat) (m42 : Nat) (m43 : Nat) (m44 : Nat) (m45 : Nat) (sz : Nat) (hwm : wm ≤ 6) (hbk : bk ≤ 15) : Met l yX11_tear wsX11_tear ({ frames := 0, cells := 0, slots := 0, locals := 40 }) (va_Pc [.ref h0] (fun U => U.heap.size = sz ∧ va_P (dC, dI) vwCl [(h0, .inr (11, (.int n0 :: .int n1 :: .int (nI nq) :: .ref m3 :: .ref m4 :: .ref m5 :: .int (nI nh) :: .ref m7 :: .ref m8 :: .ref m9 :: .ref m10 :: .int (nI sd) :: .ref m12 :: .int (nI tx) :: .int n14 :: .int (nI at9) :: .int n16 :: .int n17 :: .ref m18 :: .int (nI rq) :: .ref m20 :: .ref m21 :: .ref m22 :: .ref m23 :: .ref m24 :: .int (nI rh) :: .ref m26 :: .ref m27 :: .ref m28 :: .int (nI un) :: .ref m30 :: .int n31 :: .int n32 :: .ref m33 :: .int n34 :: .int n35 :: .ref m36 :: .int (nI wm) :: .ref m38 :: .ref m39 :: .ref m40 :: .int (nI bk) :: .ref m42 :: .ref m43 :: .ref m44 :: .ref m45 :: [])))] U.heap ∧ va_K (dC, dI) vwCl (tys0 cI cZ cQ) U ∧ va_D (fun _ => True) [(h0, .inr (11, (.int n0 :: .int n1 :: .int (nI nq) :: .ref m3 :: .ref m4 :: .ref m5 :: .int (nI nh) :: .ref m7 :: .ref m8 :: .ref m9 :: .ref m10 :: .int (nI sd) :: .ref m12 :: .int (nI tx) :: .int n14 :: .int (nI at9) :: .int n16 :: .int n17 :: .ref m18 :: .int (nI rq) :: .ref m20 :: .ref m21 :: .ref m22 :: .ref m23 :: .ref m24 :: .int (nI rh) :: .ref m26 :: .ref m27 :: .ref m28 :: .int (nI un) :: .ref m30 :: .int n31 :: .int n32 :: .ref m33 :: .int n34 :: .int n35 :: .ref m36 :: .int (nI wm) :: .ref m38 :: .ref m39 :: .ref m40 :: .int (nI bk) :: .ref m42 :: .ref m43 :: .ref m44 :: .ref m45 :: [])))])) (va_Qi (fun (r : Int32) (u : Nat → Nat) => r = nI (wm + bk)) (fun (_ : Nat → Nat) (t : State) => ∃ (kk0 kk1 : Nat), kk0 ≤ 0 ∧ kk1 ≤ 0 ∧ va_P (dC, dI) vwCl [(h0, .inr (11, (.int n0 :: .int n1 :: .int (nI nq) :: .ref m3 :: .ref m4 :: .ref m5 :: .int (nI nh) :: .ref m7 :: .ref m8 :: .ref m9 :: .ref m10 :: .int (nI sd) :: .ref m12 :: .int (nI tx) :: .int n14 :: .int (nI at9) :: .int n16 :: .int n17 :: .ref m18 :: .int (nI rq) :: .ref m20 :: .ref m21 :: .ref m22 :: .ref m23 :: .ref m24 :: .int (nI rh) :: .ref m26 :: .ref m27 :: .ref m28 :: .int (nI un) :: .ref m30 :: .int n31 :: .int n32 :: .ref m33 :: .int n34 :: .int n35 :: .ref m36 :: .int (nI kk0) :: .ref m38 :: .ref m39 :: .ref m40 :: .int (nI kk1) :: .ref m42 :: .ref m43 :: .ref m44 :: .ref m45 :: [])))] t.heap ∧ va_D (va_A [(h0, .inr (11, (.int n0 :: .int n1 :: .int (nI nq) :: .ref m3 :: .ref m4 :: .ref m5 :: .int (nI nh) :: .ref m7 :: .ref m8 :: .ref m9 :: .ref m10 :: .int (nI sd) :: .ref m12 :: .int (nI tx) :: .int n14 :: .int (nI at9) :: .int n16 :: .int n17 :: .ref m18 :: .int (nI rq) :: .ref m20 :: .ref m21 :: .ref m22 :: .ref m23 :: .ref m24 :: .int (nI rh) :: .ref m26 :: .ref m27 :: .ref m28 :: .int (nI un) :: .ref m30 :: .int n31 :: .int n32 :: .ref m33 :: .int n34 :: .int n35 :: .ref m36 :: .int (nI wm) :: .ref m38 :: .ref m39 :: .ref m40 :: .int (nI bk) :: .ref m42 :: .ref m43 :: .ref m44 :: .ref m45 :: [])))] sz) [(h0, .inr (11, (.int n0 :: .int n1 :: .int (nI nq) :: .ref m3 :: .ref m4 :: .ref m5 :: .int (nI nh) :: .ref m7 :: .ref m8 :: .ref m9 :: .ref m10 :: .int (nI sd) :: .ref m12 :: .int (nI tx) :: .int n14 :: .int (nI at9) :: .int n16 :: .int n17 :: .ref m18 :: .int (nI rq) :: .ref m20 :: .ref m21 :: .ref m22 :: .ref m23 :: .ref m24 :: .int (nI rh) :: .ref m26 :: .ref m27 :: .ref m28 :: .int (nI un) :: .ref m30 :: .int n31 :: .int n32 :: .ref m33 :: .int n34 :: .int n35 :: .ref m36 :: .int (nI kk0) :: .ref m38 :: .ref m39 :: .ref m40 :: .int (nI kk1) :: .ref m42 :: .ref m43 :: .ref m44 :: .ref m45 :: [])))]) (va_A [(h0, .inr (11, (.int n0 :: .int n1 :: .int (nI nq) :: .ref m3 :: .ref m4 :: .ref m5 :: .int (nI nh) :: .ref m7 :: .ref m8 :: .ref m9 :: .ref m10 :: .int (nI sd) :: .ref m12 :: .int (nI tx) :: .int n14 :: .int (nI at9) :: .int n16 :: .int n17 :: .ref m18 :: .int (nI rq) :: .ref m20 :: .ref m21 :: .ref m22 :: .ref m23 :: .ref m24 :: .int (nI rh) :: .ref m26 :: .ref m27 :: .ref m28 :: .int (nI un) :: .ref m30 :: .int n31 :: .int n32 :: .ref m33 :: .int n34 :: .int n35 :: .ref m36 :: .int (nI wm) :: .ref m38 :: .ref m39 :: .ref m40 :: .int (nI bk) :: .ref m42 :: .ref m43 :: .ref m44 :: .ref m45 :: [])))] sz)) 0 0 (va_A [(h0, .inr (11, (.int n0 :: .int n1 :: .int (nI nq) :: .ref m3 :: .ref m4 :: .ref m5 :: .int (nI nh) :: .ref m7 :: .ref m8 :: .ref m9 :: .ref m10 :: .int (nI sd) :: .ref m12 :: .int (nI tx) :: .int n14 :: .int (nI at9) :: .int n16 :: .int n17 :: .ref m18 :: .int (nI rq) :: .ref m20 :: .ref m21 :: .ref m22 :: .ref m23 :: .ref m24 :: .int (nI rh) :: .ref m26 :: .ref m27 :: .ref m28 :: .int (nI un) :: .ref m30 :: .int n31 :: .int n32 :: .ref m33 :: .int n34 :: .int n35 :: .ref m36 :: .int (nI wm) :: .ref m38 :: .ref m39 :: .ref m40 :: .int (nI bk) :: .ref m42 :: .ref m43 :: .ref m44 :: .ref m45 :: [])))] sz) := by
  refine Met.ofW (cc := cX11_tear) (maxL := 2) (ret := (some .int)) (by decide) rfl ?_
  intro p e s m args below meth c s₁ B hml hv
  obtain ⟨rfl, hsz, hP, hK, hD0⟩ := hv
  have hx := B.exec
  have hb := B.bytes
  have hr := B.returns
  have hts := atoms_spec (ws := wsX11_tear) B.pre
  have hown : s.vm.findClass RX11 = some m.cls := findClass_of_methodNamed B.named
  have hlocks := B.notSynchronized
  have hi_X11 : ∀ w ∈ u_ws RX11 TX11 46, w ∈ wsX11_tear := fun _ h => List.mem_cons_of_mem _ (List.mem_append_right _ (h))
  subst hsz
  have hD := hD0.self (sz := s.heap.size)
  generalize hAe : va_A [(h0, .inr (11, (.int n0 :: .int n1 :: .int (nI nq) :: .ref m3 :: .ref m4 :: .ref m5 :: .int (nI nh) :: .ref m7 :: .ref m8 :: .ref m9 :: .ref m10 :: .int (nI sd) :: .ref m12 :: .int (nI tx) :: .int n14 :: .int (nI at9) :: .int n16 :: .int n17 :: .ref m18 :: .int (nI rq) :: .ref m20 :: .ref m21 :: .ref m22 :: .ref m23 :: .ref m24 :: .int (nI rh) :: .ref m26 :: .ref m27 :: .ref m28 :: .int (nI un) :: .ref m30 :: .int n31 :: .int n32 :: .ref m33 :: .int n34 :: .int n35 :: .ref m36 :: .int (nI wm) :: .ref m38 :: .ref m39 :: .ref m40 :: .int (nI bk) :: .ref m42 :: .ref m43 :: .ref m44 :: .ref m45 :: [])))] s.heap.size = A at hD ⊢
  have hA : ∀ q : Nat, s.heap.size ≤ q → A q := fun q h => by rw [← hAe]; exact Or.inr h
  have hS : va_S A s.heap s.heap [] := va_S.rf
  have hl := lv_entry ([.ref h0]) (n := 2) (Nat.le_of_ble_eq_true rfl)
  rw [lg_entry_eq]
  generalize (lg_sl ([.ref h0]) ++ List.replicate (2 - (lg_sl ([.ref h0])).length) Slot.unset).toArray = ls at hl ⊢
  have hl : lv_has ls 2 [(0, .ref h0)] := hl
  refine lv_aload_n hx hb dX11_tear_0 rfl (lv_at hl 0 rfl) ?_
  refine va_get (D := (dC, dI)) (ci := 11) (v := .int (nI wm)) (C := RX11) (T := TX11) (N := 46) hx hb hts hi_X11 hown hK hP 0 rfl rfl 37 (by decide) (hts (.fieldLink RX11 168 "LeftQuillsModel" "wornMany" "I") (wmx 1 rfl)) (fun _ h9 => h9) rfl dX11_tear_1 ?_
  refine lv_aload_n hx hb dX11_tear_4 rfl (lv_at hl 0 rfl) ?_
  refine va_get (D := (dC, dI)) (ci := 11) (v := .int (nI bk)) (C := RX11) (T := TX11) (N := 46) hx hb hts hi_X11 hown hK hP 0 rfl rfl 41 (by decide) (hts (.fieldLink RX11 171 "LeftQuillsModel" "booked" "I") (wmx 2 rfl)) (fun _ h9 => h9) rfl dX11_tear_5 ?_
  refine lv_iadd hx hb dX11_tear_8 ?_
  refine lv_topi (fun z1 ez1 => ?_)
  obtain rfl : z1 = nI (wm + bk) := ez1.trans (nI_add wm bk)
  refine lv_istore_n (lv' := [(1, .int (nI (wm + bk))), (0, .ref h0)]) hx hb dX11_tear_9 rfl hl (by decide) rfl (fun ls hl => ?_)
  refine lv_aload_n hx hb dX11_tear_10 rfl (lv_at hl 1 rfl) ?_
  refine lv_iconst (v := 0) hx hb dX11_tear_11 (by decide) ?_
  refine va_put (D := (dC, dI)) (ci := 11) (v := .int 0) (ty := .int) (C := RX11) (T := TX11) (N := 46) hx hb hts hi_X11 tyX11 tyX11_ok nmX11 hown hK hP hD hS 0 rfl rfl 37 (by decide) (hts (.fieldLink RX11 168 "LeftQuillsModel" "wornMany" "I") (wmx 1 rfl)) (fun _ h9 => h9) rfl (by decide +kernel) rfl rfl (Nat.le_of_ble_eq_true rfl) dX11_tear_12 (fun H locs hP hD hS => ?_)
  have hPD : pdW (dC, dI) vwCl A [(h0, .inr (11, (.int n0 :: .int n1 :: .int (nI nq) :: .ref m3 :: .ref m4 :: .ref m5 :: .int (nI nh) :: .ref m7 :: .ref m8 :: .ref m9 :: .ref m10 :: .int (nI sd) :: .ref m12 :: .int (nI tx) :: .int n14 :: .int (nI at9) :: .int n16 :: .int n17 :: .ref m18 :: .int (nI rq) :: .ref m20 :: .ref m21 :: .ref m22 :: .ref m23 :: .ref m24 :: .int (nI rh) :: .ref m26 :: .ref m27 :: .ref m28 :: .int (nI un) :: .ref m30 :: .int n31 :: .int n32 :: .ref m33 :: .int n34 :: .int n35 :: .ref m36 :: .int 0 :: .ref m38 :: .ref m39 :: .ref m40 :: .int (nI bk) :: .ref m42 :: .ref m43 :: .ref m44 :: .ref m45 :: [])))] H := ⟨hP, hD⟩
  have hP := hPD.1
  have hD := hPD.2
  clear hPD
  refine lv_aload_n hx hb dX11_tear_15 rfl (lv_at hl 1 rfl) ?_
  refine lv_iconst (v := 0) hx hb dX11_tear_16 (by decide) ?_
  refine va_put (D := (dC, dI)) (ci := 11) (v := .int 0) (ty := .int) (C := RX11) (T := TX11) (N := 46) hx hb hts hi_X11 tyX11 tyX11_ok nmX11 hown hK hP hD hS 0 rfl rfl 41 (by decide) (hts (.fieldLink RX11 171 "LeftQuillsModel" "booked" "I") (wmx 2 rfl)) (fun _ h9 => h9) rfl (by decide +kernel) rfl rfl (Nat.le_of_ble_eq_true rfl) dX11_tear_17 (fun H locs hP hD hS => ?_)
  have hPD : pdW (dC, dI) vwCl A [(h0, .inr (11, (.int n0 :: .int n1 :: .int (nI nq) :: .ref m3 :: .ref m4 :: .ref m5 :: .int (nI nh) :: .ref m7 :: .ref m8 :: .ref m9 :: .ref m10 :: .int (nI sd) :: .ref m12 :: .int (nI tx) :: .int n14 :: .int (nI at9) :: .int n16 :: .int n17 :: .ref m18 :: .int (nI rq) :: .ref m20 :: .ref m21 :: .ref m22 :: .ref m23 :: .ref m24 :: .int (nI rh) :: .ref m26 :: .ref m27 :: .ref m28 :: .int (nI un) :: .ref m30 :: .int n31 :: .int n32 :: .ref m33 :: .int n34 :: .int n35 :: .ref m36 :: .int 0 :: .ref m38 :: .ref m39 :: .ref m40 :: .int 0 :: .ref m42 :: .ref m43 :: .ref m44 :: .ref m45 :: [])))] H := ⟨hP, hD⟩
  have hP := hPD.1
  have hD := hPD.2
  clear hPD
  refine lv_iload_n hx hb dX11_tear_20 rfl (lv_at hl 0 rfl) ?_
  have hP9 := hP.sub (ws' := [(h0, .inr (11, (.int n0 :: .int n1 :: .int (nI nq) :: .ref m3 :: .ref m4 :: .ref m5 :: .int (nI nh) :: .ref m7 :: .ref m8 :: .ref m9 :: .ref m10 :: .int (nI sd) :: .ref m12 :: .int (nI tx) :: .int n14 :: .int (nI at9) :: .int n16 :: .int n17 :: .ref m18 :: .int (nI rq) :: .ref m20 :: .ref m21 :: .ref m22 :: .ref m23 :: .ref m24 :: .int (nI rh) :: .ref m26 :: .ref m27 :: .ref m28 :: .int (nI un) :: .ref m30 :: .int n31 :: .int n32 :: .ref m33 :: .int n34 :: .int n35 :: .ref m36 :: .int 0 :: .ref m38 :: .ref m39 :: .ref m40 :: .int 0 :: .ref m42 :: .ref m43 :: .ref m44 :: .ref m45 :: [])))]) [0] rfl
  have hD9 := hD.sub (ws' := [(h0, .inr (11, (.int n0 :: .int n1 :: .int (nI nq) :: .ref m3 :: .ref m4 :: .ref m5 :: .int (nI nh) :: .ref m7 :: .ref m8 :: .ref m9 :: .ref m10 :: .int (nI sd) :: .ref m12 :: .int (nI tx) :: .int n14 :: .int (nI at9) :: .int n16 :: .int n17 :: .ref m18 :: .int (nI rq) :: .ref m20 :: .ref m21 :: .ref m22 :: .ref m23 :: .ref m24 :: .int (nI rh) :: .ref m26 :: .ref m27 :: .ref m28 :: .int (nI un) :: .ref m30 :: .int n31 :: .int n32 :: .ref m33 :: .int n34 :: .int n35 :: .ref m36 :: .int 0 :: .ref m38 :: .ref m39 :: .ref m40 :: .int 0 :: .ref m42 :: .ref m43 :: .ref m44 :: .ref m45 :: [])))]) [0] (by decide +kernel) rfl
  exact W.iret (v := nI (wm + bk)) hx hb hr (fun t ht hW => ⟨⟨nI (wm + bk), (fun _ => 0), rfl, rfl, ⟨0, 0, by omega, by omega, va_hq ht hP9, hD9⟩⟩, hS.F ht⟩) hS.2.2 dX11_tear_21
