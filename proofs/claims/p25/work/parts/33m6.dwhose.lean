set_option maxHeartbeats 4000000 in
set_option maxRecDepth 100000 in
theorem c_X2_addD (l : Launch) (dC : Nat → ClassId) (dI : Nat → Nat → Nat) (cI cZ cQ : ClassId) (h0 : Nat) (n : Nat) (ho : Nat) (e2 : Nat) (e3 : Nat) (e4 : Nat) (fe2 : Nat → Int32) (fe3 : Nat → Int32) (fe4 : Nat → Int32) (j : Nat) (a0 : Int32) (a1 : Int32) (sz : Nat) (hn : n < 6) (hj : j < 8) (hqi : qIn fe2 n) : Met l yX2_add wsX2_add ({ frames := 0, cells := 0, slots := 0, locals := 40 }) (va_Pc [.ref h0, .int (nI j), .int a0, .int a1] (fun U => U.heap.size = sz ∧ va_P (dC, dI) vwCl [(h0, .inr (2, [.int (nI n), .ref ho, .ref e2, .ref e3, .ref e4])), (e2, .inl (cI, 6, .inl fe2)), (e3, .inl (cI, 6, .inl fe3)), (e4, .inl (cI, 6, .inl fe4))] U.heap ∧ va_K (dC, dI) vwCl (tys0 cI cZ cQ) U ∧ va_D (fun _ => True) [(h0, .inr (2, [.int (nI n), .ref ho, .ref e2, .ref e3, .ref e4])), (e2, .inl (cI, 6, .inl fe2)), (e3, .inl (cI, 6, .inl fe3)), (e4, .inl (cI, 6, .inl fe4))])) (va_Qv (fun (u : Nat → Nat) => True) (fun (_ : Nat → Nat) (t : State) => ∃ (gg0 gg1 gg2 : Nat → Int32) (kk0 : Nat), kk0 ≤ 6 ∧ (qIn gg0 kk0) ∧ (gg0 = upd fe2 n (nI j)) ∧ (gg1 = upd fe3 n a0) ∧ (gg2 = upd fe4 n a1) ∧ (kk0 = n + 1) ∧ va_P (dC, dI) vwCl [(h0, .inr (2, [.int (nI kk0), .ref ho, .ref e2, .ref e3, .ref e4])), (e2, .inl (cI, 6, .inl gg0)), (e3, .inl (cI, 6, .inl gg1)), (e4, .inl (cI, 6, .inl gg2))] t.heap ∧ va_D (va_A [(h0, .inr (2, [.int (nI n), .ref ho, .ref e2, .ref e3, .ref e4])), (e2, .inl (cI, 6, .inl fe2)), (e3, .inl (cI, 6, .inl fe3)), (e4, .inl (cI, 6, .inl fe4))] sz) [(h0, .inr (2, [.int (nI kk0), .ref ho, .ref e2, .ref e3, .ref e4])), (e2, .inl (cI, 6, .inl gg0)), (e3, .inl (cI, 6, .inl gg1)), (e4, .inl (cI, 6, .inl gg2))]) (va_A [(h0, .inr (2, [.int (nI n), .ref ho, .ref e2, .ref e3, .ref e4])), (e2, .inl (cI, 6, .inl fe2)), (e3, .inl (cI, 6, .inl fe3)), (e4, .inl (cI, 6, .inl fe4))] sz)) 0 0 (va_A [(h0, .inr (2, [.int (nI n), .ref ho, .ref e2, .ref e3, .ref e4])), (e2, .inl (cI, 6, .inl fe2)), (e3, .inl (cI, 6, .inl fe3)), (e4, .inl (cI, 6, .inl fe4))] sz) := by
  refine Met.ofW (cc := cX2_add) (maxL := 4) (ret := none) (by decide) rfl ?_
  intro p e s m args below meth c s₁ B hml hv
  obtain ⟨rfl, hsz, hP, hK, hD0⟩ := hv
  have hx := B.exec
  have hb := B.bytes
  have hr := B.returns
  have hts := atoms_spec (ws := wsX2_add) B.pre
  have hown : s.vm.findClass RX2 = some m.cls := findClass_of_methodNamed B.named
  have hlocks := B.notSynchronized
  have hi_X2 : ∀ w ∈ u_ws RX2 TX2 5, w ∈ wsX2_add := fun _ h => List.mem_cons_of_mem _ (List.mem_append_right _ (h))
  subst hsz
  have hD := hD0.self (sz := s.heap.size)
  generalize hAe : va_A [(h0, .inr (2, [.int (nI n), .ref ho, .ref e2, .ref e3, .ref e4])), (e2, .inl (cI, 6, .inl fe2)), (e3, .inl (cI, 6, .inl fe3)), (e4, .inl (cI, 6, .inl fe4))] s.heap.size = A at hD ⊢
  have hA : ∀ q : Nat, s.heap.size ≤ q → A q := fun q h => by rw [← hAe]; exact Or.inr h
  have hS : va_S A s.heap s.heap [] := va_S.rf
  have hl := lv_entry ([.ref h0, .int (nI j), .int a0, .int a1]) (n := 4) (Nat.le_of_ble_eq_true rfl)
  rw [lg_entry_eq]
  generalize (lg_sl ([.ref h0, .int (nI j), .int a0, .int a1]) ++ List.replicate (4 - (lg_sl ([.ref h0, .int (nI j), .int a0, .int a1])).length) Slot.unset).toArray = ls at hl ⊢
  have hl : lv_has ls 4 [(0, .ref h0), (1, .int (nI j)), (2, .int a0), (3, .int a1)] := hl
  refine lv_aload_n hx hb dX2_add_0 rfl (lv_at hl 0 rfl) ?_
  refine va_get (D := (dC, dI)) (ci := 2) (v := .int (nI n)) (C := RX2) (T := TX2) (N := 5) hx hb hts hi_X2 hown hK hP 0 rfl rfl 0 (by decide) (hts (.fieldLink RX2 9 "LeftQuills$Evidence" "count" "I") (wmx 1 rfl)) (fun _ h9 => h9) rfl dX2_add_1 ?_
  refine lv_bipush (v := 6) hx hb dX2_add_4 (by decide) ?_
  refine lv_icmp_lt (tgt := 10) hx hb dX2_add_6 (by decide) (fun c1 => ?_) (fun c1 => ?_)
  ·
    have c1 : n < 6 := (nI_ltI (a := n) (b := 6) (by omega) (by omega)).mp c1
    refine lv_aload_n hx hb dX2_add_10 rfl (lv_at hl 0 rfl) ?_
    refine va_get (D := (dC, dI)) (ci := 2) (v := .ref e2) (C := RX2) (T := TX2) (N := 5) hx hb hts hi_X2 hown hK hP 0 rfl rfl 2 (by decide) (hts (.fieldLink RX2 15 "LeftQuills$Evidence" "quill" "[I") (wmx 2 rfl)) (fun _ h9 => h9) rfl dX2_add_11 ?_
    refine lv_aload_n hx hb dX2_add_14 rfl (lv_at hl 0 rfl) ?_
    refine va_get (D := (dC, dI)) (ci := 2) (v := .int (nI n)) (C := RX2) (T := TX2) (N := 5) hx hb hts hi_X2 hown hK hP 0 rfl rfl 0 (by decide) (hts (.fieldLink RX2 9 "LeftQuills$Evidence" "count" "I") (wmx 1 rfl)) (fun _ h9 => h9) rfl dX2_add_15 ?_
    refine lv_iload_n hx hb dX2_add_18 rfl (lv_at hl 1 rfl) ?_
    refine va_iast hx hb hK hP hD hS 1 0 rfl rfl (vp_in_nI (n := n) (N := 6) (by omega) (by decide)) dX2_add_19 (fun H locs hP hD hS => ?_)
    have hcl := (nI_clamp (n := n) (by omega))
    rw [hcl] at hP hD
    clear hcl
    have hPD : pdW (dC, dI) vwCl A [(h0, .inr (2, [.int (nI n), .ref ho, .ref e2, .ref e3, .ref e4])), (e2, .inl (cI, 6, .inl (upd fe2 n (nI j)))), (e3, .inl (cI, 6, .inl fe3)), (e4, .inl (cI, 6, .inl fe4))] H := ⟨hP, hD⟩
    have hP := hPD.1
    have hD := hPD.2
    clear hPD
    refine lv_aload_n hx hb dX2_add_20 rfl (lv_at hl 0 rfl) ?_
    refine va_get (D := (dC, dI)) (ci := 2) (v := .ref e3) (C := RX2) (T := TX2) (N := 5) hx hb hts hi_X2 hown hK hP 0 rfl rfl 3 (by decide) (hts (.fieldLink RX2 19 "LeftQuills$Evidence" "pages" "[I") (wmx 3 rfl)) (fun _ h9 => h9) rfl dX2_add_21 ?_
    refine lv_aload_n hx hb dX2_add_24 rfl (lv_at hl 0 rfl) ?_
    refine va_get (D := (dC, dI)) (ci := 2) (v := .int (nI n)) (C := RX2) (T := TX2) (N := 5) hx hb hts hi_X2 hown hK hP 0 rfl rfl 0 (by decide) (hts (.fieldLink RX2 9 "LeftQuills$Evidence" "count" "I") (wmx 1 rfl)) (fun _ h9 => h9) rfl dX2_add_25 ?_
    refine lv_iload_n hx hb dX2_add_28 rfl (lv_at hl 2 rfl) ?_
    refine va_iast hx hb hK hP hD hS 2 0 rfl rfl (vp_in_nI (n := n) (N := 6) (by omega) (by decide)) dX2_add_29 (fun H locs hP hD hS => ?_)
    have hcl := (nI_clamp (n := n) (by omega))
    rw [hcl] at hP hD
    clear hcl
    have hPD : pdW (dC, dI) vwCl A [(h0, .inr (2, [.int (nI n), .ref ho, .ref e2, .ref e3, .ref e4])), (e2, .inl (cI, 6, .inl (upd fe2 n (nI j)))), (e3, .inl (cI, 6, .inl (upd fe3 n a0))), (e4, .inl (cI, 6, .inl fe4))] H := ⟨hP, hD⟩
    have hP := hPD.1
    have hD := hPD.2
    clear hPD
    refine lv_aload_n hx hb dX2_add_30 rfl (lv_at hl 0 rfl) ?_
    refine va_get (D := (dC, dI)) (ci := 2) (v := .ref e4) (C := RX2) (T := TX2) (N := 5) hx hb hts hi_X2 hown hK hP 0 rfl rfl 4 (by decide) (hts (.fieldLink RX2 22 "LeftQuills$Evidence" "softness" "[I") (wmx 4 rfl)) (fun _ h9 => h9) rfl dX2_add_31 ?_
    refine lv_aload_n hx hb dX2_add_34 rfl (lv_at hl 0 rfl) ?_
    refine va_get (D := (dC, dI)) (ci := 2) (v := .int (nI n)) (C := RX2) (T := TX2) (N := 5) hx hb hts hi_X2 hown hK hP 0 rfl rfl 0 (by decide) (hts (.fieldLink RX2 9 "LeftQuills$Evidence" "count" "I") (wmx 1 rfl)) (fun _ h9 => h9) rfl dX2_add_35 ?_
    refine lv_iload_n hx hb dX2_add_38 rfl (lv_at hl 3 rfl) ?_
    refine va_iast hx hb hK hP hD hS 3 0 rfl rfl (vp_in_nI (n := n) (N := 6) (by omega) (by decide)) dX2_add_39 (fun H locs hP hD hS => ?_)
    have hcl := (nI_clamp (n := n) (by omega))
    rw [hcl] at hP hD
    clear hcl
    have hPD : pdW (dC, dI) vwCl A [(h0, .inr (2, [.int (nI n), .ref ho, .ref e2, .ref e3, .ref e4])), (e2, .inl (cI, 6, .inl (upd fe2 n (nI j)))), (e3, .inl (cI, 6, .inl (upd fe3 n a0))), (e4, .inl (cI, 6, .inl (upd fe4 n a1)))] H := ⟨hP, hD⟩
    have hP := hPD.1
    have hD := hPD.2
    clear hPD
    refine lv_aload_n hx hb dX2_add_40 rfl (lv_at hl 0 rfl) ?_
    refine lv_dup hx hb dX2_add_41 rfl ?_
    refine va_get (D := (dC, dI)) (ci := 2) (v := .int (nI n)) (C := RX2) (T := TX2) (N := 5) hx hb hts hi_X2 hown hK hP 0 rfl rfl 0 (by decide) (hts (.fieldLink RX2 9 "LeftQuills$Evidence" "count" "I") (wmx 1 rfl)) (fun _ h9 => h9) rfl dX2_add_42 ?_
    refine lv_iconst (v := 1) hx hb dX2_add_45 (by decide) ?_
    refine lv_iadd hx hb dX2_add_46 ?_
    refine lv_topi (fun z5 ez5 => ?_)
    obtain rfl : z5 = nI (n + 1) := ez5.trans (nI_add n 1)
    refine va_put (D := (dC, dI)) (ci := 2) (v := .int (nI (n + 1))) (ty := .int) (C := RX2) (T := TX2) (N := 5) hx hb hts hi_X2 tyX2 tyX2_ok nmX2 hown hK hP hD hS 0 rfl rfl 0 (by decide) (hts (.fieldLink RX2 9 "LeftQuills$Evidence" "count" "I") (wmx 1 rfl)) (fun _ h9 => h9) rfl (by decide +kernel) rfl rfl (Nat.le_of_ble_eq_true rfl) dX2_add_47 (fun H locs hP hD hS => ?_)
    have hPD : pdW (dC, dI) vwCl A [(h0, .inr (2, [.int (nI (n + 1)), .ref ho, .ref e2, .ref e3, .ref e4])), (e2, .inl (cI, 6, .inl (upd fe2 n (nI j)))), (e3, .inl (cI, 6, .inl (upd fe3 n a0))), (e4, .inl (cI, 6, .inl (upd fe4 n a1)))] H := ⟨hP, hD⟩
    have hP := hPD.1
    have hD := hPD.2
    clear hPD
    have hP9 := hP.sub (ws' := [(h0, .inr (2, [.int (nI (n + 1)), .ref ho, .ref e2, .ref e3, .ref e4])), (e2, .inl (cI, 6, .inl (upd fe2 n (nI j)))), (e3, .inl (cI, 6, .inl (upd fe3 n a0))), (e4, .inl (cI, 6, .inl (upd fe4 n a1)))]) [0, 1, 2, 3] rfl
    have hD9 := hD.sub (ws' := [(h0, .inr (2, [.int (nI (n + 1)), .ref ho, .ref e2, .ref e3, .ref e4])), (e2, .inl (cI, 6, .inl (upd fe2 n (nI j)))), (e3, .inl (cI, 6, .inl (upd fe3 n a0))), (e4, .inl (cI, 6, .inl (upd fe4 n a1)))]) [0, 1, 2, 3] (by decide +kernel) rfl
    exact W.vret hx hb hr (fun t ht hW => ⟨⟨(fun _ => 0), rfl, trivial, ⟨(upd fe2 n (nI j)), (upd fe3 n a0), (upd fe4 n a1), (n + 1), by omega, qIn_add hqi hj, rfl, rfl, rfl, rfl, va_hq ht hP9, hD9⟩⟩, hS.F ht⟩) hS.2.2 dX2_add_50
  ·
    have c1 : ¬ n < 6 := fun h => c1 ((nI_ltI (a := n) (b := 6) (by omega) (by omega)).mpr h)
    omega
set_option maxHeartbeats 4000000 in
set_option maxRecDepth 100000 in
theorem c_X10_wornD (l : Launch) (dC : Nat → ClassId) (dI : Nat → Nat → Nat) (cI cZ cQ : ClassId) (h0 : Nat) (x4 : Nat) (x12 : Nat) (f_h0 : List Value) (nq : Nat) (f_x4 : List Value) (n : Nat) (ho : Nat) (e2 : Nat) (e3 : Nat) (e4 : Nat) (fe2 : Nat → Int32) (fe3 : Nat → Int32) (fe4 : Nat → Int32) (q0 : Int32) (q1 : Int32) (q2 : Int32) (sz : Nat) (e_h0_4 : fAt f_h0 4 = some (.ref x4)) (e_h0_12 : fAt f_h0 12 = some (.ref x12)) (e_x4_3 : fAt f_x4 3 = some (.int (nI nq))) (hnq : nq ≤ 8) (hn : n ≤ 6) (hqi : qIn fe2 n) : Met l yX10_worn wsX10_worn ({ frames := 1, cells := 0, slots := 0, locals := 63 }) (va_Pc [.ref h0, .int q0, .int q1, .int q2] (fun U => U.heap.size = sz ∧ va_P (dC, dI) vwCl [(h0, .inr (10, f_h0)), (x4, .inr (5, f_x4)), (x12, .inr (2, [.int (nI n), .ref ho, .ref e2, .ref e3, .ref e4])), (e2, .inl (cI, 6, .inl fe2)), (e3, .inl (cI, 6, .inl fe3)), (e4, .inl (cI, 6, .inl fe4))] U.heap ∧ va_K (dC, dI) vwCl (tys0 cI cZ cQ) U ∧ va_D (fun _ => True) [(h0, .inr (10, f_h0)), (x4, .inr (5, f_x4)), (x12, .inr (2, [.int (nI n), .ref ho, .ref e2, .ref e3, .ref e4])), (e2, .inl (cI, 6, .inl fe2)), (e3, .inl (cI, 6, .inl fe3)), (e4, .inl (cI, 6, .inl fe4))])) (va_Qi (fun (r : Int32) (u : Nat → Nat) => r = wornR q0 q1 q2 nq n) (fun (_ : Nat → Nat) (t : State) => ∃ (gg0 gg1 gg2 : Nat → Int32) (kk0 : Nat), kk0 ≤ 6 ∧ (qIn gg0 kk0) ∧ (kk0 = wornN q0 q1 q2 nq n) ∧ (gg0 = if woP q0 q1 q2 nq n then upd fe2 n q0 else fe2) ∧ (gg1 = if woP q0 q1 q2 nq n then upd fe3 n q1 else fe3) ∧ (gg2 = if woP q0 q1 q2 nq n then upd fe4 n q2 else fe4) ∧ va_P (dC, dI) vwCl [(h0, .inr (10, f_h0)), (x4, .inr (5, f_x4)), (x12, .inr (2, [.int (nI kk0), .ref ho, .ref e2, .ref e3, .ref e4])), (e2, .inl (cI, 6, .inl gg0)), (e3, .inl (cI, 6, .inl gg1)), (e4, .inl (cI, 6, .inl gg2))] t.heap ∧ va_D (va_A [(h0, .inr (10, f_h0)), (x4, .inr (5, f_x4)), (x12, .inr (2, [.int (nI n), .ref ho, .ref e2, .ref e3, .ref e4])), (e2, .inl (cI, 6, .inl fe2)), (e3, .inl (cI, 6, .inl fe3)), (e4, .inl (cI, 6, .inl fe4))] sz) [(h0, .inr (10, f_h0)), (x4, .inr (5, f_x4)), (x12, .inr (2, [.int (nI kk0), .ref ho, .ref e2, .ref e3, .ref e4])), (e2, .inl (cI, 6, .inl gg0)), (e3, .inl (cI, 6, .inl gg1)), (e4, .inl (cI, 6, .inl gg2))]) (va_A [(h0, .inr (10, f_h0)), (x4, .inr (5, f_x4)), (x12, .inr (2, [.int (nI n), .ref ho, .ref e2, .ref e3, .ref e4])), (e2, .inl (cI, 6, .inl fe2)), (e3, .inl (cI, 6, .inl fe3)), (e4, .inl (cI, 6, .inl fe4))] sz)) 0 0 (va_A [(h0, .inr (10, f_h0)), (x4, .inr (5, f_x4)), (x12, .inr (2, [.int (nI n), .ref ho, .ref e2, .ref e3, .ref e4])), (e2, .inl (cI, 6, .inl fe2)), (e3, .inl (cI, 6, .inl fe3)), (e4, .inl (cI, 6, .inl fe4))] sz) := by
  refine Met.ofW (cc := cX10_worn) (maxL := 4) (ret := (some .int)) (by decide) rfl ?_
  intro p e s m args below meth c s₁ B hml hv
  obtain ⟨rfl, hsz, hP, hK, hD0⟩ := hv
  have hx := B.exec
  have hb := B.bytes
  have hr := B.returns
  have hts := atoms_spec (ws := wsX10_worn) B.pre
  have hown : s.vm.findClass RX10 = some m.cls := findClass_of_methodNamed B.named
  have hlocks := B.notSynchronized
  have hi_X10 : ∀ w ∈ u_ws RX10 TX10 14, w ∈ wsX10_worn := fun _ h => List.mem_cons_of_mem _ (List.mem_append_left _ (List.mem_append_left _ (List.mem_append_right _ (h))))
  have hi_X2 : ∀ w ∈ u_ws RX2 TX2 5, w ∈ wsX10_worn := fun _ h => List.mem_cons_of_mem _ (List.mem_append_left _ (List.mem_append_right _ (h)))
  subst hsz
  have hD := hD0.self (sz := s.heap.size)
  generalize hAe : va_A [(h0, .inr (10, f_h0)), (x4, .inr (5, f_x4)), (x12, .inr (2, [.int (nI n), .ref ho, .ref e2, .ref e3, .ref e4])), (e2, .inl (cI, 6, .inl fe2)), (e3, .inl (cI, 6, .inl fe3)), (e4, .inl (cI, 6, .inl fe4))] s.heap.size = A at hD ⊢
  have hA : ∀ q : Nat, s.heap.size ≤ q → A q := fun q h => by rw [← hAe]; exact Or.inr h
  have hS : va_S A s.heap s.heap [] := va_S.rf
  have hl := lv_entry ([.ref h0, .int q0, .int q1, .int q2]) (n := 4) (Nat.le_of_ble_eq_true rfl)
  rw [lg_entry_eq]
  generalize (lg_sl ([.ref h0, .int q0, .int q1, .int q2]) ++ List.replicate (4 - (lg_sl ([.ref h0, .int q0, .int q1, .int q2])).length) Slot.unset).toArray = ls at hl ⊢
  have hl : lv_has ls 4 [(0, .ref h0), (1, .int q0), (2, .int q1), (3, .int q2)] := hl
  refine lv_aload_n hx hb dX10_worn_0 rfl (lv_at hl 0 rfl) ?_
  refine lv_iload_n hx hb dX10_worn_1 rfl (lv_at hl 1 rfl) ?_
  have hPc := hP.sub (ws' := [(h0, .inr (10, f_h0)), (x4, .inr (5, f_x4))]) [0, 1] rfl
  refine va_calli (va_runV (As := [.int q0]) (rest := []) ⟨hx, hb, hml, hown, hts⟩ (c_X10_isQuill l dC dI cI cZ cQ h0 x4 f_h0 (nI nq) f_x4 q0 s.heap.size e_h0_4 e_x4_3) (cwV 1 hts gX10_worn_X10_isQuill rfl rfl rfl hd_X10_isQuill_RX10 ⟨Nat.le_of_ble_eq_true rfl, Nat.le_of_ble_eq_true rfl⟩) (pv_R (va_recv hK hP (ci := 10) (q0 := 0) rfl rfl) hK hPc) rfl rfl hl.1 rfl (lv_room (Nat.le_of_ble_eq_true rfl)) dX10_worn_2 ⟨Nat.le_of_ble_eq_true rfl, Nat.le_of_ble_eq_true rfl⟩) hS (fun q _ h => False.elim h) (fun q h => False.elim h) (fun r1 u2 t H1 locs ht hvm hw3 hB hz1 hk1 hS => ?_)
  have hP := hP.kept (fun k q hk => hk1 q.1 (hP k q hk).lt (fun h => h))
  clear hz1 hk1 hPc
  generalize H1 = H at hP hS ht ⊢
  try dsimp only at hw3
  rcases hw3 with ⟨rfl, hw3⟩ | ⟨rfl, hw3⟩
  ·
    obtain ⟨j4, hj4, rfl⟩ := x_ix hw3 (by omega)
    refine lv_if_ne (tgt := 11) hx hb dX10_worn_5 (by decide) (fun c5 => ?_) (fun c5 => ?_)
    rotate_left
    · exact absurd c5 (by decide)
    clear c5
    refine lv_iload_n hx hb dX10_worn_11 rfl (lv_at hl 2 rfl) ?_
    refine lv_iconst (v := 1) hx hb dX10_worn_12 (by decide) ?_
    refine lv_bipush (v := 9) hx hb dX10_worn_13 (by decide) ?_
    have hPc := hP.sub (ws' := []) [] rfl
    refine va_calli (va_runS (As := [.int q1, .int 1, .int 9]) (rest := []) ⟨hx, hb, hml, hown, hts⟩ (c_X10_within l dC dI cI cZ cQ q1 1 9 H.size ) (va_cwS 3 hts gX10_worn_X10_within rfl rfl rfl (by decide +kernel) ⟨Nat.le_of_ble_eq_true rfl, Nat.le_of_ble_eq_true rfl⟩) (ps_R hK hPc) rfl rfl hl.1 rfl (lv_room (Nat.le_of_ble_eq_true rfl)) dX10_worn_15 ⟨Nat.le_of_ble_eq_true rfl, Nat.le_of_ble_eq_true rfl⟩) hS (fun q _ h => False.elim h) (fun q h => False.elim h) (fun r6 u7 t H1 locs ht hvm hw8 hB hz1 hk1 hS => ?_)
    have hP := hP.kept (fun k q hk => hk1 q.1 (hP k q hk).lt (fun h => h))
    clear hz1 hk1 hPc
    generalize H1 = H at hP hS ht ⊢
    try dsimp only at hw8
    rcases hw8 with ⟨rfl, hw8⟩ | ⟨rfl, hw8⟩
    ·
      refine lv_if_eq (tgt := 31) hx hb dX10_worn_18 (by decide) (fun c9 => ?_) (fun c9 => ?_)
      · exact absurd c9 (by decide)
      clear c9
      refine lv_iload_n hx hb dX10_worn_21 rfl (lv_at hl 3 rfl) ?_
      refine lv_iconst (v := 0) hx hb dX10_worn_22 (by decide) ?_
      refine lv_bipush (v := 99) hx hb dX10_worn_23 (by decide) ?_
      have hPc := hP.sub (ws' := []) [] rfl
      refine va_calli (va_runS (As := [.int q2, .int 0, .int 99]) (rest := []) ⟨hx, hb, hml, hown, hts⟩ (c_X10_within l dC dI cI cZ cQ q2 0 99 H.size ) (va_cwS 3 hts gX10_worn_X10_within rfl rfl rfl (by decide +kernel) ⟨Nat.le_of_ble_eq_true rfl, Nat.le_of_ble_eq_true rfl⟩) (ps_R hK hPc) rfl rfl hl.1 rfl (lv_room (Nat.le_of_ble_eq_true rfl)) dX10_worn_25 ⟨Nat.le_of_ble_eq_true rfl, Nat.le_of_ble_eq_true rfl⟩) hS (fun q _ h => False.elim h) (fun q h => False.elim h) (fun r10 u11 t H1 locs ht hvm hw12 hB hz1 hk1 hS => ?_)
      have hP := hP.kept (fun k q hk => hk1 q.1 (hP k q hk).lt (fun h => h))
      clear hz1 hk1 hPc
      generalize H1 = H at hP hS ht ⊢
      try dsimp only at hw12
      rcases hw12 with ⟨rfl, hw12⟩ | ⟨rfl, hw12⟩
      ·
        refine lv_if_ne (tgt := 34) hx hb dX10_worn_28 (by decide) (fun c13 => ?_) (fun c13 => ?_)
        rotate_left
        · exact absurd c13 (by decide)
        clear c13
        refine lv_aload_n hx hb dX10_worn_34 rfl (lv_at hl 0 rfl) ?_
        refine va_get (D := (dC, dI)) (ci := 10) (v := .ref x12) (C := RX10) (T := TX10) (N := 14) hx hb hts hi_X10 hown hK hP 0 rfl rfl 12 (by decide) (hts (.fieldLink RX10 88 "LeftQuills" "evidence" "LLeftQuills$Evidence;") (wmx 3 rfl)) (fun _ h9 => h9) e_h0_12 dX10_worn_35 ?_
        refine va_get (D := (dC, dI)) (ci := 2) (v := .int (nI n)) (C := RX2) (T := TX2) (N := 5) hx hb hts hi_X2 hown hK hP 2 rfl rfl 0 (by decide) (hts (.fieldLink RX10 123 "LeftQuills$Evidence" "count" "I") (wmx 4 rfl)) (fun _ h9 => h9) rfl dX10_worn_38 ?_
        refine lv_bipush (v := 6) hx hb dX10_worn_41 (by decide) ?_
        refine lv_icmp_lt (tgt := 49) hx hb dX10_worn_43 (by decide) (fun c14 => ?_) (fun c14 => ?_)
        ·
          have c14 : n < 6 := (nI_ltI (a := n) (b := 6) (by omega) (by omega)).mp c14
          refine lv_aload_n hx hb dX10_worn_49 rfl (lv_at hl 0 rfl) ?_
          refine va_get (D := (dC, dI)) (ci := 10) (v := .ref x12) (C := RX10) (T := TX10) (N := 14) hx hb hts hi_X10 hown hK hP 0 rfl rfl 12 (by decide) (hts (.fieldLink RX10 88 "LeftQuills" "evidence" "LLeftQuills$Evidence;") (wmx 3 rfl)) (fun _ h9 => h9) e_h0_12 dX10_worn_50 ?_
          refine lv_iload_n hx hb dX10_worn_53 rfl (lv_at hl 1 rfl) ?_
          refine lv_iload_n hx hb dX10_worn_54 rfl (lv_at hl 2 rfl) ?_
          refine lv_iload_n hx hb dX10_worn_55 rfl (lv_at hl 3 rfl) ?_
          have hc9 := va_cut (W' := [(x12, .inr (2, [.int (nI n), .ref ho, .ref e2, .ref e3, .ref e4])), (e2, .inl (cI, 6, .inl fe2)), (e3, .inl (cI, 6, .inl fe3)), (e4, .inl (cI, 6, .inl fe4))]) hP hD hS hA [2, 3, 4, 5] (by decide) rfl
          have hPc := hc9.1
          have hDc := hc9.2.1
          have hFc := hc9.2.2
          clear hc9
          refine va_callv (va_runV (As := [.int (nI j4), .int q1, .int q2]) (rest := []) ⟨hx, hb, hml, hown, hts⟩ (c_X2_addD l dC dI cI cZ cQ x12 n ho e2 e3 e4 fe2 fe3 fe4 j4 q1 q2 H.size (by omega) (by omega) (by first | assumption | decide)) (cwV 3 hts gX10_worn_X2_add rfl rfl rfl hd_X2_add_RX2 ⟨Nat.le_of_ble_eq_true rfl, Nat.le_of_ble_eq_true rfl⟩) (pv_D (va_recv hK hP (ci := 2) (q0 := 2) rfl rfl) hK hPc hDc) rfl rfl hl.1 rfl (lv_room (Nat.le_of_ble_eq_true rfl)) dX10_worn_56 ⟨Nat.le_of_ble_eq_true rfl, Nat.le_of_ble_eq_true rfl⟩) hS (fun q _ h => hFc q h) hFc (fun u16 t H1 locs ht hvm hw17 hB hz1 hk1 hS => ?_)
          obtain ⟨f18, f19, f20, k21, hk21, he22, he23, he24, he25, he26, hP1, hD1⟩ := hB
          replace hP1 := va_hp ht hP1
          obtain ⟨hP, hD⟩ := va_join (wr := [(h0, .inr (10, f_h0)), (x4, .inr (5, f_x4))]) (w1 := [(x12, .inr (2, [.int (nI k21), .ref ho, .ref e2, .ref e3, .ref e4])), (e2, .inl (cI, 6, .inl f18)), (e3, .inl (cI, 6, .inl f19)), (e4, .inl (cI, 6, .inl f20))]) hP hD [2, 3, 4, 5] [0, 1] rfl rfl (by decide +kernel) (by decide +kernel) hk1 hFc hP1 hD1
          clear hP1 hD1
          clear hz1 hk1 hPc hDc hFc
          generalize H1 = H at hP hS ht ⊢
          have hPD : pdW (dC, dI) vwCl A [(h0, .inr (10, f_h0)), (x4, .inr (5, f_x4)), (x12, .inr (2, [.int (nI k21), .ref ho, .ref e2, .ref e3, .ref e4])), (e2, .inl (cI, 6, .inl f18)), (e3, .inl (cI, 6, .inl f19)), (e4, .inl (cI, 6, .inl f20))] H := ⟨hP, hD⟩
          have hP := hPD.1
          have hD := hPD.2
          clear hPD
          try dsimp only at hw17
          subst he26
          have hPD : pdW (dC, dI) vwCl A [(h0, .inr (10, f_h0)), (x4, .inr (5, f_x4)), (x12, .inr (2, [.int (nI (n + 1)), .ref ho, .ref e2, .ref e3, .ref e4])), (e2, .inl (cI, 6, .inl f18)), (e3, .inl (cI, 6, .inl f19)), (e4, .inl (cI, 6, .inl f20))] H := ⟨hP, hD⟩
          have hP := hPD.1
          have hD := hPD.2
          clear hPD
          refine lv_aload_n hx hb dX10_worn_59 rfl (lv_at hl 0 rfl) ?_
          refine va_get (D := (dC, dI)) (ci := 10) (v := .ref x12) (C := RX10) (T := TX10) (N := 14) hx hb hts hi_X10 hown hK hP 0 rfl rfl 12 (by decide) (hts (.fieldLink RX10 88 "LeftQuills" "evidence" "LLeftQuills$Evidence;") (wmx 3 rfl)) (fun _ h9 => h9) e_h0_12 dX10_worn_60 ?_
          refine va_get (D := (dC, dI)) (ci := 2) (v := .int (nI (n + 1))) (C := RX2) (T := TX2) (N := 5) hx hb hts hi_X2 hown hK hP 2 rfl rfl 0 (by decide) (hts (.fieldLink RX10 123 "LeftQuills$Evidence" "count" "I") (wmx 4 rfl)) (fun _ h9 => h9) rfl dX10_worn_63 ?_
          have hP9 := hP.sub (ws' := [(h0, .inr (10, f_h0)), (x4, .inr (5, f_x4)), (x12, .inr (2, [.int (nI (n + 1)), .ref ho, .ref e2, .ref e3, .ref e4])), (e2, .inl (cI, 6, .inl f18)), (e3, .inl (cI, 6, .inl f19)), (e4, .inl (cI, 6, .inl f20))]) [0, 1, 2, 3, 4, 5] rfl
          have hD9 := hD.sub (ws' := [(h0, .inr (10, f_h0)), (x4, .inr (5, f_x4)), (x12, .inr (2, [.int (nI (n + 1)), .ref ho, .ref e2, .ref e3, .ref e4])), (e2, .inl (cI, 6, .inl f18)), (e3, .inl (cI, 6, .inl f19)), (e4, .inl (cI, 6, .inl f20))]) [0, 1, 2, 3, 4, 5] (by decide +kernel) rfl
          exact W.iret (v := nI (n + 1)) hx hb hr (fun t ht hW => ⟨⟨nI (n + 1), (fun _ => 0), rfl, (by unfold wornR; rw [if_pos hw3, if_pos hw8, if_pos hw12, if_pos (by omega)]), ⟨f18, f19, f20, (n + 1), by omega, he22, (by unfold wornN; rw [if_pos hw3, if_pos hw8, if_pos hw12, if_pos (by omega)]), (he23.trans (if_pos ⟨hw3, hw8, hw12, by omega⟩).symm), (he24.trans (if_pos ⟨hw3, hw8, hw12, by omega⟩).symm), (he25.trans (if_pos ⟨hw3, hw8, hw12, by omega⟩).symm), va_hq ht hP9, hD9⟩⟩, hS.F ht⟩) hS.2.2 dX10_worn_66
        ·
          have c14 : ¬ n < 6 := fun h => c14 ((nI_ltI (a := n) (b := 6) (by omega) (by omega)).mpr h)
          refine lv_ldc (v := (-1000000004)) hx hb hown (hts (.constant RX10 104 (-1000000004)) (wmx 5 rfl)) dX10_worn_46 ?_
          have hP9 := hP.sub (ws' := [(h0, .inr (10, f_h0)), (x4, .inr (5, f_x4)), (x12, .inr (2, [.int (nI n), .ref ho, .ref e2, .ref e3, .ref e4])), (e2, .inl (cI, 6, .inl fe2)), (e3, .inl (cI, 6, .inl fe3)), (e4, .inl (cI, 6, .inl fe4))]) [0, 1, 2, 3, 4, 5] rfl
          have hD9 := hD.sub (ws' := [(h0, .inr (10, f_h0)), (x4, .inr (5, f_x4)), (x12, .inr (2, [.int (nI n), .ref ho, .ref e2, .ref e3, .ref e4])), (e2, .inl (cI, 6, .inl fe2)), (e3, .inl (cI, 6, .inl fe3)), (e4, .inl (cI, 6, .inl fe4))]) [0, 1, 2, 3, 4, 5] (by decide +kernel) rfl
          exact W.iret (v := (-1000000004)) hx hb hr (fun t ht hW => ⟨⟨(-1000000004), (fun _ => 0), rfl, (by unfold wornR; rw [if_pos hw3, if_pos hw8, if_pos hw12, if_neg (by omega)]), ⟨fe2, fe3, fe4, n, by omega, hqi, (by unfold wornN; rw [if_pos hw3, if_pos hw8, if_pos hw12, if_neg (by omega)]), ((if_neg (fun h9 => by have h8 := h9.2.2.2; omega)).symm), ((if_neg (fun h9 => by have h8 := h9.2.2.2; omega)).symm), ((if_neg (fun h9 => by have h8 := h9.2.2.2; omega)).symm), va_hq ht hP9, hD9⟩⟩, hS.F ht⟩) hS.2.2 dX10_worn_48
      ·
        refine lv_if_ne (tgt := 34) hx hb dX10_worn_28 (by decide) (fun c27 => ?_) (fun c27 => ?_)
        · exact absurd c27 (by decide)
        clear c27
        refine lv_ldc (v := (-1000000002)) hx hb hown (hts (.constant RX10 103 (-1000000002)) (wmx 2 rfl)) dX10_worn_31 ?_
        have hP9 := hP.sub (ws' := [(h0, .inr (10, f_h0)), (x4, .inr (5, f_x4)), (x12, .inr (2, [.int (nI n), .ref ho, .ref e2, .ref e3, .ref e4])), (e2, .inl (cI, 6, .inl fe2)), (e3, .inl (cI, 6, .inl fe3)), (e4, .inl (cI, 6, .inl fe4))]) [0, 1, 2, 3, 4, 5] rfl
        have hD9 := hD.sub (ws' := [(h0, .inr (10, f_h0)), (x4, .inr (5, f_x4)), (x12, .inr (2, [.int (nI n), .ref ho, .ref e2, .ref e3, .ref e4])), (e2, .inl (cI, 6, .inl fe2)), (e3, .inl (cI, 6, .inl fe3)), (e4, .inl (cI, 6, .inl fe4))]) [0, 1, 2, 3, 4, 5] (by decide +kernel) rfl
        exact W.iret (v := (-1000000002)) hx hb hr (fun t ht hW => ⟨⟨(-1000000002), (fun _ => 0), rfl, (by unfold wornR; rw [if_pos hw3, if_pos hw8, if_neg hw12]), ⟨fe2, fe3, fe4, n, by omega, hqi, (by unfold wornN; rw [if_pos hw3, if_pos hw8, if_neg hw12]), ((if_neg (fun h9 => hw12 h9.2.2.1)).symm), ((if_neg (fun h9 => hw12 h9.2.2.1)).symm), ((if_neg (fun h9 => hw12 h9.2.2.1)).symm), va_hq ht hP9, hD9⟩⟩, hS.F ht⟩) hS.2.2 dX10_worn_33
    ·
      refine lv_if_eq (tgt := 31) hx hb dX10_worn_18 (by decide) (fun c28 => ?_) (fun c28 => ?_)
      rotate_left
      · exact absurd c28 (by decide)
      clear c28
      refine lv_ldc (v := (-1000000002)) hx hb hown (hts (.constant RX10 103 (-1000000002)) (wmx 2 rfl)) dX10_worn_31 ?_
      have hP9 := hP.sub (ws' := [(h0, .inr (10, f_h0)), (x4, .inr (5, f_x4)), (x12, .inr (2, [.int (nI n), .ref ho, .ref e2, .ref e3, .ref e4])), (e2, .inl (cI, 6, .inl fe2)), (e3, .inl (cI, 6, .inl fe3)), (e4, .inl (cI, 6, .inl fe4))]) [0, 1, 2, 3, 4, 5] rfl
      have hD9 := hD.sub (ws' := [(h0, .inr (10, f_h0)), (x4, .inr (5, f_x4)), (x12, .inr (2, [.int (nI n), .ref ho, .ref e2, .ref e3, .ref e4])), (e2, .inl (cI, 6, .inl fe2)), (e3, .inl (cI, 6, .inl fe3)), (e4, .inl (cI, 6, .inl fe4))]) [0, 1, 2, 3, 4, 5] (by decide +kernel) rfl
      exact W.iret (v := (-1000000002)) hx hb hr (fun t ht hW => ⟨⟨(-1000000002), (fun _ => 0), rfl, (by unfold wornR; rw [if_pos hw3, if_neg hw8]), ⟨fe2, fe3, fe4, n, by omega, hqi, (by unfold wornN; rw [if_pos hw3, if_neg hw8]), ((if_neg (fun h9 => hw8 h9.2.1)).symm), ((if_neg (fun h9 => hw8 h9.2.1)).symm), ((if_neg (fun h9 => hw8 h9.2.1)).symm), va_hq ht hP9, hD9⟩⟩, hS.F ht⟩) hS.2.2 dX10_worn_33
  ·
    refine lv_if_ne (tgt := 11) hx hb dX10_worn_5 (by decide) (fun c29 => ?_) (fun c29 => ?_)
    · exact absurd c29 (by decide)
    clear c29
    refine lv_ldc (v := (-1000000001)) hx hb hown (hts (.constant RX10 160 (-1000000001)) (wmx 1 rfl)) dX10_worn_8 ?_
    have hP9 := hP.sub (ws' := [(h0, .inr (10, f_h0)), (x4, .inr (5, f_x4)), (x12, .inr (2, [.int (nI n), .ref ho, .ref e2, .ref e3, .ref e4])), (e2, .inl (cI, 6, .inl fe2)), (e3, .inl (cI, 6, .inl fe3)), (e4, .inl (cI, 6, .inl fe4))]) [0, 1, 2, 3, 4, 5] rfl
    have hD9 := hD.sub (ws' := [(h0, .inr (10, f_h0)), (x4, .inr (5, f_x4)), (x12, .inr (2, [.int (nI n), .ref ho, .ref e2, .ref e3, .ref e4])), (e2, .inl (cI, 6, .inl fe2)), (e3, .inl (cI, 6, .inl fe3)), (e4, .inl (cI, 6, .inl fe4))]) [0, 1, 2, 3, 4, 5] (by decide +kernel) rfl
    exact W.iret (v := (-1000000001)) hx hb hr (fun t ht hW => ⟨⟨(-1000000001), (fun _ => 0), rfl, (by unfold wornR; rw [if_neg hw3]), ⟨fe2, fe3, fe4, n, by omega, hqi, (by unfold wornN; rw [if_neg hw3]), ((if_neg (fun h9 => hw3 h9.1)).symm), ((if_neg (fun h9 => hw3 h9.1)).symm), ((if_neg (fun h9 => hw3 h9.1)).symm), va_hq ht hP9, hD9⟩⟩, hS.F ht⟩) hS.2.2 dX10_worn_10
set_option maxHeartbeats 4000000 in
set_option maxRecDepth 100000 in
theorem c_X11_wornD (l : Launch) (dC : Nat → ClassId) (dI : Nat → Nat → Nat) (cI cZ cQ : ClassId) (h0 : Nat) (n0 : Int32) (n1 : Int32) (nq : Nat) (m3 : Nat) (m4 : Nat) (m5 : Nat) (nh : Nat) (m7 : Nat) (m8 : Nat) (m9 : Nat) (m10 : Nat) (sd : Nat) (m12 : Nat) (tx : Nat) (n14 : Int32) (at9 : Nat) (n16 : Int32) (n17 : Int32) (m18 : Nat) (rq : Nat) (m20 : Nat) (m21 : Nat) (m22 : Nat) (m23 : Nat) (m24 : Nat) (rh : Nat) (m26 : Nat) (m27 : Nat) (m28 : Nat) (un : Nat) (m30 : Nat) (n31 : Int32) (n32 : Int32) (m33 : Nat) (n34 : Int32) (n35 : Int32) (m36 : Nat) (wm : Nat) (m38 : Nat) (m39 : Nat) (m40 : Nat) (bk : Nat) (m42 : Nat) (m43 : Nat) (m44 : Nat) (m45 : Nat) (fm38 : Nat → Int32) (fm39 : Nat → Int32) (fm40 : Nat → Int32) (q0 : Int32) (q1 : Int32) (q2 : Int32) (sz : Nat) (hnq : nq ≤ 8) (hwm : wm ≤ 6) (hqi : qLt fm38 wm nq) (hpi : cIn fm39 wm) : Met l yX11_worn wsX11_worn ({ frames := 2, cells := 0, slots := 0, locals := 86 }) (va_Pc [.ref h0, .int q0, .int q1, .int q2] (fun U => U.heap.size = sz ∧ va_P (dC, dI) vwCl [(h0, .inr (11, (.int n0 :: .int n1 :: .int (nI nq) :: .ref m3 :: .ref m4 :: .ref m5 :: .int (nI nh) :: .ref m7 :: .ref m8 :: .ref m9 :: .ref m10 :: .int (nI sd) :: .ref m12 :: .int (nI tx) :: .int n14 :: .int (nI at9) :: .int n16 :: .int n17 :: .ref m18 :: .int (nI rq) :: .ref m20 :: .ref m21 :: .ref m22 :: .ref m23 :: .ref m24 :: .int (nI rh) :: .ref m26 :: .ref m27 :: .ref m28 :: .int (nI un) :: .ref m30 :: .int n31 :: .int n32 :: .ref m33 :: .int n34 :: .int n35 :: .ref m36 :: .int (nI wm) :: .ref m38 :: .ref m39 :: .ref m40 :: .int (nI bk) :: .ref m42 :: .ref m43 :: .ref m44 :: .ref m45 :: []))), (m38, .inl (cI, 6, .inl fm38)), (m39, .inl (cI, 6, .inl fm39)), (m40, .inl (cI, 6, .inl fm40))] U.heap ∧ va_K (dC, dI) vwCl (tys0 cI cZ cQ) U ∧ va_D (fun _ => True) [(h0, .inr (11, (.int n0 :: .int n1 :: .int (nI nq) :: .ref m3 :: .ref m4 :: .ref m5 :: .int (nI nh) :: .ref m7 :: .ref m8 :: .ref m9 :: .ref m10 :: .int (nI sd) :: .ref m12 :: .int (nI tx) :: .int n14 :: .int (nI at9) :: .int n16 :: .int n17 :: .ref m18 :: .int (nI rq) :: .ref m20 :: .ref m21 :: .ref m22 :: .ref m23 :: .ref m24 :: .int (nI rh) :: .ref m26 :: .ref m27 :: .ref m28 :: .int (nI un) :: .ref m30 :: .int n31 :: .int n32 :: .ref m33 :: .int n34 :: .int n35 :: .ref m36 :: .int (nI wm) :: .ref m38 :: .ref m39 :: .ref m40 :: .int (nI bk) :: .ref m42 :: .ref m43 :: .ref m44 :: .ref m45 :: []))), (m38, .inl (cI, 6, .inl fm38)), (m39, .inl (cI, 6, .inl fm39)), (m40, .inl (cI, 6, .inl fm40))])) (va_Qi (fun (r : Int32) (u : Nat → Nat) => r = wornR q0 q1 q2 nq wm) (fun (_ : Nat → Nat) (t : State) => ∃ (gg0 gg1 gg2 : Nat → Int32) (kk0 : Nat), kk0 ≤ 6 ∧ (qLt gg0 kk0 nq) ∧ (cIn gg1 kk0) ∧ (kk0 = wornN q0 q1 q2 nq wm) ∧ (gg0 = if woP q0 q1 q2 nq wm then upd fm38 wm q0 else fm38) ∧ (gg1 = if woP q0 q1 q2 nq wm then upd fm39 wm q1 else fm39) ∧ (gg2 = if woP q0 q1 q2 nq wm then upd fm40 wm q2 else fm40) ∧ va_P (dC, dI) vwCl [(h0, .inr (11, (.int n0 :: .int n1 :: .int (nI nq) :: .ref m3 :: .ref m4 :: .ref m5 :: .int (nI nh) :: .ref m7 :: .ref m8 :: .ref m9 :: .ref m10 :: .int (nI sd) :: .ref m12 :: .int (nI tx) :: .int n14 :: .int (nI at9) :: .int n16 :: .int n17 :: .ref m18 :: .int (nI rq) :: .ref m20 :: .ref m21 :: .ref m22 :: .ref m23 :: .ref m24 :: .int (nI rh) :: .ref m26 :: .ref m27 :: .ref m28 :: .int (nI un) :: .ref m30 :: .int n31 :: .int n32 :: .ref m33 :: .int n34 :: .int n35 :: .ref m36 :: .int (nI kk0) :: .ref m38 :: .ref m39 :: .ref m40 :: .int (nI bk) :: .ref m42 :: .ref m43 :: .ref m44 :: .ref m45 :: []))), (m38, .inl (cI, 6, .inl gg0)), (m39, .inl (cI, 6, .inl gg1)), (m40, .inl (cI, 6, .inl gg2))] t.heap ∧ va_D (va_A [(h0, .inr (11, (.int n0 :: .int n1 :: .int (nI nq) :: .ref m3 :: .ref m4 :: .ref m5 :: .int (nI nh) :: .ref m7 :: .ref m8 :: .ref m9 :: .ref m10 :: .int (nI sd) :: .ref m12 :: .int (nI tx) :: .int n14 :: .int (nI at9) :: .int n16 :: .int n17 :: .ref m18 :: .int (nI rq) :: .ref m20 :: .ref m21 :: .ref m22 :: .ref m23 :: .ref m24 :: .int (nI rh) :: .ref m26 :: .ref m27 :: .ref m28 :: .int (nI un) :: .ref m30 :: .int n31 :: .int n32 :: .ref m33 :: .int n34 :: .int n35 :: .ref m36 :: .int (nI wm) :: .ref m38 :: .ref m39 :: .ref m40 :: .int (nI bk) :: .ref m42 :: .ref m43 :: .ref m44 :: .ref m45 :: []))), (m38, .inl (cI, 6, .inl fm38)), (m39, .inl (cI, 6, .inl fm39)), (m40, .inl (cI, 6, .inl fm40))] sz) [(h0, .inr (11, (.int n0 :: .int n1 :: .int (nI nq) :: .ref m3 :: .ref m4 :: .ref m5 :: .int (nI nh) :: .ref m7 :: .ref m8 :: .ref m9 :: .ref m10 :: .int (nI sd) :: .ref m12 :: .int (nI tx) :: .int n14 :: .int (nI at9) :: .int n16 :: .int n17 :: .ref m18 :: .int (nI rq) :: .ref m20 :: .ref m21 :: .ref m22 :: .ref m23 :: .ref m24 :: .int (nI rh) :: .ref m26 :: .ref m27 :: .ref m28 :: .int (nI un) :: .ref m30 :: .int n31 :: .int n32 :: .ref m33 :: .int n34 :: .int n35 :: .ref m36 :: .int (nI kk0) :: .ref m38 :: .ref m39 :: .ref m40 :: .int (nI bk) :: .ref m42 :: .ref m43 :: .ref m44 :: .ref m45 :: []))), (m38, .inl (cI, 6, .inl gg0)), (m39, .inl (cI, 6, .inl gg1)), (m40, .inl (cI, 6, .inl gg2))]) (va_A [(h0, .inr (11, (.int n0 :: .int n1 :: .int (nI nq) :: .ref m3 :: .ref m4 :: .ref m5 :: .int (nI nh) :: .ref m7 :: .ref m8 :: .ref m9 :: .ref m10 :: .int (nI sd) :: .ref m12 :: .int (nI tx) :: .int n14 :: .int (nI at9) :: .int n16 :: .int n17 :: .ref m18 :: .int (nI rq) :: .ref m20 :: .ref m21 :: .ref m22 :: .ref m23 :: .ref m24 :: .int (nI rh) :: .ref m26 :: .ref m27 :: .ref m28 :: .int (nI un) :: .ref m30 :: .int n31 :: .int n32 :: .ref m33 :: .int n34 :: .int n35 :: .ref m36 :: .int (nI wm) :: .ref m38 :: .ref m39 :: .ref m40 :: .int (nI bk) :: .ref m42 :: .ref m43 :: .ref m44 :: .ref m45 :: []))), (m38, .inl (cI, 6, .inl fm38)), (m39, .inl (cI, 6, .inl fm39)), (m40, .inl (cI, 6, .inl fm40))] sz)) 0 0 (va_A [(h0, .inr (11, (.int n0 :: .int n1 :: .int (nI nq) :: .ref m3 :: .ref m4 :: .ref m5 :: .int (nI nh) :: .ref m7 :: .ref m8 :: .ref m9 :: .ref m10 :: .int (nI sd) :: .ref m12 :: .int (nI tx) :: .int n14 :: .int (nI at9) :: .int n16 :: .int n17 :: .ref m18 :: .int (nI rq) :: .ref m20 :: .ref m21 :: .ref m22 :: .ref m23 :: .ref m24 :: .int (nI rh) :: .ref m26 :: .ref m27 :: .ref m28 :: .int (nI un) :: .ref m30 :: .int n31 :: .int n32 :: .ref m33 :: .int n34 :: .int n35 :: .ref m36 :: .int (nI wm) :: .ref m38 :: .ref m39 :: .ref m40 :: .int (nI bk) :: .ref m42 :: .ref m43 :: .ref m44 :: .ref m45 :: []))), (m38, .inl (cI, 6, .inl fm38)), (m39, .inl (cI, 6, .inl fm39)), (m40, .inl (cI, 6, .inl fm40))] sz) := by
  refine Met.ofW (cc := cX11_worn) (maxL := 4) (ret := (some .int)) (by decide) rfl ?_
  intro p e s m args below meth c s₁ B hml hv
  obtain ⟨rfl, hsz, hP, hK, hD0⟩ := hv
  have hx := B.exec
  have hb := B.bytes
  have hr := B.returns
  have hts := atoms_spec (ws := wsX11_worn) B.pre
  have hown : s.vm.findClass RX11 = some m.cls := findClass_of_methodNamed B.named
  have hlocks := B.notSynchronized
  have hi_X11 : ∀ w ∈ u_ws RX11 TX11 46, w ∈ wsX11_worn := fun _ h => List.mem_cons_of_mem _ (List.mem_append_right _ (h))
  subst hsz
  have hD := hD0.self (sz := s.heap.size)
  generalize hAe : va_A [(h0, .inr (11, (.int n0 :: .int n1 :: .int (nI nq) :: .ref m3 :: .ref m4 :: .ref m5 :: .int (nI nh) :: .ref m7 :: .ref m8 :: .ref m9 :: .ref m10 :: .int (nI sd) :: .ref m12 :: .int (nI tx) :: .int n14 :: .int (nI at9) :: .int n16 :: .int n17 :: .ref m18 :: .int (nI rq) :: .ref m20 :: .ref m21 :: .ref m22 :: .ref m23 :: .ref m24 :: .int (nI rh) :: .ref m26 :: .ref m27 :: .ref m28 :: .int (nI un) :: .ref m30 :: .int n31 :: .int n32 :: .ref m33 :: .int n34 :: .int n35 :: .ref m36 :: .int (nI wm) :: .ref m38 :: .ref m39 :: .ref m40 :: .int (nI bk) :: .ref m42 :: .ref m43 :: .ref m44 :: .ref m45 :: []))), (m38, .inl (cI, 6, .inl fm38)), (m39, .inl (cI, 6, .inl fm39)), (m40, .inl (cI, 6, .inl fm40))] s.heap.size = A at hD ⊢
  have hA : ∀ q : Nat, s.heap.size ≤ q → A q := fun q h => by rw [← hAe]; exact Or.inr h
  have hS : va_S A s.heap s.heap [] := va_S.rf
  have hl := lv_entry ([.ref h0, .int q0, .int q1, .int q2]) (n := 4) (Nat.le_of_ble_eq_true rfl)
  rw [lg_entry_eq]
  generalize (lg_sl ([.ref h0, .int q0, .int q1, .int q2]) ++ List.replicate (4 - (lg_sl ([.ref h0, .int q0, .int q1, .int q2])).length) Slot.unset).toArray = ls at hl ⊢
  have hl : lv_has ls 4 [(0, .ref h0), (1, .int q0), (2, .int q1), (3, .int q2)] := hl
  refine lv_aload_n hx hb dX11_worn_0 rfl (lv_at hl 0 rfl) ?_
  refine lv_iload_n hx hb dX11_worn_1 rfl (lv_at hl 1 rfl) ?_
  have hPc := hP.sub (ws' := [(h0, .inr (11, (.int n0 :: .int n1 :: .int (nI nq) :: .ref m3 :: .ref m4 :: .ref m5 :: .int (nI nh) :: .ref m7 :: .ref m8 :: .ref m9 :: .ref m10 :: .int (nI sd) :: .ref m12 :: .int (nI tx) :: .int n14 :: .int (nI at9) :: .int n16 :: .int n17 :: .ref m18 :: .int (nI rq) :: .ref m20 :: .ref m21 :: .ref m22 :: .ref m23 :: .ref m24 :: .int (nI rh) :: .ref m26 :: .ref m27 :: .ref m28 :: .int (nI un) :: .ref m30 :: .int n31 :: .int n32 :: .ref m33 :: .int n34 :: .int n35 :: .ref m36 :: .int (nI wm) :: .ref m38 :: .ref m39 :: .ref m40 :: .int (nI bk) :: .ref m42 :: .ref m43 :: .ref m44 :: .ref m45 :: [])))]) [0] rfl
  refine va_calli (va_runV (As := [.int q0]) (rest := []) ⟨hx, hb, hml, hown, hts⟩ (c_X11_isQuill l dC dI cI cZ cQ h0 (nI nq) ((.int n0 :: .int n1 :: .int (nI nq) :: .ref m3 :: .ref m4 :: .ref m5 :: .int (nI nh) :: .ref m7 :: .ref m8 :: .ref m9 :: .ref m10 :: .int (nI sd) :: .ref m12 :: .int (nI tx) :: .int n14 :: .int (nI at9) :: .int n16 :: .int n17 :: .ref m18 :: .int (nI rq) :: .ref m20 :: .ref m21 :: .ref m22 :: .ref m23 :: .ref m24 :: .int (nI rh) :: .ref m26 :: .ref m27 :: .ref m28 :: .int (nI un) :: .ref m30 :: .int n31 :: .int n32 :: .ref m33 :: .int n34 :: .int n35 :: .ref m36 :: .int (nI wm) :: .ref m38 :: .ref m39 :: .ref m40 :: .int (nI bk) :: .ref m42 :: .ref m43 :: .ref m44 :: .ref m45 :: [])) q0 s.heap.size rfl (nI_pos' (n := nq) (by omega))) (cwV 1 hts gX11_worn_X11_isQuill rfl rfl rfl hd_X11_isQuill_RX11 ⟨Nat.le_of_ble_eq_true rfl, Nat.le_of_ble_eq_true rfl⟩) (pv_R (va_recv hK hP (ci := 11) (q0 := 0) rfl rfl) hK hPc) rfl rfl hl.1 rfl (lv_room (Nat.le_of_ble_eq_true rfl)) dX11_worn_2 ⟨Nat.le_of_ble_eq_true rfl, Nat.le_of_ble_eq_true rfl⟩) hS (fun q _ h => False.elim h) (fun q h => False.elim h) (fun r1 u2 t H1 locs ht hvm hw3 hB hz1 hk1 hS => ?_)
  have hP := hP.kept (fun k q hk => hk1 q.1 (hP k q hk).lt (fun h => h))
  clear hz1 hk1 hPc
  generalize H1 = H at hP hS ht ⊢
  try dsimp only at hw3
  rcases hw3 with ⟨rfl, hw3⟩ | ⟨rfl, hw3⟩
  ·
    obtain ⟨j4, hj4, rfl⟩ := x_ix hw3 (by omega)
    refine lv_if_ne (tgt := 11) hx hb dX11_worn_5 (by decide) (fun c5 => ?_) (fun c5 => ?_)
    rotate_left
    · exact absurd c5 (by decide)
    clear c5
    refine lv_iload_n hx hb dX11_worn_11 rfl (lv_at hl 2 rfl) ?_
    refine lv_i2l hx hb dX11_worn_12 rfl ?_
    refine lv_lconst (v := 1) hx hb dX11_worn_13 (by decide) ?_
    refine lv_topl (fun z6 ez6 => ?_)
    obtain rfl : z6 = (1 : Int32).toInt64 := ez6.trans (by decide)
    refine lv_ldc2 (v := 9) hx hb hown (hts (.constantLong RX11 229 9) (wmx 2 rfl)) dX11_worn_14 ?_
    refine lv_topl (fun z7 ez7 => ?_)
    obtain rfl : z7 = (9 : Int32).toInt64 := ez7.trans (by decide)
    have hPc := hP.sub (ws' := []) [] rfl
    refine va_calli (va_runS (As := [.long q1.toInt64, .long ((1 : Int32).toInt64), .long ((9 : Int32).toInt64)]) (rest := []) ⟨hx, hb, hml, hown, hts⟩ (c_X11_in l dC dI cI cZ cQ q1 1 9 H.size ) (va_cwS 3 hts gX11_worn_X11_in rfl rfl rfl (by decide +kernel) ⟨Nat.le_of_ble_eq_true rfl, Nat.le_of_ble_eq_true rfl⟩) (ps_R hK hPc) rfl rfl hl.1 rfl (lv_room (Nat.le_of_ble_eq_true rfl)) dX11_worn_17 ⟨Nat.le_of_ble_eq_true rfl, Nat.le_of_ble_eq_true rfl⟩) hS (fun q _ h => False.elim h) (fun q h => False.elim h) (fun r8 u9 t H1 locs ht hvm hw10 hB hz1 hk1 hS => ?_)
    have hP := hP.kept (fun k q hk => hk1 q.1 (hP k q hk).lt (fun h => h))
    clear hz1 hk1 hPc
    generalize H1 = H at hP hS ht ⊢
    try dsimp only at hw10
    rcases hw10 with ⟨rfl, hw10⟩ | ⟨rfl, hw10⟩
    ·
      obtain ⟨j11, haj11, hbj11, rfl⟩ := x_rng (a := 1) (b := 9) (by decide) (by decide) hw10
      refine lv_if_eq (tgt := 35) hx hb dX11_worn_20 (by decide) (fun c12 => ?_) (fun c12 => ?_)
      · exact absurd c12 (by decide)
      clear c12
      refine lv_iload_n hx hb dX11_worn_23 rfl (lv_at hl 3 rfl) ?_
      refine lv_i2l hx hb dX11_worn_24 rfl ?_
      refine lv_lconst (v := 0) hx hb dX11_worn_25 (by decide) ?_
      refine lv_topl (fun z13 ez13 => ?_)
      obtain rfl : z13 = (0 : Int32).toInt64 := ez13.trans (by decide)
      refine lv_ldc2 (v := 99) hx hb hown (hts (.constantLong RX11 313 99) (wmx 3 rfl)) dX11_worn_26 ?_
      refine lv_topl (fun z14 ez14 => ?_)
      obtain rfl : z14 = (99 : Int32).toInt64 := ez14.trans (by decide)
      have hPc := hP.sub (ws' := []) [] rfl
      refine va_calli (va_runS (As := [.long q2.toInt64, .long ((0 : Int32).toInt64), .long ((99 : Int32).toInt64)]) (rest := []) ⟨hx, hb, hml, hown, hts⟩ (c_X11_in l dC dI cI cZ cQ q2 0 99 H.size ) (va_cwS 3 hts gX11_worn_X11_in rfl rfl rfl (by decide +kernel) ⟨Nat.le_of_ble_eq_true rfl, Nat.le_of_ble_eq_true rfl⟩) (ps_R hK hPc) rfl rfl hl.1 rfl (lv_room (Nat.le_of_ble_eq_true rfl)) dX11_worn_29 ⟨Nat.le_of_ble_eq_true rfl, Nat.le_of_ble_eq_true rfl⟩) hS (fun q _ h => False.elim h) (fun q h => False.elim h) (fun r15 u16 t H1 locs ht hvm hw17 hB hz1 hk1 hS => ?_)
      have hP := hP.kept (fun k q hk => hk1 q.1 (hP k q hk).lt (fun h => h))
      clear hz1 hk1 hPc
      generalize H1 = H at hP hS ht ⊢
      try dsimp only at hw17
      rcases hw17 with ⟨rfl, hw17⟩ | ⟨rfl, hw17⟩
      ·
        refine lv_if_ne (tgt := 38) hx hb dX11_worn_32 (by decide) (fun c18 => ?_) (fun c18 => ?_)
        rotate_left
        · exact absurd c18 (by decide)
        clear c18
        refine lv_aload_n hx hb dX11_worn_38 rfl (lv_at hl 0 rfl) ?_
        refine va_get (D := (dC, dI)) (ci := 11) (v := .int (nI wm)) (C := RX11) (T := TX11) (N := 46) hx hb hts hi_X11 hown hK hP 0 rfl rfl 37 (by decide) (hts (.fieldLink RX11 168 "LeftQuillsModel" "wornMany" "I") (wmx 5 rfl)) (fun _ h9 => h9) rfl dX11_worn_39 ?_
        refine lv_bipush (v := 6) hx hb dX11_worn_42 (by decide) ?_
        refine lv_icmp_ne (tgt := 50) hx hb dX11_worn_44 (by decide) (fun c19 => ?_) (fun c19 => ?_)
        ·
          have c19 : ¬ wm = 6 := fun h => c19 ((nI_eq (a := wm) (b := 6) (by omega) (by omega)).mpr h)
          refine lv_aload_n hx hb dX11_worn_50 rfl (lv_at hl 0 rfl) ?_
          refine va_get (D := (dC, dI)) (ci := 11) (v := .ref m38) (C := RX11) (T := TX11) (N := 46) hx hb hts hi_X11 hown hK hP 0 rfl rfl 38 (by decide) (hts (.fieldLink RX11 74 "LeftQuillsModel" "wornQuill" "[I") (wmx 7 rfl)) (fun _ h9 => h9) rfl dX11_worn_51 ?_
          refine lv_aload_n hx hb dX11_worn_54 rfl (lv_at hl 0 rfl) ?_
          refine va_get (D := (dC, dI)) (ci := 11) (v := .int (nI wm)) (C := RX11) (T := TX11) (N := 46) hx hb hts hi_X11 hown hK hP 0 rfl rfl 37 (by decide) (hts (.fieldLink RX11 168 "LeftQuillsModel" "wornMany" "I") (wmx 5 rfl)) (fun _ h9 => h9) rfl dX11_worn_55 ?_
          refine lv_iload_n hx hb dX11_worn_58 rfl (lv_at hl 1 rfl) ?_
          refine va_iast hx hb hK hP hD hS 1 0 rfl rfl (vp_in_nI (n := wm) (N := 6) (by omega) (by decide)) dX11_worn_59 (fun H locs hP hD hS => ?_)
          have hcl := (nI_clamp (n := wm) (by omega))
          rw [hcl] at hP hD
          clear hcl
          have hPD : pdW (dC, dI) vwCl A [(h0, .inr (11, (.int n0 :: .int n1 :: .int (nI nq) :: .ref m3 :: .ref m4 :: .ref m5 :: .int (nI nh) :: .ref m7 :: .ref m8 :: .ref m9 :: .ref m10 :: .int (nI sd) :: .ref m12 :: .int (nI tx) :: .int n14 :: .int (nI at9) :: .int n16 :: .int n17 :: .ref m18 :: .int (nI rq) :: .ref m20 :: .ref m21 :: .ref m22 :: .ref m23 :: .ref m24 :: .int (nI rh) :: .ref m26 :: .ref m27 :: .ref m28 :: .int (nI un) :: .ref m30 :: .int n31 :: .int n32 :: .ref m33 :: .int n34 :: .int n35 :: .ref m36 :: .int (nI wm) :: .ref m38 :: .ref m39 :: .ref m40 :: .int (nI bk) :: .ref m42 :: .ref m43 :: .ref m44 :: .ref m45 :: []))), (m38, .inl (cI, 6, .inl (upd fm38 wm (nI j4)))), (m39, .inl (cI, 6, .inl fm39)), (m40, .inl (cI, 6, .inl fm40))] H := ⟨hP, hD⟩
          have hP := hPD.1
          have hD := hPD.2
          clear hPD
          refine lv_aload_n hx hb dX11_worn_60 rfl (lv_at hl 0 rfl) ?_
          refine va_get (D := (dC, dI)) (ci := 11) (v := .ref m39) (C := RX11) (T := TX11) (N := 46) hx hb hts hi_X11 hown hK hP 0 rfl rfl 39 (by decide) (hts (.fieldLink RX11 77 "LeftQuillsModel" "wornPages" "[I") (wmx 8 rfl)) (fun _ h9 => h9) rfl dX11_worn_61 ?_
          refine lv_aload_n hx hb dX11_worn_64 rfl (lv_at hl 0 rfl) ?_
          refine va_get (D := (dC, dI)) (ci := 11) (v := .int (nI wm)) (C := RX11) (T := TX11) (N := 46) hx hb hts hi_X11 hown hK hP 0 rfl rfl 37 (by decide) (hts (.fieldLink RX11 168 "LeftQuillsModel" "wornMany" "I") (wmx 5 rfl)) (fun _ h9 => h9) rfl dX11_worn_65 ?_
          refine lv_iload_n hx hb dX11_worn_68 rfl (lv_at hl 2 rfl) ?_
          refine va_iast hx hb hK hP hD hS 2 0 rfl rfl (vp_in_nI (n := wm) (N := 6) (by omega) (by decide)) dX11_worn_69 (fun H locs hP hD hS => ?_)
          have hcl := (nI_clamp (n := wm) (by omega))
          rw [hcl] at hP hD
          clear hcl
          have hPD : pdW (dC, dI) vwCl A [(h0, .inr (11, (.int n0 :: .int n1 :: .int (nI nq) :: .ref m3 :: .ref m4 :: .ref m5 :: .int (nI nh) :: .ref m7 :: .ref m8 :: .ref m9 :: .ref m10 :: .int (nI sd) :: .ref m12 :: .int (nI tx) :: .int n14 :: .int (nI at9) :: .int n16 :: .int n17 :: .ref m18 :: .int (nI rq) :: .ref m20 :: .ref m21 :: .ref m22 :: .ref m23 :: .ref m24 :: .int (nI rh) :: .ref m26 :: .ref m27 :: .ref m28 :: .int (nI un) :: .ref m30 :: .int n31 :: .int n32 :: .ref m33 :: .int n34 :: .int n35 :: .ref m36 :: .int (nI wm) :: .ref m38 :: .ref m39 :: .ref m40 :: .int (nI bk) :: .ref m42 :: .ref m43 :: .ref m44 :: .ref m45 :: []))), (m38, .inl (cI, 6, .inl (upd fm38 wm (nI j4)))), (m39, .inl (cI, 6, .inl (upd fm39 wm (nI j11)))), (m40, .inl (cI, 6, .inl fm40))] H := ⟨hP, hD⟩
          have hP := hPD.1
          have hD := hPD.2
          clear hPD
          refine lv_aload_n hx hb dX11_worn_70 rfl (lv_at hl 0 rfl) ?_
          refine va_get (D := (dC, dI)) (ci := 11) (v := .ref m40) (C := RX11) (T := TX11) (N := 46) hx hb hts hi_X11 hown hK hP 0 rfl rfl 40 (by decide) (hts (.fieldLink RX11 80 "LeftQuillsModel" "wornSoft" "[I") (wmx 9 rfl)) (fun _ h9 => h9) rfl dX11_worn_71 ?_
          refine lv_aload_n hx hb dX11_worn_74 rfl (lv_at hl 0 rfl) ?_
          refine va_get (D := (dC, dI)) (ci := 11) (v := .int (nI wm)) (C := RX11) (T := TX11) (N := 46) hx hb hts hi_X11 hown hK hP 0 rfl rfl 37 (by decide) (hts (.fieldLink RX11 168 "LeftQuillsModel" "wornMany" "I") (wmx 5 rfl)) (fun _ h9 => h9) rfl dX11_worn_75 ?_
          refine lv_iload_n hx hb dX11_worn_78 rfl (lv_at hl 3 rfl) ?_
          refine va_iast hx hb hK hP hD hS 3 0 rfl rfl (vp_in_nI (n := wm) (N := 6) (by omega) (by decide)) dX11_worn_79 (fun H locs hP hD hS => ?_)
          have hcl := (nI_clamp (n := wm) (by omega))
          rw [hcl] at hP hD
          clear hcl
          have hPD : pdW (dC, dI) vwCl A [(h0, .inr (11, (.int n0 :: .int n1 :: .int (nI nq) :: .ref m3 :: .ref m4 :: .ref m5 :: .int (nI nh) :: .ref m7 :: .ref m8 :: .ref m9 :: .ref m10 :: .int (nI sd) :: .ref m12 :: .int (nI tx) :: .int n14 :: .int (nI at9) :: .int n16 :: .int n17 :: .ref m18 :: .int (nI rq) :: .ref m20 :: .ref m21 :: .ref m22 :: .ref m23 :: .ref m24 :: .int (nI rh) :: .ref m26 :: .ref m27 :: .ref m28 :: .int (nI un) :: .ref m30 :: .int n31 :: .int n32 :: .ref m33 :: .int n34 :: .int n35 :: .ref m36 :: .int (nI wm) :: .ref m38 :: .ref m39 :: .ref m40 :: .int (nI bk) :: .ref m42 :: .ref m43 :: .ref m44 :: .ref m45 :: []))), (m38, .inl (cI, 6, .inl (upd fm38 wm (nI j4)))), (m39, .inl (cI, 6, .inl (upd fm39 wm (nI j11)))), (m40, .inl (cI, 6, .inl (upd fm40 wm q2)))] H := ⟨hP, hD⟩
          have hP := hPD.1
          have hD := hPD.2
          clear hPD
          refine lv_aload_n hx hb dX11_worn_80 rfl (lv_at hl 0 rfl) ?_
          refine lv_dup hx hb dX11_worn_81 rfl ?_
          refine va_get (D := (dC, dI)) (ci := 11) (v := .int (nI wm)) (C := RX11) (T := TX11) (N := 46) hx hb hts hi_X11 hown hK hP 0 rfl rfl 37 (by decide) (hts (.fieldLink RX11 168 "LeftQuillsModel" "wornMany" "I") (wmx 5 rfl)) (fun _ h9 => h9) rfl dX11_worn_82 ?_
          refine lv_iconst (v := 1) hx hb dX11_worn_85 (by decide) ?_
          refine lv_iadd hx hb dX11_worn_86 ?_
          refine lv_topi (fun z23 ez23 => ?_)
          obtain rfl : z23 = nI (wm + 1) := ez23.trans (nI_add wm 1)
          refine va_put (D := (dC, dI)) (ci := 11) (v := .int (nI (wm + 1))) (ty := .int) (C := RX11) (T := TX11) (N := 46) hx hb hts hi_X11 tyX11 tyX11_ok nmX11 hown hK hP hD hS 0 rfl rfl 37 (by decide) (hts (.fieldLink RX11 168 "LeftQuillsModel" "wornMany" "I") (wmx 5 rfl)) (fun _ h9 => h9) rfl (by decide +kernel) rfl rfl (Nat.le_of_ble_eq_true rfl) dX11_worn_87 (fun H locs hP hD hS => ?_)
          have hPD : pdW (dC, dI) vwCl A [(h0, .inr (11, (.int n0 :: .int n1 :: .int (nI nq) :: .ref m3 :: .ref m4 :: .ref m5 :: .int (nI nh) :: .ref m7 :: .ref m8 :: .ref m9 :: .ref m10 :: .int (nI sd) :: .ref m12 :: .int (nI tx) :: .int n14 :: .int (nI at9) :: .int n16 :: .int n17 :: .ref m18 :: .int (nI rq) :: .ref m20 :: .ref m21 :: .ref m22 :: .ref m23 :: .ref m24 :: .int (nI rh) :: .ref m26 :: .ref m27 :: .ref m28 :: .int (nI un) :: .ref m30 :: .int n31 :: .int n32 :: .ref m33 :: .int n34 :: .int n35 :: .ref m36 :: .int (nI (wm + 1)) :: .ref m38 :: .ref m39 :: .ref m40 :: .int (nI bk) :: .ref m42 :: .ref m43 :: .ref m44 :: .ref m45 :: []))), (m38, .inl (cI, 6, .inl (upd fm38 wm (nI j4)))), (m39, .inl (cI, 6, .inl (upd fm39 wm (nI j11)))), (m40, .inl (cI, 6, .inl (upd fm40 wm q2)))] H := ⟨hP, hD⟩
          have hP := hPD.1
          have hD := hPD.2
          clear hPD
          refine lv_aload_n hx hb dX11_worn_90 rfl (lv_at hl 0 rfl) ?_
          refine va_get (D := (dC, dI)) (ci := 11) (v := .int (nI (wm + 1))) (C := RX11) (T := TX11) (N := 46) hx hb hts hi_X11 hown hK hP 0 rfl rfl 37 (by decide) (hts (.fieldLink RX11 168 "LeftQuillsModel" "wornMany" "I") (wmx 5 rfl)) (fun _ h9 => h9) rfl dX11_worn_91 ?_
          have hP9 := hP.sub (ws' := [(h0, .inr (11, (.int n0 :: .int n1 :: .int (nI nq) :: .ref m3 :: .ref m4 :: .ref m5 :: .int (nI nh) :: .ref m7 :: .ref m8 :: .ref m9 :: .ref m10 :: .int (nI sd) :: .ref m12 :: .int (nI tx) :: .int n14 :: .int (nI at9) :: .int n16 :: .int n17 :: .ref m18 :: .int (nI rq) :: .ref m20 :: .ref m21 :: .ref m22 :: .ref m23 :: .ref m24 :: .int (nI rh) :: .ref m26 :: .ref m27 :: .ref m28 :: .int (nI un) :: .ref m30 :: .int n31 :: .int n32 :: .ref m33 :: .int n34 :: .int n35 :: .ref m36 :: .int (nI (wm + 1)) :: .ref m38 :: .ref m39 :: .ref m40 :: .int (nI bk) :: .ref m42 :: .ref m43 :: .ref m44 :: .ref m45 :: []))), (m38, .inl (cI, 6, .inl (upd fm38 wm (nI j4)))), (m39, .inl (cI, 6, .inl (upd fm39 wm (nI j11)))), (m40, .inl (cI, 6, .inl (upd fm40 wm q2)))]) [0, 1, 2, 3] rfl
          have hD9 := hD.sub (ws' := [(h0, .inr (11, (.int n0 :: .int n1 :: .int (nI nq) :: .ref m3 :: .ref m4 :: .ref m5 :: .int (nI nh) :: .ref m7 :: .ref m8 :: .ref m9 :: .ref m10 :: .int (nI sd) :: .ref m12 :: .int (nI tx) :: .int n14 :: .int (nI at9) :: .int n16 :: .int n17 :: .ref m18 :: .int (nI rq) :: .ref m20 :: .ref m21 :: .ref m22 :: .ref m23 :: .ref m24 :: .int (nI rh) :: .ref m26 :: .ref m27 :: .ref m28 :: .int (nI un) :: .ref m30 :: .int n31 :: .int n32 :: .ref m33 :: .int n34 :: .int n35 :: .ref m36 :: .int (nI (wm + 1)) :: .ref m38 :: .ref m39 :: .ref m40 :: .int (nI bk) :: .ref m42 :: .ref m43 :: .ref m44 :: .ref m45 :: []))), (m38, .inl (cI, 6, .inl (upd fm38 wm (nI j4)))), (m39, .inl (cI, 6, .inl (upd fm39 wm (nI j11)))), (m40, .inl (cI, 6, .inl (upd fm40 wm q2)))]) [0, 1, 2, 3] (by decide +kernel) rfl
          exact W.iret (v := nI (wm + 1)) hx hb hr (fun t ht hW => ⟨⟨nI (wm + 1), (fun _ => 0), rfl, (by unfold wornR; rw [if_pos hw3, if_pos hw10, if_pos hw17, if_pos (by omega)]), ⟨(upd fm38 wm (nI j4)), (upd fm39 wm (nI j11)), (upd fm40 wm q2), (wm + 1), by omega, qLt_add hqi (by omega), cIn_add hpi (by omega), (by unfold wornN; rw [if_pos hw3, if_pos hw10, if_pos hw17, if_pos (by omega)]), ((if_pos ⟨hw3, hw10, hw17, by omega⟩).symm), ((if_pos ⟨hw3, hw10, hw17, by omega⟩).symm), ((if_pos ⟨hw3, hw10, hw17, by omega⟩).symm), va_hq ht hP9, hD9⟩⟩, hS.F ht⟩) hS.2.2 dX11_worn_94
        ·
          have c19 : wm = 6 := (nI_eq (a := wm) (b := 6) (by omega) (by omega)).mp c19
          refine lv_ldc (v := (-1000000004)) hx hb hown (hts (.constant RX11 115 (-1000000004)) (wmx 6 rfl)) dX11_worn_47 ?_
          have hP9 := hP.sub (ws' := [(h0, .inr (11, (.int n0 :: .int n1 :: .int (nI nq) :: .ref m3 :: .ref m4 :: .ref m5 :: .int (nI nh) :: .ref m7 :: .ref m8 :: .ref m9 :: .ref m10 :: .int (nI sd) :: .ref m12 :: .int (nI tx) :: .int n14 :: .int (nI at9) :: .int n16 :: .int n17 :: .ref m18 :: .int (nI rq) :: .ref m20 :: .ref m21 :: .ref m22 :: .ref m23 :: .ref m24 :: .int (nI rh) :: .ref m26 :: .ref m27 :: .ref m28 :: .int (nI un) :: .ref m30 :: .int n31 :: .int n32 :: .ref m33 :: .int n34 :: .int n35 :: .ref m36 :: .int (nI wm) :: .ref m38 :: .ref m39 :: .ref m40 :: .int (nI bk) :: .ref m42 :: .ref m43 :: .ref m44 :: .ref m45 :: []))), (m38, .inl (cI, 6, .inl fm38)), (m39, .inl (cI, 6, .inl fm39)), (m40, .inl (cI, 6, .inl fm40))]) [0, 1, 2, 3] rfl
          have hD9 := hD.sub (ws' := [(h0, .inr (11, (.int n0 :: .int n1 :: .int (nI nq) :: .ref m3 :: .ref m4 :: .ref m5 :: .int (nI nh) :: .ref m7 :: .ref m8 :: .ref m9 :: .ref m10 :: .int (nI sd) :: .ref m12 :: .int (nI tx) :: .int n14 :: .int (nI at9) :: .int n16 :: .int n17 :: .ref m18 :: .int (nI rq) :: .ref m20 :: .ref m21 :: .ref m22 :: .ref m23 :: .ref m24 :: .int (nI rh) :: .ref m26 :: .ref m27 :: .ref m28 :: .int (nI un) :: .ref m30 :: .int n31 :: .int n32 :: .ref m33 :: .int n34 :: .int n35 :: .ref m36 :: .int (nI wm) :: .ref m38 :: .ref m39 :: .ref m40 :: .int (nI bk) :: .ref m42 :: .ref m43 :: .ref m44 :: .ref m45 :: []))), (m38, .inl (cI, 6, .inl fm38)), (m39, .inl (cI, 6, .inl fm39)), (m40, .inl (cI, 6, .inl fm40))]) [0, 1, 2, 3] (by decide +kernel) rfl
          exact W.iret (v := (-1000000004)) hx hb hr (fun t ht hW => ⟨⟨(-1000000004), (fun _ => 0), rfl, (by unfold wornR; rw [if_pos hw3, if_pos hw10, if_pos hw17, if_neg (by omega)]), ⟨fm38, fm39, fm40, wm, by omega, hqi, hpi, (by unfold wornN; rw [if_pos hw3, if_pos hw10, if_pos hw17, if_neg (by omega)]), ((if_neg (fun h9 => by have h8 := h9.2.2.2; omega)).symm), ((if_neg (fun h9 => by have h8 := h9.2.2.2; omega)).symm), ((if_neg (fun h9 => by have h8 := h9.2.2.2; omega)).symm), va_hq ht hP9, hD9⟩⟩, hS.F ht⟩) hS.2.2 dX11_worn_49
      ·
        refine lv_if_ne (tgt := 38) hx hb dX11_worn_32 (by decide) (fun c24 => ?_) (fun c24 => ?_)
        · exact absurd c24 (by decide)
        clear c24
        refine lv_ldc (v := (-1000000002)) hx hb hown (hts (.constant RX11 111 (-1000000002)) (wmx 4 rfl)) dX11_worn_35 ?_
        have hP9 := hP.sub (ws' := [(h0, .inr (11, (.int n0 :: .int n1 :: .int (nI nq) :: .ref m3 :: .ref m4 :: .ref m5 :: .int (nI nh) :: .ref m7 :: .ref m8 :: .ref m9 :: .ref m10 :: .int (nI sd) :: .ref m12 :: .int (nI tx) :: .int n14 :: .int (nI at9) :: .int n16 :: .int n17 :: .ref m18 :: .int (nI rq) :: .ref m20 :: .ref m21 :: .ref m22 :: .ref m23 :: .ref m24 :: .int (nI rh) :: .ref m26 :: .ref m27 :: .ref m28 :: .int (nI un) :: .ref m30 :: .int n31 :: .int n32 :: .ref m33 :: .int n34 :: .int n35 :: .ref m36 :: .int (nI wm) :: .ref m38 :: .ref m39 :: .ref m40 :: .int (nI bk) :: .ref m42 :: .ref m43 :: .ref m44 :: .ref m45 :: []))), (m38, .inl (cI, 6, .inl fm38)), (m39, .inl (cI, 6, .inl fm39)), (m40, .inl (cI, 6, .inl fm40))]) [0, 1, 2, 3] rfl
        have hD9 := hD.sub (ws' := [(h0, .inr (11, (.int n0 :: .int n1 :: .int (nI nq) :: .ref m3 :: .ref m4 :: .ref m5 :: .int (nI nh) :: .ref m7 :: .ref m8 :: .ref m9 :: .ref m10 :: .int (nI sd) :: .ref m12 :: .int (nI tx) :: .int n14 :: .int (nI at9) :: .int n16 :: .int n17 :: .ref m18 :: .int (nI rq) :: .ref m20 :: .ref m21 :: .ref m22 :: .ref m23 :: .ref m24 :: .int (nI rh) :: .ref m26 :: .ref m27 :: .ref m28 :: .int (nI un) :: .ref m30 :: .int n31 :: .int n32 :: .ref m33 :: .int n34 :: .int n35 :: .ref m36 :: .int (nI wm) :: .ref m38 :: .ref m39 :: .ref m40 :: .int (nI bk) :: .ref m42 :: .ref m43 :: .ref m44 :: .ref m45 :: []))), (m38, .inl (cI, 6, .inl fm38)), (m39, .inl (cI, 6, .inl fm39)), (m40, .inl (cI, 6, .inl fm40))]) [0, 1, 2, 3] (by decide +kernel) rfl
        exact W.iret (v := (-1000000002)) hx hb hr (fun t ht hW => ⟨⟨(-1000000002), (fun _ => 0), rfl, (by unfold wornR; rw [if_pos hw3, if_pos hw10, if_neg hw17]), ⟨fm38, fm39, fm40, wm, by omega, hqi, hpi, (by unfold wornN; rw [if_pos hw3, if_pos hw10, if_neg hw17]), ((if_neg (fun h9 => hw17 h9.2.2.1)).symm), ((if_neg (fun h9 => hw17 h9.2.2.1)).symm), ((if_neg (fun h9 => hw17 h9.2.2.1)).symm), va_hq ht hP9, hD9⟩⟩, hS.F ht⟩) hS.2.2 dX11_worn_37
    ·
      refine lv_if_eq (tgt := 35) hx hb dX11_worn_20 (by decide) (fun c25 => ?_) (fun c25 => ?_)
      rotate_left
      · exact absurd c25 (by decide)
      clear c25
      refine lv_ldc (v := (-1000000002)) hx hb hown (hts (.constant RX11 111 (-1000000002)) (wmx 4 rfl)) dX11_worn_35 ?_
      have hP9 := hP.sub (ws' := [(h0, .inr (11, (.int n0 :: .int n1 :: .int (nI nq) :: .ref m3 :: .ref m4 :: .ref m5 :: .int (nI nh) :: .ref m7 :: .ref m8 :: .ref m9 :: .ref m10 :: .int (nI sd) :: .ref m12 :: .int (nI tx) :: .int n14 :: .int (nI at9) :: .int n16 :: .int n17 :: .ref m18 :: .int (nI rq) :: .ref m20 :: .ref m21 :: .ref m22 :: .ref m23 :: .ref m24 :: .int (nI rh) :: .ref m26 :: .ref m27 :: .ref m28 :: .int (nI un) :: .ref m30 :: .int n31 :: .int n32 :: .ref m33 :: .int n34 :: .int n35 :: .ref m36 :: .int (nI wm) :: .ref m38 :: .ref m39 :: .ref m40 :: .int (nI bk) :: .ref m42 :: .ref m43 :: .ref m44 :: .ref m45 :: []))), (m38, .inl (cI, 6, .inl fm38)), (m39, .inl (cI, 6, .inl fm39)), (m40, .inl (cI, 6, .inl fm40))]) [0, 1, 2, 3] rfl
      have hD9 := hD.sub (ws' := [(h0, .inr (11, (.int n0 :: .int n1 :: .int (nI nq) :: .ref m3 :: .ref m4 :: .ref m5 :: .int (nI nh) :: .ref m7 :: .ref m8 :: .ref m9 :: .ref m10 :: .int (nI sd) :: .ref m12 :: .int (nI tx) :: .int n14 :: .int (nI at9) :: .int n16 :: .int n17 :: .ref m18 :: .int (nI rq) :: .ref m20 :: .ref m21 :: .ref m22 :: .ref m23 :: .ref m24 :: .int (nI rh) :: .ref m26 :: .ref m27 :: .ref m28 :: .int (nI un) :: .ref m30 :: .int n31 :: .int n32 :: .ref m33 :: .int n34 :: .int n35 :: .ref m36 :: .int (nI wm) :: .ref m38 :: .ref m39 :: .ref m40 :: .int (nI bk) :: .ref m42 :: .ref m43 :: .ref m44 :: .ref m45 :: []))), (m38, .inl (cI, 6, .inl fm38)), (m39, .inl (cI, 6, .inl fm39)), (m40, .inl (cI, 6, .inl fm40))]) [0, 1, 2, 3] (by decide +kernel) rfl
      exact W.iret (v := (-1000000002)) hx hb hr (fun t ht hW => ⟨⟨(-1000000002), (fun _ => 0), rfl, (by unfold wornR; rw [if_pos hw3, if_neg hw10]), ⟨fm38, fm39, fm40, wm, by omega, hqi, hpi, (by unfold wornN; rw [if_pos hw3, if_neg hw10]), ((if_neg (fun h9 => hw10 h9.2.1)).symm), ((if_neg (fun h9 => hw10 h9.2.1)).symm), ((if_neg (fun h9 => hw10 h9.2.1)).symm), va_hq ht hP9, hD9⟩⟩, hS.F ht⟩) hS.2.2 dX11_worn_37
  ·
    refine lv_if_ne (tgt := 11) hx hb dX11_worn_5 (by decide) (fun c26 => ?_) (fun c26 => ?_)
    · exact absurd c26 (by decide)
    clear c26
    refine lv_ldc (v := (-1000000001)) hx hb hown (hts (.constant RX11 188 (-1000000001)) (wmx 1 rfl)) dX11_worn_8 ?_
    have hP9 := hP.sub (ws' := [(h0, .inr (11, (.int n0 :: .int n1 :: .int (nI nq) :: .ref m3 :: .ref m4 :: .ref m5 :: .int (nI nh) :: .ref m7 :: .ref m8 :: .ref m9 :: .ref m10 :: .int (nI sd) :: .ref m12 :: .int (nI tx) :: .int n14 :: .int (nI at9) :: .int n16 :: .int n17 :: .ref m18 :: .int (nI rq) :: .ref m20 :: .ref m21 :: .ref m22 :: .ref m23 :: .ref m24 :: .int (nI rh) :: .ref m26 :: .ref m27 :: .ref m28 :: .int (nI un) :: .ref m30 :: .int n31 :: .int n32 :: .ref m33 :: .int n34 :: .int n35 :: .ref m36 :: .int (nI wm) :: .ref m38 :: .ref m39 :: .ref m40 :: .int (nI bk) :: .ref m42 :: .ref m43 :: .ref m44 :: .ref m45 :: []))), (m38, .inl (cI, 6, .inl fm38)), (m39, .inl (cI, 6, .inl fm39)), (m40, .inl (cI, 6, .inl fm40))]) [0, 1, 2, 3] rfl
    have hD9 := hD.sub (ws' := [(h0, .inr (11, (.int n0 :: .int n1 :: .int (nI nq) :: .ref m3 :: .ref m4 :: .ref m5 :: .int (nI nh) :: .ref m7 :: .ref m8 :: .ref m9 :: .ref m10 :: .int (nI sd) :: .ref m12 :: .int (nI tx) :: .int n14 :: .int (nI at9) :: .int n16 :: .int n17 :: .ref m18 :: .int (nI rq) :: .ref m20 :: .ref m21 :: .ref m22 :: .ref m23 :: .ref m24 :: .int (nI rh) :: .ref m26 :: .ref m27 :: .ref m28 :: .int (nI un) :: .ref m30 :: .int n31 :: .int n32 :: .ref m33 :: .int n34 :: .int n35 :: .ref m36 :: .int (nI wm) :: .ref m38 :: .ref m39 :: .ref m40 :: .int (nI bk) :: .ref m42 :: .ref m43 :: .ref m44 :: .ref m45 :: []))), (m38, .inl (cI, 6, .inl fm38)), (m39, .inl (cI, 6, .inl fm39)), (m40, .inl (cI, 6, .inl fm40))]) [0, 1, 2, 3] (by decide +kernel) rfl
    exact W.iret (v := (-1000000001)) hx hb hr (fun t ht hW => ⟨⟨(-1000000001), (fun _ => 0), rfl, (by unfold wornR; rw [if_neg hw3]), ⟨fm38, fm39, fm40, wm, by omega, hqi, hpi, (by unfold wornN; rw [if_neg hw3]), ((if_neg (fun h9 => hw3 h9.1)).symm), ((if_neg (fun h9 => hw3 h9.1)).symm), ((if_neg (fun h9 => hw3 h9.1)).symm), va_hq ht hP9, hD9⟩⟩, hS.F ht⟩) hS.2.2 dX11_worn_10
set_option maxHeartbeats 4000000 in
set_option maxRecDepth 100000 in
theorem c_X2_allFitsD (l : Launch) (dC : Nat → ClassId) (dI : Nat → Nat → Nat) (cI cZ cQ : ClassId) (h0 : Nat) (n : Nat) (ho : Nat) (e2 : Nat) (e3 : Nat) (e4 : Nat) (f_h0 : List Value) (fe2 : Nat → Int32) (fe3 : Nat → Int32) (fe4 : Nat → Int32) (o5 : Nat) (o6 : Nat) (o7 : Nat) (o10 : Nat) (o11 : Nat) (o12 : Nat) (f_ho : List Value) (fo5 : Nat → Int32) (fo6 : Nat → Int32) (fo7 : Nat → Int32) (fo10 : Nat → Int32) (fo11 : Nat → Int32) (k : Nat) (sz : Nat) (e_h0_0 : fAt f_h0 0 = some (.int (nI n))) (e_h0_1 : fAt f_h0 1 = some (.ref ho)) (e_h0_2 : fAt f_h0 2 = some (.ref e2)) (e_h0_3 : fAt f_h0 3 = some (.ref e3)) (e_h0_4 : fAt f_h0 4 = some (.ref e4)) (e_ho_5 : fAt f_ho 5 = some (.ref o5)) (e_ho_6 : fAt f_ho 6 = some (.ref o6)) (e_ho_7 : fAt f_ho 7 = some (.ref o7)) (e_ho_10 : fAt f_ho 10 = some (.ref o10)) (e_ho_11 : fAt f_ho 11 = some (.ref o11)) (e_ho_12 : fAt f_ho 12 = some (.ref o12)) (hn : n ≤ 6) (hk : k < 4) (hqi : qIn fe2 n) : Met l yX2_allFits wsX2_allFits ({ frames := 2, cells := 0, slots := 0, locals := 85 }) (va_Pc [.ref h0, .int (nI k)] (fun U => U.heap.size = sz ∧ va_P (dC, dI) vwCl [(h0, .inr (2, f_h0)), (e2, .inl (cI, 6, .inl fe2)), (e3, .inl (cI, 6, .inl fe3)), (e4, .inl (cI, 6, .inl fe4)), (ho, .inr (5, f_ho)), (o5, .inl (cI, 8, .inl fo5)), (o6, .inl (cI, 8, .inl fo6)), (o7, .inl (cI, 8, .inl fo7)), (o10, .inl (cI, 4, .inl fo10)), (o11, .inl (cI, 4, .inl fo11))] U.heap ∧ va_K (dC, dI) vwCl (tys0 cI cZ cQ) U ∧ xN U)) (va_Qi (fun (r : Int32) (u : Nat → Nat) => (r = 1 ∧ wnP (fun j k => wrF (fo5 j) (fo6 j) (fo7 j) (fo10 k) (fo11 k)) fe2 fe3 fe4 n k) ∨ (r = 0 ∧ ¬ wnP (fun j k => wrF (fo5 j) (fo6 j) (fo7 j) (fo10 k) (fo11 k)) fe2 fe3 fe4 n k)) (fun (_ : Nat → Nat) (_ : State) => True) (fun _ : Nat => False)) 0 0 (fun _ : Nat => False) := by
  refine Met.ofW (cc := cX2_allFits) (maxL := 3) (ret := (some .boolean)) (by decide) rfl ?_
  intro p e s m args below meth c s₁ B hml hv
  obtain ⟨rfl, hsz, hP, hK, hN⟩ := hv
  have hx := B.exec
  have hb := B.bytes
  have hr := B.returns
  have hts := atoms_spec (ws := wsX2_allFits) B.pre
  have hown : s.vm.findClass RX2 = some m.cls := findClass_of_methodNamed B.named
  have hlocks := B.notSynchronized
  have hi_X2 : ∀ w ∈ u_ws RX2 TX2 5, w ∈ wsX2_allFits := fun _ h => List.mem_cons_of_mem _ (List.mem_append_left _ (List.mem_append_right _ (h)))
  subst hsz
  have hS : va_S (fun _ : Nat => False) s.heap s.heap [] := va_S.rf
  have hl := lv_entry ([.ref h0, .int (nI k)]) (n := 3) (Nat.le_of_ble_eq_true rfl)
  rw [lg_entry_eq]
  generalize (lg_sl ([.ref h0, .int (nI k)]) ++ List.replicate (3 - (lg_sl ([.ref h0, .int (nI k)])).length) Slot.unset).toArray = ls at hl ⊢
  have hl : lv_has ls 3 [(0, .ref h0), (1, .int (nI k))] := hl
  refine lv_iconst (v := 0) hx hb dX2_allFits_0 (by decide) ?_
  refine lv_istore_n (lv' := [(2, .int 0), (0, .ref h0), (1, .int (nI k))]) hx hb dX2_allFits_1 rfl hl (by decide) rfl (fun ls hl => ?_)
  refine (fun (K : ∀ (d2 : Nat) (k2 : Nat) (H : Heap) (locs : List Loc) (ls : Array Slot), k2 + d2 = n → (∀ i, i < k2 → wnA (fun j k => wrF (fo5 j) (fo6 j) (fo7 j) (fo10 k) (fo11 k)) fe2 fe3 k i = fe4 i) → va_P (dC, dI) vwCl [(h0, .inr (2, f_h0)), (e2, .inl (cI, 6, .inl fe2)), (e3, .inl (cI, 6, .inl fe3)), (e4, .inl (cI, 6, .inl fe4)), (ho, .inr (5, f_ho)), (o5, .inl (cI, 8, .inl fo5)), (o6, .inl (cI, 8, .inl fo6)), (o7, .inl (cI, 8, .inl fo7)), (o10, .inl (cI, 4, .inl fo10)), (o11, .inl (cI, 4, .inl fo11))] H → va_S (fun _ : Nat => False) s.heap H locs → lv_has ls 3 [(2, .int (nI k2)), (0, .ref h0), (1, .int (nI k))] → W p l e _ s m _ below meth c H locs _ _ _ (F0 m 2 ls [])) => K n 0 _ _ _ (by omega) (fun i hi => absurd hi (by omega)) hP hS (lv_sub hl [0, 1, 2] rfl)) ?_
  intro d2
  induction d2 with
  | zero =>
    intro k2 H locs ls hk2 hv2_0 hP hS hl
    refine lv_iload_n hx hb dX2_allFits_2 rfl (lv_at hl 0 rfl) ?_
    refine lv_aload_n hx hb dX2_allFits_3 rfl (lv_at hl 1 rfl) ?_
    refine va_get (D := (dC, dI)) (ci := 2) (v := .int (nI n)) (C := RX2) (T := TX2) (N := 5) hx hb hts hi_X2 hown hK hP 0 rfl rfl 0 (by decide) (hts (.fieldLink RX2 9 "LeftQuills$Evidence" "count" "I") (wmx 1 rfl)) (fun _ h9 => h9) e_h0_0 dX2_allFits_4 ?_
    refine lv_icmp_ge (tgt := 52) hx hb dX2_allFits_7 (by decide) (fun c1 => ?_) (fun c1 => ?_)
    ·
      have c1 : n ≤ k2 := (nI_leI (a := n) (b := k2) (by omega) (by omega)).mp c1
      refine lv_iconst (v := 1) hx hb dX2_allFits_52 (by decide) ?_
      exact W.zret (v := 1) hx hb hr (rfl) (fun t ht hW => ⟨⟨1, (fun _ => 0), rfl, (Or.inl ⟨rfl, fun i hi => hv2_0 i (by omega)⟩), trivial⟩, hS.F ht⟩) hS.2.2 dX2_allFits_53
    ·
      have c1 : ¬ n ≤ k2 := fun h => c1 ((nI_leI (a := n) (b := k2) (by omega) (by omega)).mpr h)
      omega
  | succ d2 ih2 =>
    intro k2 H locs ls hk2 hv2_0 hP hS hl
    refine lv_iload_n hx hb dX2_allFits_2 rfl (lv_at hl 0 rfl) ?_
    refine lv_aload_n hx hb dX2_allFits_3 rfl (lv_at hl 1 rfl) ?_
    refine va_get (D := (dC, dI)) (ci := 2) (v := .int (nI n)) (C := RX2) (T := TX2) (N := 5) hx hb hts hi_X2 hown hK hP 0 rfl rfl 0 (by decide) (hts (.fieldLink RX2 9 "LeftQuills$Evidence" "count" "I") (wmx 1 rfl)) (fun _ h9 => h9) e_h0_0 dX2_allFits_4 ?_
    refine lv_icmp_ge (tgt := 52) hx hb dX2_allFits_7 (by decide) (fun c2 => ?_) (fun c2 => ?_)
    ·
      have c2 : n ≤ k2 := (nI_leI (a := n) (b := k2) (by omega) (by omega)).mp c2
      omega
    ·
      have c2 : ¬ n ≤ k2 := fun h => c2 ((nI_leI (a := n) (b := k2) (by omega) (by omega)).mpr h)
      refine lv_iconst (v := 0) hx hb dX2_allFits_10 (by decide) ?_
      refine lv_aload_n hx hb dX2_allFits_11 rfl (lv_at hl 1 rfl) ?_
      refine va_get (D := (dC, dI)) (ci := 2) (v := .ref e3) (C := RX2) (T := TX2) (N := 5) hx hb hts hi_X2 hown hK hP 0 rfl rfl 3 (by decide) (hts (.fieldLink RX2 19 "LeftQuills$Evidence" "pages" "[I") (wmx 2 rfl)) (fun _ h9 => h9) e_h0_3 dX2_allFits_12 ?_
      refine lv_iload_n hx hb dX2_allFits_15 rfl (lv_at hl 0 rfl) ?_
      refine va_iald hx hb hK hP 2 0 rfl rfl (vp_in_nI (n := k2) (N := 6) (by omega) (by decide)) dX2_allFits_16 ?_
      refine W.eq (g2 := F0 m 17 ls [.int (fe3 k2), .int 0]) (congrArg (fun y9 => F0 m 17 ls (.int (fe3 y9) :: [.int 0])) ((nI_clamp (n := k2) (by omega)))) ?_
      refine lv_aload_n hx hb dX2_allFits_17 rfl (lv_at hl 1 rfl) ?_
      refine va_get (D := (dC, dI)) (ci := 2) (v := .ref ho) (C := RX2) (T := TX2) (N := 5) hx hb hts hi_X2 hown hK hP 0 rfl rfl 1 (by decide) (hts (.fieldLink RX2 25 "LeftQuills$Evidence" "office" "LLeftQuills$Office;") (wmx 3 rfl)) (fun _ h9 => h9) e_h0_1 dX2_allFits_18 ?_
      refine lv_aload_n hx hb dX2_allFits_21 rfl (lv_at hl 1 rfl) ?_
      refine va_get (D := (dC, dI)) (ci := 2) (v := .ref e2) (C := RX2) (T := TX2) (N := 5) hx hb hts hi_X2 hown hK hP 0 rfl rfl 2 (by decide) (hts (.fieldLink RX2 15 "LeftQuills$Evidence" "quill" "[I") (wmx 4 rfl)) (fun _ h9 => h9) e_h0_2 dX2_allFits_22 ?_
      refine lv_iload_n hx hb dX2_allFits_25 rfl (lv_at hl 0 rfl) ?_
      refine va_iald hx hb hK hP 1 0 rfl rfl (vp_in_nI (n := k2) (N := 6) (by omega) (by decide)) dX2_allFits_26 ?_
      refine W.eq (g2 := F0 m 27 ls [.int (fe2 k2), .ref ho, .int (fe3 k2), .int 0]) (congrArg (fun y9 => F0 m 27 ls (.int (fe2 y9) :: [.ref ho, .int (fe3 k2), .int 0])) ((nI_clamp (n := k2) (by omega)))) ?_
      refine lv_topi (fun z3 ez3 => ?_)
      obtain ⟨j4, hj4, ejj4⟩ := hqi k2 (by omega)
      obtain rfl : z3 = nI j4 := ez3.trans (ejj4)
      refine lv_iload_n hx hb dX2_allFits_27 rfl (lv_at hl 2 rfl) ?_
      have hPc := hP.sub (ws' := [(ho, .inr (5, f_ho)), (o5, .inl (cI, 8, .inl fo5)), (o6, .inl (cI, 8, .inl fo6)), (o7, .inl (cI, 8, .inl fo7)), (o10, .inl (cI, 4, .inl fo10)), (o11, .inl (cI, 4, .inl fo11))]) [4, 5, 6, 7, 8, 9] rfl
      refine va_calli (va_runV (As := [.int (nI j4), .int (nI k)]) (rest := [.int (fe3 k2), .int 0]) ⟨hx, hb, hml, hown, hts⟩ (c_X5_wearD l dC dI cI cZ cQ ho o5 o6 o7 o10 o11 f_ho fo5 fo6 fo7 fo10 fo11 j4 k H.size e_ho_5 e_ho_6 e_ho_7 e_ho_10 e_ho_11 (by omega) (by omega)) (cwV 2 hts gX2_allFits_X5_wear rfl rfl rfl hd_X5_wear_RX5 ⟨Nat.le_of_ble_eq_true rfl, Nat.le_of_ble_eq_true rfl⟩) (pv_R (va_recv hK hP (ci := 5) (q0 := 4) rfl rfl) hK hPc) rfl rfl hl.1 rfl (lv_room (Nat.le_of_ble_eq_true rfl)) dX2_allFits_28 ⟨Nat.le_of_ble_eq_true rfl, Nat.le_of_ble_eq_true rfl⟩) hS (fun q _ h => False.elim h) (fun q h => False.elim h) (fun r5 u6 t H1 locs ht hvm hw7 hB hz1 hk1 hS => ?_)
      have hP := hP.kept (fun k q hk => hk1 q.1 (hP k q hk).lt (fun h => h))
      clear hz1 hk1 hPc
      generalize H1 = H at hP hS ht ⊢
      try dsimp only at hw7
      subst hw7
      refine lv_imul hx hb dX2_allFits_31 ?_
      have hPc := hP.sub (ws' := []) [] rfl
      refine va_calli (va_runSN (As := [.int 0, .int ((fe3 k2) * (wrF (fo5 j4) (fo6 j4) (fo7 j4) (fo10 k) (fo11 k)))]) (rest := []) ⟨hx, hb, hml, hown, hts⟩ (c_X10_softerByD l dC dI cI cZ cQ 0 ((fe3 k2) * (wrF (fo5 j4) (fo6 j4) (fo7 j4) (fo10 k) (fo11 k))) H.size ) ⟨va_cnB 2 hts gX2_allFits_X10_softerBy_n42 rfl rfl rfl (hN.n_X2_42) (hts (.initialized RX10) (wmx 29 rfl)) (by decide +kernel) ⟨Nat.le_of_ble_eq_true rfl, Nat.le_of_ble_eq_true rfl⟩, hts (.static yX10_softerBy) (by decide +kernel), trivial⟩ (ps_R hK hPc) rfl rfl hl.1 rfl (lv_room (Nat.le_of_ble_eq_true rfl)) dX2_allFits_32 ⟨Nat.le_of_ble_eq_true rfl, Nat.le_of_ble_eq_true rfl⟩) hS (fun q _ h => False.elim h) (fun q h => False.elim h) (fun r8 u9 t H1 locs ht hvm hw10 hB hz1 hk1 hS => ?_)
      have hP := hP.kept (fun k q hk => hk1 q.1 (hP k q hk).lt (fun h => h))
      clear hz1 hk1 hPc
      generalize H1 = H at hP hS ht ⊢
      try dsimp only at hw10
      subst hw10
      refine lv_aload_n hx hb dX2_allFits_35 rfl (lv_at hl 1 rfl) ?_
      refine va_get (D := (dC, dI)) (ci := 2) (v := .ref e4) (C := RX2) (T := TX2) (N := 5) hx hb hts hi_X2 hown hK hP 0 rfl rfl 4 (by decide) (hts (.fieldLink RX2 22 "LeftQuills$Evidence" "softness" "[I") (wmx 5 rfl)) (fun _ h9 => h9) e_h0_4 dX2_allFits_36 ?_
      refine lv_iload_n hx hb dX2_allFits_39 rfl (lv_at hl 0 rfl) ?_
      refine va_iald hx hb hK hP 3 0 rfl rfl (vp_in_nI (n := k2) (N := 6) (by omega) (by decide)) dX2_allFits_40 ?_
      refine W.eq (g2 := F0 m 41 ls [.int (fe4 k2), .int (sbF 0 ((fe3 k2) * (wrF (fo5 j4) (fo6 j4) (fo7 j4) (fo10 k) (fo11 k))))]) (congrArg (fun y9 => F0 m 41 ls (.int (fe4 y9) :: [.int (sbF 0 ((fe3 k2) * (wrF (fo5 j4) (fo6 j4) (fo7 j4) (fo10 k) (fo11 k))))])) ((nI_clamp (n := k2) (by omega)))) ?_
      refine lv_icmp_eq (tgt := 46) hx hb dX2_allFits_41 (by decide) (fun c11 => ?_) (fun c11 => ?_)
      ·
        refine lv_iinc (v := nI (k2 + 1)) (lv' := [(2, .int (nI (k2 + 1))), (0, .ref h0), (1, .int (nI k))]) hx hb dX2_allFits_46 hl (k := 0) rfl ((rfl : nI k2 + Int32.ofInt 1 = nI k2 + 1).trans (nI_add k2 1)) (by decide) rfl (fun ls hl => ?_)
        refine lv_goto (tgt := 2) hx hb dX2_allFits_49 (by decide) ?_
        exact ih2 (k2 + 1) _ _ _ (by omega) (fw_step hv2_0 ((wa_e (W := (fun j k => wrF (fo5 j) (fo6 j) (fo7 j) (fo10 k) (fo11 k))) (q := fe2) (n := fe3) (k := k) (i := k2) ejj4 (by omega)).trans c11)) hP hS (lv_sub hl [0, 1, 2] rfl)
      ·
        refine lv_iconst (v := 0) hx hb dX2_allFits_44 (by decide) ?_
        exact W.zret (v := 0) hx hb hr (rfl) (fun t ht hW => ⟨⟨0, (fun _ => 0), rfl, (Or.inr ⟨rfl, wa_x (W := (fun j k => wrF (fo5 j) (fo6 j) (fo7 j) (fo10 k) (fo11 k))) (q := fe2) (n := fe3) (s := fe4) (i := k2) ejj4 (by omega) (by omega) c11⟩), trivial⟩, hS.F ht⟩) hS.2.2 dX2_allFits_45
set_option maxHeartbeats 4000000 in
set_option maxRecDepth 100000 in
theorem c_X2_fittingHandsD (l : Launch) (dC : Nat → ClassId) (dI : Nat → Nat → Nat) (cI cZ cQ : ClassId) (h0 : Nat) (n : Nat) (ho : Nat) (e2 : Nat) (e3 : Nat) (e4 : Nat) (f_h0 : List Value) (fe2 : Nat → Int32) (fe3 : Nat → Int32) (fe4 : Nat → Int32) (o5 : Nat) (o6 : Nat) (o7 : Nat) (o10 : Nat) (o11 : Nat) (o12 : Nat) (nh : Nat) (f_ho : List Value) (fo5 : Nat → Int32) (fo6 : Nat → Int32) (fo7 : Nat → Int32) (fo10 : Nat → Int32) (fo11 : Nat → Int32) (sz : Nat) (e_h0_0 : fAt f_h0 0 = some (.int (nI n))) (e_h0_1 : fAt f_h0 1 = some (.ref ho)) (e_h0_2 : fAt f_h0 2 = some (.ref e2)) (e_h0_3 : fAt f_h0 3 = some (.ref e3)) (e_h0_4 : fAt f_h0 4 = some (.ref e4)) (e_ho_5 : fAt f_ho 5 = some (.ref o5)) (e_ho_6 : fAt f_ho 6 = some (.ref o6)) (e_ho_7 : fAt f_ho 7 = some (.ref o7)) (e_ho_10 : fAt f_ho 10 = some (.ref o10)) (e_ho_11 : fAt f_ho 11 = some (.ref o11)) (e_ho_12 : fAt f_ho 12 = some (.ref o12)) (e_ho_4 : fAt f_ho 4 = some (.int (nI nh))) (hn : n ≤ 6) (hnh : nh ≤ 4) (hqi : qIn fe2 n) : Met l yX2_fittingHands wsX2_fittingHands ({ frames := 3, cells := 0, slots := 0, locals := 107 }) (va_Pc [.ref h0] (fun U => U.heap.size = sz ∧ va_P (dC, dI) vwCl [(h0, .inr (2, f_h0)), (e2, .inl (cI, 6, .inl fe2)), (e3, .inl (cI, 6, .inl fe3)), (e4, .inl (cI, 6, .inl fe4)), (ho, .inr (5, f_ho)), (o5, .inl (cI, 8, .inl fo5)), (o6, .inl (cI, 8, .inl fo6)), (o7, .inl (cI, 8, .inl fo7)), (o10, .inl (cI, 4, .inl fo10)), (o11, .inl (cI, 4, .inl fo11))] U.heap ∧ va_K (dC, dI) vwCl (tys0 cI cZ cQ) U ∧ xN U)) (va_Qi (fun (r : Int32) (u : Nat → Nat) => fhP (wnP (fun j k => wrF (fo5 j) (fo6 j) (fo7 j) (fo10 k) (fo11 k)) fe2 fe3 fe4 n) nh r) (fun (_ : Nat → Nat) (_ : State) => True) (fun _ : Nat => False)) 0 0 (fun _ : Nat => False) := by
  refine Met.ofW (cc := cX2_fittingHands) (maxL := 3) (ret := (some .int)) (by decide) rfl ?_
  intro p e s m args below meth c s₁ B hml hv
  obtain ⟨rfl, hsz, hP, hK, hN⟩ := hv
  have hx := B.exec
  have hb := B.bytes
  have hr := B.returns
  have hts := atoms_spec (ws := wsX2_fittingHands) B.pre
  have hown : s.vm.findClass RX2 = some m.cls := findClass_of_methodNamed B.named
  have hlocks := B.notSynchronized
  have hi_X2 : ∀ w ∈ u_ws RX2 TX2 5, w ∈ wsX2_fittingHands := fun _ h => List.mem_cons_of_mem _ (List.mem_append_left _ (List.mem_append_right _ (h)))
  have hi_X5 : ∀ w ∈ u_ws RX5 TX5 13, w ∈ wsX2_fittingHands := fun _ h => List.mem_cons_of_mem _ (List.mem_append_right _ (h))
  subst hsz
  have hS : va_S (fun _ : Nat => False) s.heap s.heap [] := va_S.rf
  have hl := lv_entry ([.ref h0]) (n := 3) (Nat.le_of_ble_eq_true rfl)
  rw [lg_entry_eq]
  generalize (lg_sl ([.ref h0]) ++ List.replicate (3 - (lg_sl ([.ref h0])).length) Slot.unset).toArray = ls at hl ⊢
  have hl : lv_has ls 3 [(0, .ref h0)] := hl
  refine lv_iconst (v := 0) hx hb dX2_fittingHands_0 (by decide) ?_
  refine lv_istore_n (lv' := [(1, .int 0), (0, .ref h0)]) hx hb dX2_fittingHands_1 rfl hl (by decide) rfl (fun ls hl => ?_)
  refine lv_iconst (v := 0) hx hb dX2_fittingHands_2 (by decide) ?_
  refine lv_istore_n (lv' := [(2, .int 0), (1, .int 0), (0, .ref h0)]) hx hb dX2_fittingHands_3 rfl hl (by decide) rfl (fun ls hl => ?_)
  refine (fun (K : ∀ (d4 : Nat) (k4 : Nat) (a4_1 : Int32) (H : Heap) (locs : List Loc) (ls : Array Slot), k4 + d4 = nh → fhP (wnP (fun j k => wrF (fo5 j) (fo6 j) (fo7 j) (fo10 k) (fo11 k)) fe2 fe3 fe4 n) k4 a4_1 → va_P (dC, dI) vwCl [(h0, .inr (2, f_h0)), (e2, .inl (cI, 6, .inl fe2)), (e3, .inl (cI, 6, .inl fe3)), (e4, .inl (cI, 6, .inl fe4)), (ho, .inr (5, f_ho)), (o5, .inl (cI, 8, .inl fo5)), (o6, .inl (cI, 8, .inl fo6)), (o7, .inl (cI, 8, .inl fo7)), (o10, .inl (cI, 4, .inl fo10)), (o11, .inl (cI, 4, .inl fo11))] H → va_S (fun _ : Nat => False) s.heap H locs → lv_has ls 3 [(2, .int (nI k4)), (1, .int a4_1), (0, .ref h0)] → W p l e _ s m _ below meth c H locs _ _ _ (F0 m 4 ls [])) => K nh 0 0 _ _ _ (by omega) rfl hP hS (lv_sub hl [0, 1, 2] rfl)) ?_
  intro d4
  induction d4 with
  | zero =>
    intro k4 a4_1 H locs ls hk4 hv4_0 hP hS hl
    refine lv_iload_n hx hb dX2_fittingHands_4 rfl (lv_at hl 0 rfl) ?_
    refine lv_aload_n hx hb dX2_fittingHands_5 rfl (lv_at hl 2 rfl) ?_
    refine va_get (D := (dC, dI)) (ci := 2) (v := .ref ho) (C := RX2) (T := TX2) (N := 5) hx hb hts hi_X2 hown hK hP 0 rfl rfl 1 (by decide) (hts (.fieldLink RX2 25 "LeftQuills$Evidence" "office" "LLeftQuills$Office;") (wmx 1 rfl)) (fun _ h9 => h9) e_h0_1 dX2_fittingHands_6 ?_
    refine va_get (D := (dC, dI)) (ci := 5) (v := .int (nI nh)) (C := RX5) (T := TX5) (N := 13) hx hb hts hi_X5 hown hK hP 4 rfl rfl 4 (by decide) (hts (.fieldLink RX2 29 "LeftQuills$Office" "hands" "I") (wmx 2 rfl)) (fun _ h9 => h9) e_ho_4 dX2_fittingHands_9 ?_
    refine lv_icmp_ge (tgt := 35) hx hb dX2_fittingHands_12 (by decide) (fun c1 => ?_) (fun c1 => ?_)
    ·
      have c1 : nh ≤ k4 := (nI_leI (a := nh) (b := k4) (by omega) (by omega)).mp c1
      refine lv_iload_n hx hb dX2_fittingHands_35 rfl (lv_at hl 1 rfl) ?_
      exact W.iret (v := a4_1) hx hb hr (fun t ht hW => ⟨⟨a4_1, (fun _ => 0), rfl, (by rw [show nh = k4 from by omega]; exact hv4_0), trivial⟩, hS.F ht⟩) hS.2.2 dX2_fittingHands_36
    ·
      have c1 : ¬ nh ≤ k4 := fun h => c1 ((nI_leI (a := nh) (b := k4) (by omega) (by omega)).mpr h)
      omega
  | succ d4 ih4 =>
    intro k4 a4_1 H locs ls hk4 hv4_0 hP hS hl
    refine lv_iload_n hx hb dX2_fittingHands_4 rfl (lv_at hl 0 rfl) ?_
    refine lv_aload_n hx hb dX2_fittingHands_5 rfl (lv_at hl 2 rfl) ?_
    refine va_get (D := (dC, dI)) (ci := 2) (v := .ref ho) (C := RX2) (T := TX2) (N := 5) hx hb hts hi_X2 hown hK hP 0 rfl rfl 1 (by decide) (hts (.fieldLink RX2 25 "LeftQuills$Evidence" "office" "LLeftQuills$Office;") (wmx 1 rfl)) (fun _ h9 => h9) e_h0_1 dX2_fittingHands_6 ?_
    refine va_get (D := (dC, dI)) (ci := 5) (v := .int (nI nh)) (C := RX5) (T := TX5) (N := 13) hx hb hts hi_X5 hown hK hP 4 rfl rfl 4 (by decide) (hts (.fieldLink RX2 29 "LeftQuills$Office" "hands" "I") (wmx 2 rfl)) (fun _ h9 => h9) e_ho_4 dX2_fittingHands_9 ?_
    refine lv_icmp_ge (tgt := 35) hx hb dX2_fittingHands_12 (by decide) (fun c2 => ?_) (fun c2 => ?_)
    ·
      have c2 : nh ≤ k4 := (nI_leI (a := nh) (b := k4) (by omega) (by omega)).mp c2
      omega
    ·
      have c2 : ¬ nh ≤ k4 := fun h => c2 ((nI_leI (a := nh) (b := k4) (by omega) (by omega)).mpr h)
      refine lv_aload_n hx hb dX2_fittingHands_15 rfl (lv_at hl 2 rfl) ?_
      refine lv_iload_n hx hb dX2_fittingHands_16 rfl (lv_at hl 0 rfl) ?_
      have hPc := hP.sub (ws' := [(h0, .inr (2, f_h0)), (e2, .inl (cI, 6, .inl fe2)), (e3, .inl (cI, 6, .inl fe3)), (e4, .inl (cI, 6, .inl fe4)), (ho, .inr (5, f_ho)), (o5, .inl (cI, 8, .inl fo5)), (o6, .inl (cI, 8, .inl fo6)), (o7, .inl (cI, 8, .inl fo7)), (o10, .inl (cI, 4, .inl fo10)), (o11, .inl (cI, 4, .inl fo11))]) [0, 1, 2, 3, 4, 5, 6, 7, 8, 9] rfl
      refine va_calli (va_runV (As := [.int (nI k4)]) (rest := []) ⟨hx, hb, hml, hown, hts⟩ (c_X2_allFitsD l dC dI cI cZ cQ h0 n ho e2 e3 e4 f_h0 fe2 fe3 fe4 o5 o6 o7 o10 o11 o12 f_ho fo5 fo6 fo7 fo10 fo11 k4 H.size e_h0_0 e_h0_1 e_h0_2 e_h0_3 e_h0_4 e_ho_5 e_ho_6 e_ho_7 e_ho_10 e_ho_11 e_ho_12 (by omega) (by omega) (by first | assumption | decide)) (cwV 1 hts gX2_fittingHands_X2_allFits rfl rfl rfl hd_X2_allFits_RX2 ⟨Nat.le_of_ble_eq_true rfl, Nat.le_of_ble_eq_true rfl⟩) ⟨fun a U g mk q => by obtain ⟨q0, q1, qP, qK, qN⟩ := q; exact ⟨q0, q1, qP, va_K.moved (u := U) (U := U.calling g mk a) (Vm.Alike.refl U.vm) qK, qN.calling⟩, va_recv hK hP (ci := 2) (q0 := 0) rfl rfl, fun U hU hW => ⟨rfl, by rw [hU], by rw [hU]; exact hPc, va_K.moved hW.alike hK, hN.warm hW⟩⟩ rfl rfl hl.1 rfl (lv_room (Nat.le_of_ble_eq_true rfl)) dX2_fittingHands_17 ⟨Nat.le_of_ble_eq_true rfl, Nat.le_of_ble_eq_true rfl⟩) hS (fun q _ h => False.elim h) (fun q h => False.elim h) (fun r3 u4 t H1 locs ht hvm hw5 hB hz1 hk1 hS => ?_)
      have hP := hP.kept (fun k q hk => hk1 q.1 (hP k q hk).lt (fun h => h))
      clear hz1 hk1 hPc
      generalize H1 = H at hP hS ht ⊢
      try dsimp only at hw5
      rcases hw5 with ⟨rfl, hw5⟩ | ⟨rfl, hw5⟩
      ·
        refine lv_if_eq (tgt := 29) hx hb dX2_fittingHands_20 (by decide) (fun c6 => ?_) (fun c6 => ?_)
        · exact absurd c6 (by decide)
        clear c6
        refine lv_iload_n hx hb dX2_fittingHands_23 rfl (lv_at hl 1 rfl) ?_
        refine lv_iconst (v := 1) hx hb dX2_fittingHands_24 (by decide) ?_
        refine lv_iload_n hx hb dX2_fittingHands_25 rfl (lv_at hl 0 rfl) ?_
        refine lv_ishl hx hb dX2_fittingHands_26 ?_
        refine lv_ior hx hb dX2_fittingHands_27 ?_
        refine lv_istore_n (lv' := [(1, .int (a4_1 ||| (1 <<< ((nI k4) &&& 31)))), (2, .int (nI k4)), (0, .ref h0)]) hx hb dX2_fittingHands_28 rfl hl (by decide) rfl (fun ls hl => ?_)
        refine lv_iinc (v := nI (k4 + 1)) (lv' := [(2, .int (nI (k4 + 1))), (1, .int (a4_1 ||| (1 <<< ((nI k4) &&& 31)))), (0, .ref h0)]) hx hb dX2_fittingHands_29 hl (k := 1) rfl ((rfl : nI k4 + Int32.ofInt 1 = nI k4 + 1).trans (nI_add k4 1)) (by decide) rfl (fun ls hl => ?_)
        refine lv_goto (tgt := 4) hx hb dX2_fittingHands_32 (by decide) ?_
        exact ih4 (k4 + 1) (a4_1 ||| (1 <<< ((nI k4) &&& 31))) _ _ _ (by omega) (fh_y hv4_0 hw5) hP hS (lv_sub hl [0, 1, 2] rfl)
      ·
        refine lv_if_eq (tgt := 29) hx hb dX2_fittingHands_20 (by decide) (fun c7 => ?_) (fun c7 => ?_)
        rotate_left
        · exact absurd c7 (by decide)
        clear c7
        refine lv_iinc (v := nI (k4 + 1)) (lv' := [(2, .int (nI (k4 + 1))), (1, .int a4_1), (0, .ref h0)]) hx hb dX2_fittingHands_29 hl (k := 0) rfl ((rfl : nI k4 + Int32.ofInt 1 = nI k4 + 1).trans (nI_add k4 1)) (by decide) rfl (fun ls hl => ?_)
        refine lv_goto (tgt := 4) hx hb dX2_fittingHands_32 (by decide) ?_
        exact ih4 (k4 + 1) a4_1 _ _ _ (by omega) (fh_n hv4_0 hw5) hP hS (lv_sub hl [0, 1, 2] rfl)
set_option maxHeartbeats 4000000 in
set_option maxRecDepth 100000 in
theorem c_X11_softAfterD (l : Launch) (dC : Nat → ClassId) (dI : Nat → Nat → Nat) (cI cZ cQ : ClassId) (h0 : Nat) (m3 : Nat) (m4 : Nat) (m5 : Nat) (m7 : Nat) (m8 : Nat) (f_h0 : List Value) (fm3 : Nat → Int32) (fm4 : Nat → Int32) (fm5 : Nat → Int32) (fm7 : Nat → Int32) (fm8 : Nat → Int32) (j : Nat) (k : Nat) (mo : Nat) (nq : Nat) (sz : Nat) (e_h0_3 : fAt f_h0 3 = some (.ref m3)) (e_h0_4 : fAt f_h0 4 = some (.ref m4)) (e_h0_5 : fAt f_h0 5 = some (.ref m5)) (e_h0_7 : fAt f_h0 7 = some (.ref m7)) (e_h0_8 : fAt f_h0 8 = some (.ref m8)) (hnq : nq ≤ 8) (hci : cIn fm5 nq) (hj : j < nq) (hk : k < 4) (hmo : mo ≤ 9) : Met l yX11_softAfter wsX11_softAfter ({ frames := 3, cells := 0, slots := 0, locals := 109 }) (va_Pc [.ref h0, .int (nI j), .int (nI k), .int (nI mo)] (fun U => U.heap.size = sz ∧ va_P (dC, dI) vwCl [(h0, .inr (11, f_h0)), (m3, .inl (cI, 8, .inl fm3)), (m4, .inl (cI, 8, .inl fm4)), (m5, .inl (cI, 8, .inl fm5)), (m7, .inl (cI, 4, .inl fm7)), (m8, .inl (cI, 4, .inl fm8))] U.heap ∧ va_K (dC, dI) vwCl (tys0 cI cZ cQ) U)) (va_Qi (fun (r : Int32) (u : Nat → Nat) => r = saF (wrF (fm3 j) (fm4 j) (fm5 j) (fm7 k) (fm8 k)) mo) (fun (_ : Nat → Nat) (_ : State) => True) (fun _ : Nat => False)) 0 0 (fun _ : Nat => False) := by
  refine Met.ofW (cc := cX11_softAfter) (maxL := 6) (ret := (some .int)) (by decide) rfl ?_
  intro p e s m args below meth c s₁ B hml hv
  obtain ⟨rfl, hsz, hP, hK⟩ := hv
  have hx := B.exec
  have hb := B.bytes
  have hr := B.returns
  have hts := atoms_spec (ws := wsX11_softAfter) B.pre
  have hown : s.vm.findClass RX11 = some m.cls := findClass_of_methodNamed B.named
  have hlocks := B.notSynchronized
  subst hsz
  have hS : va_S (fun _ : Nat => False) s.heap s.heap [] := va_S.rf
  have hl := lv_entry ([.ref h0, .int (nI j), .int (nI k), .int (nI mo)]) (n := 6) (Nat.le_of_ble_eq_true rfl)
  rw [lg_entry_eq]
  generalize (lg_sl ([.ref h0, .int (nI j), .int (nI k), .int (nI mo)]) ++ List.replicate (6 - (lg_sl ([.ref h0, .int (nI j), .int (nI k), .int (nI mo)])).length) Slot.unset).toArray = ls at hl ⊢
  have hl : lv_has ls 6 [(0, .ref h0), (1, .int (nI j)), (2, .int (nI k)), (3, .int (nI mo))] := hl
  refine lv_iconst (v := 0) hx hb dX11_softAfter_0 (by decide) ?_
  refine lv_istore (lv' := [(4, .int 0), (0, .ref h0), (1, .int (nI j)), (2, .int (nI k)), (3, .int (nI mo))]) hx hb dX11_softAfter_1 hl (by decide) rfl (fun ls hl => ?_)
  refine lv_iconst (v := 0) hx hb dX11_softAfter_3 (by decide) ?_
  refine lv_istore (lv' := [(5, .int 0), (4, .int 0), (0, .ref h0), (1, .int (nI j)), (2, .int (nI k)), (3, .int (nI mo))]) hx hb dX11_softAfter_4 hl (by decide) rfl (fun ls hl => ?_)
  refine (fun (K : ∀ (d6 : Nat) (k6 : Nat) (a6_4 : Int32) (H : Heap) (locs : List Loc) (ls : Array Slot), k6 + d6 = mo → a6_4 = saF (wrF (fm3 j) (fm4 j) (fm5 j) (fm7 k) (fm8 k)) k6 → va_P (dC, dI) vwCl [(h0, .inr (11, f_h0)), (m3, .inl (cI, 8, .inl fm3)), (m4, .inl (cI, 8, .inl fm4)), (m5, .inl (cI, 8, .inl fm5)), (m7, .inl (cI, 4, .inl fm7)), (m8, .inl (cI, 4, .inl fm8))] H → va_S (fun _ : Nat => False) s.heap H locs → lv_has ls 6 [(5, .int (nI k6)), (4, .int a6_4), (0, .ref h0), (1, .int (nI j)), (2, .int (nI k)), (3, .int (nI mo))] → W p l e _ s m _ below meth c H locs _ _ _ (F0 m 6 ls [])) => K mo 0 0 _ _ _ (by omega) rfl hP hS (lv_sub hl [0, 1, 2, 3, 4, 5] rfl)) ?_
  intro d6
  induction d6 with
  | zero =>
    intro k6 a6_4 H locs ls hk6 hv6_0 hP hS hl
    refine lv_iload hx hb dX11_softAfter_6 (lv_at hl 0 rfl) ?_
    refine lv_iload_n hx hb dX11_softAfter_8 rfl (lv_at hl 5 rfl) ?_
    refine lv_icmp_ge (tgt := 28) hx hb dX11_softAfter_9 (by decide) (fun c1 => ?_) (fun c1 => ?_)
    ·
      have c1 : mo ≤ k6 := (nI_leI (a := mo) (b := k6) (by omega) (by omega)).mp c1
      refine lv_iload hx hb dX11_softAfter_28 (lv_at hl 1 rfl) ?_
      exact W.iret (v := a6_4) hx hb hr (fun t ht hW => ⟨⟨a6_4, (fun _ => 0), rfl, (hv6_0.trans (by rw [show k6 = mo from by omega])), trivial⟩, hS.F ht⟩) hS.2.2 dX11_softAfter_30
    ·
      have c1 : ¬ mo ≤ k6 := fun h => c1 ((nI_leI (a := mo) (b := k6) (by omega) (by omega)).mpr h)
      omega
  | succ d6 ih6 =>
    intro k6 a6_4 H locs ls hk6 hv6_0 hP hS hl
    refine lv_iload hx hb dX11_softAfter_6 (lv_at hl 0 rfl) ?_
    refine lv_iload_n hx hb dX11_softAfter_8 rfl (lv_at hl 5 rfl) ?_
    refine lv_icmp_ge (tgt := 28) hx hb dX11_softAfter_9 (by decide) (fun c2 => ?_) (fun c2 => ?_)
    ·
      have c2 : mo ≤ k6 := (nI_leI (a := mo) (b := k6) (by omega) (by omega)).mp c2
      omega
    ·
      have c2 : ¬ mo ≤ k6 := fun h => c2 ((nI_leI (a := mo) (b := k6) (by omega) (by omega)).mpr h)
      refine lv_aload_n hx hb dX11_softAfter_12 rfl (lv_at hl 2 rfl) ?_
      refine lv_iload hx hb dX11_softAfter_13 (lv_at hl 1 rfl) ?_
      refine lv_iload_n hx hb dX11_softAfter_15 rfl (lv_at hl 3 rfl) ?_
      refine lv_iload_n hx hb dX11_softAfter_16 rfl (lv_at hl 4 rfl) ?_
      have hPc := hP.sub (ws' := [(h0, .inr (11, f_h0)), (m3, .inl (cI, 8, .inl fm3)), (m4, .inl (cI, 8, .inl fm4)), (m5, .inl (cI, 8, .inl fm5)), (m7, .inl (cI, 4, .inl fm7)), (m8, .inl (cI, 4, .inl fm8))]) [0, 1, 2, 3, 4, 5] rfl
      refine va_calli (va_runV (As := [.int a6_4, .int (nI j), .int (nI k)]) (rest := []) ⟨hx, hb, hml, hown, hts⟩ (c_X11_softBehindD l dC dI cI cZ cQ h0 m3 m4 m5 m7 m8 f_h0 fm3 fm4 fm5 fm7 fm8 a6_4 j k nq H.size e_h0_3 e_h0_4 e_h0_5 e_h0_7 e_h0_8 (by omega) (by first | assumption | decide) (by omega) (by omega)) (cwV 3 hts gX11_softAfter_X11_softBehind rfl rfl rfl hd_X11_softBehind_RX11 ⟨Nat.le_of_ble_eq_true rfl, Nat.le_of_ble_eq_true rfl⟩) (pv_R (va_recv hK hP (ci := 11) (q0 := 0) rfl rfl) hK hPc) rfl rfl hl.1 rfl (lv_room (Nat.le_of_ble_eq_true rfl)) dX11_softAfter_17 ⟨Nat.le_of_ble_eq_true rfl, Nat.le_of_ble_eq_true rfl⟩) hS (fun q _ h => False.elim h) (fun q h => False.elim h) (fun r3 u4 t H1 locs ht hvm hw5 hB hz1 hk1 hS => ?_)
      have hP := hP.kept (fun k q hk => hk1 q.1 (hP k q hk).lt (fun h => h))
      clear hz1 hk1 hPc
      generalize H1 = H at hP hS ht ⊢
      try dsimp only at hw5
      subst hw5
      refine lv_istore (lv' := [(4, .int (sbF a6_4 (wrF (fm3 j) (fm4 j) (fm5 j) (fm7 k) (fm8 k)))), (5, .int (nI k6)), (0, .ref h0), (1, .int (nI j)), (2, .int (nI k)), (3, .int (nI mo))]) hx hb dX11_softAfter_20 hl (by decide) rfl (fun ls hl => ?_)
      refine lv_iinc (v := nI (k6 + 1)) (lv' := [(5, .int (nI (k6 + 1))), (4, .int (sbF a6_4 (wrF (fm3 j) (fm4 j) (fm5 j) (fm7 k) (fm8 k)))), (0, .ref h0), (1, .int (nI j)), (2, .int (nI k)), (3, .int (nI mo))]) hx hb dX11_softAfter_22 hl (k := 1) rfl ((rfl : nI k6 + Int32.ofInt 1 = nI k6 + 1).trans (nI_add k6 1)) (by decide) rfl (fun ls hl => ?_)
      refine lv_goto (tgt := 6) hx hb dX11_softAfter_25 (by decide) ?_
      exact ih6 (k6 + 1) (sbF a6_4 (wrF (fm3 j) (fm4 j) (fm5 j) (fm7 k) (fm8 k))) _ _ _ (by omega) (by rw [hv6_0]; rfl) hP hS (lv_sub hl [0, 1, 2, 3, 4, 5] rfl)
set_option maxHeartbeats 4000000 in
set_option maxRecDepth 100000 in
theorem c_X11_handsThatFitD (l : Launch) (dC : Nat → ClassId) (dI : Nat → Nat → Nat) (cI cZ cQ : ClassId) (h0 : Nat) (nq : Nat) (nh : Nat) (m3 : Nat) (m4 : Nat) (m5 : Nat) (m7 : Nat) (m8 : Nat) (wm : Nat) (m38 : Nat) (m39 : Nat) (m40 : Nat) (f_h0 : List Value) (fm3 : Nat → Int32) (fm4 : Nat → Int32) (fm5 : Nat → Int32) (fm7 : Nat → Int32) (fm8 : Nat → Int32) (fm38 : Nat → Int32) (fm39 : Nat → Int32) (fm40 : Nat → Int32) (sz : Nat) (e_h0_2 : fAt f_h0 2 = some (.int (nI nq))) (e_h0_6 : fAt f_h0 6 = some (.int (nI nh))) (e_h0_3 : fAt f_h0 3 = some (.ref m3)) (e_h0_4 : fAt f_h0 4 = some (.ref m4)) (e_h0_5 : fAt f_h0 5 = some (.ref m5)) (e_h0_7 : fAt f_h0 7 = some (.ref m7)) (e_h0_8 : fAt f_h0 8 = some (.ref m8)) (e_h0_37 : fAt f_h0 37 = some (.int (nI wm))) (e_h0_38 : fAt f_h0 38 = some (.ref m38)) (e_h0_39 : fAt f_h0 39 = some (.ref m39)) (e_h0_40 : fAt f_h0 40 = some (.ref m40)) (hnq : nq ≤ 8) (hci : cIn fm5 nq) (hnh : nh ≤ 4) (hwm : wm ≤ 6) (hqi : qLt fm38 wm nq) (hpi : cIn fm39 wm) : Met l yX11_handsThatFit wsX11_handsThatFit ({ frames := 4, cells := 0, slots := 0, locals := 134 }) (va_Pc [.ref h0] (fun U => U.heap.size = sz ∧ va_P (dC, dI) vwCl [(h0, .inr (11, f_h0)), (m3, .inl (cI, 8, .inl fm3)), (m4, .inl (cI, 8, .inl fm4)), (m5, .inl (cI, 8, .inl fm5)), (m7, .inl (cI, 4, .inl fm7)), (m8, .inl (cI, 4, .inl fm8)), (m38, .inl (cI, 6, .inl fm38)), (m39, .inl (cI, 6, .inl fm39)), (m40, .inl (cI, 6, .inl fm40))] U.heap ∧ va_K (dC, dI) vwCl (tys0 cI cZ cQ) U)) (va_Qi (fun (r : Int32) (u : Nat → Nat) => fhP (wnQ (fun j k => wrF (fm3 j) (fm4 j) (fm5 j) (fm7 k) (fm8 k)) fm38 fm39 fm40 wm) nh r) (fun (_ : Nat → Nat) (_ : State) => True) (fun _ : Nat => False)) 0 0 (fun _ : Nat => False) := by
  refine Met.ofW (cc := cX11_handsThatFit) (maxL := 5) (ret := (some .int)) (by decide) rfl ?_
  intro p e s m args below meth c s₁ B hml hv
  obtain ⟨rfl, hsz, hP, hK⟩ := hv
  have hx := B.exec
  have hb := B.bytes
  have hr := B.returns
  have hts := atoms_spec (ws := wsX11_handsThatFit) B.pre
  have hown : s.vm.findClass RX11 = some m.cls := findClass_of_methodNamed B.named
  have hlocks := B.notSynchronized
  have hi_X11 : ∀ w ∈ u_ws RX11 TX11 46, w ∈ wsX11_handsThatFit := fun _ h => List.mem_cons_of_mem _ (List.mem_append_right _ (h))
  subst hsz
  have hS : va_S (fun _ : Nat => False) s.heap s.heap [] := va_S.rf
  have hl := lv_entry ([.ref h0]) (n := 5) (Nat.le_of_ble_eq_true rfl)
  rw [lg_entry_eq]
  generalize (lg_sl ([.ref h0]) ++ List.replicate (5 - (lg_sl ([.ref h0])).length) Slot.unset).toArray = ls at hl ⊢
  have hl : lv_has ls 5 [(0, .ref h0)] := hl
  refine lv_iconst (v := 0) hx hb dX11_handsThatFit_0 (by decide) ?_
  refine lv_istore_n (lv' := [(1, .int 0), (0, .ref h0)]) hx hb dX11_handsThatFit_1 rfl hl (by decide) rfl (fun ls hl => ?_)
  refine lv_iconst (v := 0) hx hb dX11_handsThatFit_2 (by decide) ?_
  refine lv_istore_n (lv' := [(2, .int 0), (1, .int 0), (0, .ref h0)]) hx hb dX11_handsThatFit_3 rfl hl (by decide) rfl (fun ls hl => ?_)
  refine (fun (K : ∀ (d4 : Nat) (k4 : Nat) (a4_1 : Int32) (H : Heap) (locs : List Loc) (ls : Array Slot), k4 + d4 = nh → fhP (wnQ (fun j k => wrF (fm3 j) (fm4 j) (fm5 j) (fm7 k) (fm8 k)) fm38 fm39 fm40 wm) k4 a4_1 → va_P (dC, dI) vwCl [(h0, .inr (11, f_h0)), (m3, .inl (cI, 8, .inl fm3)), (m4, .inl (cI, 8, .inl fm4)), (m5, .inl (cI, 8, .inl fm5)), (m7, .inl (cI, 4, .inl fm7)), (m8, .inl (cI, 4, .inl fm8)), (m38, .inl (cI, 6, .inl fm38)), (m39, .inl (cI, 6, .inl fm39)), (m40, .inl (cI, 6, .inl fm40))] H → va_S (fun _ : Nat => False) s.heap H locs → lv_has ls 5 [(2, .int (nI k4)), (1, .int a4_1), (0, .ref h0)] → W p l e _ s m _ below meth c H locs _ _ _ (F0 m 4 ls [])) => K nh 0 0 _ _ _ (by omega) rfl hP hS (lv_sub hl [0, 1, 2] rfl)) ?_
  intro d4
  induction d4 with
  | zero =>
    intro k4 a4_1 H locs ls hk4 hv4_0 hP hS hl
    refine lv_iload_n hx hb dX11_handsThatFit_4 rfl (lv_at hl 0 rfl) ?_
    refine lv_aload_n hx hb dX11_handsThatFit_5 rfl (lv_at hl 2 rfl) ?_
    refine va_get (D := (dC, dI)) (ci := 11) (v := .int (nI nh)) (C := RX11) (T := TX11) (N := 46) hx hb hts hi_X11 hown hK hP 0 rfl rfl 6 (by decide) (hts (.fieldLink RX11 106 "LeftQuillsModel" "hands" "I") (wmx 1 rfl)) (fun _ h9 => h9) e_h0_6 dX11_handsThatFit_6 ?_
    refine lv_icmp_ge (tgt := 91) hx hb dX11_handsThatFit_9 (by decide) (fun c1 => ?_) (fun c1 => ?_)
    ·
      have c1 : nh ≤ k4 := (nI_leI (a := nh) (b := k4) (by omega) (by omega)).mp c1
      refine lv_iload_n hx hb dX11_handsThatFit_91 rfl (lv_at hl 1 rfl) ?_
      exact W.iret (v := a4_1) hx hb hr (fun t ht hW => ⟨⟨a4_1, (fun _ => 0), rfl, (by rw [show nh = k4 from by omega]; exact hv4_0), trivial⟩, hS.F ht⟩) hS.2.2 dX11_handsThatFit_92
    ·
      have c1 : ¬ nh ≤ k4 := fun h => c1 ((nI_leI (a := nh) (b := k4) (by omega) (by omega)).mpr h)
      omega
  | succ d4 ih4 =>
    intro k4 a4_1 H locs ls hk4 hv4_0 hP hS hl
    refine lv_iload_n hx hb dX11_handsThatFit_4 rfl (lv_at hl 0 rfl) ?_
    refine lv_aload_n hx hb dX11_handsThatFit_5 rfl (lv_at hl 2 rfl) ?_
    refine va_get (D := (dC, dI)) (ci := 11) (v := .int (nI nh)) (C := RX11) (T := TX11) (N := 46) hx hb hts hi_X11 hown hK hP 0 rfl rfl 6 (by decide) (hts (.fieldLink RX11 106 "LeftQuillsModel" "hands" "I") (wmx 1 rfl)) (fun _ h9 => h9) e_h0_6 dX11_handsThatFit_6 ?_
    refine lv_icmp_ge (tgt := 91) hx hb dX11_handsThatFit_9 (by decide) (fun c2 => ?_) (fun c2 => ?_)
    ·
      have c2 : nh ≤ k4 := (nI_leI (a := nh) (b := k4) (by omega) (by omega)).mp c2
      omega
    ·
      have c2 : ¬ nh ≤ k4 := fun h => c2 ((nI_leI (a := nh) (b := k4) (by omega) (by omega)).mpr h)
      refine lv_iconst (v := 1) hx hb dX11_handsThatFit_12 (by decide) ?_
      refine lv_istore_n (lv' := [(3, .int 1), (2, .int (nI k4)), (1, .int a4_1), (0, .ref h0)]) hx hb dX11_handsThatFit_13 rfl hl (by decide) rfl (fun ls hl => ?_)
      refine lv_iconst (v := 0) hx hb dX11_handsThatFit_14 (by decide) ?_
      refine lv_istore (lv' := [(4, .int 0), (3, .int 1), (2, .int (nI k4)), (1, .int a4_1), (0, .ref h0)]) hx hb dX11_handsThatFit_15 hl (by decide) rfl (fun ls hl => ?_)
      refine (fun (K : ∀ (d17 : Nat) (k17 : Nat) (a17_3 : Nat) (H : Heap) (locs : List Loc) (ls : Array Slot), k17 + d17 = wm → a17_3 ≤ 1 → (Hid (a17_3 = 1 ↔ ∀ i, i < k17 → wnM (fun j k => wrF (fm3 j) (fm4 j) (fm5 j) (fm7 k) (fm8 k)) fm38 fm39 k4 i = fm40 i)) → va_P (dC, dI) vwCl [(h0, .inr (11, f_h0)), (m3, .inl (cI, 8, .inl fm3)), (m4, .inl (cI, 8, .inl fm4)), (m5, .inl (cI, 8, .inl fm5)), (m7, .inl (cI, 4, .inl fm7)), (m8, .inl (cI, 4, .inl fm8)), (m38, .inl (cI, 6, .inl fm38)), (m39, .inl (cI, 6, .inl fm39)), (m40, .inl (cI, 6, .inl fm40))] H → va_S (fun _ : Nat => False) s.heap H locs → lv_has ls 5 [(4, .int (nI k17)), (3, .int (nI a17_3)), (2, .int (nI k4)), (1, .int a4_1), (0, .ref h0)] → W p l e _ s m _ below meth c H locs _ _ _ (F0 m 17 ls [])) => K wm 0 1 _ _ _ (by omega) (by omega) (Hid.mk ⟨fun _ => (fun i hi => absurd hi (by omega)), fun _ => rfl⟩) hP hS (lv_sub hl [0, 1, 2, 3, 4] rfl)) ?_
      intro d17
      induction d17 with
      | zero =>
        intro k17 a17_3 H locs ls hk17 hn17_3 hv17_0 hP hS hl
        refine lv_iload hx hb dX11_handsThatFit_17 (lv_at hl 0 rfl) ?_
        refine lv_aload_n hx hb dX11_handsThatFit_19 rfl (lv_at hl 4 rfl) ?_
        refine va_get (D := (dC, dI)) (ci := 11) (v := .int (nI wm)) (C := RX11) (T := TX11) (N := 46) hx hb hts hi_X11 hown hK hP 0 rfl rfl 37 (by decide) (hts (.fieldLink RX11 168 "LeftQuillsModel" "wornMany" "I") (wmx 2 rfl)) (fun _ h9 => h9) e_h0_37 dX11_handsThatFit_20 ?_
        refine lv_icmp_ge (tgt := 71) hx hb dX11_handsThatFit_23 (by decide) (fun c3 => ?_) (fun c3 => ?_)
        ·
          have c3 : wm ≤ k17 := (nI_leI (a := wm) (b := k17) (by omega) (by omega)).mp c3
          refine lv_iload_n hx hb dX11_handsThatFit_71 rfl (lv_at hl 3 rfl) ?_
          refine lv_iload_n hx hb dX11_handsThatFit_72 rfl (lv_at hl 1 rfl) ?_
          refine lv_if_eq (tgt := 82) hx hb dX11_handsThatFit_73 (by decide) (fun c4 => ?_) (fun c4 => ?_)
          ·
            have c4 : a17_3 = 0 := (nI_eq (a := a17_3) (b := 0) (by omega) (by omega)).mp c4
            refine lv_iconst (v := 0) hx hb dX11_handsThatFit_82 (by decide) ?_
            refine lv_ior hx hb dX11_handsThatFit_83 ?_
            refine lv_istore_n (lv' := [(1, .int (a4_1 ||| 0)), (4, .int (nI k17)), (3, .int (nI a17_3)), (2, .int (nI k4)), (0, .ref h0)]) hx hb dX11_handsThatFit_84 rfl hl (by decide) rfl (fun ls hl => ?_)
            refine lv_iinc (v := nI (k4 + 1)) (lv' := [(2, .int (nI (k4 + 1))), (1, .int (a4_1 ||| 0)), (4, .int (nI k17)), (3, .int (nI a17_3)), (0, .ref h0)]) hx hb dX11_handsThatFit_85 hl (k := 3) rfl ((rfl : nI k4 + Int32.ofInt 1 = nI k4 + 1).trans (nI_add k4 1)) (by decide) rfl (fun ls hl => ?_)
            refine lv_goto (tgt := 4) hx hb dX11_handsThatFit_88 (by decide) ?_
            exact ih4 (k4 + 1) (a4_1 ||| 0) _ _ _ (by omega) (by rw [Int32.or_zero]; exact fh_n hv4_0 (fun h9 => absurd (hv17_0.out.mpr (fun i hi => h9 i (by omega))) (by omega))) hP hS (lv_sub hl [0, 1, 4] rfl)
          ·
            have c4 : ¬ a17_3 = 0 := fun h => c4 ((nI_eq (a := a17_3) (b := 0) (by omega) (by omega)).mpr h)
            refine lv_iconst (v := 1) hx hb dX11_handsThatFit_76 (by decide) ?_
            refine lv_iload_n hx hb dX11_handsThatFit_77 rfl (lv_at hl 2 rfl) ?_
            refine lv_ishl hx hb dX11_handsThatFit_78 ?_
            refine lv_goto (tgt := 83) hx hb dX11_handsThatFit_79 (by decide) ?_
            refine lv_ior hx hb dX11_handsThatFit_83 ?_
            refine lv_istore_n (lv' := [(1, .int (a4_1 ||| (1 <<< ((nI k4) &&& 31)))), (4, .int (nI k17)), (3, .int (nI a17_3)), (2, .int (nI k4)), (0, .ref h0)]) hx hb dX11_handsThatFit_84 rfl hl (by decide) rfl (fun ls hl => ?_)
            refine lv_iinc (v := nI (k4 + 1)) (lv' := [(2, .int (nI (k4 + 1))), (1, .int (a4_1 ||| (1 <<< ((nI k4) &&& 31)))), (4, .int (nI k17)), (3, .int (nI a17_3)), (0, .ref h0)]) hx hb dX11_handsThatFit_85 hl (k := 3) rfl ((rfl : nI k4 + Int32.ofInt 1 = nI k4 + 1).trans (nI_add k4 1)) (by decide) rfl (fun ls hl => ?_)
            refine lv_goto (tgt := 4) hx hb dX11_handsThatFit_88 (by decide) ?_
            exact ih4 (k4 + 1) (a4_1 ||| (1 <<< ((nI k4) &&& 31))) _ _ _ (by omega) (fh_y hv4_0 (fun i hi => (hv17_0.out.mp (by omega)) i (by omega))) hP hS (lv_sub hl [0, 1, 4] rfl)
        ·
          have c3 : ¬ wm ≤ k17 := fun h => c3 ((nI_leI (a := wm) (b := k17) (by omega) (by omega)).mpr h)
          omega
      | succ d17 ih17 =>
        intro k17 a17_3 H locs ls hk17 hn17_3 hv17_0 hP hS hl
        refine lv_iload hx hb dX11_handsThatFit_17 (lv_at hl 0 rfl) ?_
        refine lv_aload_n hx hb dX11_handsThatFit_19 rfl (lv_at hl 4 rfl) ?_
        refine va_get (D := (dC, dI)) (ci := 11) (v := .int (nI wm)) (C := RX11) (T := TX11) (N := 46) hx hb hts hi_X11 hown hK hP 0 rfl rfl 37 (by decide) (hts (.fieldLink RX11 168 "LeftQuillsModel" "wornMany" "I") (wmx 2 rfl)) (fun _ h9 => h9) e_h0_37 dX11_handsThatFit_20 ?_
        refine lv_icmp_ge (tgt := 71) hx hb dX11_handsThatFit_23 (by decide) (fun c5 => ?_) (fun c5 => ?_)
        ·
          have c5 : wm ≤ k17 := (nI_leI (a := wm) (b := k17) (by omega) (by omega)).mp c5
          omega
        ·
          have c5 : ¬ wm ≤ k17 := fun h => c5 ((nI_leI (a := wm) (b := k17) (by omega) (by omega)).mpr h)
          refine lv_iload_n hx hb dX11_handsThatFit_26 rfl (lv_at hl 1 rfl) ?_
          refine lv_if_eq (tgt := 63) hx hb dX11_handsThatFit_27 (by decide) (fun c6 => ?_) (fun c6 => ?_)
          ·
            have c6 : a17_3 = 0 := (nI_eq (a := a17_3) (b := 0) (by omega) (by omega)).mp c6
            refine lv_iconst (v := 0) hx hb dX11_handsThatFit_63 (by decide) ?_
            refine lv_istore_n (lv' := [(3, .int 0), (4, .int (nI k17)), (2, .int (nI k4)), (1, .int a4_1), (0, .ref h0)]) hx hb dX11_handsThatFit_64 rfl hl (by decide) rfl (fun ls hl => ?_)
            refine lv_iinc (v := nI (k17 + 1)) (lv' := [(4, .int (nI (k17 + 1))), (3, .int 0), (2, .int (nI k4)), (1, .int a4_1), (0, .ref h0)]) hx hb dX11_handsThatFit_65 hl (k := 1) rfl ((rfl : nI k17 + Int32.ofInt 1 = nI k17 + 1).trans (nI_add k17 1)) (by decide) rfl (fun ls hl => ?_)
            refine lv_goto (tgt := 17) hx hb dX11_handsThatFit_68 (by decide) ?_
            exact ih17 (k17 + 1) 0 _ _ _ (by omega) (by omega) (b_iffn hv17_0 (by omega)) hP hS (lv_sub hl [0, 1, 2, 3, 4] rfl)
          ·
            have c6 : ¬ a17_3 = 0 := fun h => c6 ((nI_eq (a := a17_3) (b := 0) (by omega) (by omega)).mpr h)
            refine lv_aload_n hx hb dX11_handsThatFit_30 rfl (lv_at hl 4 rfl) ?_
            refine lv_aload_n hx hb dX11_handsThatFit_31 rfl (lv_at hl 4 rfl) ?_
            refine va_get (D := (dC, dI)) (ci := 11) (v := .ref m38) (C := RX11) (T := TX11) (N := 46) hx hb hts hi_X11 hown hK hP 0 rfl rfl 38 (by decide) (hts (.fieldLink RX11 74 "LeftQuillsModel" "wornQuill" "[I") (wmx 3 rfl)) (fun _ h9 => h9) e_h0_38 dX11_handsThatFit_32 ?_
            refine lv_iload hx hb dX11_handsThatFit_35 (lv_at hl 0 rfl) ?_
            refine va_iald hx hb hK hP 6 0 rfl rfl (vp_in_nI (n := k17) (N := 6) (by omega) (by decide)) dX11_handsThatFit_37 ?_
            refine W.eq (g2 := F0 m 38 ls [.int (fm38 k17), .ref h0]) (congrArg (fun y9 => F0 m 38 ls (.int (fm38 y9) :: [.ref h0])) ((nI_clamp (n := k17) (by omega)))) ?_
            refine lv_topi (fun z7 ez7 => ?_)
            obtain ⟨j8, hj8, ejj8⟩ := hqi k17 (by omega)
            obtain rfl : z7 = nI j8 := ez7.trans (ejj8)
            refine lv_iload_n hx hb dX11_handsThatFit_38 rfl (lv_at hl 2 rfl) ?_
            refine lv_aload_n hx hb dX11_handsThatFit_39 rfl (lv_at hl 4 rfl) ?_
            refine va_get (D := (dC, dI)) (ci := 11) (v := .ref m39) (C := RX11) (T := TX11) (N := 46) hx hb hts hi_X11 hown hK hP 0 rfl rfl 39 (by decide) (hts (.fieldLink RX11 77 "LeftQuillsModel" "wornPages" "[I") (wmx 4 rfl)) (fun _ h9 => h9) e_h0_39 dX11_handsThatFit_40 ?_
            refine lv_iload hx hb dX11_handsThatFit_43 (lv_at hl 0 rfl) ?_
            refine va_iald hx hb hK hP 7 0 rfl rfl (vp_in_nI (n := k17) (N := 6) (by omega) (by decide)) dX11_handsThatFit_45 ?_
            refine W.eq (g2 := F0 m 46 ls [.int (fm39 k17), .int (nI k4), .int (nI j8), .ref h0]) (congrArg (fun y9 => F0 m 46 ls (.int (fm39 y9) :: [.int (nI k4), .int (nI j8), .ref h0])) ((nI_clamp (n := k17) (by omega)))) ?_
            refine lv_topi (fun z9 ez9 => ?_)
            obtain ⟨j10, hj10, ejj10⟩ := hpi k17 (by omega)
            obtain rfl : z9 = nI j10 := ez9.trans (ejj10)
            have hPc := hP.sub (ws' := [(h0, .inr (11, f_h0)), (m3, .inl (cI, 8, .inl fm3)), (m4, .inl (cI, 8, .inl fm4)), (m5, .inl (cI, 8, .inl fm5)), (m7, .inl (cI, 4, .inl fm7)), (m8, .inl (cI, 4, .inl fm8))]) [0, 1, 2, 3, 4, 5] rfl
            refine va_calli (va_runV (As := [.int (nI j8), .int (nI k4), .int (nI j10)]) (rest := []) ⟨hx, hb, hml, hown, hts⟩ (c_X11_softAfterD l dC dI cI cZ cQ h0 m3 m4 m5 m7 m8 f_h0 fm3 fm4 fm5 fm7 fm8 j8 k4 j10 nq H.size e_h0_3 e_h0_4 e_h0_5 e_h0_7 e_h0_8 (by omega) (by first | assumption | decide) (by omega) (by omega) (by omega)) (cwV 3 hts gX11_handsThatFit_X11_softAfter rfl rfl rfl hd_X11_softAfter_RX11 ⟨Nat.le_of_ble_eq_true rfl, Nat.le_of_ble_eq_true rfl⟩) (pv_R (va_recv hK hP (ci := 11) (q0 := 0) rfl rfl) hK hPc) rfl rfl hl.1 rfl (lv_room (Nat.le_of_ble_eq_true rfl)) dX11_handsThatFit_46 ⟨Nat.le_of_ble_eq_true rfl, Nat.le_of_ble_eq_true rfl⟩) hS (fun q _ h => False.elim h) (fun q h => False.elim h) (fun r11 u12 t H1 locs ht hvm hw13 hB hz1 hk1 hS => ?_)
            have hP := hP.kept (fun k q hk => hk1 q.1 (hP k q hk).lt (fun h => h))
            clear hz1 hk1 hPc
            generalize H1 = H at hP hS ht ⊢
            try dsimp only at hw13
            subst hw13
            refine lv_aload_n hx hb dX11_handsThatFit_49 rfl (lv_at hl 4 rfl) ?_
            refine va_get (D := (dC, dI)) (ci := 11) (v := .ref m40) (C := RX11) (T := TX11) (N := 46) hx hb hts hi_X11 hown hK hP 0 rfl rfl 40 (by decide) (hts (.fieldLink RX11 80 "LeftQuillsModel" "wornSoft" "[I") (wmx 5 rfl)) (fun _ h9 => h9) e_h0_40 dX11_handsThatFit_50 ?_
            refine lv_iload hx hb dX11_handsThatFit_53 (lv_at hl 0 rfl) ?_
            refine va_iald hx hb hK hP 8 0 rfl rfl (vp_in_nI (n := k17) (N := 6) (by omega) (by decide)) dX11_handsThatFit_55 ?_
            refine W.eq (g2 := F0 m 56 ls [.int (fm40 k17), .int (saF (wrF (fm3 j8) (fm4 j8) (fm5 j8) (fm7 k4) (fm8 k4)) j10)]) (congrArg (fun y9 => F0 m 56 ls (.int (fm40 y9) :: [.int (saF (wrF (fm3 j8) (fm4 j8) (fm5 j8) (fm7 k4) (fm8 k4)) j10)])) ((nI_clamp (n := k17) (by omega)))) ?_
            refine lv_icmp_ne (tgt := 63) hx hb dX11_handsThatFit_56 (by decide) (fun c14 => ?_) (fun c14 => ?_)
            ·
              refine lv_iconst (v := 0) hx hb dX11_handsThatFit_63 (by decide) ?_
              refine lv_istore_n (lv' := [(3, .int 0), (4, .int (nI k17)), (2, .int (nI k4)), (1, .int a4_1), (0, .ref h0)]) hx hb dX11_handsThatFit_64 rfl hl (by decide) rfl (fun ls hl => ?_)
              refine lv_iinc (v := nI (k17 + 1)) (lv' := [(4, .int (nI (k17 + 1))), (3, .int 0), (2, .int (nI k4)), (1, .int a4_1), (0, .ref h0)]) hx hb dX11_handsThatFit_65 hl (k := 1) rfl ((rfl : nI k17 + Int32.ofInt 1 = nI k17 + 1).trans (nI_add k17 1)) (by decide) rfl (fun ls hl => ?_)
              refine lv_goto (tgt := 17) hx hb dX11_handsThatFit_68 (by decide) ?_
              exact ih17 (k17 + 1) 0 _ _ _ (by omega) (by omega) (b_iff0 hv17_0 (fun h9 => c14 ((wm_e (W := (fun j k => wrF (fm3 j) (fm4 j) (fm5 j) (fm7 k) (fm8 k))) (q := fm38) (n := fm39) (k := k4) (i := k17) ejj8 (by omega) ejj10 (by omega)).symm.trans h9))) hP hS (lv_sub hl [0, 1, 2, 3, 4] rfl)
            ·
              refine lv_iconst (v := 1) hx hb dX11_handsThatFit_59 (by decide) ?_
              refine lv_goto (tgt := 64) hx hb dX11_handsThatFit_60 (by decide) ?_
              refine lv_istore_n (lv' := [(3, .int 1), (4, .int (nI k17)), (2, .int (nI k4)), (1, .int a4_1), (0, .ref h0)]) hx hb dX11_handsThatFit_64 rfl hl (by decide) rfl (fun ls hl => ?_)
              refine lv_iinc (v := nI (k17 + 1)) (lv' := [(4, .int (nI (k17 + 1))), (3, .int 1), (2, .int (nI k4)), (1, .int a4_1), (0, .ref h0)]) hx hb dX11_handsThatFit_65 hl (k := 1) rfl ((rfl : nI k17 + Int32.ofInt 1 = nI k17 + 1).trans (nI_add k17 1)) (by decide) rfl (fun ls hl => ?_)
              refine lv_goto (tgt := 17) hx hb dX11_handsThatFit_68 (by decide) ?_
              exact ih17 (k17 + 1) 1 _ _ _ (by omega) (by omega) (b_iff1 hv17_0 (by omega) (by omega) ((wm_e (W := (fun j k => wrF (fm3 j) (fm4 j) (fm5 j) (fm7 k) (fm8 k))) (q := fm38) (n := fm39) (k := k4) (i := k17) ejj8 (by omega) ejj10 (by omega)).trans c14)) hP hS (lv_sub hl [0, 1, 2, 3, 4] rfl)
