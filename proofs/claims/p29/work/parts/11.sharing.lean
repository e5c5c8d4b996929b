set_option maxHeartbeats 4000000 in
set_option maxRecDepth 100000 in
theorem c_X8_keepIfBetter (l : Launch) (dC : Nat → ClassId) (dI : Nat → Nat → Nat) (cI cZ cQ : ClassId) (h0 : Nat) (be : Int32) (s1 : Nat) (ho : Nat) (ht9 : Nat) (s4 : Nat) (s5 : Nat) (fs1 : Nat → Int32) (fs4 : Nat → Int32) (a0 : Int32) (sz : Nat)  : Met l yX8_keepIfBetter wsX8_keepIfBetter ({ frames := 1, cells := 0, slots := 0, locals := 40 }) (va_Pc [.ref h0, .int a0] (fun U => U.heap.size = sz ∧ va_P (dC, dI) vwCl [(h0, .inr (8, [.int be, .ref s1, .ref ho, .ref ht9, .ref s4, .ref s5])), (s1, .inl (cI, 4, .inl fs1)), (s4, .inl (cI, 4, .inl fs4))] U.heap ∧ va_K (dC, dI) vwCl (tys0 cI cZ cQ) U ∧ va_D (fun _ => True) [(h0, .inr (8, [.int be, .ref s1, .ref ho, .ref ht9, .ref s4, .ref s5])), (s1, .inl (cI, 4, .inl fs1)), (s4, .inl (cI, 4, .inl fs4))])) (va_Qv (fun (u : Nat → Nat) => True) (fun (_ : Nat → Nat) (t : State) => ∃ (gg0 : Nat → Int32) (ii0 : Int32) , va_P (dC, dI) vwCl [(h0, .inr (8, [.int ii0, .ref s1, .ref ho, .ref ht9, .ref s4, .ref s5])), (s1, .inl (cI, 4, .inl gg0)), (s4, .inl (cI, 4, .inl fs4))] t.heap ∧ va_D (va_A [(h0, .inr (8, [.int be, .ref s1, .ref ho, .ref ht9, .ref s4, .ref s5])), (s1, .inl (cI, 4, .inl fs1)), (s4, .inl (cI, 4, .inl fs4))] sz) [(h0, .inr (8, [.int ii0, .ref s1, .ref ho, .ref ht9, .ref s4, .ref s5])), (s1, .inl (cI, 4, .inl gg0)), (s4, .inl (cI, 4, .inl fs4))]) (va_A [(h0, .inr (8, [.int be, .ref s1, .ref ho, .ref ht9, .ref s4, .ref s5])), (s1, .inl (cI, 4, .inl fs1)), (s4, .inl (cI, 4, .inl fs4))] sz)) 0 0 (va_A [(h0, .inr (8, [.int be, .ref s1, .ref ho, .ref ht9, .ref s4, .ref s5])), (s1, .inl (cI, 4, .inl fs1)), (s4, .inl (cI, 4, .inl fs4))] sz) := by
  refine Met.ofW (cc := cX8_keepIfBetter) (maxL := 2) (ret := none) (by decide) rfl ?_
  intro p e s m args below meth c s₁ B hml hv
  obtain ⟨rfl, hsz, hP, hK, hD0⟩ := hv
  have hx := B.exec
  have hb := B.bytes
  have hr := B.returns
  have hts := atoms_spec (ws := wsX8_keepIfBetter) B.pre
  have hown : s.vm.findClass RX8 = some m.cls := findClass_of_methodNamed B.named
  have hlocks := B.notSynchronized
  have hi_X8 : ∀ w ∈ u_ws RX8 TX8 6, w ∈ wsX8_keepIfBetter := fun _ h => List.mem_cons_of_mem _ (List.mem_append_right _ (h))
  subst hsz
  have hD := hD0.self (sz := s.heap.size)
  generalize hAe : va_A [(h0, .inr (8, [.int be, .ref s1, .ref ho, .ref ht9, .ref s4, .ref s5])), (s1, .inl (cI, 4, .inl fs1)), (s4, .inl (cI, 4, .inl fs4))] s.heap.size = A at hD ⊢
  have hA : ∀ q : Nat, s.heap.size ≤ q → A q := fun q h => by rw [← hAe]; exact Or.inr h
  have hS : va_S A s.heap s.heap [] := va_S.rf
  have hl := lv_entry ([.ref h0, .int a0]) (n := 2) (Nat.le_of_ble_eq_true rfl)
  rw [lg_entry_eq]
  generalize (lg_sl ([.ref h0, .int a0]) ++ List.replicate (2 - (lg_sl ([.ref h0, .int a0])).length) Slot.unset).toArray = ls at hl ⊢
  have hl : lv_has ls 2 [(0, .ref h0), (1, .int a0)] := hl
  refine lv_iload_n hx hb dX8_keepIfBetter_0 rfl (lv_at hl 1 rfl) ?_
  refine lv_aload_n hx hb dX8_keepIfBetter_1 rfl (lv_at hl 0 rfl) ?_
  refine va_get (D := (dC, dI)) (ci := 8) (v := .int be) (C := RX8) (T := TX8) (N := 6) hx hb hts hi_X8 hown hK hP 0 rfl rfl 0 (by decide) (hts (.fieldLink RX8 9 "LeftQuills$Sharing" "best" "I") (wmx 1 rfl)) (fun _ h9 => h9) rfl dX8_keepIfBetter_2 ?_
  refine lv_icmp_le (tgt := 27) hx hb dX8_keepIfBetter_5 (by decide) (fun c1 => ?_) (fun c1 => ?_)
  ·
    have hP9 := hP.sub (ws' := [(h0, .inr (8, [.int be, .ref s1, .ref ho, .ref ht9, .ref s4, .ref s5])), (s1, .inl (cI, 4, .inl fs1)), (s4, .inl (cI, 4, .inl fs4))]) [0, 1, 2] rfl
    have hD9 := hD.sub (ws' := [(h0, .inr (8, [.int be, .ref s1, .ref ho, .ref ht9, .ref s4, .ref s5])), (s1, .inl (cI, 4, .inl fs1)), (s4, .inl (cI, 4, .inl fs4))]) [0, 1, 2] (by decide +kernel) rfl
    exact W.vret hx hb hr (fun t ht hW => ⟨⟨(fun _ => 0), rfl, trivial, ⟨fs1, be, va_hq ht hP9, hD9⟩⟩, hS.F ht⟩) hS.2.2 dX8_keepIfBetter_27
  ·
    refine lv_aload_n hx hb dX8_keepIfBetter_8 rfl (lv_at hl 0 rfl) ?_
    refine lv_iload_n hx hb dX8_keepIfBetter_9 rfl (lv_at hl 1 rfl) ?_
    refine va_put (D := (dC, dI)) (ci := 8) (v := .int a0) (ty := .int) (C := RX8) (T := TX8) (N := 6) hx hb hts hi_X8 tyX8 tyX8_ok nmX8 hown hK hP hD hS 0 rfl rfl 0 (by decide) (hts (.fieldLink RX8 9 "LeftQuills$Sharing" "best" "I") (wmx 1 rfl)) (fun _ h9 => h9) rfl (by decide +kernel) rfl rfl (Nat.le_of_ble_eq_true rfl) dX8_keepIfBetter_10 (fun H locs hP hD hS => ?_)
    have hPD : pdW (dC, dI) vwCl A [(h0, .inr (8, [.int a0, .ref s1, .ref ho, .ref ht9, .ref s4, .ref s5])), (s1, .inl (cI, 4, .inl fs1)), (s4, .inl (cI, 4, .inl fs4))] H := ⟨hP, hD⟩
    have hP := hPD.1
    have hD := hPD.2
    clear hPD
    refine lv_aload_n hx hb dX8_keepIfBetter_13 rfl (lv_at hl 0 rfl) ?_
    refine va_get (D := (dC, dI)) (ci := 8) (v := .ref s4) (C := RX8) (T := TX8) (N := 6) hx hb hts hi_X8 hown hK hP 0 rfl rfl 4 (by decide) (hts (.fieldLink RX8 19 "LeftQuills$Sharing" "quillOf" "[I") (wmx 2 rfl)) (fun _ h9 => h9) rfl dX8_keepIfBetter_14 ?_
    refine lv_iconst (v := 0) hx hb dX8_keepIfBetter_17 (by decide) ?_
    refine lv_aload_n hx hb dX8_keepIfBetter_18 rfl (lv_at hl 0 rfl) ?_
    refine va_get (D := (dC, dI)) (ci := 8) (v := .ref s1) (C := RX8) (T := TX8) (N := 6) hx hb hts hi_X8 hown hK hP 0 rfl rfl 1 (by decide) (hts (.fieldLink RX8 15 "LeftQuills$Sharing" "bestQuill" "[I") (wmx 3 rfl)) (fun _ h9 => h9) rfl dX8_keepIfBetter_19 ?_
    refine lv_iconst (v := 0) hx hb dX8_keepIfBetter_22 (by decide) ?_
    refine lv_iconst (v := 4) hx hb dX8_keepIfBetter_23 (by decide) ?_
    refine va_copyi hx hb (hml.trans hl.1.symm) hown (hts (.methodLink RX8 59 arraycopyName) (wmx 4 rfl)) (hts (.native arraycopyName) (wmx 5 rfl)) (hts (.static arraycopyName) (wmx 6 rfl)) (hts (.initialized "java/lang/System") (wmx 7 rfl)) hK hP hD hS 2 1 0 0 rfl rfl rfl rfl rfl (by decide) (by decide) (by decide) (by decide) (by decide) (fun _ _ => rfl) (Nat.le_of_ble_eq_true rfl) (Nat.le_of_ble_eq_true rfl) dX8_keepIfBetter_24 (fun H locs hP hD hS => ?_)
    generalize hgf2 : va_cpy _ _ _ _ _ = f2 at hP hD
    have hPD : pdW (dC, dI) vwCl A [(h0, .inr (8, [.int a0, .ref s1, .ref ho, .ref ht9, .ref s4, .ref s5])), (s1, .inl (cI, 4, .inl f2)), (s4, .inl (cI, 4, .inl fs4))] H := ⟨hP, hD⟩
    have hP := hPD.1
    have hD := hPD.2
    clear hPD
    have hP9 := hP.sub (ws' := [(h0, .inr (8, [.int a0, .ref s1, .ref ho, .ref ht9, .ref s4, .ref s5])), (s1, .inl (cI, 4, .inl f2)), (s4, .inl (cI, 4, .inl fs4))]) [0, 1, 2] rfl
    have hD9 := hD.sub (ws' := [(h0, .inr (8, [.int a0, .ref s1, .ref ho, .ref ht9, .ref s4, .ref s5])), (s1, .inl (cI, 4, .inl f2)), (s4, .inl (cI, 4, .inl fs4))]) [0, 1, 2] (by decide +kernel) rfl
    exact W.vret hx hb hr (fun t ht hW => ⟨⟨(fun _ => 0), rfl, trivial, ⟨f2, a0, va_hq ht hP9, hD9⟩⟩, hS.F ht⟩) hS.2.2 dX8_keepIfBetter_27
set_option maxHeartbeats 4000000 in
set_option maxRecDepth 100000 in
theorem c_X8_giveFrom_0 (l : Launch) (dC : Nat → ClassId) (dI : Nat → Nat → Nat) (cI cZ cQ : ClassId) (h0 : Nat) (be : Int32) (s1 : Nat) (ho : Nat) (ht9 : Nat) (s4 : Nat) (s5 : Nat) (nq : Nat) (nh : Nat) (f_ho : List Value) (fs1 : Nat → Int32) (fs4 : Nat → Int32) (fs5 : Nat → Int32) (k : Nat) (a0 : Int32) (a1 : Int32) (sz : Nat) (e_ho_3 : fAt f_ho 3 = some (.int (nI nq))) (e_ho_4 : fAt f_ho 4 = some (.int (nI nh))) (hnq : nq ≤ 8) (hnh : nh ≤ 4) (hk : k ≤ 4) (hd : 4 ≤ k + 0) : Met l yX8_giveFrom wsX8_giveFrom ({ frames := 2, cells := 0, slots := 0, locals := 61 }) (va_Pc [.ref h0, .int (nI k), .int a0, .int a1] (fun U => U.heap.size = sz ∧ va_P (dC, dI) vwCl [(h0, .inr (8, [.int be, .ref s1, .ref ho, .ref ht9, .ref s4, .ref s5])), (ho, .inr (5, f_ho)), (s1, .inl (cI, 4, .inl fs1)), (s4, .inl (cI, 4, .inl fs4)), (s5, .inl (cI, 32, .inl fs5))] U.heap ∧ va_K (dC, dI) vwCl (tys0 cI cZ cQ) U ∧ va_D (fun _ => True) [(h0, .inr (8, [.int be, .ref s1, .ref ho, .ref ht9, .ref s4, .ref s5])), (ho, .inr (5, f_ho)), (s1, .inl (cI, 4, .inl fs1)), (s4, .inl (cI, 4, .inl fs4)), (s5, .inl (cI, 32, .inl fs5))])) (va_Qv (fun (u : Nat → Nat) => True) (fun (_ : Nat → Nat) (t : State) => ∃ (gg0 : Nat → Int32) (ii0 : Int32) , va_P (dC, dI) vwCl [(h0, .inr (8, [.int ii0, .ref s1, .ref ho, .ref ht9, .ref s4, .ref s5])), (ho, .inr (5, f_ho)), (s1, .inl (cI, 4, .inl gg0)), (s4, .inl (cI, 4, .inl fs4)), (s5, .inl (cI, 32, .inl fs5))] t.heap ∧ va_D (va_A [(h0, .inr (8, [.int be, .ref s1, .ref ho, .ref ht9, .ref s4, .ref s5])), (ho, .inr (5, f_ho)), (s1, .inl (cI, 4, .inl fs1)), (s4, .inl (cI, 4, .inl fs4)), (s5, .inl (cI, 32, .inl fs5))] sz) [(h0, .inr (8, [.int ii0, .ref s1, .ref ho, .ref ht9, .ref s4, .ref s5])), (ho, .inr (5, f_ho)), (s1, .inl (cI, 4, .inl gg0)), (s4, .inl (cI, 4, .inl fs4)), (s5, .inl (cI, 32, .inl fs5))]) (va_A [(h0, .inr (8, [.int be, .ref s1, .ref ho, .ref ht9, .ref s4, .ref s5])), (ho, .inr (5, f_ho)), (s1, .inl (cI, 4, .inl fs1)), (s4, .inl (cI, 4, .inl fs4)), (s5, .inl (cI, 32, .inl fs5))] sz)) 0 0 (va_A [(h0, .inr (8, [.int be, .ref s1, .ref ho, .ref ht9, .ref s4, .ref s5])), (ho, .inr (5, f_ho)), (s1, .inl (cI, 4, .inl fs1)), (s4, .inl (cI, 4, .inl fs4)), (s5, .inl (cI, 32, .inl fs5))] sz) := by
  refine Met.ofW (cc := cX8_giveFrom) (maxL := 5) (ret := none) (by decide) rfl ?_
  intro p e s m args below meth c s₁ B hml hv
  obtain ⟨rfl, hsz, hP, hK, hD0⟩ := hv
  have hx := B.exec
  have hb := B.bytes
  have hr := B.returns
  have hts := atoms_spec (ws := wsX8_giveFrom) B.pre
  have hown : s.vm.findClass RX8 = some m.cls := findClass_of_methodNamed B.named
  have hlocks := B.notSynchronized
  have hi_X5 : ∀ w ∈ u_ws RX5 TX5 13, w ∈ wsX8_giveFrom := fun _ h => List.mem_cons_of_mem _ (List.mem_append_right _ (h))
  have hi_X8 : ∀ w ∈ u_ws RX8 TX8 6, w ∈ wsX8_giveFrom := fun _ h => List.mem_cons_of_mem _ (List.mem_append_left _ (List.mem_append_right _ (h)))
  subst hsz
  have hD := hD0.self (sz := s.heap.size)
  generalize hAe : va_A [(h0, .inr (8, [.int be, .ref s1, .ref ho, .ref ht9, .ref s4, .ref s5])), (ho, .inr (5, f_ho)), (s1, .inl (cI, 4, .inl fs1)), (s4, .inl (cI, 4, .inl fs4)), (s5, .inl (cI, 32, .inl fs5))] s.heap.size = A at hD ⊢
  have hA : ∀ q : Nat, s.heap.size ≤ q → A q := fun q h => by rw [← hAe]; exact Or.inr h
  have hS : va_S A s.heap s.heap [] := va_S.rf
  have hl := lv_entry ([.ref h0, .int (nI k), .int a0, .int a1]) (n := 5) (Nat.le_of_ble_eq_true rfl)
  rw [lg_entry_eq]
  generalize (lg_sl ([.ref h0, .int (nI k), .int a0, .int a1]) ++ List.replicate (5 - (lg_sl ([.ref h0, .int (nI k), .int a0, .int a1])).length) Slot.unset).toArray = ls at hl ⊢
  have hl : lv_has ls 5 [(0, .ref h0), (1, .int (nI k)), (2, .int a0), (3, .int a1)] := hl
  refine lv_iload_n hx hb dX8_giveFrom_0 rfl (lv_at hl 1 rfl) ?_
  refine lv_aload_n hx hb dX8_giveFrom_1 rfl (lv_at hl 0 rfl) ?_
  refine va_get (D := (dC, dI)) (ci := 8) (v := .ref ho) (C := RX8) (T := TX8) (N := 6) hx hb hts hi_X8 hown hK hP 0 rfl rfl 2 (by decide) (hts (.fieldLink RX8 25 "LeftQuills$Sharing" "office" "LLeftQuills$Office;") (wmx 1 rfl)) (fun _ h9 => h9) rfl dX8_giveFrom_2 ?_
  refine va_get (D := (dC, dI)) (ci := 5) (v := .int (nI nh)) (C := RX5) (T := TX5) (N := 13) hx hb hts hi_X5 hown hK hP 1 rfl rfl 4 (by decide) (hts (.fieldLink RX8 33 "LeftQuills$Office" "hands" "I") (wmx 2 rfl)) (fun _ h9 => h9) e_ho_4 dX8_giveFrom_5 ?_
  refine lv_icmp_ge (tgt := 16) hx hb dX8_giveFrom_8 (by decide) (fun c1 => ?_) (fun c1 => ?_)
  ·
    have c1 : nh ≤ k := (nI_leI (a := nh) (b := k) (by omega) (by omega)).mp c1
    refine lv_aload_n hx hb dX8_giveFrom_16 rfl (lv_at hl 0 rfl) ?_
    refine lv_iload_n hx hb dX8_giveFrom_17 rfl (lv_at hl 3 rfl) ?_
    have hc9 := va_cut (W' := [(h0, .inr (8, [.int be, .ref s1, .ref ho, .ref ht9, .ref s4, .ref s5])), (s1, .inl (cI, 4, .inl fs1)), (s4, .inl (cI, 4, .inl fs4))]) hP hD hS hA [0, 2, 3] (by decide) rfl
    have hPc := hc9.1
    have hDc := hc9.2.1
    have hFc := hc9.2.2
    clear hc9
    refine va_callv (va_runV (As := [.int a1]) (rest := []) ⟨hx, hb, hml, hown, hts⟩ (c_X8_keepIfBetter l dC dI cI cZ cQ h0 be s1 ho ht9 s4 s5 fs1 fs4 a1 s.heap.size ) (cwV 1 hts gX8_giveFrom_X8_keepIfBetter rfl rfl rfl hd_X8_keepIfBetter_RX8 ⟨Nat.le_of_ble_eq_true rfl, Nat.le_of_ble_eq_true rfl⟩) (pv_D (va_recv hK hP (ci := 8) (q0 := 0) rfl rfl) hK hPc hDc) rfl rfl hl.1 rfl (lv_room (Nat.le_of_ble_eq_true rfl)) dX8_giveFrom_18 ⟨Nat.le_of_ble_eq_true rfl, Nat.le_of_ble_eq_true rfl⟩) hS (fun q _ h => hFc q h) hFc (fun u3 t H1 locs ht hvm hw4 hB hz1 hk1 hS => ?_)
    obtain ⟨f5, i6, hP1, hD1⟩ := hB
    replace hP1 := va_hp ht hP1
    obtain ⟨hP, hD⟩ := va_join (wr := [(ho, .inr (5, f_ho)), (s5, .inl (cI, 32, .inl fs5))]) (w1 := [(h0, .inr (8, [.int i6, .ref s1, .ref ho, .ref ht9, .ref s4, .ref s5])), (s1, .inl (cI, 4, .inl f5)), (s4, .inl (cI, 4, .inl fs4))]) hP hD [0, 2, 3] [1, 4] rfl rfl (by decide +kernel) (by decide +kernel) hk1 hFc hP1 hD1
    clear hP1 hD1
    clear hz1 hk1 hPc hDc hFc
    generalize H1 = H at hP hS ht ⊢
    have hPD : pdW (dC, dI) vwCl A [(ho, .inr (5, f_ho)), (s5, .inl (cI, 32, .inl fs5)), (h0, .inr (8, [.int i6, .ref s1, .ref ho, .ref ht9, .ref s4, .ref s5])), (s1, .inl (cI, 4, .inl f5)), (s4, .inl (cI, 4, .inl fs4))] H := ⟨hP, hD⟩
    have hP := hPD.1
    have hD := hPD.2
    clear hPD
    try dsimp only at hw4
    have hP9 := hP.sub (ws' := [(h0, .inr (8, [.int i6, .ref s1, .ref ho, .ref ht9, .ref s4, .ref s5])), (ho, .inr (5, f_ho)), (s1, .inl (cI, 4, .inl f5)), (s4, .inl (cI, 4, .inl fs4)), (s5, .inl (cI, 32, .inl fs5))]) [2, 0, 3, 4, 1] rfl
    have hD9 := hD.sub (ws' := [(h0, .inr (8, [.int i6, .ref s1, .ref ho, .ref ht9, .ref s4, .ref s5])), (ho, .inr (5, f_ho)), (s1, .inl (cI, 4, .inl f5)), (s4, .inl (cI, 4, .inl fs4)), (s5, .inl (cI, 32, .inl fs5))]) [2, 0, 3, 4, 1] (by decide +kernel) rfl
    exact W.vret hx hb hr (fun t ht hW => ⟨⟨(fun _ => 0), rfl, trivial, ⟨f5, i6, va_hq ht hP9, hD9⟩⟩, hS.F ht⟩) hS.2.2 dX8_giveFrom_21
  ·
    have c1 : ¬ nh ≤ k := fun h => c1 ((nI_leI (a := nh) (b := k) (by omega) (by omega)).mpr h)
    refine lv_iload_n hx hb dX8_giveFrom_11 rfl (lv_at hl 1 rfl) ?_
    refine lv_iconst (v := 4) hx hb dX8_giveFrom_12 (by decide) ?_
    refine lv_icmp_lt (tgt := 22) hx hb dX8_giveFrom_13 (by decide) (fun c7 => ?_) (fun c7 => ?_)
    ·
      have c7 : k < 4 := (nI_ltI (a := k) (b := 4) (by omega) (by omega)).mp c7
      omega
    ·
      have c7 : ¬ k < 4 := fun h => c7 ((nI_ltI (a := k) (b := 4) (by omega) (by omega)).mpr h)
      refine lv_aload_n hx hb dX8_giveFrom_16 rfl (lv_at hl 0 rfl) ?_
      refine lv_iload_n hx hb dX8_giveFrom_17 rfl (lv_at hl 3 rfl) ?_
      have hc9 := va_cut (W' := [(h0, .inr (8, [.int be, .ref s1, .ref ho, .ref ht9, .ref s4, .ref s5])), (s1, .inl (cI, 4, .inl fs1)), (s4, .inl (cI, 4, .inl fs4))]) hP hD hS hA [0, 2, 3] (by decide) rfl
      have hPc := hc9.1
      have hDc := hc9.2.1
      have hFc := hc9.2.2
      clear hc9
      refine va_callv (va_runV (As := [.int a1]) (rest := []) ⟨hx, hb, hml, hown, hts⟩ (c_X8_keepIfBetter l dC dI cI cZ cQ h0 be s1 ho ht9 s4 s5 fs1 fs4 a1 s.heap.size ) (cwV 1 hts gX8_giveFrom_X8_keepIfBetter rfl rfl rfl hd_X8_keepIfBetter_RX8 ⟨Nat.le_of_ble_eq_true rfl, Nat.le_of_ble_eq_true rfl⟩) (pv_D (va_recv hK hP (ci := 8) (q0 := 0) rfl rfl) hK hPc hDc) rfl rfl hl.1 rfl (lv_room (Nat.le_of_ble_eq_true rfl)) dX8_giveFrom_18 ⟨Nat.le_of_ble_eq_true rfl, Nat.le_of_ble_eq_true rfl⟩) hS (fun q _ h => hFc q h) hFc (fun u9 t H1 locs ht hvm hw10 hB hz1 hk1 hS => ?_)
      obtain ⟨f11, i12, hP1, hD1⟩ := hB
      replace hP1 := va_hp ht hP1
      obtain ⟨hP, hD⟩ := va_join (wr := [(ho, .inr (5, f_ho)), (s5, .inl (cI, 32, .inl fs5))]) (w1 := [(h0, .inr (8, [.int i12, .ref s1, .ref ho, .ref ht9, .ref s4, .ref s5])), (s1, .inl (cI, 4, .inl f11)), (s4, .inl (cI, 4, .inl fs4))]) hP hD [0, 2, 3] [1, 4] rfl rfl (by decide +kernel) (by decide +kernel) hk1 hFc hP1 hD1
      clear hP1 hD1
      clear hz1 hk1 hPc hDc hFc
      generalize H1 = H at hP hS ht ⊢
      have hPD : pdW (dC, dI) vwCl A [(ho, .inr (5, f_ho)), (s5, .inl (cI, 32, .inl fs5)), (h0, .inr (8, [.int i12, .ref s1, .ref ho, .ref ht9, .ref s4, .ref s5])), (s1, .inl (cI, 4, .inl f11)), (s4, .inl (cI, 4, .inl fs4))] H := ⟨hP, hD⟩
      have hP := hPD.1
      have hD := hPD.2
      clear hPD
      try dsimp only at hw10
      have hP9 := hP.sub (ws' := [(h0, .inr (8, [.int i12, .ref s1, .ref ho, .ref ht9, .ref s4, .ref s5])), (ho, .inr (5, f_ho)), (s1, .inl (cI, 4, .inl f11)), (s4, .inl (cI, 4, .inl fs4)), (s5, .inl (cI, 32, .inl fs5))]) [2, 0, 3, 4, 1] rfl
      have hD9 := hD.sub (ws' := [(h0, .inr (8, [.int i12, .ref s1, .ref ho, .ref ht9, .ref s4, .ref s5])), (ho, .inr (5, f_ho)), (s1, .inl (cI, 4, .inl f11)), (s4, .inl (cI, 4, .inl fs4)), (s5, .inl (cI, 32, .inl fs5))]) [2, 0, 3, 4, 1] (by decide +kernel) rfl
      exact W.vret hx hb hr (fun t ht hW => ⟨⟨(fun _ => 0), rfl, trivial, ⟨f11, i12, va_hq ht hP9, hD9⟩⟩, hS.F ht⟩) hS.2.2 dX8_giveFrom_21
set_option maxHeartbeats 4000000 in
set_option maxRecDepth 100000 in
theorem c_X8_giveQuill_1 (l : Launch) (dC : Nat → ClassId) (dI : Nat → Nat → Nat) (cI cZ cQ : ClassId) (h0 : Nat) (be : Int32) (s1 : Nat) (ho : Nat) (ht9 : Nat) (s4 : Nat) (s5 : Nat) (nq : Nat) (nh : Nat) (f_ho : List Value) (fs1 : Nat → Int32) (fs4 : Nat → Int32) (fs5 : Nat → Int32) (k : Nat) (j : Nat) (a0 : Int32) (a1 : Int32) (sz : Nat) (e_ho_3 : fAt f_ho 3 = some (.int (nI nq))) (e_ho_4 : fAt f_ho 4 = some (.int (nI nh))) (hnq : nq ≤ 8) (hnh : nh ≤ 4) (hj : j < 8) (hk : k < 4) (hd : 4 ≤ k + 1) : Met l yX8_giveQuill wsX8_giveQuill ({ frames := 3, cells := 0, slots := 0, locals := 85 }) (va_Pc [.ref h0, .int (nI k), .int (nI j), .int a0, .int a1] (fun U => U.heap.size = sz ∧ va_P (dC, dI) vwCl [(h0, .inr (8, [.int be, .ref s1, .ref ho, .ref ht9, .ref s4, .ref s5])), (ho, .inr (5, f_ho)), (s1, .inl (cI, 4, .inl fs1)), (s4, .inl (cI, 4, .inl fs4)), (s5, .inl (cI, 32, .inl fs5))] U.heap ∧ va_K (dC, dI) vwCl (tys0 cI cZ cQ) U ∧ va_D (fun _ => True) [(h0, .inr (8, [.int be, .ref s1, .ref ho, .ref ht9, .ref s4, .ref s5])), (ho, .inr (5, f_ho)), (s1, .inl (cI, 4, .inl fs1)), (s4, .inl (cI, 4, .inl fs4)), (s5, .inl (cI, 32, .inl fs5))])) (va_Qv (fun (u : Nat → Nat) => True) (fun (_ : Nat → Nat) (t : State) => ∃ (gg0 gg1 : Nat → Int32) (ii0 : Int32) , va_P (dC, dI) vwCl [(h0, .inr (8, [.int ii0, .ref s1, .ref ho, .ref ht9, .ref s4, .ref s5])), (ho, .inr (5, f_ho)), (s1, .inl (cI, 4, .inl gg0)), (s4, .inl (cI, 4, .inl gg1)), (s5, .inl (cI, 32, .inl fs5))] t.heap ∧ va_D (va_A [(h0, .inr (8, [.int be, .ref s1, .ref ho, .ref ht9, .ref s4, .ref s5])), (ho, .inr (5, f_ho)), (s1, .inl (cI, 4, .inl fs1)), (s4, .inl (cI, 4, .inl fs4)), (s5, .inl (cI, 32, .inl fs5))] sz) [(h0, .inr (8, [.int ii0, .ref s1, .ref ho, .ref ht9, .ref s4, .ref s5])), (ho, .inr (5, f_ho)), (s1, .inl (cI, 4, .inl gg0)), (s4, .inl (cI, 4, .inl gg1)), (s5, .inl (cI, 32, .inl fs5))]) (va_A [(h0, .inr (8, [.int be, .ref s1, .ref ho, .ref ht9, .ref s4, .ref s5])), (ho, .inr (5, f_ho)), (s1, .inl (cI, 4, .inl fs1)), (s4, .inl (cI, 4, .inl fs4)), (s5, .inl (cI, 32, .inl fs5))] sz)) 0 0 (va_A [(h0, .inr (8, [.int be, .ref s1, .ref ho, .ref ht9, .ref s4, .ref s5])), (ho, .inr (5, f_ho)), (s1, .inl (cI, 4, .inl fs1)), (s4, .inl (cI, 4, .inl fs4)), (s5, .inl (cI, 32, .inl fs5))] sz) := by
  refine Met.ofW (cc := cX8_giveQuill) (maxL := 5) (ret := none) (by decide) rfl ?_
  intro p e s m args below meth c s₁ B hml hv
  obtain ⟨rfl, hsz, hP, hK, hD0⟩ := hv
  have hx := B.exec
  have hb := B.bytes
  have hr := B.returns
  have hts := atoms_spec (ws := wsX8_giveQuill) B.pre
  have hown : s.vm.findClass RX8 = some m.cls := findClass_of_methodNamed B.named
  have hlocks := B.notSynchronized
  have hi_X8 : ∀ w ∈ u_ws RX8 TX8 6, w ∈ wsX8_giveQuill := fun _ h => List.mem_cons_of_mem _ (List.mem_append_left _ (List.mem_append_right _ (h)))
  subst hsz
  have hD := hD0.self (sz := s.heap.size)
  generalize hAe : va_A [(h0, .inr (8, [.int be, .ref s1, .ref ho, .ref ht9, .ref s4, .ref s5])), (ho, .inr (5, f_ho)), (s1, .inl (cI, 4, .inl fs1)), (s4, .inl (cI, 4, .inl fs4)), (s5, .inl (cI, 32, .inl fs5))] s.heap.size = A at hD ⊢
  have hA : ∀ q : Nat, s.heap.size ≤ q → A q := fun q h => by rw [← hAe]; exact Or.inr h
  have hS : va_S A s.heap s.heap [] := va_S.rf
  have hl := lv_entry ([.ref h0, .int (nI k), .int (nI j), .int a0, .int a1]) (n := 5) (Nat.le_of_ble_eq_true rfl)
  rw [lg_entry_eq]
  generalize (lg_sl ([.ref h0, .int (nI k), .int (nI j), .int a0, .int a1]) ++ List.replicate (5 - (lg_sl ([.ref h0, .int (nI k), .int (nI j), .int a0, .int a1])).length) Slot.unset).toArray = ls at hl ⊢
  have hl : lv_has ls 5 [(0, .ref h0), (1, .int (nI k)), (2, .int (nI j)), (3, .int a0), (4, .int a1)] := hl
  refine lv_aload_n hx hb dX8_giveQuill_0 rfl (lv_at hl 0 rfl) ?_
  refine va_get (D := (dC, dI)) (ci := 8) (v := .ref s4) (C := RX8) (T := TX8) (N := 6) hx hb hts hi_X8 hown hK hP 0 rfl rfl 4 (by decide) (hts (.fieldLink RX8 19 "LeftQuills$Sharing" "quillOf" "[I") (wmx 1 rfl)) (fun _ h9 => h9) rfl dX8_giveQuill_1 ?_
  refine lv_iload_n hx hb dX8_giveQuill_4 rfl (lv_at hl 1 rfl) ?_
  refine lv_iload_n hx hb dX8_giveQuill_5 rfl (lv_at hl 2 rfl) ?_
  refine va_iast hx hb hK hP hD hS 3 0 rfl rfl (vp_in_nI (n := k) (N := 4) (by omega) (by decide)) dX8_giveQuill_6 (fun H locs hP hD hS => ?_)
  generalize hgf1 : upd fs4 ((nI k).toNatClampNeg) (nI j) = f1 at hP hD
  have hPD : pdW (dC, dI) vwCl A [(h0, .inr (8, [.int be, .ref s1, .ref ho, .ref ht9, .ref s4, .ref s5])), (ho, .inr (5, f_ho)), (s1, .inl (cI, 4, .inl fs1)), (s4, .inl (cI, 4, .inl f1)), (s5, .inl (cI, 32, .inl fs5))] H := ⟨hP, hD⟩
  have hP := hPD.1
  have hD := hPD.2
  clear hPD
  refine lv_aload_n hx hb dX8_giveQuill_7 rfl (lv_at hl 0 rfl) ?_
  refine lv_iload_n hx hb dX8_giveQuill_8 rfl (lv_at hl 1 rfl) ?_
  refine lv_iconst (v := 1) hx hb dX8_giveQuill_9 (by decide) ?_
  refine lv_iadd hx hb dX8_giveQuill_10 ?_
  refine lv_topi (fun z2 ez2 => ?_)
  obtain rfl : z2 = nI (k + 1) := ez2.trans (nI_add k 1)
  refine lv_iload_n hx hb dX8_giveQuill_11 rfl (lv_at hl 3 rfl) ?_
  refine lv_iconst (v := 1) hx hb dX8_giveQuill_12 (by decide) ?_
  refine lv_iload_n hx hb dX8_giveQuill_13 rfl (lv_at hl 2 rfl) ?_
  refine lv_ishl hx hb dX8_giveQuill_14 ?_
  refine lv_topi (fun z3 ez3 => ?_)
  refine lv_ior hx hb dX8_giveQuill_15 ?_
  refine lv_topi (fun z4 ez4 => ?_)
  refine lv_iload hx hb dX8_giveQuill_16 (lv_at hl 4 rfl) ?_
  refine lv_aload_n hx hb dX8_giveQuill_18 rfl (lv_at hl 0 rfl) ?_
  refine va_get (D := (dC, dI)) (ci := 8) (v := .ref s5) (C := RX8) (T := TX8) (N := 6) hx hb hts hi_X8 hown hK hP 0 rfl rfl 5 (by decide) (hts (.fieldLink RX8 22 "LeftQuills$Sharing" "good" "[I") (wmx 2 rfl)) (fun _ h9 => h9) rfl dX8_giveQuill_19 ?_
  refine lv_iload_n hx hb dX8_giveQuill_22 rfl (lv_at hl 1 rfl) ?_
  refine lv_bipush (v := 8) hx hb dX8_giveQuill_23 (by decide) ?_
  refine lv_imul hx hb dX8_giveQuill_25 ?_
  refine lv_topi (fun z5 ez5 => ?_)
  obtain rfl : z5 = nI (k * 8) := ez5.trans (pk_mul k 8)
  refine lv_iload_n hx hb dX8_giveQuill_26 rfl (lv_at hl 2 rfl) ?_
  refine lv_iadd hx hb dX8_giveQuill_27 ?_
  refine lv_topi (fun z6 ez6 => ?_)
  obtain rfl : z6 = nI ((k * 8) + j) := ez6.trans (nI_add (k * 8) j)
  refine va_iald hx hb hK hP 4 0 rfl rfl (vp_in_nI (n := (k * 8) + j) (N := 32) (by omega) (by decide)) dX8_giveQuill_28 ?_
  refine W.eq (g2 := F0 m 29 ls [.int (fs5 ((k * 8) + j)), .int a1, .int z4, .int (nI (k + 1)), .ref h0]) (congrArg (fun y9 => F0 m 29 ls (.int (fs5 y9) :: [.int a1, .int z4, .int (nI (k + 1)), .ref h0])) ((nI_clamp (n := (k * 8) + j) (by omega)))) ?_
  refine lv_iadd hx hb dX8_giveQuill_29 ?_
  refine lv_topi (fun z7 ez7 => ?_)
  have hc9 := va_cut (W' := [(h0, .inr (8, [.int be, .ref s1, .ref ho, .ref ht9, .ref s4, .ref s5])), (ho, .inr (5, f_ho)), (s1, .inl (cI, 4, .inl fs1)), (s4, .inl (cI, 4, .inl f1)), (s5, .inl (cI, 32, .inl fs5))]) hP hD hS hA [0, 1, 2, 3, 4] (by decide) rfl
  have hPc := hc9.1
  have hDc := hc9.2.1
  have hFc := hc9.2.2
  clear hc9
  refine va_callv (va_runV (As := [.int (nI (k + 1)), .int z4, .int z7]) (rest := []) ⟨hx, hb, hml, hown, hts⟩ (c_X8_giveFrom_0 l dC dI cI cZ cQ h0 be s1 ho ht9 s4 s5 nq nh f_ho fs1 f1 fs5 (k + 1) z4 z7 H.size e_ho_3 e_ho_4 (by omega) (by omega) (by omega) (by omega)) (cwV 3 hts gX8_giveQuill_X8_giveFrom rfl rfl rfl hd_X8_giveFrom_RX8 ⟨Nat.le_of_ble_eq_true rfl, Nat.le_of_ble_eq_true rfl⟩) (pv_D (va_recv hK hP (ci := 8) (q0 := 0) rfl rfl) hK hPc hDc) rfl rfl hl.1 rfl (lv_room (Nat.le_of_ble_eq_true rfl)) dX8_giveQuill_30 ⟨Nat.le_of_ble_eq_true rfl, Nat.le_of_ble_eq_true rfl⟩) hS (fun q _ h => hFc q h) hFc (fun u9 t H1 locs ht hvm hw10 hB hz1 hk1 hS => ?_)
  obtain ⟨f11, i12, hP1, hD1⟩ := hB
  replace hP1 := va_hp ht hP1
  obtain ⟨hP, hD⟩ := va_join (wr := []) (w1 := [(h0, .inr (8, [.int i12, .ref s1, .ref ho, .ref ht9, .ref s4, .ref s5])), (ho, .inr (5, f_ho)), (s1, .inl (cI, 4, .inl f11)), (s4, .inl (cI, 4, .inl f1)), (s5, .inl (cI, 32, .inl fs5))]) hP hD [0, 1, 2, 3, 4] [] rfl rfl (by decide +kernel) (by decide +kernel) hk1 hFc hP1 hD1
  clear hP1 hD1
  clear hz1 hk1 hPc hDc hFc
  generalize H1 = H at hP hS ht ⊢
  have hPD : pdW (dC, dI) vwCl A [(h0, .inr (8, [.int i12, .ref s1, .ref ho, .ref ht9, .ref s4, .ref s5])), (ho, .inr (5, f_ho)), (s1, .inl (cI, 4, .inl f11)), (s4, .inl (cI, 4, .inl f1)), (s5, .inl (cI, 32, .inl fs5))] H := ⟨hP, hD⟩
  have hP := hPD.1
  have hD := hPD.2
  clear hPD
  try dsimp only at hw10
  have hP9 := hP.sub (ws' := [(h0, .inr (8, [.int i12, .ref s1, .ref ho, .ref ht9, .ref s4, .ref s5])), (ho, .inr (5, f_ho)), (s1, .inl (cI, 4, .inl f11)), (s4, .inl (cI, 4, .inl f1)), (s5, .inl (cI, 32, .inl fs5))]) [0, 1, 2, 3, 4] rfl
  have hD9 := hD.sub (ws' := [(h0, .inr (8, [.int i12, .ref s1, .ref ho, .ref ht9, .ref s4, .ref s5])), (ho, .inr (5, f_ho)), (s1, .inl (cI, 4, .inl f11)), (s4, .inl (cI, 4, .inl f1)), (s5, .inl (cI, 32, .inl fs5))]) [0, 1, 2, 3, 4] (by decide +kernel) rfl
  exact W.vret hx hb hr (fun t ht hW => ⟨⟨(fun _ => 0), rfl, trivial, ⟨f11, f1, i12, va_hq ht hP9, hD9⟩⟩, hS.F ht⟩) hS.2.2 dX8_giveQuill_33
set_option maxHeartbeats 4000000 in
set_option maxRecDepth 100000 in
theorem c_X8_giveFrom_1 (l : Launch) (dC : Nat → ClassId) (dI : Nat → Nat → Nat) (cI cZ cQ : ClassId) (h0 : Nat) (be : Int32) (s1 : Nat) (ho : Nat) (ht9 : Nat) (s4 : Nat) (s5 : Nat) (nq : Nat) (nh : Nat) (f_ho : List Value) (fs1 : Nat → Int32) (fs4 : Nat → Int32) (fs5 : Nat → Int32) (k : Nat) (a0 : Int32) (a1 : Int32) (sz : Nat) (e_ho_3 : fAt f_ho 3 = some (.int (nI nq))) (e_ho_4 : fAt f_ho 4 = some (.int (nI nh))) (hnq : nq ≤ 8) (hnh : nh ≤ 4) (hk : k ≤ 4) (hd : 4 ≤ k + 1) : Met l yX8_giveFrom wsX8_giveFrom ({ frames := 4, cells := 0, slots := 0, locals := 109 }) (va_Pc [.ref h0, .int (nI k), .int a0, .int a1] (fun U => U.heap.size = sz ∧ va_P (dC, dI) vwCl [(h0, .inr (8, [.int be, .ref s1, .ref ho, .ref ht9, .ref s4, .ref s5])), (ho, .inr (5, f_ho)), (s1, .inl (cI, 4, .inl fs1)), (s4, .inl (cI, 4, .inl fs4)), (s5, .inl (cI, 32, .inl fs5))] U.heap ∧ va_K (dC, dI) vwCl (tys0 cI cZ cQ) U ∧ va_D (fun _ => True) [(h0, .inr (8, [.int be, .ref s1, .ref ho, .ref ht9, .ref s4, .ref s5])), (ho, .inr (5, f_ho)), (s1, .inl (cI, 4, .inl fs1)), (s4, .inl (cI, 4, .inl fs4)), (s5, .inl (cI, 32, .inl fs5))])) (va_Qv (fun (u : Nat → Nat) => True) (fun (_ : Nat → Nat) (t : State) => ∃ (gg0 gg1 : Nat → Int32) (ii0 : Int32) , va_P (dC, dI) vwCl [(h0, .inr (8, [.int ii0, .ref s1, .ref ho, .ref ht9, .ref s4, .ref s5])), (ho, .inr (5, f_ho)), (s1, .inl (cI, 4, .inl gg0)), (s4, .inl (cI, 4, .inl gg1)), (s5, .inl (cI, 32, .inl fs5))] t.heap ∧ va_D (va_A [(h0, .inr (8, [.int be, .ref s1, .ref ho, .ref ht9, .ref s4, .ref s5])), (ho, .inr (5, f_ho)), (s1, .inl (cI, 4, .inl fs1)), (s4, .inl (cI, 4, .inl fs4)), (s5, .inl (cI, 32, .inl fs5))] sz) [(h0, .inr (8, [.int ii0, .ref s1, .ref ho, .ref ht9, .ref s4, .ref s5])), (ho, .inr (5, f_ho)), (s1, .inl (cI, 4, .inl gg0)), (s4, .inl (cI, 4, .inl gg1)), (s5, .inl (cI, 32, .inl fs5))]) (va_A [(h0, .inr (8, [.int be, .ref s1, .ref ho, .ref ht9, .ref s4, .ref s5])), (ho, .inr (5, f_ho)), (s1, .inl (cI, 4, .inl fs1)), (s4, .inl (cI, 4, .inl fs4)), (s5, .inl (cI, 32, .inl fs5))] sz)) 0 0 (va_A [(h0, .inr (8, [.int be, .ref s1, .ref ho, .ref ht9, .ref s4, .ref s5])), (ho, .inr (5, f_ho)), (s1, .inl (cI, 4, .inl fs1)), (s4, .inl (cI, 4, .inl fs4)), (s5, .inl (cI, 32, .inl fs5))] sz) := by
  refine Met.ofW (cc := cX8_giveFrom) (maxL := 5) (ret := none) (by decide) rfl ?_
  intro p e s m args below meth c s₁ B hml hv
  obtain ⟨rfl, hsz, hP, hK, hD0⟩ := hv
  have hx := B.exec
  have hb := B.bytes
  have hr := B.returns
  have hts := atoms_spec (ws := wsX8_giveFrom) B.pre
  have hown : s.vm.findClass RX8 = some m.cls := findClass_of_methodNamed B.named
  have hlocks := B.notSynchronized
  have hi_X5 : ∀ w ∈ u_ws RX5 TX5 13, w ∈ wsX8_giveFrom := fun _ h => List.mem_cons_of_mem _ (List.mem_append_right _ (h))
  have hi_X8 : ∀ w ∈ u_ws RX8 TX8 6, w ∈ wsX8_giveFrom := fun _ h => List.mem_cons_of_mem _ (List.mem_append_left _ (List.mem_append_right _ (h)))
  subst hsz
  have hD := hD0.self (sz := s.heap.size)
  generalize hAe : va_A [(h0, .inr (8, [.int be, .ref s1, .ref ho, .ref ht9, .ref s4, .ref s5])), (ho, .inr (5, f_ho)), (s1, .inl (cI, 4, .inl fs1)), (s4, .inl (cI, 4, .inl fs4)), (s5, .inl (cI, 32, .inl fs5))] s.heap.size = A at hD ⊢
  have hA : ∀ q : Nat, s.heap.size ≤ q → A q := fun q h => by rw [← hAe]; exact Or.inr h
  have hS : va_S A s.heap s.heap [] := va_S.rf
  have hl := lv_entry ([.ref h0, .int (nI k), .int a0, .int a1]) (n := 5) (Nat.le_of_ble_eq_true rfl)
  rw [lg_entry_eq]
  generalize (lg_sl ([.ref h0, .int (nI k), .int a0, .int a1]) ++ List.replicate (5 - (lg_sl ([.ref h0, .int (nI k), .int a0, .int a1])).length) Slot.unset).toArray = ls at hl ⊢
  have hl : lv_has ls 5 [(0, .ref h0), (1, .int (nI k)), (2, .int a0), (3, .int a1)] := hl
  refine lv_iload_n hx hb dX8_giveFrom_0 rfl (lv_at hl 1 rfl) ?_
  refine lv_aload_n hx hb dX8_giveFrom_1 rfl (lv_at hl 0 rfl) ?_
  refine va_get (D := (dC, dI)) (ci := 8) (v := .ref ho) (C := RX8) (T := TX8) (N := 6) hx hb hts hi_X8 hown hK hP 0 rfl rfl 2 (by decide) (hts (.fieldLink RX8 25 "LeftQuills$Sharing" "office" "LLeftQuills$Office;") (wmx 1 rfl)) (fun _ h9 => h9) rfl dX8_giveFrom_2 ?_
  refine va_get (D := (dC, dI)) (ci := 5) (v := .int (nI nh)) (C := RX5) (T := TX5) (N := 13) hx hb hts hi_X5 hown hK hP 1 rfl rfl 4 (by decide) (hts (.fieldLink RX8 33 "LeftQuills$Office" "hands" "I") (wmx 2 rfl)) (fun _ h9 => h9) e_ho_4 dX8_giveFrom_5 ?_
  refine lv_icmp_ge (tgt := 16) hx hb dX8_giveFrom_8 (by decide) (fun c1 => ?_) (fun c1 => ?_)
  ·
    have c1 : nh ≤ k := (nI_leI (a := nh) (b := k) (by omega) (by omega)).mp c1
    refine lv_aload_n hx hb dX8_giveFrom_16 rfl (lv_at hl 0 rfl) ?_
    refine lv_iload_n hx hb dX8_giveFrom_17 rfl (lv_at hl 3 rfl) ?_
    have hc9 := va_cut (W' := [(h0, .inr (8, [.int be, .ref s1, .ref ho, .ref ht9, .ref s4, .ref s5])), (s1, .inl (cI, 4, .inl fs1)), (s4, .inl (cI, 4, .inl fs4))]) hP hD hS hA [0, 2, 3] (by decide) rfl
    have hPc := hc9.1
    have hDc := hc9.2.1
    have hFc := hc9.2.2
    clear hc9
    refine va_callv (va_runV (As := [.int a1]) (rest := []) ⟨hx, hb, hml, hown, hts⟩ (c_X8_keepIfBetter l dC dI cI cZ cQ h0 be s1 ho ht9 s4 s5 fs1 fs4 a1 s.heap.size ) (cwV 1 hts gX8_giveFrom_X8_keepIfBetter rfl rfl rfl hd_X8_keepIfBetter_RX8 ⟨Nat.le_of_ble_eq_true rfl, Nat.le_of_ble_eq_true rfl⟩) (pv_D (va_recv hK hP (ci := 8) (q0 := 0) rfl rfl) hK hPc hDc) rfl rfl hl.1 rfl (lv_room (Nat.le_of_ble_eq_true rfl)) dX8_giveFrom_18 ⟨Nat.le_of_ble_eq_true rfl, Nat.le_of_ble_eq_true rfl⟩) hS (fun q _ h => hFc q h) hFc (fun u3 t H1 locs ht hvm hw4 hB hz1 hk1 hS => ?_)
    obtain ⟨f5, i6, hP1, hD1⟩ := hB
    replace hP1 := va_hp ht hP1
    obtain ⟨hP, hD⟩ := va_join (wr := [(ho, .inr (5, f_ho)), (s5, .inl (cI, 32, .inl fs5))]) (w1 := [(h0, .inr (8, [.int i6, .ref s1, .ref ho, .ref ht9, .ref s4, .ref s5])), (s1, .inl (cI, 4, .inl f5)), (s4, .inl (cI, 4, .inl fs4))]) hP hD [0, 2, 3] [1, 4] rfl rfl (by decide +kernel) (by decide +kernel) hk1 hFc hP1 hD1
    clear hP1 hD1
    clear hz1 hk1 hPc hDc hFc
    generalize H1 = H at hP hS ht ⊢
    have hPD : pdW (dC, dI) vwCl A [(ho, .inr (5, f_ho)), (s5, .inl (cI, 32, .inl fs5)), (h0, .inr (8, [.int i6, .ref s1, .ref ho, .ref ht9, .ref s4, .ref s5])), (s1, .inl (cI, 4, .inl f5)), (s4, .inl (cI, 4, .inl fs4))] H := ⟨hP, hD⟩
    have hP := hPD.1
    have hD := hPD.2
    clear hPD
    try dsimp only at hw4
    have hP9 := hP.sub (ws' := [(h0, .inr (8, [.int i6, .ref s1, .ref ho, .ref ht9, .ref s4, .ref s5])), (ho, .inr (5, f_ho)), (s1, .inl (cI, 4, .inl f5)), (s4, .inl (cI, 4, .inl fs4)), (s5, .inl (cI, 32, .inl fs5))]) [2, 0, 3, 4, 1] rfl
    have hD9 := hD.sub (ws' := [(h0, .inr (8, [.int i6, .ref s1, .ref ho, .ref ht9, .ref s4, .ref s5])), (ho, .inr (5, f_ho)), (s1, .inl (cI, 4, .inl f5)), (s4, .inl (cI, 4, .inl fs4)), (s5, .inl (cI, 32, .inl fs5))]) [2, 0, 3, 4, 1] (by decide +kernel) rfl
    exact W.vret hx hb hr (fun t ht hW => ⟨⟨(fun _ => 0), rfl, trivial, ⟨f5, fs4, i6, va_hq ht hP9, hD9⟩⟩, hS.F ht⟩) hS.2.2 dX8_giveFrom_21
  ·
    have c1 : ¬ nh ≤ k := fun h => c1 ((nI_leI (a := nh) (b := k) (by omega) (by omega)).mpr h)
    refine lv_iload_n hx hb dX8_giveFrom_11 rfl (lv_at hl 1 rfl) ?_
    refine lv_iconst (v := 4) hx hb dX8_giveFrom_12 (by decide) ?_
    refine lv_icmp_lt (tgt := 22) hx hb dX8_giveFrom_13 (by decide) (fun c7 => ?_) (fun c7 => ?_)
    ·
      have c7 : k < 4 := (nI_ltI (a := k) (b := 4) (by omega) (by omega)).mp c7
      refine lv_iconst (v := 0) hx hb dX8_giveFrom_22 (by decide) ?_
      refine lv_istore (lv' := [(4, .int 0), (0, .ref h0), (1, .int (nI k)), (2, .int a0), (3, .int a1)]) hx hb dX8_giveFrom_23 hl (by decide) rfl (fun ls hl => ?_)
      refine (fun (K : ∀ (d25 : Nat) (k25 : Nat) (f25_s1 : Nat → Int32) (f25_s4 : Nat → Int32) (i25_h0_0 : Int32) (H : Heap) (locs : List Loc) (ls : Array Slot), k25 + d25 = nq → va_P (dC, dI) vwCl [(h0, .inr (8, [.int i25_h0_0, .ref s1, .ref ho, .ref ht9, .ref s4, .ref s5])), (ho, .inr (5, f_ho)), (s1, .inl (cI, 4, .inl f25_s1)), (s4, .inl (cI, 4, .inl f25_s4)), (s5, .inl (cI, 32, .inl fs5))] H → va_D A [(h0, .inr (8, [.int i25_h0_0, .ref s1, .ref ho, .ref ht9, .ref s4, .ref s5])), (ho, .inr (5, f_ho)), (s1, .inl (cI, 4, .inl f25_s1)), (s4, .inl (cI, 4, .inl f25_s4)), (s5, .inl (cI, 32, .inl fs5))] → va_S A s.heap H locs → lv_has ls 5 [(4, .int (nI k25)), (0, .ref h0), (1, .int (nI k)), (2, .int a0), (3, .int a1)] → W p l e _ s m _ below meth c H locs _ _ _ (F0 m 25 ls [])) => K nq 0 fs1 fs4 be _ _ _ (by omega) hP hD hS (lv_sub hl [0, 1, 2, 3, 4] rfl)) ?_
      intro d25
      induction d25 with
      | zero =>
        intro k25 f25_s1 f25_s4 i25_h0_0 H locs ls hk25 hP hD hS hl
        refine lv_iload hx hb dX8_giveFrom_25 (lv_at hl 0 rfl) ?_
        refine lv_aload_n hx hb dX8_giveFrom_27 rfl (lv_at hl 1 rfl) ?_
        refine va_get (D := (dC, dI)) (ci := 8) (v := .ref ho) (C := RX8) (T := TX8) (N := 6) hx hb hts hi_X8 hown hK hP 0 rfl rfl 2 (by decide) (hts (.fieldLink RX8 25 "LeftQuills$Sharing" "office" "LLeftQuills$Office;") (wmx 1 rfl)) (fun _ h9 => h9) rfl dX8_giveFrom_28 ?_
        refine va_get (D := (dC, dI)) (ci := 5) (v := .int (nI nq)) (C := RX5) (T := TX5) (N := 13) hx hb hts hi_X5 hown hK hP 1 rfl rfl 3 (by decide) (hts (.fieldLink RX8 38 "LeftQuills$Office" "quills" "I") (wmx 3 rfl)) (fun _ h9 => h9) e_ho_3 dX8_giveFrom_31 ?_
        refine lv_icmp_ge (tgt := 61) hx hb dX8_giveFrom_34 (by decide) (fun c8 => ?_) (fun c8 => ?_)
        ·
          have c8 : nq ≤ k25 := (nI_leI (a := nq) (b := k25) (by omega) (by omega)).mp c8
          have hP9 := hP.sub (ws' := [(h0, .inr (8, [.int i25_h0_0, .ref s1, .ref ho, .ref ht9, .ref s4, .ref s5])), (ho, .inr (5, f_ho)), (s1, .inl (cI, 4, .inl f25_s1)), (s4, .inl (cI, 4, .inl f25_s4)), (s5, .inl (cI, 32, .inl fs5))]) [0, 1, 2, 3, 4] rfl
          have hD9 := hD.sub (ws' := [(h0, .inr (8, [.int i25_h0_0, .ref s1, .ref ho, .ref ht9, .ref s4, .ref s5])), (ho, .inr (5, f_ho)), (s1, .inl (cI, 4, .inl f25_s1)), (s4, .inl (cI, 4, .inl f25_s4)), (s5, .inl (cI, 32, .inl fs5))]) [0, 1, 2, 3, 4] (by decide +kernel) rfl
          exact W.vret hx hb hr (fun t ht hW => ⟨⟨(fun _ => 0), rfl, trivial, ⟨f25_s1, f25_s4, i25_h0_0, va_hq ht hP9, hD9⟩⟩, hS.F ht⟩) hS.2.2 dX8_giveFrom_61
        ·
          have c8 : ¬ nq ≤ k25 := fun h => c8 ((nI_leI (a := nq) (b := k25) (by omega) (by omega)).mpr h)
          omega
      | succ d25 ih25 =>
        intro k25 f25_s1 f25_s4 i25_h0_0 H locs ls hk25 hP hD hS hl
        refine lv_iload hx hb dX8_giveFrom_25 (lv_at hl 0 rfl) ?_
        refine lv_aload_n hx hb dX8_giveFrom_27 rfl (lv_at hl 1 rfl) ?_
        refine va_get (D := (dC, dI)) (ci := 8) (v := .ref ho) (C := RX8) (T := TX8) (N := 6) hx hb hts hi_X8 hown hK hP 0 rfl rfl 2 (by decide) (hts (.fieldLink RX8 25 "LeftQuills$Sharing" "office" "LLeftQuills$Office;") (wmx 1 rfl)) (fun _ h9 => h9) rfl dX8_giveFrom_28 ?_
        refine va_get (D := (dC, dI)) (ci := 5) (v := .int (nI nq)) (C := RX5) (T := TX5) (N := 13) hx hb hts hi_X5 hown hK hP 1 rfl rfl 3 (by decide) (hts (.fieldLink RX8 38 "LeftQuills$Office" "quills" "I") (wmx 3 rfl)) (fun _ h9 => h9) e_ho_3 dX8_giveFrom_31 ?_
        refine lv_icmp_ge (tgt := 61) hx hb dX8_giveFrom_34 (by decide) (fun c9 => ?_) (fun c9 => ?_)
        ·
          have c9 : nq ≤ k25 := (nI_leI (a := nq) (b := k25) (by omega) (by omega)).mp c9
          omega
        ·
          have c9 : ¬ nq ≤ k25 := fun h => c9 ((nI_leI (a := nq) (b := k25) (by omega) (by omega)).mpr h)
          refine lv_iload_n hx hb dX8_giveFrom_37 rfl (lv_at hl 3 rfl) ?_
          refine lv_iconst (v := 1) hx hb dX8_giveFrom_38 (by decide) ?_
          refine lv_iload hx hb dX8_giveFrom_39 (lv_at hl 0 rfl) ?_
          refine lv_ishl hx hb dX8_giveFrom_41 ?_
          refine lv_topi (fun z10 ez10 => ?_)
          refine lv_iand hx hb dX8_giveFrom_42 ?_
          refine lv_topi (fun z11 ez11 => ?_)
          refine lv_if_ne (tgt := 55) hx hb dX8_giveFrom_43 (by decide) (fun c12 => ?_) (fun c12 => ?_)
          ·
            refine lv_iinc (v := nI (k25 + 1)) (lv' := [(4, .int (nI (k25 + 1))), (0, .ref h0), (1, .int (nI k)), (2, .int a0), (3, .int a1)]) hx hb dX8_giveFrom_55 hl (k := 0) rfl ((rfl : nI k25 + Int32.ofInt 1 = nI k25 + 1).trans (nI_add k25 1)) (by decide) rfl (fun ls hl => ?_)
            refine lv_goto (tgt := 25) hx hb dX8_giveFrom_58 (by decide) ?_
            exact ih25 (k25 + 1) f25_s1 f25_s4 i25_h0_0 _ _ _ (by omega) hP hD hS (lv_sub hl [0, 1, 2, 3, 4] rfl)
          ·
            refine lv_aload_n hx hb dX8_giveFrom_46 rfl (lv_at hl 1 rfl) ?_
            refine lv_iload_n hx hb dX8_giveFrom_47 rfl (lv_at hl 2 rfl) ?_
            refine lv_iload hx hb dX8_giveFrom_48 (lv_at hl 0 rfl) ?_
            refine lv_iload_n hx hb dX8_giveFrom_50 rfl (lv_at hl 3 rfl) ?_
            refine lv_iload_n hx hb dX8_giveFrom_51 rfl (lv_at hl 4 rfl) ?_
            have hc9 := va_cut (W' := [(h0, .inr (8, [.int i25_h0_0, .ref s1, .ref ho, .ref ht9, .ref s4, .ref s5])), (ho, .inr (5, f_ho)), (s1, .inl (cI, 4, .inl f25_s1)), (s4, .inl (cI, 4, .inl f25_s4)), (s5, .inl (cI, 32, .inl fs5))]) hP hD hS hA [0, 1, 2, 3, 4] (by decide) rfl
            have hPc := hc9.1
            have hDc := hc9.2.1
            have hFc := hc9.2.2
            clear hc9
            refine va_callv (va_runV (As := [.int (nI k), .int (nI k25), .int a0, .int a1]) (rest := []) ⟨hx, hb, hml, hown, hts⟩ (c_X8_giveQuill_1 l dC dI cI cZ cQ h0 i25_h0_0 s1 ho ht9 s4 s5 nq nh f_ho f25_s1 f25_s4 fs5 k k25 a0 a1 H.size e_ho_3 e_ho_4 (by omega) (by omega) (by omega) (by omega) (by omega)) (cwV 4 hts gX8_giveFrom_X8_giveQuill rfl rfl rfl hd_X8_giveQuill_RX8 ⟨Nat.le_of_ble_eq_true rfl, Nat.le_of_ble_eq_true rfl⟩) (pv_D (va_recv hK hP (ci := 8) (q0 := 0) rfl rfl) hK hPc hDc) rfl rfl hl.1 rfl (lv_room (Nat.le_of_ble_eq_true rfl)) dX8_giveFrom_52 ⟨Nat.le_of_ble_eq_true rfl, Nat.le_of_ble_eq_true rfl⟩) hS (fun q _ h => hFc q h) hFc (fun u14 t H1 locs ht hvm hw15 hB hz1 hk1 hS => ?_)
            obtain ⟨f16, f17, i18, hP1, hD1⟩ := hB
            replace hP1 := va_hp ht hP1
            obtain ⟨hP, hD⟩ := va_join (wr := []) (w1 := [(h0, .inr (8, [.int i18, .ref s1, .ref ho, .ref ht9, .ref s4, .ref s5])), (ho, .inr (5, f_ho)), (s1, .inl (cI, 4, .inl f16)), (s4, .inl (cI, 4, .inl f17)), (s5, .inl (cI, 32, .inl fs5))]) hP hD [0, 1, 2, 3, 4] [] rfl rfl (by decide +kernel) (by decide +kernel) hk1 hFc hP1 hD1
            clear hP1 hD1
            clear hz1 hk1 hPc hDc hFc
            generalize H1 = H at hP hS ht ⊢
            have hPD : pdW (dC, dI) vwCl A [(h0, .inr (8, [.int i18, .ref s1, .ref ho, .ref ht9, .ref s4, .ref s5])), (ho, .inr (5, f_ho)), (s1, .inl (cI, 4, .inl f16)), (s4, .inl (cI, 4, .inl f17)), (s5, .inl (cI, 32, .inl fs5))] H := ⟨hP, hD⟩
            have hP := hPD.1
            have hD := hPD.2
            clear hPD
            try dsimp only at hw15
            refine lv_iinc (v := nI (k25 + 1)) (lv' := [(4, .int (nI (k25 + 1))), (0, .ref h0), (1, .int (nI k)), (2, .int a0), (3, .int a1)]) hx hb dX8_giveFrom_55 hl (k := 0) rfl ((rfl : nI k25 + Int32.ofInt 1 = nI k25 + 1).trans (nI_add k25 1)) (by decide) rfl (fun ls hl => ?_)
            refine lv_goto (tgt := 25) hx hb dX8_giveFrom_58 (by decide) ?_
            exact ih25 (k25 + 1) f16 f17 i18 _ _ _ (by omega) hP hD hS (lv_sub hl [0, 1, 2, 3, 4] rfl)
    ·
      have c7 : ¬ k < 4 := fun h => c7 ((nI_ltI (a := k) (b := 4) (by omega) (by omega)).mpr h)
      refine lv_aload_n hx hb dX8_giveFrom_16 rfl (lv_at hl 0 rfl) ?_
      refine lv_iload_n hx hb dX8_giveFrom_17 rfl (lv_at hl 3 rfl) ?_
      have hc9 := va_cut (W' := [(h0, .inr (8, [.int be, .ref s1, .ref ho, .ref ht9, .ref s4, .ref s5])), (s1, .inl (cI, 4, .inl fs1)), (s4, .inl (cI, 4, .inl fs4))]) hP hD hS hA [0, 2, 3] (by decide) rfl
      have hPc := hc9.1
      have hDc := hc9.2.1
      have hFc := hc9.2.2
      clear hc9
      refine va_callv (va_runV (As := [.int a1]) (rest := []) ⟨hx, hb, hml, hown, hts⟩ (c_X8_keepIfBetter l dC dI cI cZ cQ h0 be s1 ho ht9 s4 s5 fs1 fs4 a1 s.heap.size ) (cwV 1 hts gX8_giveFrom_X8_keepIfBetter rfl rfl rfl hd_X8_keepIfBetter_RX8 ⟨Nat.le_of_ble_eq_true rfl, Nat.le_of_ble_eq_true rfl⟩) (pv_D (va_recv hK hP (ci := 8) (q0 := 0) rfl rfl) hK hPc hDc) rfl rfl hl.1 rfl (lv_room (Nat.le_of_ble_eq_true rfl)) dX8_giveFrom_18 ⟨Nat.le_of_ble_eq_true rfl, Nat.le_of_ble_eq_true rfl⟩) hS (fun q _ h => hFc q h) hFc (fun u20 t H1 locs ht hvm hw21 hB hz1 hk1 hS => ?_)
      obtain ⟨f22, i23, hP1, hD1⟩ := hB
      replace hP1 := va_hp ht hP1
      obtain ⟨hP, hD⟩ := va_join (wr := [(ho, .inr (5, f_ho)), (s5, .inl (cI, 32, .inl fs5))]) (w1 := [(h0, .inr (8, [.int i23, .ref s1, .ref ho, .ref ht9, .ref s4, .ref s5])), (s1, .inl (cI, 4, .inl f22)), (s4, .inl (cI, 4, .inl fs4))]) hP hD [0, 2, 3] [1, 4] rfl rfl (by decide +kernel) (by decide +kernel) hk1 hFc hP1 hD1
      clear hP1 hD1
      clear hz1 hk1 hPc hDc hFc
      generalize H1 = H at hP hS ht ⊢
      have hPD : pdW (dC, dI) vwCl A [(ho, .inr (5, f_ho)), (s5, .inl (cI, 32, .inl fs5)), (h0, .inr (8, [.int i23, .ref s1, .ref ho, .ref ht9, .ref s4, .ref s5])), (s1, .inl (cI, 4, .inl f22)), (s4, .inl (cI, 4, .inl fs4))] H := ⟨hP, hD⟩
      have hP := hPD.1
      have hD := hPD.2
      clear hPD
      try dsimp only at hw21
      have hP9 := hP.sub (ws' := [(h0, .inr (8, [.int i23, .ref s1, .ref ho, .ref ht9, .ref s4, .ref s5])), (ho, .inr (5, f_ho)), (s1, .inl (cI, 4, .inl f22)), (s4, .inl (cI, 4, .inl fs4)), (s5, .inl (cI, 32, .inl fs5))]) [2, 0, 3, 4, 1] rfl
      have hD9 := hD.sub (ws' := [(h0, .inr (8, [.int i23, .ref s1, .ref ho, .ref ht9, .ref s4, .ref s5])), (ho, .inr (5, f_ho)), (s1, .inl (cI, 4, .inl f22)), (s4, .inl (cI, 4, .inl fs4)), (s5, .inl (cI, 32, .inl fs5))]) [2, 0, 3, 4, 1] (by decide +kernel) rfl
      exact W.vret hx hb hr (fun t ht hW => ⟨⟨(fun _ => 0), rfl, trivial, ⟨f22, fs4, i23, va_hq ht hP9, hD9⟩⟩, hS.F ht⟩) hS.2.2 dX8_giveFrom_21
set_option maxHeartbeats 4000000 in
set_option maxRecDepth 100000 in
theorem c_X8_giveQuill_2 (l : Launch) (dC : Nat → ClassId) (dI : Nat → Nat → Nat) (cI cZ cQ : ClassId) (h0 : Nat) (be : Int32) (s1 : Nat) (ho : Nat) (ht9 : Nat) (s4 : Nat) (s5 : Nat) (nq : Nat) (nh : Nat) (f_ho : List Value) (fs1 : Nat → Int32) (fs4 : Nat → Int32) (fs5 : Nat → Int32) (k : Nat) (j : Nat) (a0 : Int32) (a1 : Int32) (sz : Nat) (e_ho_3 : fAt f_ho 3 = some (.int (nI nq))) (e_ho_4 : fAt f_ho 4 = some (.int (nI nh))) (hnq : nq ≤ 8) (hnh : nh ≤ 4) (hj : j < 8) (hk : k < 4) (hd : 4 ≤ k + 2) : Met l yX8_giveQuill wsX8_giveQuill ({ frames := 5, cells := 0, slots := 0, locals := 133 }) (va_Pc [.ref h0, .int (nI k), .int (nI j), .int a0, .int a1] (fun U => U.heap.size = sz ∧ va_P (dC, dI) vwCl [(h0, .inr (8, [.int be, .ref s1, .ref ho, .ref ht9, .ref s4, .ref s5])), (ho, .inr (5, f_ho)), (s1, .inl (cI, 4, .inl fs1)), (s4, .inl (cI, 4, .inl fs4)), (s5, .inl (cI, 32, .inl fs5))] U.heap ∧ va_K (dC, dI) vwCl (tys0 cI cZ cQ) U ∧ va_D (fun _ => True) [(h0, .inr (8, [.int be, .ref s1, .ref ho, .ref ht9, .ref s4, .ref s5])), (ho, .inr (5, f_ho)), (s1, .inl (cI, 4, .inl fs1)), (s4, .inl (cI, 4, .inl fs4)), (s5, .inl (cI, 32, .inl fs5))])) (va_Qv (fun (u : Nat → Nat) => True) (fun (_ : Nat → Nat) (t : State) => ∃ (gg0 gg1 : Nat → Int32) (ii0 : Int32) , va_P (dC, dI) vwCl [(h0, .inr (8, [.int ii0, .ref s1, .ref ho, .ref ht9, .ref s4, .ref s5])), (ho, .inr (5, f_ho)), (s1, .inl (cI, 4, .inl gg0)), (s4, .inl (cI, 4, .inl gg1)), (s5, .inl (cI, 32, .inl fs5))] t.heap ∧ va_D (va_A [(h0, .inr (8, [.int be, .ref s1, .ref ho, .ref ht9, .ref s4, .ref s5])), (ho, .inr (5, f_ho)), (s1, .inl (cI, 4, .inl fs1)), (s4, .inl (cI, 4, .inl fs4)), (s5, .inl (cI, 32, .inl fs5))] sz) [(h0, .inr (8, [.int ii0, .ref s1, .ref ho, .ref ht9, .ref s4, .ref s5])), (ho, .inr (5, f_ho)), (s1, .inl (cI, 4, .inl gg0)), (s4, .inl (cI, 4, .inl gg1)), (s5, .inl (cI, 32, .inl fs5))]) (va_A [(h0, .inr (8, [.int be, .ref s1, .ref ho, .ref ht9, .ref s4, .ref s5])), (ho, .inr (5, f_ho)), (s1, .inl (cI, 4, .inl fs1)), (s4, .inl (cI, 4, .inl fs4)), (s5, .inl (cI, 32, .inl fs5))] sz)) 0 0 (va_A [(h0, .inr (8, [.int be, .ref s1, .ref ho, .ref ht9, .ref s4, .ref s5])), (ho, .inr (5, f_ho)), (s1, .inl (cI, 4, .inl fs1)), (s4, .inl (cI, 4, .inl fs4)), (s5, .inl (cI, 32, .inl fs5))] sz) := by
  refine Met.ofW (cc := cX8_giveQuill) (maxL := 5) (ret := none) (by decide) rfl ?_
  intro p e s m args below meth c s₁ B hml hv
  obtain ⟨rfl, hsz, hP, hK, hD0⟩ := hv
  have hx := B.exec
  have hb := B.bytes
  have hr := B.returns
  have hts := atoms_spec (ws := wsX8_giveQuill) B.pre
  have hown : s.vm.findClass RX8 = some m.cls := findClass_of_methodNamed B.named
  have hlocks := B.notSynchronized
  have hi_X8 : ∀ w ∈ u_ws RX8 TX8 6, w ∈ wsX8_giveQuill := fun _ h => List.mem_cons_of_mem _ (List.mem_append_left _ (List.mem_append_right _ (h)))
  subst hsz
  have hD := hD0.self (sz := s.heap.size)
  generalize hAe : va_A [(h0, .inr (8, [.int be, .ref s1, .ref ho, .ref ht9, .ref s4, .ref s5])), (ho, .inr (5, f_ho)), (s1, .inl (cI, 4, .inl fs1)), (s4, .inl (cI, 4, .inl fs4)), (s5, .inl (cI, 32, .inl fs5))] s.heap.size = A at hD ⊢
  have hA : ∀ q : Nat, s.heap.size ≤ q → A q := fun q h => by rw [← hAe]; exact Or.inr h
  have hS : va_S A s.heap s.heap [] := va_S.rf
  have hl := lv_entry ([.ref h0, .int (nI k), .int (nI j), .int a0, .int a1]) (n := 5) (Nat.le_of_ble_eq_true rfl)
  rw [lg_entry_eq]
  generalize (lg_sl ([.ref h0, .int (nI k), .int (nI j), .int a0, .int a1]) ++ List.replicate (5 - (lg_sl ([.ref h0, .int (nI k), .int (nI j), .int a0, .int a1])).length) Slot.unset).toArray = ls at hl ⊢
  have hl : lv_has ls 5 [(0, .ref h0), (1, .int (nI k)), (2, .int (nI j)), (3, .int a0), (4, .int a1)] := hl
  refine lv_aload_n hx hb dX8_giveQuill_0 rfl (lv_at hl 0 rfl) ?_
  refine va_get (D := (dC, dI)) (ci := 8) (v := .ref s4) (C := RX8) (T := TX8) (N := 6) hx hb hts hi_X8 hown hK hP 0 rfl rfl 4 (by decide) (hts (.fieldLink RX8 19 "LeftQuills$Sharing" "quillOf" "[I") (wmx 1 rfl)) (fun _ h9 => h9) rfl dX8_giveQuill_1 ?_
  refine lv_iload_n hx hb dX8_giveQuill_4 rfl (lv_at hl 1 rfl) ?_
  refine lv_iload_n hx hb dX8_giveQuill_5 rfl (lv_at hl 2 rfl) ?_
  refine va_iast hx hb hK hP hD hS 3 0 rfl rfl (vp_in_nI (n := k) (N := 4) (by omega) (by decide)) dX8_giveQuill_6 (fun H locs hP hD hS => ?_)
  generalize hgf1 : upd fs4 ((nI k).toNatClampNeg) (nI j) = f1 at hP hD
  have hPD : pdW (dC, dI) vwCl A [(h0, .inr (8, [.int be, .ref s1, .ref ho, .ref ht9, .ref s4, .ref s5])), (ho, .inr (5, f_ho)), (s1, .inl (cI, 4, .inl fs1)), (s4, .inl (cI, 4, .inl f1)), (s5, .inl (cI, 32, .inl fs5))] H := ⟨hP, hD⟩
  have hP := hPD.1
  have hD := hPD.2
  clear hPD
  refine lv_aload_n hx hb dX8_giveQuill_7 rfl (lv_at hl 0 rfl) ?_
  refine lv_iload_n hx hb dX8_giveQuill_8 rfl (lv_at hl 1 rfl) ?_
  refine lv_iconst (v := 1) hx hb dX8_giveQuill_9 (by decide) ?_
  refine lv_iadd hx hb dX8_giveQuill_10 ?_
  refine lv_topi (fun z2 ez2 => ?_)
  obtain rfl : z2 = nI (k + 1) := ez2.trans (nI_add k 1)
  refine lv_iload_n hx hb dX8_giveQuill_11 rfl (lv_at hl 3 rfl) ?_
  refine lv_iconst (v := 1) hx hb dX8_giveQuill_12 (by decide) ?_
  refine lv_iload_n hx hb dX8_giveQuill_13 rfl (lv_at hl 2 rfl) ?_
  refine lv_ishl hx hb dX8_giveQuill_14 ?_
  refine lv_topi (fun z3 ez3 => ?_)
  refine lv_ior hx hb dX8_giveQuill_15 ?_
  refine lv_topi (fun z4 ez4 => ?_)
  refine lv_iload hx hb dX8_giveQuill_16 (lv_at hl 4 rfl) ?_
  refine lv_aload_n hx hb dX8_giveQuill_18 rfl (lv_at hl 0 rfl) ?_
  refine va_get (D := (dC, dI)) (ci := 8) (v := .ref s5) (C := RX8) (T := TX8) (N := 6) hx hb hts hi_X8 hown hK hP 0 rfl rfl 5 (by decide) (hts (.fieldLink RX8 22 "LeftQuills$Sharing" "good" "[I") (wmx 2 rfl)) (fun _ h9 => h9) rfl dX8_giveQuill_19 ?_
  refine lv_iload_n hx hb dX8_giveQuill_22 rfl (lv_at hl 1 rfl) ?_
  refine lv_bipush (v := 8) hx hb dX8_giveQuill_23 (by decide) ?_
  refine lv_imul hx hb dX8_giveQuill_25 ?_
  refine lv_topi (fun z5 ez5 => ?_)
  obtain rfl : z5 = nI (k * 8) := ez5.trans (pk_mul k 8)
  refine lv_iload_n hx hb dX8_giveQuill_26 rfl (lv_at hl 2 rfl) ?_
  refine lv_iadd hx hb dX8_giveQuill_27 ?_
  refine lv_topi (fun z6 ez6 => ?_)
  obtain rfl : z6 = nI ((k * 8) + j) := ez6.trans (nI_add (k * 8) j)
  refine va_iald hx hb hK hP 4 0 rfl rfl (vp_in_nI (n := (k * 8) + j) (N := 32) (by omega) (by decide)) dX8_giveQuill_28 ?_
  refine W.eq (g2 := F0 m 29 ls [.int (fs5 ((k * 8) + j)), .int a1, .int z4, .int (nI (k + 1)), .ref h0]) (congrArg (fun y9 => F0 m 29 ls (.int (fs5 y9) :: [.int a1, .int z4, .int (nI (k + 1)), .ref h0])) ((nI_clamp (n := (k * 8) + j) (by omega)))) ?_
  refine lv_iadd hx hb dX8_giveQuill_29 ?_
  refine lv_topi (fun z7 ez7 => ?_)
  have hc9 := va_cut (W' := [(h0, .inr (8, [.int be, .ref s1, .ref ho, .ref ht9, .ref s4, .ref s5])), (ho, .inr (5, f_ho)), (s1, .inl (cI, 4, .inl fs1)), (s4, .inl (cI, 4, .inl f1)), (s5, .inl (cI, 32, .inl fs5))]) hP hD hS hA [0, 1, 2, 3, 4] (by decide) rfl
  have hPc := hc9.1
  have hDc := hc9.2.1
  have hFc := hc9.2.2
  clear hc9
  refine va_callv (va_runV (As := [.int (nI (k + 1)), .int z4, .int z7]) (rest := []) ⟨hx, hb, hml, hown, hts⟩ (c_X8_giveFrom_1 l dC dI cI cZ cQ h0 be s1 ho ht9 s4 s5 nq nh f_ho fs1 f1 fs5 (k + 1) z4 z7 H.size e_ho_3 e_ho_4 (by omega) (by omega) (by omega) (by omega)) (cwV 3 hts gX8_giveQuill_X8_giveFrom rfl rfl rfl hd_X8_giveFrom_RX8 ⟨Nat.le_of_ble_eq_true rfl, Nat.le_of_ble_eq_true rfl⟩) (pv_D (va_recv hK hP (ci := 8) (q0 := 0) rfl rfl) hK hPc hDc) rfl rfl hl.1 rfl (lv_room (Nat.le_of_ble_eq_true rfl)) dX8_giveQuill_30 ⟨Nat.le_of_ble_eq_true rfl, Nat.le_of_ble_eq_true rfl⟩) hS (fun q _ h => hFc q h) hFc (fun u9 t H1 locs ht hvm hw10 hB hz1 hk1 hS => ?_)
  obtain ⟨f11, f12, i13, hP1, hD1⟩ := hB
  replace hP1 := va_hp ht hP1
  obtain ⟨hP, hD⟩ := va_join (wr := []) (w1 := [(h0, .inr (8, [.int i13, .ref s1, .ref ho, .ref ht9, .ref s4, .ref s5])), (ho, .inr (5, f_ho)), (s1, .inl (cI, 4, .inl f11)), (s4, .inl (cI, 4, .inl f12)), (s5, .inl (cI, 32, .inl fs5))]) hP hD [0, 1, 2, 3, 4] [] rfl rfl (by decide +kernel) (by decide +kernel) hk1 hFc hP1 hD1
  clear hP1 hD1
  clear hz1 hk1 hPc hDc hFc
  generalize H1 = H at hP hS ht ⊢
  have hPD : pdW (dC, dI) vwCl A [(h0, .inr (8, [.int i13, .ref s1, .ref ho, .ref ht9, .ref s4, .ref s5])), (ho, .inr (5, f_ho)), (s1, .inl (cI, 4, .inl f11)), (s4, .inl (cI, 4, .inl f12)), (s5, .inl (cI, 32, .inl fs5))] H := ⟨hP, hD⟩
  have hP := hPD.1
  have hD := hPD.2
  clear hPD
  try dsimp only at hw10
  have hP9 := hP.sub (ws' := [(h0, .inr (8, [.int i13, .ref s1, .ref ho, .ref ht9, .ref s4, .ref s5])), (ho, .inr (5, f_ho)), (s1, .inl (cI, 4, .inl f11)), (s4, .inl (cI, 4, .inl f12)), (s5, .inl (cI, 32, .inl fs5))]) [0, 1, 2, 3, 4] rfl
  have hD9 := hD.sub (ws' := [(h0, .inr (8, [.int i13, .ref s1, .ref ho, .ref ht9, .ref s4, .ref s5])), (ho, .inr (5, f_ho)), (s1, .inl (cI, 4, .inl f11)), (s4, .inl (cI, 4, .inl f12)), (s5, .inl (cI, 32, .inl fs5))]) [0, 1, 2, 3, 4] (by decide +kernel) rfl
  exact W.vret hx hb hr (fun t ht hW => ⟨⟨(fun _ => 0), rfl, trivial, ⟨f11, f12, i13, va_hq ht hP9, hD9⟩⟩, hS.F ht⟩) hS.2.2 dX8_giveQuill_33
set_option maxHeartbeats 4000000 in
set_option maxRecDepth 100000 in
theorem c_X8_giveFrom_2 (l : Launch) (dC : Nat → ClassId) (dI : Nat → Nat → Nat) (cI cZ cQ : ClassId) (h0 : Nat) (be : Int32) (s1 : Nat) (ho : Nat) (ht9 : Nat) (s4 : Nat) (s5 : Nat) (nq : Nat) (nh : Nat) (f_ho : List Value) (fs1 : Nat → Int32) (fs4 : Nat → Int32) (fs5 : Nat → Int32) (k : Nat) (a0 : Int32) (a1 : Int32) (sz : Nat) (e_ho_3 : fAt f_ho 3 = some (.int (nI nq))) (e_ho_4 : fAt f_ho 4 = some (.int (nI nh))) (hnq : nq ≤ 8) (hnh : nh ≤ 4) (hk : k ≤ 4) (hd : 4 ≤ k + 2) : Met l yX8_giveFrom wsX8_giveFrom ({ frames := 6, cells := 0, slots := 0, locals := 157 }) (va_Pc [.ref h0, .int (nI k), .int a0, .int a1] (fun U => U.heap.size = sz ∧ va_P (dC, dI) vwCl [(h0, .inr (8, [.int be, .ref s1, .ref ho, .ref ht9, .ref s4, .ref s5])), (ho, .inr (5, f_ho)), (s1, .inl (cI, 4, .inl fs1)), (s4, .inl (cI, 4, .inl fs4)), (s5, .inl (cI, 32, .inl fs5))] U.heap ∧ va_K (dC, dI) vwCl (tys0 cI cZ cQ) U ∧ va_D (fun _ => True) [(h0, .inr (8, [.int be, .ref s1, .ref ho, .ref ht9, .ref s4, .ref s5])), (ho, .inr (5, f_ho)), (s1, .inl (cI, 4, .inl fs1)), (s4, .inl (cI, 4, .inl fs4)), (s5, .inl (cI, 32, .inl fs5))])) (va_Qv (fun (u : Nat → Nat) => True) (fun (_ : Nat → Nat) (t : State) => ∃ (gg0 gg1 : Nat → Int32) (ii0 : Int32) , va_P (dC, dI) vwCl [(h0, .inr (8, [.int ii0, .ref s1, .ref ho, .ref ht9, .ref s4, .ref s5])), (ho, .inr (5, f_ho)), (s1, .inl (cI, 4, .inl gg0)), (s4, .inl (cI, 4, .inl gg1)), (s5, .inl (cI, 32, .inl fs5))] t.heap ∧ va_D (va_A [(h0, .inr (8, [.int be, .ref s1, .ref ho, .ref ht9, .ref s4, .ref s5])), (ho, .inr (5, f_ho)), (s1, .inl (cI, 4, .inl fs1)), (s4, .inl (cI, 4, .inl fs4)), (s5, .inl (cI, 32, .inl fs5))] sz) [(h0, .inr (8, [.int ii0, .ref s1, .ref ho, .ref ht9, .ref s4, .ref s5])), (ho, .inr (5, f_ho)), (s1, .inl (cI, 4, .inl gg0)), (s4, .inl (cI, 4, .inl gg1)), (s5, .inl (cI, 32, .inl fs5))]) (va_A [(h0, .inr (8, [.int be, .ref s1, .ref ho, .ref ht9, .ref s4, .ref s5])), (ho, .inr (5, f_ho)), (s1, .inl (cI, 4, .inl fs1)), (s4, .inl (cI, 4, .inl fs4)), (s5, .inl (cI, 32, .inl fs5))] sz)) 0 0 (va_A [(h0, .inr (8, [.int be, .ref s1, .ref ho, .ref ht9, .ref s4, .ref s5])), (ho, .inr (5, f_ho)), (s1, .inl (cI, 4, .inl fs1)), (s4, .inl (cI, 4, .inl fs4)), (s5, .inl (cI, 32, .inl fs5))] sz) := by
  refine Met.ofW (cc := cX8_giveFrom) (maxL := 5) (ret := none) (by decide) rfl ?_
  intro p e s m args below meth c s₁ B hml hv
  obtain ⟨rfl, hsz, hP, hK, hD0⟩ := hv
  have hx := B.exec
  have hb := B.bytes
  have hr := B.returns
  have hts := atoms_spec (ws := wsX8_giveFrom) B.pre
  have hown : s.vm.findClass RX8 = some m.cls := findClass_of_methodNamed B.named
  have hlocks := B.notSynchronized
  have hi_X5 : ∀ w ∈ u_ws RX5 TX5 13, w ∈ wsX8_giveFrom := fun _ h => List.mem_cons_of_mem _ (List.mem_append_right _ (h))
  have hi_X8 : ∀ w ∈ u_ws RX8 TX8 6, w ∈ wsX8_giveFrom := fun _ h => List.mem_cons_of_mem _ (List.mem_append_left _ (List.mem_append_right _ (h)))
  subst hsz
  have hD := hD0.self (sz := s.heap.size)
  generalize hAe : va_A [(h0, .inr (8, [.int be, .ref s1, .ref ho, .ref ht9, .ref s4, .ref s5])), (ho, .inr (5, f_ho)), (s1, .inl (cI, 4, .inl fs1)), (s4, .inl (cI, 4, .inl fs4)), (s5, .inl (cI, 32, .inl fs5))] s.heap.size = A at hD ⊢
  have hA : ∀ q : Nat, s.heap.size ≤ q → A q := fun q h => by rw [← hAe]; exact Or.inr h
  have hS : va_S A s.heap s.heap [] := va_S.rf
  have hl := lv_entry ([.ref h0, .int (nI k), .int a0, .int a1]) (n := 5) (Nat.le_of_ble_eq_true rfl)
  rw [lg_entry_eq]
  generalize (lg_sl ([.ref h0, .int (nI k), .int a0, .int a1]) ++ List.replicate (5 - (lg_sl ([.ref h0, .int (nI k), .int a0, .int a1])).length) Slot.unset).toArray = ls at hl ⊢
  have hl : lv_has ls 5 [(0, .ref h0), (1, .int (nI k)), (2, .int a0), (3, .int a1)] := hl
  refine lv_iload_n hx hb dX8_giveFrom_0 rfl (lv_at hl 1 rfl) ?_
  refine lv_aload_n hx hb dX8_giveFrom_1 rfl (lv_at hl 0 rfl) ?_
  refine va_get (D := (dC, dI)) (ci := 8) (v := .ref ho) (C := RX8) (T := TX8) (N := 6) hx hb hts hi_X8 hown hK hP 0 rfl rfl 2 (by decide) (hts (.fieldLink RX8 25 "LeftQuills$Sharing" "office" "LLeftQuills$Office;") (wmx 1 rfl)) (fun _ h9 => h9) rfl dX8_giveFrom_2 ?_
  refine va_get (D := (dC, dI)) (ci := 5) (v := .int (nI nh)) (C := RX5) (T := TX5) (N := 13) hx hb hts hi_X5 hown hK hP 1 rfl rfl 4 (by decide) (hts (.fieldLink RX8 33 "LeftQuills$Office" "hands" "I") (wmx 2 rfl)) (fun _ h9 => h9) e_ho_4 dX8_giveFrom_5 ?_
  refine lv_icmp_ge (tgt := 16) hx hb dX8_giveFrom_8 (by decide) (fun c1 => ?_) (fun c1 => ?_)
  ·
    have c1 : nh ≤ k := (nI_leI (a := nh) (b := k) (by omega) (by omega)).mp c1
    refine lv_aload_n hx hb dX8_giveFrom_16 rfl (lv_at hl 0 rfl) ?_
    refine lv_iload_n hx hb dX8_giveFrom_17 rfl (lv_at hl 3 rfl) ?_
    have hc9 := va_cut (W' := [(h0, .inr (8, [.int be, .ref s1, .ref ho, .ref ht9, .ref s4, .ref s5])), (s1, .inl (cI, 4, .inl fs1)), (s4, .inl (cI, 4, .inl fs4))]) hP hD hS hA [0, 2, 3] (by decide) rfl
    have hPc := hc9.1
    have hDc := hc9.2.1
    have hFc := hc9.2.2
    clear hc9
    refine va_callv (va_runV (As := [.int a1]) (rest := []) ⟨hx, hb, hml, hown, hts⟩ (c_X8_keepIfBetter l dC dI cI cZ cQ h0 be s1 ho ht9 s4 s5 fs1 fs4 a1 s.heap.size ) (cwV 1 hts gX8_giveFrom_X8_keepIfBetter rfl rfl rfl hd_X8_keepIfBetter_RX8 ⟨Nat.le_of_ble_eq_true rfl, Nat.le_of_ble_eq_true rfl⟩) (pv_D (va_recv hK hP (ci := 8) (q0 := 0) rfl rfl) hK hPc hDc) rfl rfl hl.1 rfl (lv_room (Nat.le_of_ble_eq_true rfl)) dX8_giveFrom_18 ⟨Nat.le_of_ble_eq_true rfl, Nat.le_of_ble_eq_true rfl⟩) hS (fun q _ h => hFc q h) hFc (fun u3 t H1 locs ht hvm hw4 hB hz1 hk1 hS => ?_)
    obtain ⟨f5, i6, hP1, hD1⟩ := hB
    replace hP1 := va_hp ht hP1
    obtain ⟨hP, hD⟩ := va_join (wr := [(ho, .inr (5, f_ho)), (s5, .inl (cI, 32, .inl fs5))]) (w1 := [(h0, .inr (8, [.int i6, .ref s1, .ref ho, .ref ht9, .ref s4, .ref s5])), (s1, .inl (cI, 4, .inl f5)), (s4, .inl (cI, 4, .inl fs4))]) hP hD [0, 2, 3] [1, 4] rfl rfl (by decide +kernel) (by decide +kernel) hk1 hFc hP1 hD1
    clear hP1 hD1
    clear hz1 hk1 hPc hDc hFc
    generalize H1 = H at hP hS ht ⊢
    have hPD : pdW (dC, dI) vwCl A [(ho, .inr (5, f_ho)), (s5, .inl (cI, 32, .inl fs5)), (h0, .inr (8, [.int i6, .ref s1, .ref ho, .ref ht9, .ref s4, .ref s5])), (s1, .inl (cI, 4, .inl f5)), (s4, .inl (cI, 4, .inl fs4))] H := ⟨hP, hD⟩
    have hP := hPD.1
    have hD := hPD.2
    clear hPD
    try dsimp only at hw4
    have hP9 := hP.sub (ws' := [(h0, .inr (8, [.int i6, .ref s1, .ref ho, .ref ht9, .ref s4, .ref s5])), (ho, .inr (5, f_ho)), (s1, .inl (cI, 4, .inl f5)), (s4, .inl (cI, 4, .inl fs4)), (s5, .inl (cI, 32, .inl fs5))]) [2, 0, 3, 4, 1] rfl
    have hD9 := hD.sub (ws' := [(h0, .inr (8, [.int i6, .ref s1, .ref ho, .ref ht9, .ref s4, .ref s5])), (ho, .inr (5, f_ho)), (s1, .inl (cI, 4, .inl f5)), (s4, .inl (cI, 4, .inl fs4)), (s5, .inl (cI, 32, .inl fs5))]) [2, 0, 3, 4, 1] (by decide +kernel) rfl
    exact W.vret hx hb hr (fun t ht hW => ⟨⟨(fun _ => 0), rfl, trivial, ⟨f5, fs4, i6, va_hq ht hP9, hD9⟩⟩, hS.F ht⟩) hS.2.2 dX8_giveFrom_21
  ·
    have c1 : ¬ nh ≤ k := fun h => c1 ((nI_leI (a := nh) (b := k) (by omega) (by omega)).mpr h)
    refine lv_iload_n hx hb dX8_giveFrom_11 rfl (lv_at hl 1 rfl) ?_
    refine lv_iconst (v := 4) hx hb dX8_giveFrom_12 (by decide) ?_
    refine lv_icmp_lt (tgt := 22) hx hb dX8_giveFrom_13 (by decide) (fun c7 => ?_) (fun c7 => ?_)
    ·
      have c7 : k < 4 := (nI_ltI (a := k) (b := 4) (by omega) (by omega)).mp c7
      refine lv_iconst (v := 0) hx hb dX8_giveFrom_22 (by decide) ?_
      refine lv_istore (lv' := [(4, .int 0), (0, .ref h0), (1, .int (nI k)), (2, .int a0), (3, .int a1)]) hx hb dX8_giveFrom_23 hl (by decide) rfl (fun ls hl => ?_)
      refine (fun (K : ∀ (d25 : Nat) (k25 : Nat) (f25_s1 : Nat → Int32) (f25_s4 : Nat → Int32) (i25_h0_0 : Int32) (H : Heap) (locs : List Loc) (ls : Array Slot), k25 + d25 = nq → va_P (dC, dI) vwCl [(h0, .inr (8, [.int i25_h0_0, .ref s1, .ref ho, .ref ht9, .ref s4, .ref s5])), (ho, .inr (5, f_ho)), (s1, .inl (cI, 4, .inl f25_s1)), (s4, .inl (cI, 4, .inl f25_s4)), (s5, .inl (cI, 32, .inl fs5))] H → va_D A [(h0, .inr (8, [.int i25_h0_0, .ref s1, .ref ho, .ref ht9, .ref s4, .ref s5])), (ho, .inr (5, f_ho)), (s1, .inl (cI, 4, .inl f25_s1)), (s4, .inl (cI, 4, .inl f25_s4)), (s5, .inl (cI, 32, .inl fs5))] → va_S A s.heap H locs → lv_has ls 5 [(4, .int (nI k25)), (0, .ref h0), (1, .int (nI k)), (2, .int a0), (3, .int a1)] → W p l e _ s m _ below meth c H locs _ _ _ (F0 m 25 ls [])) => K nq 0 fs1 fs4 be _ _ _ (by omega) hP hD hS (lv_sub hl [0, 1, 2, 3, 4] rfl)) ?_
      intro d25
      induction d25 with
      | zero =>
        intro k25 f25_s1 f25_s4 i25_h0_0 H locs ls hk25 hP hD hS hl
        refine lv_iload hx hb dX8_giveFrom_25 (lv_at hl 0 rfl) ?_
        refine lv_aload_n hx hb dX8_giveFrom_27 rfl (lv_at hl 1 rfl) ?_
        refine va_get (D := (dC, dI)) (ci := 8) (v := .ref ho) (C := RX8) (T := TX8) (N := 6) hx hb hts hi_X8 hown hK hP 0 rfl rfl 2 (by decide) (hts (.fieldLink RX8 25 "LeftQuills$Sharing" "office" "LLeftQuills$Office;") (wmx 1 rfl)) (fun _ h9 => h9) rfl dX8_giveFrom_28 ?_
        refine va_get (D := (dC, dI)) (ci := 5) (v := .int (nI nq)) (C := RX5) (T := TX5) (N := 13) hx hb hts hi_X5 hown hK hP 1 rfl rfl 3 (by decide) (hts (.fieldLink RX8 38 "LeftQuills$Office" "quills" "I") (wmx 3 rfl)) (fun _ h9 => h9) e_ho_3 dX8_giveFrom_31 ?_
        refine lv_icmp_ge (tgt := 61) hx hb dX8_giveFrom_34 (by decide) (fun c8 => ?_) (fun c8 => ?_)
        ·
          have c8 : nq ≤ k25 := (nI_leI (a := nq) (b := k25) (by omega) (by omega)).mp c8
          have hP9 := hP.sub (ws' := [(h0, .inr (8, [.int i25_h0_0, .ref s1, .ref ho, .ref ht9, .ref s4, .ref s5])), (ho, .inr (5, f_ho)), (s1, .inl (cI, 4, .inl f25_s1)), (s4, .inl (cI, 4, .inl f25_s4)), (s5, .inl (cI, 32, .inl fs5))]) [0, 1, 2, 3, 4] rfl
          have hD9 := hD.sub (ws' := [(h0, .inr (8, [.int i25_h0_0, .ref s1, .ref ho, .ref ht9, .ref s4, .ref s5])), (ho, .inr (5, f_ho)), (s1, .inl (cI, 4, .inl f25_s1)), (s4, .inl (cI, 4, .inl f25_s4)), (s5, .inl (cI, 32, .inl fs5))]) [0, 1, 2, 3, 4] (by decide +kernel) rfl
          exact W.vret hx hb hr (fun t ht hW => ⟨⟨(fun _ => 0), rfl, trivial, ⟨f25_s1, f25_s4, i25_h0_0, va_hq ht hP9, hD9⟩⟩, hS.F ht⟩) hS.2.2 dX8_giveFrom_61
        ·
          have c8 : ¬ nq ≤ k25 := fun h => c8 ((nI_leI (a := nq) (b := k25) (by omega) (by omega)).mpr h)
          omega
      | succ d25 ih25 =>
        intro k25 f25_s1 f25_s4 i25_h0_0 H locs ls hk25 hP hD hS hl
        refine lv_iload hx hb dX8_giveFrom_25 (lv_at hl 0 rfl) ?_
        refine lv_aload_n hx hb dX8_giveFrom_27 rfl (lv_at hl 1 rfl) ?_
        refine va_get (D := (dC, dI)) (ci := 8) (v := .ref ho) (C := RX8) (T := TX8) (N := 6) hx hb hts hi_X8 hown hK hP 0 rfl rfl 2 (by decide) (hts (.fieldLink RX8 25 "LeftQuills$Sharing" "office" "LLeftQuills$Office;") (wmx 1 rfl)) (fun _ h9 => h9) rfl dX8_giveFrom_28 ?_
        refine va_get (D := (dC, dI)) (ci := 5) (v := .int (nI nq)) (C := RX5) (T := TX5) (N := 13) hx hb hts hi_X5 hown hK hP 1 rfl rfl 3 (by decide) (hts (.fieldLink RX8 38 "LeftQuills$Office" "quills" "I") (wmx 3 rfl)) (fun _ h9 => h9) e_ho_3 dX8_giveFrom_31 ?_
        refine lv_icmp_ge (tgt := 61) hx hb dX8_giveFrom_34 (by decide) (fun c9 => ?_) (fun c9 => ?_)
        ·
          have c9 : nq ≤ k25 := (nI_leI (a := nq) (b := k25) (by omega) (by omega)).mp c9
          omega
        ·
          have c9 : ¬ nq ≤ k25 := fun h => c9 ((nI_leI (a := nq) (b := k25) (by omega) (by omega)).mpr h)
          refine lv_iload_n hx hb dX8_giveFrom_37 rfl (lv_at hl 3 rfl) ?_
          refine lv_iconst (v := 1) hx hb dX8_giveFrom_38 (by decide) ?_
          refine lv_iload hx hb dX8_giveFrom_39 (lv_at hl 0 rfl) ?_
          refine lv_ishl hx hb dX8_giveFrom_41 ?_
          refine lv_topi (fun z10 ez10 => ?_)
          refine lv_iand hx hb dX8_giveFrom_42 ?_
          refine lv_topi (fun z11 ez11 => ?_)
          refine lv_if_ne (tgt := 55) hx hb dX8_giveFrom_43 (by decide) (fun c12 => ?_) (fun c12 => ?_)
          ·
            refine lv_iinc (v := nI (k25 + 1)) (lv' := [(4, .int (nI (k25 + 1))), (0, .ref h0), (1, .int (nI k)), (2, .int a0), (3, .int a1)]) hx hb dX8_giveFrom_55 hl (k := 0) rfl ((rfl : nI k25 + Int32.ofInt 1 = nI k25 + 1).trans (nI_add k25 1)) (by decide) rfl (fun ls hl => ?_)
            refine lv_goto (tgt := 25) hx hb dX8_giveFrom_58 (by decide) ?_
            exact ih25 (k25 + 1) f25_s1 f25_s4 i25_h0_0 _ _ _ (by omega) hP hD hS (lv_sub hl [0, 1, 2, 3, 4] rfl)
          ·
            refine lv_aload_n hx hb dX8_giveFrom_46 rfl (lv_at hl 1 rfl) ?_
            refine lv_iload_n hx hb dX8_giveFrom_47 rfl (lv_at hl 2 rfl) ?_
            refine lv_iload hx hb dX8_giveFrom_48 (lv_at hl 0 rfl) ?_
            refine lv_iload_n hx hb dX8_giveFrom_50 rfl (lv_at hl 3 rfl) ?_
            refine lv_iload_n hx hb dX8_giveFrom_51 rfl (lv_at hl 4 rfl) ?_
            have hc9 := va_cut (W' := [(h0, .inr (8, [.int i25_h0_0, .ref s1, .ref ho, .ref ht9, .ref s4, .ref s5])), (ho, .inr (5, f_ho)), (s1, .inl (cI, 4, .inl f25_s1)), (s4, .inl (cI, 4, .inl f25_s4)), (s5, .inl (cI, 32, .inl fs5))]) hP hD hS hA [0, 1, 2, 3, 4] (by decide) rfl
            have hPc := hc9.1
            have hDc := hc9.2.1
            have hFc := hc9.2.2
            clear hc9
            refine va_callv (va_runV (As := [.int (nI k), .int (nI k25), .int a0, .int a1]) (rest := []) ⟨hx, hb, hml, hown, hts⟩ (c_X8_giveQuill_2 l dC dI cI cZ cQ h0 i25_h0_0 s1 ho ht9 s4 s5 nq nh f_ho f25_s1 f25_s4 fs5 k k25 a0 a1 H.size e_ho_3 e_ho_4 (by omega) (by omega) (by omega) (by omega) (by omega)) (cwV 4 hts gX8_giveFrom_X8_giveQuill rfl rfl rfl hd_X8_giveQuill_RX8 ⟨Nat.le_of_ble_eq_true rfl, Nat.le_of_ble_eq_true rfl⟩) (pv_D (va_recv hK hP (ci := 8) (q0 := 0) rfl rfl) hK hPc hDc) rfl rfl hl.1 rfl (lv_room (Nat.le_of_ble_eq_true rfl)) dX8_giveFrom_52 ⟨Nat.le_of_ble_eq_true rfl, Nat.le_of_ble_eq_true rfl⟩) hS (fun q _ h => hFc q h) hFc (fun u14 t H1 locs ht hvm hw15 hB hz1 hk1 hS => ?_)
            obtain ⟨f16, f17, i18, hP1, hD1⟩ := hB
            replace hP1 := va_hp ht hP1
            obtain ⟨hP, hD⟩ := va_join (wr := []) (w1 := [(h0, .inr (8, [.int i18, .ref s1, .ref ho, .ref ht9, .ref s4, .ref s5])), (ho, .inr (5, f_ho)), (s1, .inl (cI, 4, .inl f16)), (s4, .inl (cI, 4, .inl f17)), (s5, .inl (cI, 32, .inl fs5))]) hP hD [0, 1, 2, 3, 4] [] rfl rfl (by decide +kernel) (by decide +kernel) hk1 hFc hP1 hD1
            clear hP1 hD1
            clear hz1 hk1 hPc hDc hFc
            generalize H1 = H at hP hS ht ⊢
            have hPD : pdW (dC, dI) vwCl A [(h0, .inr (8, [.int i18, .ref s1, .ref ho, .ref ht9, .ref s4, .ref s5])), (ho, .inr (5, f_ho)), (s1, .inl (cI, 4, .inl f16)), (s4, .inl (cI, 4, .inl f17)), (s5, .inl (cI, 32, .inl fs5))] H := ⟨hP, hD⟩
            have hP := hPD.1
            have hD := hPD.2
            clear hPD
            try dsimp only at hw15
            refine lv_iinc (v := nI (k25 + 1)) (lv' := [(4, .int (nI (k25 + 1))), (0, .ref h0), (1, .int (nI k)), (2, .int a0), (3, .int a1)]) hx hb dX8_giveFrom_55 hl (k := 0) rfl ((rfl : nI k25 + Int32.ofInt 1 = nI k25 + 1).trans (nI_add k25 1)) (by decide) rfl (fun ls hl => ?_)
            refine lv_goto (tgt := 25) hx hb dX8_giveFrom_58 (by decide) ?_
            exact ih25 (k25 + 1) f16 f17 i18 _ _ _ (by omega) hP hD hS (lv_sub hl [0, 1, 2, 3, 4] rfl)
    ·
      have c7 : ¬ k < 4 := fun h => c7 ((nI_ltI (a := k) (b := 4) (by omega) (by omega)).mpr h)
      refine lv_aload_n hx hb dX8_giveFrom_16 rfl (lv_at hl 0 rfl) ?_
      refine lv_iload_n hx hb dX8_giveFrom_17 rfl (lv_at hl 3 rfl) ?_
      have hc9 := va_cut (W' := [(h0, .inr (8, [.int be, .ref s1, .ref ho, .ref ht9, .ref s4, .ref s5])), (s1, .inl (cI, 4, .inl fs1)), (s4, .inl (cI, 4, .inl fs4))]) hP hD hS hA [0, 2, 3] (by decide) rfl
      have hPc := hc9.1
      have hDc := hc9.2.1
      have hFc := hc9.2.2
      clear hc9
      refine va_callv (va_runV (As := [.int a1]) (rest := []) ⟨hx, hb, hml, hown, hts⟩ (c_X8_keepIfBetter l dC dI cI cZ cQ h0 be s1 ho ht9 s4 s5 fs1 fs4 a1 s.heap.size ) (cwV 1 hts gX8_giveFrom_X8_keepIfBetter rfl rfl rfl hd_X8_keepIfBetter_RX8 ⟨Nat.le_of_ble_eq_true rfl, Nat.le_of_ble_eq_true rfl⟩) (pv_D (va_recv hK hP (ci := 8) (q0 := 0) rfl rfl) hK hPc hDc) rfl rfl hl.1 rfl (lv_room (Nat.le_of_ble_eq_true rfl)) dX8_giveFrom_18 ⟨Nat.le_of_ble_eq_true rfl, Nat.le_of_ble_eq_true rfl⟩) hS (fun q _ h => hFc q h) hFc (fun u20 t H1 locs ht hvm hw21 hB hz1 hk1 hS => ?_)
      obtain ⟨f22, i23, hP1, hD1⟩ := hB
      replace hP1 := va_hp ht hP1
      obtain ⟨hP, hD⟩ := va_join (wr := [(ho, .inr (5, f_ho)), (s5, .inl (cI, 32, .inl fs5))]) (w1 := [(h0, .inr (8, [.int i23, .ref s1, .ref ho, .ref ht9, .ref s4, .ref s5])), (s1, .inl (cI, 4, .inl f22)), (s4, .inl (cI, 4, .inl fs4))]) hP hD [0, 2, 3] [1, 4] rfl rfl (by decide +kernel) (by decide +kernel) hk1 hFc hP1 hD1
      clear hP1 hD1
      clear hz1 hk1 hPc hDc hFc
      generalize H1 = H at hP hS ht ⊢
      have hPD : pdW (dC, dI) vwCl A [(ho, .inr (5, f_ho)), (s5, .inl (cI, 32, .inl fs5)), (h0, .inr (8, [.int i23, .ref s1, .ref ho, .ref ht9, .ref s4, .ref s5])), (s1, .inl (cI, 4, .inl f22)), (s4, .inl (cI, 4, .inl fs4))] H := ⟨hP, hD⟩
      have hP := hPD.1
      have hD := hPD.2
      clear hPD
      try dsimp only at hw21
      have hP9 := hP.sub (ws' := [(h0, .inr (8, [.int i23, .ref s1, .ref ho, .ref ht9, .ref s4, .ref s5])), (ho, .inr (5, f_ho)), (s1, .inl (cI, 4, .inl f22)), (s4, .inl (cI, 4, .inl fs4)), (s5, .inl (cI, 32, .inl fs5))]) [2, 0, 3, 4, 1] rfl
      have hD9 := hD.sub (ws' := [(h0, .inr (8, [.int i23, .ref s1, .ref ho, .ref ht9, .ref s4, .ref s5])), (ho, .inr (5, f_ho)), (s1, .inl (cI, 4, .inl f22)), (s4, .inl (cI, 4, .inl fs4)), (s5, .inl (cI, 32, .inl fs5))]) [2, 0, 3, 4, 1] (by decide +kernel) rfl
      exact W.vret hx hb hr (fun t ht hW => ⟨⟨(fun _ => 0), rfl, trivial, ⟨f22, fs4, i23, va_hq ht hP9, hD9⟩⟩, hS.F ht⟩) hS.2.2 dX8_giveFrom_21
set_option maxHeartbeats 4000000 in
set_option maxRecDepth 100000 in
theorem c_X8_giveQuill_3 (l : Launch) (dC : Nat → ClassId) (dI : Nat → Nat → Nat) (cI cZ cQ : ClassId) (h0 : Nat) (be : Int32) (s1 : Nat) (ho : Nat) (ht9 : Nat) (s4 : Nat) (s5 : Nat) (nq : Nat) (nh : Nat) (f_ho : List Value) (fs1 : Nat → Int32) (fs4 : Nat → Int32) (fs5 : Nat → Int32) (k : Nat) (j : Nat) (a0 : Int32) (a1 : Int32) (sz : Nat) (e_ho_3 : fAt f_ho 3 = some (.int (nI nq))) (e_ho_4 : fAt f_ho 4 = some (.int (nI nh))) (hnq : nq ≤ 8) (hnh : nh ≤ 4) (hj : j < 8) (hk : k < 4) (hd : 4 ≤ k + 3) : Met l yX8_giveQuill wsX8_giveQuill ({ frames := 7, cells := 0, slots := 0, locals := 181 }) (va_Pc [.ref h0, .int (nI k), .int (nI j), .int a0, .int a1] (fun U => U.heap.size = sz ∧ va_P (dC, dI) vwCl [(h0, .inr (8, [.int be, .ref s1, .ref ho, .ref ht9, .ref s4, .ref s5])), (ho, .inr (5, f_ho)), (s1, .inl (cI, 4, .inl fs1)), (s4, .inl (cI, 4, .inl fs4)), (s5, .inl (cI, 32, .inl fs5))] U.heap ∧ va_K (dC, dI) vwCl (tys0 cI cZ cQ) U ∧ va_D (fun _ => True) [(h0, .inr (8, [.int be, .ref s1, .ref ho, .ref ht9, .ref s4, .ref s5])), (ho, .inr (5, f_ho)), (s1, .inl (cI, 4, .inl fs1)), (s4, .inl (cI, 4, .inl fs4)), (s5, .inl (cI, 32, .inl fs5))])) (va_Qv (fun (u : Nat → Nat) => True) (fun (_ : Nat → Nat) (t : State) => ∃ (gg0 gg1 : Nat → Int32) (ii0 : Int32) , va_P (dC, dI) vwCl [(h0, .inr (8, [.int ii0, .ref s1, .ref ho, .ref ht9, .ref s4, .ref s5])), (ho, .inr (5, f_ho)), (s1, .inl (cI, 4, .inl gg0)), (s4, .inl (cI, 4, .inl gg1)), (s5, .inl (cI, 32, .inl fs5))] t.heap ∧ va_D (va_A [(h0, .inr (8, [.int be, .ref s1, .ref ho, .ref ht9, .ref s4, .ref s5])), (ho, .inr (5, f_ho)), (s1, .inl (cI, 4, .inl fs1)), (s4, .inl (cI, 4, .inl fs4)), (s5, .inl (cI, 32, .inl fs5))] sz) [(h0, .inr (8, [.int ii0, .ref s1, .ref ho, .ref ht9, .ref s4, .ref s5])), (ho, .inr (5, f_ho)), (s1, .inl (cI, 4, .inl gg0)), (s4, .inl (cI, 4, .inl gg1)), (s5, .inl (cI, 32, .inl fs5))]) (va_A [(h0, .inr (8, [.int be, .ref s1, .ref ho, .ref ht9, .ref s4, .ref s5])), (ho, .inr (5, f_ho)), (s1, .inl (cI, 4, .inl fs1)), (s4, .inl (cI, 4, .inl fs4)), (s5, .inl (cI, 32, .inl fs5))] sz)) 0 0 (va_A [(h0, .inr (8, [.int be, .ref s1, .ref ho, .ref ht9, .ref s4, .ref s5])), (ho, .inr (5, f_ho)), (s1, .inl (cI, 4, .inl fs1)), (s4, .inl (cI, 4, .inl fs4)), (s5, .inl (cI, 32, .inl fs5))] sz) := by
  refine Met.ofW (cc := cX8_giveQuill) (maxL := 5) (ret := none) (by decide) rfl ?_
  intro p e s m args below meth c s₁ B hml hv
  obtain ⟨rfl, hsz, hP, hK, hD0⟩ := hv
  have hx := B.exec
  have hb := B.bytes
  have hr := B.returns
  have hts := atoms_spec (ws := wsX8_giveQuill) B.pre
  have hown : s.vm.findClass RX8 = some m.cls := findClass_of_methodNamed B.named
  have hlocks := B.notSynchronized
  have hi_X8 : ∀ w ∈ u_ws RX8 TX8 6, w ∈ wsX8_giveQuill := fun _ h => List.mem_cons_of_mem _ (List.mem_append_left _ (List.mem_append_right _ (h)))
  subst hsz
  have hD := hD0.self (sz := s.heap.size)
  generalize hAe : va_A [(h0, .inr (8, [.int be, .ref s1, .ref ho, .ref ht9, .ref s4, .ref s5])), (ho, .inr (5, f_ho)), (s1, .inl (cI, 4, .inl fs1)), (s4, .inl (cI, 4, .inl fs4)), (s5, .inl (cI, 32, .inl fs5))] s.heap.size = A at hD ⊢
  have hA : ∀ q : Nat, s.heap.size ≤ q → A q := fun q h => by rw [← hAe]; exact Or.inr h
  have hS : va_S A s.heap s.heap [] := va_S.rf
  have hl := lv_entry ([.ref h0, .int (nI k), .int (nI j), .int a0, .int a1]) (n := 5) (Nat.le_of_ble_eq_true rfl)
  rw [lg_entry_eq]
  generalize (lg_sl ([.ref h0, .int (nI k), .int (nI j), .int a0, .int a1]) ++ List.replicate (5 - (lg_sl ([.ref h0, .int (nI k), .int (nI j), .int a0, .int a1])).length) Slot.unset).toArray = ls at hl ⊢
  have hl : lv_has ls 5 [(0, .ref h0), (1, .int (nI k)), (2, .int (nI j)), (3, .int a0), (4, .int a1)] := hl
  refine lv_aload_n hx hb dX8_giveQuill_0 rfl (lv_at hl 0 rfl) ?_
  refine va_get (D := (dC, dI)) (ci := 8) (v := .ref s4) (C := RX8) (T := TX8) (N := 6) hx hb hts hi_X8 hown hK hP 0 rfl rfl 4 (by decide) (hts (.fieldLink RX8 19 "LeftQuills$Sharing" "quillOf" "[I") (wmx 1 rfl)) (fun _ h9 => h9) rfl dX8_giveQuill_1 ?_
  refine lv_iload_n hx hb dX8_giveQuill_4 rfl (lv_at hl 1 rfl) ?_
  refine lv_iload_n hx hb dX8_giveQuill_5 rfl (lv_at hl 2 rfl) ?_
  refine va_iast hx hb hK hP hD hS 3 0 rfl rfl (vp_in_nI (n := k) (N := 4) (by omega) (by decide)) dX8_giveQuill_6 (fun H locs hP hD hS => ?_)
  generalize hgf1 : upd fs4 ((nI k).toNatClampNeg) (nI j) = f1 at hP hD
  have hPD : pdW (dC, dI) vwCl A [(h0, .inr (8, [.int be, .ref s1, .ref ho, .ref ht9, .ref s4, .ref s5])), (ho, .inr (5, f_ho)), (s1, .inl (cI, 4, .inl fs1)), (s4, .inl (cI, 4, .inl f1)), (s5, .inl (cI, 32, .inl fs5))] H := ⟨hP, hD⟩
  have hP := hPD.1
  have hD := hPD.2
  clear hPD
  refine lv_aload_n hx hb dX8_giveQuill_7 rfl (lv_at hl 0 rfl) ?_
  refine lv_iload_n hx hb dX8_giveQuill_8 rfl (lv_at hl 1 rfl) ?_
  refine lv_iconst (v := 1) hx hb dX8_giveQuill_9 (by decide) ?_
  refine lv_iadd hx hb dX8_giveQuill_10 ?_
  refine lv_topi (fun z2 ez2 => ?_)
  obtain rfl : z2 = nI (k + 1) := ez2.trans (nI_add k 1)
  refine lv_iload_n hx hb dX8_giveQuill_11 rfl (lv_at hl 3 rfl) ?_
  refine lv_iconst (v := 1) hx hb dX8_giveQuill_12 (by decide) ?_
  refine lv_iload_n hx hb dX8_giveQuill_13 rfl (lv_at hl 2 rfl) ?_
  refine lv_ishl hx hb dX8_giveQuill_14 ?_
  refine lv_topi (fun z3 ez3 => ?_)
  refine lv_ior hx hb dX8_giveQuill_15 ?_
  refine lv_topi (fun z4 ez4 => ?_)
  refine lv_iload hx hb dX8_giveQuill_16 (lv_at hl 4 rfl) ?_
  refine lv_aload_n hx hb dX8_giveQuill_18 rfl (lv_at hl 0 rfl) ?_
  refine va_get (D := (dC, dI)) (ci := 8) (v := .ref s5) (C := RX8) (T := TX8) (N := 6) hx hb hts hi_X8 hown hK hP 0 rfl rfl 5 (by decide) (hts (.fieldLink RX8 22 "LeftQuills$Sharing" "good" "[I") (wmx 2 rfl)) (fun _ h9 => h9) rfl dX8_giveQuill_19 ?_
  refine lv_iload_n hx hb dX8_giveQuill_22 rfl (lv_at hl 1 rfl) ?_
  refine lv_bipush (v := 8) hx hb dX8_giveQuill_23 (by decide) ?_
  refine lv_imul hx hb dX8_giveQuill_25 ?_
  refine lv_topi (fun z5 ez5 => ?_)
  obtain rfl : z5 = nI (k * 8) := ez5.trans (pk_mul k 8)
  refine lv_iload_n hx hb dX8_giveQuill_26 rfl (lv_at hl 2 rfl) ?_
  refine lv_iadd hx hb dX8_giveQuill_27 ?_
  refine lv_topi (fun z6 ez6 => ?_)
  obtain rfl : z6 = nI ((k * 8) + j) := ez6.trans (nI_add (k * 8) j)
  refine va_iald hx hb hK hP 4 0 rfl rfl (vp_in_nI (n := (k * 8) + j) (N := 32) (by omega) (by decide)) dX8_giveQuill_28 ?_
  refine W.eq (g2 := F0 m 29 ls [.int (fs5 ((k * 8) + j)), .int a1, .int z4, .int (nI (k + 1)), .ref h0]) (congrArg (fun y9 => F0 m 29 ls (.int (fs5 y9) :: [.int a1, .int z4, .int (nI (k + 1)), .ref h0])) ((nI_clamp (n := (k * 8) + j) (by omega)))) ?_
  refine lv_iadd hx hb dX8_giveQuill_29 ?_
  refine lv_topi (fun z7 ez7 => ?_)
  have hc9 := va_cut (W' := [(h0, .inr (8, [.int be, .ref s1, .ref ho, .ref ht9, .ref s4, .ref s5])), (ho, .inr (5, f_ho)), (s1, .inl (cI, 4, .inl fs1)), (s4, .inl (cI, 4, .inl f1)), (s5, .inl (cI, 32, .inl fs5))]) hP hD hS hA [0, 1, 2, 3, 4] (by decide) rfl
  have hPc := hc9.1
  have hDc := hc9.2.1
  have hFc := hc9.2.2
  clear hc9
  refine va_callv (va_runV (As := [.int (nI (k + 1)), .int z4, .int z7]) (rest := []) ⟨hx, hb, hml, hown, hts⟩ (c_X8_giveFrom_2 l dC dI cI cZ cQ h0 be s1 ho ht9 s4 s5 nq nh f_ho fs1 f1 fs5 (k + 1) z4 z7 H.size e_ho_3 e_ho_4 (by omega) (by omega) (by omega) (by omega)) (cwV 3 hts gX8_giveQuill_X8_giveFrom rfl rfl rfl hd_X8_giveFrom_RX8 ⟨Nat.le_of_ble_eq_true rfl, Nat.le_of_ble_eq_true rfl⟩) (pv_D (va_recv hK hP (ci := 8) (q0 := 0) rfl rfl) hK hPc hDc) rfl rfl hl.1 rfl (lv_room (Nat.le_of_ble_eq_true rfl)) dX8_giveQuill_30 ⟨Nat.le_of_ble_eq_true rfl, Nat.le_of_ble_eq_true rfl⟩) hS (fun q _ h => hFc q h) hFc (fun u9 t H1 locs ht hvm hw10 hB hz1 hk1 hS => ?_)
  obtain ⟨f11, f12, i13, hP1, hD1⟩ := hB
  replace hP1 := va_hp ht hP1
  obtain ⟨hP, hD⟩ := va_join (wr := []) (w1 := [(h0, .inr (8, [.int i13, .ref s1, .ref ho, .ref ht9, .ref s4, .ref s5])), (ho, .inr (5, f_ho)), (s1, .inl (cI, 4, .inl f11)), (s4, .inl (cI, 4, .inl f12)), (s5, .inl (cI, 32, .inl fs5))]) hP hD [0, 1, 2, 3, 4] [] rfl rfl (by decide +kernel) (by decide +kernel) hk1 hFc hP1 hD1
  clear hP1 hD1
  clear hz1 hk1 hPc hDc hFc
  generalize H1 = H at hP hS ht ⊢
  have hPD : pdW (dC, dI) vwCl A [(h0, .inr (8, [.int i13, .ref s1, .ref ho, .ref ht9, .ref s4, .ref s5])), (ho, .inr (5, f_ho)), (s1, .inl (cI, 4, .inl f11)), (s4, .inl (cI, 4, .inl f12)), (s5, .inl (cI, 32, .inl fs5))] H := ⟨hP, hD⟩
  have hP := hPD.1
  have hD := hPD.2
  clear hPD
  try dsimp only at hw10
  have hP9 := hP.sub (ws' := [(h0, .inr (8, [.int i13, .ref s1, .ref ho, .ref ht9, .ref s4, .ref s5])), (ho, .inr (5, f_ho)), (s1, .inl (cI, 4, .inl f11)), (s4, .inl (cI, 4, .inl f12)), (s5, .inl (cI, 32, .inl fs5))]) [0, 1, 2, 3, 4] rfl
  have hD9 := hD.sub (ws' := [(h0, .inr (8, [.int i13, .ref s1, .ref ho, .ref ht9, .ref s4, .ref s5])), (ho, .inr (5, f_ho)), (s1, .inl (cI, 4, .inl f11)), (s4, .inl (cI, 4, .inl f12)), (s5, .inl (cI, 32, .inl fs5))]) [0, 1, 2, 3, 4] (by decide +kernel) rfl
  exact W.vret hx hb hr (fun t ht hW => ⟨⟨(fun _ => 0), rfl, trivial, ⟨f11, f12, i13, va_hq ht hP9, hD9⟩⟩, hS.F ht⟩) hS.2.2 dX8_giveQuill_33
set_option maxHeartbeats 4000000 in
set_option maxRecDepth 100000 in
theorem c_X8_giveFrom_3 (l : Launch) (dC : Nat → ClassId) (dI : Nat → Nat → Nat) (cI cZ cQ : ClassId) (h0 : Nat) (be : Int32) (s1 : Nat) (ho : Nat) (ht9 : Nat) (s4 : Nat) (s5 : Nat) (nq : Nat) (nh : Nat) (f_ho : List Value) (fs1 : Nat → Int32) (fs4 : Nat → Int32) (fs5 : Nat → Int32) (k : Nat) (a0 : Int32) (a1 : Int32) (sz : Nat) (e_ho_3 : fAt f_ho 3 = some (.int (nI nq))) (e_ho_4 : fAt f_ho 4 = some (.int (nI nh))) (hnq : nq ≤ 8) (hnh : nh ≤ 4) (hk : k ≤ 4) (hd : 4 ≤ k + 3) : Met l yX8_giveFrom wsX8_giveFrom ({ frames := 8, cells := 0, slots := 0, locals := 205 }) (va_Pc [.ref h0, .int (nI k), .int a0, .int a1] (fun U => U.heap.size = sz ∧ va_P (dC, dI) vwCl [(h0, .inr (8, [.int be, .ref s1, .ref ho, .ref ht9, .ref s4, .ref s5])), (ho, .inr (5, f_ho)), (s1, .inl (cI, 4, .inl fs1)), (s4, .inl (cI, 4, .inl fs4)), (s5, .inl (cI, 32, .inl fs5))] U.heap ∧ va_K (dC, dI) vwCl (tys0 cI cZ cQ) U ∧ va_D (fun _ => True) [(h0, .inr (8, [.int be, .ref s1, .ref ho, .ref ht9, .ref s4, .ref s5])), (ho, .inr (5, f_ho)), (s1, .inl (cI, 4, .inl fs1)), (s4, .inl (cI, 4, .inl fs4)), (s5, .inl (cI, 32, .inl fs5))])) (va_Qv (fun (u : Nat → Nat) => True) (fun (_ : Nat → Nat) (t : State) => ∃ (gg0 gg1 : Nat → Int32) (ii0 : Int32) , va_P (dC, dI) vwCl [(h0, .inr (8, [.int ii0, .ref s1, .ref ho, .ref ht9, .ref s4, .ref s5])), (ho, .inr (5, f_ho)), (s1, .inl (cI, 4, .inl gg0)), (s4, .inl (cI, 4, .inl gg1)), (s5, .inl (cI, 32, .inl fs5))] t.heap ∧ va_D (va_A [(h0, .inr (8, [.int be, .ref s1, .ref ho, .ref ht9, .ref s4, .ref s5])), (ho, .inr (5, f_ho)), (s1, .inl (cI, 4, .inl fs1)), (s4, .inl (cI, 4, .inl fs4)), (s5, .inl (cI, 32, .inl fs5))] sz) [(h0, .inr (8, [.int ii0, .ref s1, .ref ho, .ref ht9, .ref s4, .ref s5])), (ho, .inr (5, f_ho)), (s1, .inl (cI, 4, .inl gg0)), (s4, .inl (cI, 4, .inl gg1)), (s5, .inl (cI, 32, .inl fs5))]) (va_A [(h0, .inr (8, [.int be, .ref s1, .ref ho, .ref ht9, .ref s4, .ref s5])), (ho, .inr (5, f_ho)), (s1, .inl (cI, 4, .inl fs1)), (s4, .inl (cI, 4, .inl fs4)), (s5, .inl (cI, 32, .inl fs5))] sz)) 0 0 (va_A [(h0, .inr (8, [.int be, .ref s1, .ref ho, .ref ht9, .ref s4, .ref s5])), (ho, .inr (5, f_ho)), (s1, .inl (cI, 4, .inl fs1)), (s4, .inl (cI, 4, .inl fs4)), (s5, .inl (cI, 32, .inl fs5))] sz) := by
  refine Met.ofW (cc := cX8_giveFrom) (maxL := 5) (ret := none) (by decide) rfl ?_
  intro p e s m args below meth c s₁ B hml hv
  obtain ⟨rfl, hsz, hP, hK, hD0⟩ := hv
  have hx := B.exec
  have hb := B.bytes
  have hr := B.returns
  have hts := atoms_spec (ws := wsX8_giveFrom) B.pre
  have hown : s.vm.findClass RX8 = some m.cls := findClass_of_methodNamed B.named
  have hlocks := B.notSynchronized
  have hi_X5 : ∀ w ∈ u_ws RX5 TX5 13, w ∈ wsX8_giveFrom := fun _ h => List.mem_cons_of_mem _ (List.mem_append_right _ (h))
  have hi_X8 : ∀ w ∈ u_ws RX8 TX8 6, w ∈ wsX8_giveFrom := fun _ h => List.mem_cons_of_mem _ (List.mem_append_left _ (List.mem_append_right _ (h)))
  subst hsz
  have hD := hD0.self (sz := s.heap.size)
  generalize hAe : va_A [(h0, .inr (8, [.int be, .ref s1, .ref ho, .ref ht9, .ref s4, .ref s5])), (ho, .inr (5, f_ho)), (s1, .inl (cI, 4, .inl fs1)), (s4, .inl (cI, 4, .inl fs4)), (s5, .inl (cI, 32, .inl fs5))] s.heap.size = A at hD ⊢
  have hA : ∀ q : Nat, s.heap.size ≤ q → A q := fun q h => by rw [← hAe]; exact Or.inr h
  have hS : va_S A s.heap s.heap [] := va_S.rf
  have hl := lv_entry ([.ref h0, .int (nI k), .int a0, .int a1]) (n := 5) (Nat.le_of_ble_eq_true rfl)
  rw [lg_entry_eq]
  generalize (lg_sl ([.ref h0, .int (nI k), .int a0, .int a1]) ++ List.replicate (5 - (lg_sl ([.ref h0, .int (nI k), .int a0, .int a1])).length) Slot.unset).toArray = ls at hl ⊢
  have hl : lv_has ls 5 [(0, .ref h0), (1, .int (nI k)), (2, .int a0), (3, .int a1)] := hl
  refine lv_iload_n hx hb dX8_giveFrom_0 rfl (lv_at hl 1 rfl) ?_
  refine lv_aload_n hx hb dX8_giveFrom_1 rfl (lv_at hl 0 rfl) ?_
  refine va_get (D := (dC, dI)) (ci := 8) (v := .ref ho) (C := RX8) (T := TX8) (N := 6) hx hb hts hi_X8 hown hK hP 0 rfl rfl 2 (by decide) (hts (.fieldLink RX8 25 "LeftQuills$Sharing" "office" "LLeftQuills$Office;") (wmx 1 rfl)) (fun _ h9 => h9) rfl dX8_giveFrom_2 ?_
  refine va_get (D := (dC, dI)) (ci := 5) (v := .int (nI nh)) (C := RX5) (T := TX5) (N := 13) hx hb hts hi_X5 hown hK hP 1 rfl rfl 4 (by decide) (hts (.fieldLink RX8 33 "LeftQuills$Office" "hands" "I") (wmx 2 rfl)) (fun _ h9 => h9) e_ho_4 dX8_giveFrom_5 ?_
  refine lv_icmp_ge (tgt := 16) hx hb dX8_giveFrom_8 (by decide) (fun c1 => ?_) (fun c1 => ?_)
  ·
    have c1 : nh ≤ k := (nI_leI (a := nh) (b := k) (by omega) (by omega)).mp c1
    refine lv_aload_n hx hb dX8_giveFrom_16 rfl (lv_at hl 0 rfl) ?_
    refine lv_iload_n hx hb dX8_giveFrom_17 rfl (lv_at hl 3 rfl) ?_
    have hc9 := va_cut (W' := [(h0, .inr (8, [.int be, .ref s1, .ref ho, .ref ht9, .ref s4, .ref s5])), (s1, .inl (cI, 4, .inl fs1)), (s4, .inl (cI, 4, .inl fs4))]) hP hD hS hA [0, 2, 3] (by decide) rfl
    have hPc := hc9.1
    have hDc := hc9.2.1
    have hFc := hc9.2.2
    clear hc9
    refine va_callv (va_runV (As := [.int a1]) (rest := []) ⟨hx, hb, hml, hown, hts⟩ (c_X8_keepIfBetter l dC dI cI cZ cQ h0 be s1 ho ht9 s4 s5 fs1 fs4 a1 s.heap.size ) (cwV 1 hts gX8_giveFrom_X8_keepIfBetter rfl rfl rfl hd_X8_keepIfBetter_RX8 ⟨Nat.le_of_ble_eq_true rfl, Nat.le_of_ble_eq_true rfl⟩) (pv_D (va_recv hK hP (ci := 8) (q0 := 0) rfl rfl) hK hPc hDc) rfl rfl hl.1 rfl (lv_room (Nat.le_of_ble_eq_true rfl)) dX8_giveFrom_18 ⟨Nat.le_of_ble_eq_true rfl, Nat.le_of_ble_eq_true rfl⟩) hS (fun q _ h => hFc q h) hFc (fun u3 t H1 locs ht hvm hw4 hB hz1 hk1 hS => ?_)
    obtain ⟨f5, i6, hP1, hD1⟩ := hB
    replace hP1 := va_hp ht hP1
    obtain ⟨hP, hD⟩ := va_join (wr := [(ho, .inr (5, f_ho)), (s5, .inl (cI, 32, .inl fs5))]) (w1 := [(h0, .inr (8, [.int i6, .ref s1, .ref ho, .ref ht9, .ref s4, .ref s5])), (s1, .inl (cI, 4, .inl f5)), (s4, .inl (cI, 4, .inl fs4))]) hP hD [0, 2, 3] [1, 4] rfl rfl (by decide +kernel) (by decide +kernel) hk1 hFc hP1 hD1
    clear hP1 hD1
    clear hz1 hk1 hPc hDc hFc
    generalize H1 = H at hP hS ht ⊢
    have hPD : pdW (dC, dI) vwCl A [(ho, .inr (5, f_ho)), (s5, .inl (cI, 32, .inl fs5)), (h0, .inr (8, [.int i6, .ref s1, .ref ho, .ref ht9, .ref s4, .ref s5])), (s1, .inl (cI, 4, .inl f5)), (s4, .inl (cI, 4, .inl fs4))] H := ⟨hP, hD⟩
    have hP := hPD.1
    have hD := hPD.2
    clear hPD
    try dsimp only at hw4
    have hP9 := hP.sub (ws' := [(h0, .inr (8, [.int i6, .ref s1, .ref ho, .ref ht9, .ref s4, .ref s5])), (ho, .inr (5, f_ho)), (s1, .inl (cI, 4, .inl f5)), (s4, .inl (cI, 4, .inl fs4)), (s5, .inl (cI, 32, .inl fs5))]) [2, 0, 3, 4, 1] rfl
    have hD9 := hD.sub (ws' := [(h0, .inr (8, [.int i6, .ref s1, .ref ho, .ref ht9, .ref s4, .ref s5])), (ho, .inr (5, f_ho)), (s1, .inl (cI, 4, .inl f5)), (s4, .inl (cI, 4, .inl fs4)), (s5, .inl (cI, 32, .inl fs5))]) [2, 0, 3, 4, 1] (by decide +kernel) rfl
    exact W.vret hx hb hr (fun t ht hW => ⟨⟨(fun _ => 0), rfl, trivial, ⟨f5, fs4, i6, va_hq ht hP9, hD9⟩⟩, hS.F ht⟩) hS.2.2 dX8_giveFrom_21
  ·
    have c1 : ¬ nh ≤ k := fun h => c1 ((nI_leI (a := nh) (b := k) (by omega) (by omega)).mpr h)
    refine lv_iload_n hx hb dX8_giveFrom_11 rfl (lv_at hl 1 rfl) ?_
    refine lv_iconst (v := 4) hx hb dX8_giveFrom_12 (by decide) ?_
    refine lv_icmp_lt (tgt := 22) hx hb dX8_giveFrom_13 (by decide) (fun c7 => ?_) (fun c7 => ?_)
    ·
      have c7 : k < 4 := (nI_ltI (a := k) (b := 4) (by omega) (by omega)).mp c7
      refine lv_iconst (v := 0) hx hb dX8_giveFrom_22 (by decide) ?_
      refine lv_istore (lv' := [(4, .int 0), (0, .ref h0), (1, .int (nI k)), (2, .int a0), (3, .int a1)]) hx hb dX8_giveFrom_23 hl (by decide) rfl (fun ls hl => ?_)
      refine (fun (K : ∀ (d25 : Nat) (k25 : Nat) (f25_s1 : Nat → Int32) (f25_s4 : Nat → Int32) (i25_h0_0 : Int32) (H : Heap) (locs : List Loc) (ls : Array Slot), k25 + d25 = nq → va_P (dC, dI) vwCl [(h0, .inr (8, [.int i25_h0_0, .ref s1, .ref ho, .ref ht9, .ref s4, .ref s5])), (ho, .inr (5, f_ho)), (s1, .inl (cI, 4, .inl f25_s1)), (s4, .inl (cI, 4, .inl f25_s4)), (s5, .inl (cI, 32, .inl fs5))] H → va_D A [(h0, .inr (8, [.int i25_h0_0, .ref s1, .ref ho, .ref ht9, .ref s4, .ref s5])), (ho, .inr (5, f_ho)), (s1, .inl (cI, 4, .inl f25_s1)), (s4, .inl (cI, 4, .inl f25_s4)), (s5, .inl (cI, 32, .inl fs5))] → va_S A s.heap H locs → lv_has ls 5 [(4, .int (nI k25)), (0, .ref h0), (1, .int (nI k)), (2, .int a0), (3, .int a1)] → W p l e _ s m _ below meth c H locs _ _ _ (F0 m 25 ls [])) => K nq 0 fs1 fs4 be _ _ _ (by omega) hP hD hS (lv_sub hl [0, 1, 2, 3, 4] rfl)) ?_
      intro d25
      induction d25 with
      | zero =>
        intro k25 f25_s1 f25_s4 i25_h0_0 H locs ls hk25 hP hD hS hl
        refine lv_iload hx hb dX8_giveFrom_25 (lv_at hl 0 rfl) ?_
        refine lv_aload_n hx hb dX8_giveFrom_27 rfl (lv_at hl 1 rfl) ?_
        refine va_get (D := (dC, dI)) (ci := 8) (v := .ref ho) (C := RX8) (T := TX8) (N := 6) hx hb hts hi_X8 hown hK hP 0 rfl rfl 2 (by decide) (hts (.fieldLink RX8 25 "LeftQuills$Sharing" "office" "LLeftQuills$Office;") (wmx 1 rfl)) (fun _ h9 => h9) rfl dX8_giveFrom_28 ?_
        refine va_get (D := (dC, dI)) (ci := 5) (v := .int (nI nq)) (C := RX5) (T := TX5) (N := 13) hx hb hts hi_X5 hown hK hP 1 rfl rfl 3 (by decide) (hts (.fieldLink RX8 38 "LeftQuills$Office" "quills" "I") (wmx 3 rfl)) (fun _ h9 => h9) e_ho_3 dX8_giveFrom_31 ?_
        refine lv_icmp_ge (tgt := 61) hx hb dX8_giveFrom_34 (by decide) (fun c8 => ?_) (fun c8 => ?_)
        ·
          have c8 : nq ≤ k25 := (nI_leI (a := nq) (b := k25) (by omega) (by omega)).mp c8
          have hP9 := hP.sub (ws' := [(h0, .inr (8, [.int i25_h0_0, .ref s1, .ref ho, .ref ht9, .ref s4, .ref s5])), (ho, .inr (5, f_ho)), (s1, .inl (cI, 4, .inl f25_s1)), (s4, .inl (cI, 4, .inl f25_s4)), (s5, .inl (cI, 32, .inl fs5))]) [0, 1, 2, 3, 4] rfl
          have hD9 := hD.sub (ws' := [(h0, .inr (8, [.int i25_h0_0, .ref s1, .ref ho, .ref ht9, .ref s4, .ref s5])), (ho, .inr (5, f_ho)), (s1, .inl (cI, 4, .inl f25_s1)), (s4, .inl (cI, 4, .inl f25_s4)), (s5, .inl (cI, 32, .inl fs5))]) [0, 1, 2, 3, 4] (by decide +kernel) rfl
          exact W.vret hx hb hr (fun t ht hW => ⟨⟨(fun _ => 0), rfl, trivial, ⟨f25_s1, f25_s4, i25_h0_0, va_hq ht hP9, hD9⟩⟩, hS.F ht⟩) hS.2.2 dX8_giveFrom_61
        ·
          have c8 : ¬ nq ≤ k25 := fun h => c8 ((nI_leI (a := nq) (b := k25) (by omega) (by omega)).mpr h)
          omega
      | succ d25 ih25 =>
        intro k25 f25_s1 f25_s4 i25_h0_0 H locs ls hk25 hP hD hS hl
        refine lv_iload hx hb dX8_giveFrom_25 (lv_at hl 0 rfl) ?_
        refine lv_aload_n hx hb dX8_giveFrom_27 rfl (lv_at hl 1 rfl) ?_
        refine va_get (D := (dC, dI)) (ci := 8) (v := .ref ho) (C := RX8) (T := TX8) (N := 6) hx hb hts hi_X8 hown hK hP 0 rfl rfl 2 (by decide) (hts (.fieldLink RX8 25 "LeftQuills$Sharing" "office" "LLeftQuills$Office;") (wmx 1 rfl)) (fun _ h9 => h9) rfl dX8_giveFrom_28 ?_
        refine va_get (D := (dC, dI)) (ci := 5) (v := .int (nI nq)) (C := RX5) (T := TX5) (N := 13) hx hb hts hi_X5 hown hK hP 1 rfl rfl 3 (by decide) (hts (.fieldLink RX8 38 "LeftQuills$Office" "quills" "I") (wmx 3 rfl)) (fun _ h9 => h9) e_ho_3 dX8_giveFrom_31 ?_
        refine lv_icmp_ge (tgt := 61) hx hb dX8_giveFrom_34 (by decide) (fun c9 => ?_) (fun c9 => ?_)
        ·
          have c9 : nq ≤ k25 := (nI_leI (a := nq) (b := k25) (by omega) (by omega)).mp c9
          omega
        ·
          have c9 : ¬ nq ≤ k25 := fun h => c9 ((nI_leI (a := nq) (b := k25) (by omega) (by omega)).mpr h)
          refine lv_iload_n hx hb dX8_giveFrom_37 rfl (lv_at hl 3 rfl) ?_
          refine lv_iconst (v := 1) hx hb dX8_giveFrom_38 (by decide) ?_
          refine lv_iload hx hb dX8_giveFrom_39 (lv_at hl 0 rfl) ?_
          refine lv_ishl hx hb dX8_giveFrom_41 ?_
          refine lv_topi (fun z10 ez10 => ?_)
          refine lv_iand hx hb dX8_giveFrom_42 ?_
          refine lv_topi (fun z11 ez11 => ?_)
          refine lv_if_ne (tgt := 55) hx hb dX8_giveFrom_43 (by decide) (fun c12 => ?_) (fun c12 => ?_)
          ·
            refine lv_iinc (v := nI (k25 + 1)) (lv' := [(4, .int (nI (k25 + 1))), (0, .ref h0), (1, .int (nI k)), (2, .int a0), (3, .int a1)]) hx hb dX8_giveFrom_55 hl (k := 0) rfl ((rfl : nI k25 + Int32.ofInt 1 = nI k25 + 1).trans (nI_add k25 1)) (by decide) rfl (fun ls hl => ?_)
            refine lv_goto (tgt := 25) hx hb dX8_giveFrom_58 (by decide) ?_
            exact ih25 (k25 + 1) f25_s1 f25_s4 i25_h0_0 _ _ _ (by omega) hP hD hS (lv_sub hl [0, 1, 2, 3, 4] rfl)
          ·
            refine lv_aload_n hx hb dX8_giveFrom_46 rfl (lv_at hl 1 rfl) ?_
            refine lv_iload_n hx hb dX8_giveFrom_47 rfl (lv_at hl 2 rfl) ?_
            refine lv_iload hx hb dX8_giveFrom_48 (lv_at hl 0 rfl) ?_
            refine lv_iload_n hx hb dX8_giveFrom_50 rfl (lv_at hl 3 rfl) ?_
            refine lv_iload_n hx hb dX8_giveFrom_51 rfl (lv_at hl 4 rfl) ?_
            have hc9 := va_cut (W' := [(h0, .inr (8, [.int i25_h0_0, .ref s1, .ref ho, .ref ht9, .ref s4, .ref s5])), (ho, .inr (5, f_ho)), (s1, .inl (cI, 4, .inl f25_s1)), (s4, .inl (cI, 4, .inl f25_s4)), (s5, .inl (cI, 32, .inl fs5))]) hP hD hS hA [0, 1, 2, 3, 4] (by decide) rfl
            have hPc := hc9.1
            have hDc := hc9.2.1
            have hFc := hc9.2.2
            clear hc9
            refine va_callv (va_runV (As := [.int (nI k), .int (nI k25), .int a0, .int a1]) (rest := []) ⟨hx, hb, hml, hown, hts⟩ (c_X8_giveQuill_3 l dC dI cI cZ cQ h0 i25_h0_0 s1 ho ht9 s4 s5 nq nh f_ho f25_s1 f25_s4 fs5 k k25 a0 a1 H.size e_ho_3 e_ho_4 (by omega) (by omega) (by omega) (by omega) (by omega)) (cwV 4 hts gX8_giveFrom_X8_giveQuill rfl rfl rfl hd_X8_giveQuill_RX8 ⟨Nat.le_of_ble_eq_true rfl, Nat.le_of_ble_eq_true rfl⟩) (pv_D (va_recv hK hP (ci := 8) (q0 := 0) rfl rfl) hK hPc hDc) rfl rfl hl.1 rfl (lv_room (Nat.le_of_ble_eq_true rfl)) dX8_giveFrom_52 ⟨Nat.le_of_ble_eq_true rfl, Nat.le_of_ble_eq_true rfl⟩) hS (fun q _ h => hFc q h) hFc (fun u14 t H1 locs ht hvm hw15 hB hz1 hk1 hS => ?_)
            obtain ⟨f16, f17, i18, hP1, hD1⟩ := hB
            replace hP1 := va_hp ht hP1
            obtain ⟨hP, hD⟩ := va_join (wr := []) (w1 := [(h0, .inr (8, [.int i18, .ref s1, .ref ho, .ref ht9, .ref s4, .ref s5])), (ho, .inr (5, f_ho)), (s1, .inl (cI, 4, .inl f16)), (s4, .inl (cI, 4, .inl f17)), (s5, .inl (cI, 32, .inl fs5))]) hP hD [0, 1, 2, 3, 4] [] rfl rfl (by decide +kernel) (by decide +kernel) hk1 hFc hP1 hD1
            clear hP1 hD1
            clear hz1 hk1 hPc hDc hFc
            generalize H1 = H at hP hS ht ⊢
            have hPD : pdW (dC, dI) vwCl A [(h0, .inr (8, [.int i18, .ref s1, .ref ho, .ref ht9, .ref s4, .ref s5])), (ho, .inr (5, f_ho)), (s1, .inl (cI, 4, .inl f16)), (s4, .inl (cI, 4, .inl f17)), (s5, .inl (cI, 32, .inl fs5))] H := ⟨hP, hD⟩
            have hP := hPD.1
            have hD := hPD.2
            clear hPD
            try dsimp only at hw15
            refine lv_iinc (v := nI (k25 + 1)) (lv' := [(4, .int (nI (k25 + 1))), (0, .ref h0), (1, .int (nI k)), (2, .int a0), (3, .int a1)]) hx hb dX8_giveFrom_55 hl (k := 0) rfl ((rfl : nI k25 + Int32.ofInt 1 = nI k25 + 1).trans (nI_add k25 1)) (by decide) rfl (fun ls hl => ?_)
            refine lv_goto (tgt := 25) hx hb dX8_giveFrom_58 (by decide) ?_
            exact ih25 (k25 + 1) f16 f17 i18 _ _ _ (by omega) hP hD hS (lv_sub hl [0, 1, 2, 3, 4] rfl)
    ·
      have c7 : ¬ k < 4 := fun h => c7 ((nI_ltI (a := k) (b := 4) (by omega) (by omega)).mpr h)
      refine lv_aload_n hx hb dX8_giveFrom_16 rfl (lv_at hl 0 rfl) ?_
      refine lv_iload_n hx hb dX8_giveFrom_17 rfl (lv_at hl 3 rfl) ?_
      have hc9 := va_cut (W' := [(h0, .inr (8, [.int be, .ref s1, .ref ho, .ref ht9, .ref s4, .ref s5])), (s1, .inl (cI, 4, .inl fs1)), (s4, .inl (cI, 4, .inl fs4))]) hP hD hS hA [0, 2, 3] (by decide) rfl
      have hPc := hc9.1
      have hDc := hc9.2.1
      have hFc := hc9.2.2
      clear hc9
      refine va_callv (va_runV (As := [.int a1]) (rest := []) ⟨hx, hb, hml, hown, hts⟩ (c_X8_keepIfBetter l dC dI cI cZ cQ h0 be s1 ho ht9 s4 s5 fs1 fs4 a1 s.heap.size ) (cwV 1 hts gX8_giveFrom_X8_keepIfBetter rfl rfl rfl hd_X8_keepIfBetter_RX8 ⟨Nat.le_of_ble_eq_true rfl, Nat.le_of_ble_eq_true rfl⟩) (pv_D (va_recv hK hP (ci := 8) (q0 := 0) rfl rfl) hK hPc hDc) rfl rfl hl.1 rfl (lv_room (Nat.le_of_ble_eq_true rfl)) dX8_giveFrom_18 ⟨Nat.le_of_ble_eq_true rfl, Nat.le_of_ble_eq_true rfl⟩) hS (fun q _ h => hFc q h) hFc (fun u20 t H1 locs ht hvm hw21 hB hz1 hk1 hS => ?_)
      obtain ⟨f22, i23, hP1, hD1⟩ := hB
      replace hP1 := va_hp ht hP1
      obtain ⟨hP, hD⟩ := va_join (wr := [(ho, .inr (5, f_ho)), (s5, .inl (cI, 32, .inl fs5))]) (w1 := [(h0, .inr (8, [.int i23, .ref s1, .ref ho, .ref ht9, .ref s4, .ref s5])), (s1, .inl (cI, 4, .inl f22)), (s4, .inl (cI, 4, .inl fs4))]) hP hD [0, 2, 3] [1, 4] rfl rfl (by decide +kernel) (by decide +kernel) hk1 hFc hP1 hD1
      clear hP1 hD1
      clear hz1 hk1 hPc hDc hFc
      generalize H1 = H at hP hS ht ⊢
      have hPD : pdW (dC, dI) vwCl A [(ho, .inr (5, f_ho)), (s5, .inl (cI, 32, .inl fs5)), (h0, .inr (8, [.int i23, .ref s1, .ref ho, .ref ht9, .ref s4, .ref s5])), (s1, .inl (cI, 4, .inl f22)), (s4, .inl (cI, 4, .inl fs4))] H := ⟨hP, hD⟩
      have hP := hPD.1
      have hD := hPD.2
      clear hPD
      try dsimp only at hw21
      have hP9 := hP.sub (ws' := [(h0, .inr (8, [.int i23, .ref s1, .ref ho, .ref ht9, .ref s4, .ref s5])), (ho, .inr (5, f_ho)), (s1, .inl (cI, 4, .inl f22)), (s4, .inl (cI, 4, .inl fs4)), (s5, .inl (cI, 32, .inl fs5))]) [2, 0, 3, 4, 1] rfl
      have hD9 := hD.sub (ws' := [(h0, .inr (8, [.int i23, .ref s1, .ref ho, .ref ht9, .ref s4, .ref s5])), (ho, .inr (5, f_ho)), (s1, .inl (cI, 4, .inl f22)), (s4, .inl (cI, 4, .inl fs4)), (s5, .inl (cI, 32, .inl fs5))]) [2, 0, 3, 4, 1] (by decide +kernel) rfl
      exact W.vret hx hb hr (fun t ht hW => ⟨⟨(fun _ => 0), rfl, trivial, ⟨f22, fs4, i23, va_hq ht hP9, hD9⟩⟩, hS.F ht⟩) hS.2.2 dX8_giveFrom_21
set_option maxHeartbeats 4000000 in
set_option maxRecDepth 100000 in
theorem c_X8_giveQuill_4 (l : Launch) (dC : Nat → ClassId) (dI : Nat → Nat → Nat) (cI cZ cQ : ClassId) (h0 : Nat) (be : Int32) (s1 : Nat) (ho : Nat) (ht9 : Nat) (s4 : Nat) (s5 : Nat) (nq : Nat) (nh : Nat) (f_ho : List Value) (fs1 : Nat → Int32) (fs4 : Nat → Int32) (fs5 : Nat → Int32) (k : Nat) (j : Nat) (a0 : Int32) (a1 : Int32) (sz : Nat) (e_ho_3 : fAt f_ho 3 = some (.int (nI nq))) (e_ho_4 : fAt f_ho 4 = some (.int (nI nh))) (hnq : nq ≤ 8) (hnh : nh ≤ 4) (hj : j < 8) (hk : k < 4) (hd : 4 ≤ k + 4) : Met l yX8_giveQuill wsX8_giveQuill ({ frames := 9, cells := 0, slots := 0, locals := 229 }) (va_Pc [.ref h0, .int (nI k), .int (nI j), .int a0, .int a1] (fun U => U.heap.size = sz ∧ va_P (dC, dI) vwCl [(h0, .inr (8, [.int be, .ref s1, .ref ho, .ref ht9, .ref s4, .ref s5])), (ho, .inr (5, f_ho)), (s1, .inl (cI, 4, .inl fs1)), (s4, .inl (cI, 4, .inl fs4)), (s5, .inl (cI, 32, .inl fs5))] U.heap ∧ va_K (dC, dI) vwCl (tys0 cI cZ cQ) U ∧ va_D (fun _ => True) [(h0, .inr (8, [.int be, .ref s1, .ref ho, .ref ht9, .ref s4, .ref s5])), (ho, .inr (5, f_ho)), (s1, .inl (cI, 4, .inl fs1)), (s4, .inl (cI, 4, .inl fs4)), (s5, .inl (cI, 32, .inl fs5))])) (va_Qv (fun (u : Nat → Nat) => True) (fun (_ : Nat → Nat) (t : State) => ∃ (gg0 gg1 : Nat → Int32) (ii0 : Int32) , va_P (dC, dI) vwCl [(h0, .inr (8, [.int ii0, .ref s1, .ref ho, .ref ht9, .ref s4, .ref s5])), (ho, .inr (5, f_ho)), (s1, .inl (cI, 4, .inl gg0)), (s4, .inl (cI, 4, .inl gg1)), (s5, .inl (cI, 32, .inl fs5))] t.heap ∧ va_D (va_A [(h0, .inr (8, [.int be, .ref s1, .ref ho, .ref ht9, .ref s4, .ref s5])), (ho, .inr (5, f_ho)), (s1, .inl (cI, 4, .inl fs1)), (s4, .inl (cI, 4, .inl fs4)), (s5, .inl (cI, 32, .inl fs5))] sz) [(h0, .inr (8, [.int ii0, .ref s1, .ref ho, .ref ht9, .ref s4, .ref s5])), (ho, .inr (5, f_ho)), (s1, .inl (cI, 4, .inl gg0)), (s4, .inl (cI, 4, .inl gg1)), (s5, .inl (cI, 32, .inl fs5))]) (va_A [(h0, .inr (8, [.int be, .ref s1, .ref ho, .ref ht9, .ref s4, .ref s5])), (ho, .inr (5, f_ho)), (s1, .inl (cI, 4, .inl fs1)), (s4, .inl (cI, 4, .inl fs4)), (s5, .inl (cI, 32, .inl fs5))] sz)) 0 0 (va_A [(h0, .inr (8, [.int be, .ref s1, .ref ho, .ref ht9, .ref s4, .ref s5])), (ho, .inr (5, f_ho)), (s1, .inl (cI, 4, .inl fs1)), (s4, .inl (cI, 4, .inl fs4)), (s5, .inl (cI, 32, .inl fs5))] sz) := by
  refine Met.ofW (cc := cX8_giveQuill) (maxL := 5) (ret := none) (by decide) rfl ?_
  intro p e s m args below meth c s₁ B hml hv
  obtain ⟨rfl, hsz, hP, hK, hD0⟩ := hv
  have hx := B.exec
  have hb := B.bytes
  have hr := B.returns
  have hts := atoms_spec (ws := wsX8_giveQuill) B.pre
  have hown : s.vm.findClass RX8 = some m.cls := findClass_of_methodNamed B.named
  have hlocks := B.notSynchronized
  have hi_X8 : ∀ w ∈ u_ws RX8 TX8 6, w ∈ wsX8_giveQuill := fun _ h => List.mem_cons_of_mem _ (List.mem_append_left _ (List.mem_append_right _ (h)))
  subst hsz
  have hD := hD0.self (sz := s.heap.size)
  generalize hAe : va_A [(h0, .inr (8, [.int be, .ref s1, .ref ho, .ref ht9, .ref s4, .ref s5])), (ho, .inr (5, f_ho)), (s1, .inl (cI, 4, .inl fs1)), (s4, .inl (cI, 4, .inl fs4)), (s5, .inl (cI, 32, .inl fs5))] s.heap.size = A at hD ⊢
  have hA : ∀ q : Nat, s.heap.size ≤ q → A q := fun q h => by rw [← hAe]; exact Or.inr h
  have hS : va_S A s.heap s.heap [] := va_S.rf
  have hl := lv_entry ([.ref h0, .int (nI k), .int (nI j), .int a0, .int a1]) (n := 5) (Nat.le_of_ble_eq_true rfl)
  rw [lg_entry_eq]
  generalize (lg_sl ([.ref h0, .int (nI k), .int (nI j), .int a0, .int a1]) ++ List.replicate (5 - (lg_sl ([.ref h0, .int (nI k), .int (nI j), .int a0, .int a1])).length) Slot.unset).toArray = ls at hl ⊢
  have hl : lv_has ls 5 [(0, .ref h0), (1, .int (nI k)), (2, .int (nI j)), (3, .int a0), (4, .int a1)] := hl
  refine lv_aload_n hx hb dX8_giveQuill_0 rfl (lv_at hl 0 rfl) ?_
  refine va_get (D := (dC, dI)) (ci := 8) (v := .ref s4) (C := RX8) (T := TX8) (N := 6) hx hb hts hi_X8 hown hK hP 0 rfl rfl 4 (by decide) (hts (.fieldLink RX8 19 "LeftQuills$Sharing" "quillOf" "[I") (wmx 1 rfl)) (fun _ h9 => h9) rfl dX8_giveQuill_1 ?_
  refine lv_iload_n hx hb dX8_giveQuill_4 rfl (lv_at hl 1 rfl) ?_
  refine lv_iload_n hx hb dX8_giveQuill_5 rfl (lv_at hl 2 rfl) ?_
  refine va_iast hx hb hK hP hD hS 3 0 rfl rfl (vp_in_nI (n := k) (N := 4) (by omega) (by decide)) dX8_giveQuill_6 (fun H locs hP hD hS => ?_)
  generalize hgf1 : upd fs4 ((nI k).toNatClampNeg) (nI j) = f1 at hP hD
  have hPD : pdW (dC, dI) vwCl A [(h0, .inr (8, [.int be, .ref s1, .ref ho, .ref ht9, .ref s4, .ref s5])), (ho, .inr (5, f_ho)), (s1, .inl (cI, 4, .inl fs1)), (s4, .inl (cI, 4, .inl f1)), (s5, .inl (cI, 32, .inl fs5))] H := ⟨hP, hD⟩
  have hP := hPD.1
  have hD := hPD.2
  clear hPD
  refine lv_aload_n hx hb dX8_giveQuill_7 rfl (lv_at hl 0 rfl) ?_
  refine lv_iload_n hx hb dX8_giveQuill_8 rfl (lv_at hl 1 rfl) ?_
  refine lv_iconst (v := 1) hx hb dX8_giveQuill_9 (by decide) ?_
  refine lv_iadd hx hb dX8_giveQuill_10 ?_
  refine lv_topi (fun z2 ez2 => ?_)
  obtain rfl : z2 = nI (k + 1) := ez2.trans (nI_add k 1)
  refine lv_iload_n hx hb dX8_giveQuill_11 rfl (lv_at hl 3 rfl) ?_
  refine lv_iconst (v := 1) hx hb dX8_giveQuill_12 (by decide) ?_
  refine lv_iload_n hx hb dX8_giveQuill_13 rfl (lv_at hl 2 rfl) ?_
  refine lv_ishl hx hb dX8_giveQuill_14 ?_
  refine lv_topi (fun z3 ez3 => ?_)
  refine lv_ior hx hb dX8_giveQuill_15 ?_
  refine lv_topi (fun z4 ez4 => ?_)
  refine lv_iload hx hb dX8_giveQuill_16 (lv_at hl 4 rfl) ?_
  refine lv_aload_n hx hb dX8_giveQuill_18 rfl (lv_at hl 0 rfl) ?_
  refine va_get (D := (dC, dI)) (ci := 8) (v := .ref s5) (C := RX8) (T := TX8) (N := 6) hx hb hts hi_X8 hown hK hP 0 rfl rfl 5 (by decide) (hts (.fieldLink RX8 22 "LeftQuills$Sharing" "good" "[I") (wmx 2 rfl)) (fun _ h9 => h9) rfl dX8_giveQuill_19 ?_
  refine lv_iload_n hx hb dX8_giveQuill_22 rfl (lv_at hl 1 rfl) ?_
  refine lv_bipush (v := 8) hx hb dX8_giveQuill_23 (by decide) ?_
  refine lv_imul hx hb dX8_giveQuill_25 ?_
  refine lv_topi (fun z5 ez5 => ?_)
  obtain rfl : z5 = nI (k * 8) := ez5.trans (pk_mul k 8)
  refine lv_iload_n hx hb dX8_giveQuill_26 rfl (lv_at hl 2 rfl) ?_
  refine lv_iadd hx hb dX8_giveQuill_27 ?_
  refine lv_topi (fun z6 ez6 => ?_)
  obtain rfl : z6 = nI ((k * 8) + j) := ez6.trans (nI_add (k * 8) j)
  refine va_iald hx hb hK hP 4 0 rfl rfl (vp_in_nI (n := (k * 8) + j) (N := 32) (by omega) (by decide)) dX8_giveQuill_28 ?_
  refine W.eq (g2 := F0 m 29 ls [.int (fs5 ((k * 8) + j)), .int a1, .int z4, .int (nI (k + 1)), .ref h0]) (congrArg (fun y9 => F0 m 29 ls (.int (fs5 y9) :: [.int a1, .int z4, .int (nI (k + 1)), .ref h0])) ((nI_clamp (n := (k * 8) + j) (by omega)))) ?_
  refine lv_iadd hx hb dX8_giveQuill_29 ?_
  refine lv_topi (fun z7 ez7 => ?_)
  have hc9 := va_cut (W' := [(h0, .inr (8, [.int be, .ref s1, .ref ho, .ref ht9, .ref s4, .ref s5])), (ho, .inr (5, f_ho)), (s1, .inl (cI, 4, .inl fs1)), (s4, .inl (cI, 4, .inl f1)), (s5, .inl (cI, 32, .inl fs5))]) hP hD hS hA [0, 1, 2, 3, 4] (by decide) rfl
  have hPc := hc9.1
  have hDc := hc9.2.1
  have hFc := hc9.2.2
  clear hc9
  refine va_callv (va_runV (As := [.int (nI (k + 1)), .int z4, .int z7]) (rest := []) ⟨hx, hb, hml, hown, hts⟩ (c_X8_giveFrom_3 l dC dI cI cZ cQ h0 be s1 ho ht9 s4 s5 nq nh f_ho fs1 f1 fs5 (k + 1) z4 z7 H.size e_ho_3 e_ho_4 (by omega) (by omega) (by omega) (by omega)) (cwV 3 hts gX8_giveQuill_X8_giveFrom rfl rfl rfl hd_X8_giveFrom_RX8 ⟨Nat.le_of_ble_eq_true rfl, Nat.le_of_ble_eq_true rfl⟩) (pv_D (va_recv hK hP (ci := 8) (q0 := 0) rfl rfl) hK hPc hDc) rfl rfl hl.1 rfl (lv_room (Nat.le_of_ble_eq_true rfl)) dX8_giveQuill_30 ⟨Nat.le_of_ble_eq_true rfl, Nat.le_of_ble_eq_true rfl⟩) hS (fun q _ h => hFc q h) hFc (fun u9 t H1 locs ht hvm hw10 hB hz1 hk1 hS => ?_)
  obtain ⟨f11, f12, i13, hP1, hD1⟩ := hB
  replace hP1 := va_hp ht hP1
  obtain ⟨hP, hD⟩ := va_join (wr := []) (w1 := [(h0, .inr (8, [.int i13, .ref s1, .ref ho, .ref ht9, .ref s4, .ref s5])), (ho, .inr (5, f_ho)), (s1, .inl (cI, 4, .inl f11)), (s4, .inl (cI, 4, .inl f12)), (s5, .inl (cI, 32, .inl fs5))]) hP hD [0, 1, 2, 3, 4] [] rfl rfl (by decide +kernel) (by decide +kernel) hk1 hFc hP1 hD1
  clear hP1 hD1
  clear hz1 hk1 hPc hDc hFc
  generalize H1 = H at hP hS ht ⊢
  have hPD : pdW (dC, dI) vwCl A [(h0, .inr (8, [.int i13, .ref s1, .ref ho, .ref ht9, .ref s4, .ref s5])), (ho, .inr (5, f_ho)), (s1, .inl (cI, 4, .inl f11)), (s4, .inl (cI, 4, .inl f12)), (s5, .inl (cI, 32, .inl fs5))] H := ⟨hP, hD⟩
  have hP := hPD.1
  have hD := hPD.2
  clear hPD
  try dsimp only at hw10
  have hP9 := hP.sub (ws' := [(h0, .inr (8, [.int i13, .ref s1, .ref ho, .ref ht9, .ref s4, .ref s5])), (ho, .inr (5, f_ho)), (s1, .inl (cI, 4, .inl f11)), (s4, .inl (cI, 4, .inl f12)), (s5, .inl (cI, 32, .inl fs5))]) [0, 1, 2, 3, 4] rfl
  have hD9 := hD.sub (ws' := [(h0, .inr (8, [.int i13, .ref s1, .ref ho, .ref ht9, .ref s4, .ref s5])), (ho, .inr (5, f_ho)), (s1, .inl (cI, 4, .inl f11)), (s4, .inl (cI, 4, .inl f12)), (s5, .inl (cI, 32, .inl fs5))]) [0, 1, 2, 3, 4] (by decide +kernel) rfl
  exact W.vret hx hb hr (fun t ht hW => ⟨⟨(fun _ => 0), rfl, trivial, ⟨f11, f12, i13, va_hq ht hP9, hD9⟩⟩, hS.F ht⟩) hS.2.2 dX8_giveQuill_33
set_option maxHeartbeats 4000000 in
set_option maxRecDepth 100000 in
theorem c_X8_giveFrom_4 (l : Launch) (dC : Nat → ClassId) (dI : Nat → Nat → Nat) (cI cZ cQ : ClassId) (h0 : Nat) (be : Int32) (s1 : Nat) (ho : Nat) (ht9 : Nat) (s4 : Nat) (s5 : Nat) (nq : Nat) (nh : Nat) (f_ho : List Value) (fs1 : Nat → Int32) (fs4 : Nat → Int32) (fs5 : Nat → Int32) (k : Nat) (a0 : Int32) (a1 : Int32) (sz : Nat) (e_ho_3 : fAt f_ho 3 = some (.int (nI nq))) (e_ho_4 : fAt f_ho 4 = some (.int (nI nh))) (hnq : nq ≤ 8) (hnh : nh ≤ 4) (hk : k ≤ 4) (hd : 4 ≤ k + 4) : Met l yX8_giveFrom wsX8_giveFrom ({ frames := 10, cells := 0, slots := 0, locals := 253 }) (va_Pc [.ref h0, .int (nI k), .int a0, .int a1] (fun U => U.heap.size = sz ∧ va_P (dC, dI) vwCl [(h0, .inr (8, [.int be, .ref s1, .ref ho, .ref ht9, .ref s4, .ref s5])), (ho, .inr (5, f_ho)), (s1, .inl (cI, 4, .inl fs1)), (s4, .inl (cI, 4, .inl fs4)), (s5, .inl (cI, 32, .inl fs5))] U.heap ∧ va_K (dC, dI) vwCl (tys0 cI cZ cQ) U ∧ va_D (fun _ => True) [(h0, .inr (8, [.int be, .ref s1, .ref ho, .ref ht9, .ref s4, .ref s5])), (ho, .inr (5, f_ho)), (s1, .inl (cI, 4, .inl fs1)), (s4, .inl (cI, 4, .inl fs4)), (s5, .inl (cI, 32, .inl fs5))])) (va_Qv (fun (u : Nat → Nat) => True) (fun (_ : Nat → Nat) (t : State) => ∃ (gg0 gg1 : Nat → Int32) (ii0 : Int32) , va_P (dC, dI) vwCl [(h0, .inr (8, [.int ii0, .ref s1, .ref ho, .ref ht9, .ref s4, .ref s5])), (ho, .inr (5, f_ho)), (s1, .inl (cI, 4, .inl gg0)), (s4, .inl (cI, 4, .inl gg1)), (s5, .inl (cI, 32, .inl fs5))] t.heap ∧ va_D (va_A [(h0, .inr (8, [.int be, .ref s1, .ref ho, .ref ht9, .ref s4, .ref s5])), (ho, .inr (5, f_ho)), (s1, .inl (cI, 4, .inl fs1)), (s4, .inl (cI, 4, .inl fs4)), (s5, .inl (cI, 32, .inl fs5))] sz) [(h0, .inr (8, [.int ii0, .ref s1, .ref ho, .ref ht9, .ref s4, .ref s5])), (ho, .inr (5, f_ho)), (s1, .inl (cI, 4, .inl gg0)), (s4, .inl (cI, 4, .inl gg1)), (s5, .inl (cI, 32, .inl fs5))]) (va_A [(h0, .inr (8, [.int be, .ref s1, .ref ho, .ref ht9, .ref s4, .ref s5])), (ho, .inr (5, f_ho)), (s1, .inl (cI, 4, .inl fs1)), (s4, .inl (cI, 4, .inl fs4)), (s5, .inl (cI, 32, .inl fs5))] sz)) 0 0 (va_A [(h0, .inr (8, [.int be, .ref s1, .ref ho, .ref ht9, .ref s4, .ref s5])), (ho, .inr (5, f_ho)), (s1, .inl (cI, 4, .inl fs1)), (s4, .inl (cI, 4, .inl fs4)), (s5, .inl (cI, 32, .inl fs5))] sz) := by
  refine Met.ofW (cc := cX8_giveFrom) (maxL := 5) (ret := none) (by decide) rfl ?_
  intro p e s m args below meth c s₁ B hml hv
  obtain ⟨rfl, hsz, hP, hK, hD0⟩ := hv
  have hx := B.exec
  have hb := B.bytes
  have hr := B.returns
  have hts := atoms_spec (ws := wsX8_giveFrom) B.pre
  have hown : s.vm.findClass RX8 = some m.cls := findClass_of_methodNamed B.named
  have hlocks := B.notSynchronized
  have hi_X5 : ∀ w ∈ u_ws RX5 TX5 13, w ∈ wsX8_giveFrom := fun _ h => List.mem_cons_of_mem _ (List.mem_append_right _ (h))
  have hi_X8 : ∀ w ∈ u_ws RX8 TX8 6, w ∈ wsX8_giveFrom := fun _ h => List.mem_cons_of_mem _ (List.mem_append_left _ (List.mem_append_right _ (h)))
  subst hsz
  have hD := hD0.self (sz := s.heap.size)
  generalize hAe : va_A [(h0, .inr (8, [.int be, .ref s1, .ref ho, .ref ht9, .ref s4, .ref s5])), (ho, .inr (5, f_ho)), (s1, .inl (cI, 4, .inl fs1)), (s4, .inl (cI, 4, .inl fs4)), (s5, .inl (cI, 32, .inl fs5))] s.heap.size = A at hD ⊢
  have hA : ∀ q : Nat, s.heap.size ≤ q → A q := fun q h => by rw [← hAe]; exact Or.inr h
  have hS : va_S A s.heap s.heap [] := va_S.rf
  have hl := lv_entry ([.ref h0, .int (nI k), .int a0, .int a1]) (n := 5) (Nat.le_of_ble_eq_true rfl)
  rw [lg_entry_eq]
  generalize (lg_sl ([.ref h0, .int (nI k), .int a0, .int a1]) ++ List.replicate (5 - (lg_sl ([.ref h0, .int (nI k), .int a0, .int a1])).length) Slot.unset).toArray = ls at hl ⊢
  have hl : lv_has ls 5 [(0, .ref h0), (1, .int (nI k)), (2, .int a0), (3, .int a1)] := hl
  refine lv_iload_n hx hb dX8_giveFrom_0 rfl (lv_at hl 1 rfl) ?_
  refine lv_aload_n hx hb dX8_giveFrom_1 rfl (lv_at hl 0 rfl) ?_
  refine va_get (D := (dC, dI)) (ci := 8) (v := .ref ho) (C := RX8) (T := TX8) (N := 6) hx hb hts hi_X8 hown hK hP 0 rfl rfl 2 (by decide) (hts (.fieldLink RX8 25 "LeftQuills$Sharing" "office" "LLeftQuills$Office;") (wmx 1 rfl)) (fun _ h9 => h9) rfl dX8_giveFrom_2 ?_
  refine va_get (D := (dC, dI)) (ci := 5) (v := .int (nI nh)) (C := RX5) (T := TX5) (N := 13) hx hb hts hi_X5 hown hK hP 1 rfl rfl 4 (by decide) (hts (.fieldLink RX8 33 "LeftQuills$Office" "hands" "I") (wmx 2 rfl)) (fun _ h9 => h9) e_ho_4 dX8_giveFrom_5 ?_
  refine lv_icmp_ge (tgt := 16) hx hb dX8_giveFrom_8 (by decide) (fun c1 => ?_) (fun c1 => ?_)
  ·
    have c1 : nh ≤ k := (nI_leI (a := nh) (b := k) (by omega) (by omega)).mp c1
    refine lv_aload_n hx hb dX8_giveFrom_16 rfl (lv_at hl 0 rfl) ?_
    refine lv_iload_n hx hb dX8_giveFrom_17 rfl (lv_at hl 3 rfl) ?_
    have hc9 := va_cut (W' := [(h0, .inr (8, [.int be, .ref s1, .ref ho, .ref ht9, .ref s4, .ref s5])), (s1, .inl (cI, 4, .inl fs1)), (s4, .inl (cI, 4, .inl fs4))]) hP hD hS hA [0, 2, 3] (by decide) rfl
    have hPc := hc9.1
    have hDc := hc9.2.1
    have hFc := hc9.2.2
    clear hc9
    refine va_callv (va_runV (As := [.int a1]) (rest := []) ⟨hx, hb, hml, hown, hts⟩ (c_X8_keepIfBetter l dC dI cI cZ cQ h0 be s1 ho ht9 s4 s5 fs1 fs4 a1 s.heap.size ) (cwV 1 hts gX8_giveFrom_X8_keepIfBetter rfl rfl rfl hd_X8_keepIfBetter_RX8 ⟨Nat.le_of_ble_eq_true rfl, Nat.le_of_ble_eq_true rfl⟩) (pv_D (va_recv hK hP (ci := 8) (q0 := 0) rfl rfl) hK hPc hDc) rfl rfl hl.1 rfl (lv_room (Nat.le_of_ble_eq_true rfl)) dX8_giveFrom_18 ⟨Nat.le_of_ble_eq_true rfl, Nat.le_of_ble_eq_true rfl⟩) hS (fun q _ h => hFc q h) hFc (fun u3 t H1 locs ht hvm hw4 hB hz1 hk1 hS => ?_)
    obtain ⟨f5, i6, hP1, hD1⟩ := hB
    replace hP1 := va_hp ht hP1
    obtain ⟨hP, hD⟩ := va_join (wr := [(ho, .inr (5, f_ho)), (s5, .inl (cI, 32, .inl fs5))]) (w1 := [(h0, .inr (8, [.int i6, .ref s1, .ref ho, .ref ht9, .ref s4, .ref s5])), (s1, .inl (cI, 4, .inl f5)), (s4, .inl (cI, 4, .inl fs4))]) hP hD [0, 2, 3] [1, 4] rfl rfl (by decide +kernel) (by decide +kernel) hk1 hFc hP1 hD1
    clear hP1 hD1
    clear hz1 hk1 hPc hDc hFc
    generalize H1 = H at hP hS ht ⊢
    have hPD : pdW (dC, dI) vwCl A [(ho, .inr (5, f_ho)), (s5, .inl (cI, 32, .inl fs5)), (h0, .inr (8, [.int i6, .ref s1, .ref ho, .ref ht9, .ref s4, .ref s5])), (s1, .inl (cI, 4, .inl f5)), (s4, .inl (cI, 4, .inl fs4))] H := ⟨hP, hD⟩
    have hP := hPD.1
    have hD := hPD.2
    clear hPD
    try dsimp only at hw4
    have hP9 := hP.sub (ws' := [(h0, .inr (8, [.int i6, .ref s1, .ref ho, .ref ht9, .ref s4, .ref s5])), (ho, .inr (5, f_ho)), (s1, .inl (cI, 4, .inl f5)), (s4, .inl (cI, 4, .inl fs4)), (s5, .inl (cI, 32, .inl fs5))]) [2, 0, 3, 4, 1] rfl
    have hD9 := hD.sub (ws' := [(h0, .inr (8, [.int i6, .ref s1, .ref ho, .ref ht9, .ref s4, .ref s5])), (ho, .inr (5, f_ho)), (s1, .inl (cI, 4, .inl f5)), (s4, .inl (cI, 4, .inl fs4)), (s5, .inl (cI, 32, .inl fs5))]) [2, 0, 3, 4, 1] (by decide +kernel) rfl
    exact W.vret hx hb hr (fun t ht hW => ⟨⟨(fun _ => 0), rfl, trivial, ⟨f5, fs4, i6, va_hq ht hP9, hD9⟩⟩, hS.F ht⟩) hS.2.2 dX8_giveFrom_21
  ·
    have c1 : ¬ nh ≤ k := fun h => c1 ((nI_leI (a := nh) (b := k) (by omega) (by omega)).mpr h)
    refine lv_iload_n hx hb dX8_giveFrom_11 rfl (lv_at hl 1 rfl) ?_
    refine lv_iconst (v := 4) hx hb dX8_giveFrom_12 (by decide) ?_
    refine lv_icmp_lt (tgt := 22) hx hb dX8_giveFrom_13 (by decide) (fun c7 => ?_) (fun c7 => ?_)
    ·
      have c7 : k < 4 := (nI_ltI (a := k) (b := 4) (by omega) (by omega)).mp c7
      refine lv_iconst (v := 0) hx hb dX8_giveFrom_22 (by decide) ?_
      refine lv_istore (lv' := [(4, .int 0), (0, .ref h0), (1, .int (nI k)), (2, .int a0), (3, .int a1)]) hx hb dX8_giveFrom_23 hl (by decide) rfl (fun ls hl => ?_)
      refine (fun (K : ∀ (d25 : Nat) (k25 : Nat) (f25_s1 : Nat → Int32) (f25_s4 : Nat → Int32) (i25_h0_0 : Int32) (H : Heap) (locs : List Loc) (ls : Array Slot), k25 + d25 = nq → va_P (dC, dI) vwCl [(h0, .inr (8, [.int i25_h0_0, .ref s1, .ref ho, .ref ht9, .ref s4, .ref s5])), (ho, .inr (5, f_ho)), (s1, .inl (cI, 4, .inl f25_s1)), (s4, .inl (cI, 4, .inl f25_s4)), (s5, .inl (cI, 32, .inl fs5))] H → va_D A [(h0, .inr (8, [.int i25_h0_0, .ref s1, .ref ho, .ref ht9, .ref s4, .ref s5])), (ho, .inr (5, f_ho)), (s1, .inl (cI, 4, .inl f25_s1)), (s4, .inl (cI, 4, .inl f25_s4)), (s5, .inl (cI, 32, .inl fs5))] → va_S A s.heap H locs → lv_has ls 5 [(4, .int (nI k25)), (0, .ref h0), (1, .int (nI k)), (2, .int a0), (3, .int a1)] → W p l e _ s m _ below meth c H locs _ _ _ (F0 m 25 ls [])) => K nq 0 fs1 fs4 be _ _ _ (by omega) hP hD hS (lv_sub hl [0, 1, 2, 3, 4] rfl)) ?_
      intro d25
      induction d25 with
      | zero =>
        intro k25 f25_s1 f25_s4 i25_h0_0 H locs ls hk25 hP hD hS hl
        refine lv_iload hx hb dX8_giveFrom_25 (lv_at hl 0 rfl) ?_
        refine lv_aload_n hx hb dX8_giveFrom_27 rfl (lv_at hl 1 rfl) ?_
        refine va_get (D := (dC, dI)) (ci := 8) (v := .ref ho) (C := RX8) (T := TX8) (N := 6) hx hb hts hi_X8 hown hK hP 0 rfl rfl 2 (by decide) (hts (.fieldLink RX8 25 "LeftQuills$Sharing" "office" "LLeftQuills$Office;") (wmx 1 rfl)) (fun _ h9 => h9) rfl dX8_giveFrom_28 ?_
        refine va_get (D := (dC, dI)) (ci := 5) (v := .int (nI nq)) (C := RX5) (T := TX5) (N := 13) hx hb hts hi_X5 hown hK hP 1 rfl rfl 3 (by decide) (hts (.fieldLink RX8 38 "LeftQuills$Office" "quills" "I") (wmx 3 rfl)) (fun _ h9 => h9) e_ho_3 dX8_giveFrom_31 ?_
        refine lv_icmp_ge (tgt := 61) hx hb dX8_giveFrom_34 (by decide) (fun c8 => ?_) (fun c8 => ?_)
        ·
          have c8 : nq ≤ k25 := (nI_leI (a := nq) (b := k25) (by omega) (by omega)).mp c8
          have hP9 := hP.sub (ws' := [(h0, .inr (8, [.int i25_h0_0, .ref s1, .ref ho, .ref ht9, .ref s4, .ref s5])), (ho, .inr (5, f_ho)), (s1, .inl (cI, 4, .inl f25_s1)), (s4, .inl (cI, 4, .inl f25_s4)), (s5, .inl (cI, 32, .inl fs5))]) [0, 1, 2, 3, 4] rfl
          have hD9 := hD.sub (ws' := [(h0, .inr (8, [.int i25_h0_0, .ref s1, .ref ho, .ref ht9, .ref s4, .ref s5])), (ho, .inr (5, f_ho)), (s1, .inl (cI, 4, .inl f25_s1)), (s4, .inl (cI, 4, .inl f25_s4)), (s5, .inl (cI, 32, .inl fs5))]) [0, 1, 2, 3, 4] (by decide +kernel) rfl
          exact W.vret hx hb hr (fun t ht hW => ⟨⟨(fun _ => 0), rfl, trivial, ⟨f25_s1, f25_s4, i25_h0_0, va_hq ht hP9, hD9⟩⟩, hS.F ht⟩) hS.2.2 dX8_giveFrom_61
        ·
          have c8 : ¬ nq ≤ k25 := fun h => c8 ((nI_leI (a := nq) (b := k25) (by omega) (by omega)).mpr h)
          omega
      | succ d25 ih25 =>
        intro k25 f25_s1 f25_s4 i25_h0_0 H locs ls hk25 hP hD hS hl
        refine lv_iload hx hb dX8_giveFrom_25 (lv_at hl 0 rfl) ?_
        refine lv_aload_n hx hb dX8_giveFrom_27 rfl (lv_at hl 1 rfl) ?_
        refine va_get (D := (dC, dI)) (ci := 8) (v := .ref ho) (C := RX8) (T := TX8) (N := 6) hx hb hts hi_X8 hown hK hP 0 rfl rfl 2 (by decide) (hts (.fieldLink RX8 25 "LeftQuills$Sharing" "office" "LLeftQuills$Office;") (wmx 1 rfl)) (fun _ h9 => h9) rfl dX8_giveFrom_28 ?_
        refine va_get (D := (dC, dI)) (ci := 5) (v := .int (nI nq)) (C := RX5) (T := TX5) (N := 13) hx hb hts hi_X5 hown hK hP 1 rfl rfl 3 (by decide) (hts (.fieldLink RX8 38 "LeftQuills$Office" "quills" "I") (wmx 3 rfl)) (fun _ h9 => h9) e_ho_3 dX8_giveFrom_31 ?_
        refine lv_icmp_ge (tgt := 61) hx hb dX8_giveFrom_34 (by decide) (fun c9 => ?_) (fun c9 => ?_)
        ·
          have c9 : nq ≤ k25 := (nI_leI (a := nq) (b := k25) (by omega) (by omega)).mp c9
          omega
        ·
          have c9 : ¬ nq ≤ k25 := fun h => c9 ((nI_leI (a := nq) (b := k25) (by omega) (by omega)).mpr h)
          refine lv_iload_n hx hb dX8_giveFrom_37 rfl (lv_at hl 3 rfl) ?_
          refine lv_iconst (v := 1) hx hb dX8_giveFrom_38 (by decide) ?_
          refine lv_iload hx hb dX8_giveFrom_39 (lv_at hl 0 rfl) ?_
          refine lv_ishl hx hb dX8_giveFrom_41 ?_
          refine lv_topi (fun z10 ez10 => ?_)
          refine lv_iand hx hb dX8_giveFrom_42 ?_
          refine lv_topi (fun z11 ez11 => ?_)
          refine lv_if_ne (tgt := 55) hx hb dX8_giveFrom_43 (by decide) (fun c12 => ?_) (fun c12 => ?_)
          ·
            refine lv_iinc (v := nI (k25 + 1)) (lv' := [(4, .int (nI (k25 + 1))), (0, .ref h0), (1, .int (nI k)), (2, .int a0), (3, .int a1)]) hx hb dX8_giveFrom_55 hl (k := 0) rfl ((rfl : nI k25 + Int32.ofInt 1 = nI k25 + 1).trans (nI_add k25 1)) (by decide) rfl (fun ls hl => ?_)
            refine lv_goto (tgt := 25) hx hb dX8_giveFrom_58 (by decide) ?_
            exact ih25 (k25 + 1) f25_s1 f25_s4 i25_h0_0 _ _ _ (by omega) hP hD hS (lv_sub hl [0, 1, 2, 3, 4] rfl)
          ·
            refine lv_aload_n hx hb dX8_giveFrom_46 rfl (lv_at hl 1 rfl) ?_
            refine lv_iload_n hx hb dX8_giveFrom_47 rfl (lv_at hl 2 rfl) ?_
            refine lv_iload hx hb dX8_giveFrom_48 (lv_at hl 0 rfl) ?_
            refine lv_iload_n hx hb dX8_giveFrom_50 rfl (lv_at hl 3 rfl) ?_
            refine lv_iload_n hx hb dX8_giveFrom_51 rfl (lv_at hl 4 rfl) ?_
            have hc9 := va_cut (W' := [(h0, .inr (8, [.int i25_h0_0, .ref s1, .ref ho, .ref ht9, .ref s4, .ref s5])), (ho, .inr (5, f_ho)), (s1, .inl (cI, 4, .inl f25_s1)), (s4, .inl (cI, 4, .inl f25_s4)), (s5, .inl (cI, 32, .inl fs5))]) hP hD hS hA [0, 1, 2, 3, 4] (by decide) rfl
            have hPc := hc9.1
            have hDc := hc9.2.1
            have hFc := hc9.2.2
            clear hc9
            refine va_callv (va_runV (As := [.int (nI k), .int (nI k25), .int a0, .int a1]) (rest := []) ⟨hx, hb, hml, hown, hts⟩ (c_X8_giveQuill_4 l dC dI cI cZ cQ h0 i25_h0_0 s1 ho ht9 s4 s5 nq nh f_ho f25_s1 f25_s4 fs5 k k25 a0 a1 H.size e_ho_3 e_ho_4 (by omega) (by omega) (by omega) (by omega) (by omega)) (cwV 4 hts gX8_giveFrom_X8_giveQuill rfl rfl rfl hd_X8_giveQuill_RX8 ⟨Nat.le_of_ble_eq_true rfl, Nat.le_of_ble_eq_true rfl⟩) (pv_D (va_recv hK hP (ci := 8) (q0 := 0) rfl rfl) hK hPc hDc) rfl rfl hl.1 rfl (lv_room (Nat.le_of_ble_eq_true rfl)) dX8_giveFrom_52 ⟨Nat.le_of_ble_eq_true rfl, Nat.le_of_ble_eq_true rfl⟩) hS (fun q _ h => hFc q h) hFc (fun u14 t H1 locs ht hvm hw15 hB hz1 hk1 hS => ?_)
            obtain ⟨f16, f17, i18, hP1, hD1⟩ := hB
            replace hP1 := va_hp ht hP1
            obtain ⟨hP, hD⟩ := va_join (wr := []) (w1 := [(h0, .inr (8, [.int i18, .ref s1, .ref ho, .ref ht9, .ref s4, .ref s5])), (ho, .inr (5, f_ho)), (s1, .inl (cI, 4, .inl f16)), (s4, .inl (cI, 4, .inl f17)), (s5, .inl (cI, 32, .inl fs5))]) hP hD [0, 1, 2, 3, 4] [] rfl rfl (by decide +kernel) (by decide +kernel) hk1 hFc hP1 hD1
            clear hP1 hD1
            clear hz1 hk1 hPc hDc hFc
            generalize H1 = H at hP hS ht ⊢
            have hPD : pdW (dC, dI) vwCl A [(h0, .inr (8, [.int i18, .ref s1, .ref ho, .ref ht9, .ref s4, .ref s5])), (ho, .inr (5, f_ho)), (s1, .inl (cI, 4, .inl f16)), (s4, .inl (cI, 4, .inl f17)), (s5, .inl (cI, 32, .inl fs5))] H := ⟨hP, hD⟩
            have hP := hPD.1
            have hD := hPD.2
            clear hPD
            try dsimp only at hw15
            refine lv_iinc (v := nI (k25 + 1)) (lv' := [(4, .int (nI (k25 + 1))), (0, .ref h0), (1, .int (nI k)), (2, .int a0), (3, .int a1)]) hx hb dX8_giveFrom_55 hl (k := 0) rfl ((rfl : nI k25 + Int32.ofInt 1 = nI k25 + 1).trans (nI_add k25 1)) (by decide) rfl (fun ls hl => ?_)
            refine lv_goto (tgt := 25) hx hb dX8_giveFrom_58 (by decide) ?_
            exact ih25 (k25 + 1) f16 f17 i18 _ _ _ (by omega) hP hD hS (lv_sub hl [0, 1, 2, 3, 4] rfl)
    ·
      have c7 : ¬ k < 4 := fun h => c7 ((nI_ltI (a := k) (b := 4) (by omega) (by omega)).mpr h)
      refine lv_aload_n hx hb dX8_giveFrom_16 rfl (lv_at hl 0 rfl) ?_
      refine lv_iload_n hx hb dX8_giveFrom_17 rfl (lv_at hl 3 rfl) ?_
      have hc9 := va_cut (W' := [(h0, .inr (8, [.int be, .ref s1, .ref ho, .ref ht9, .ref s4, .ref s5])), (s1, .inl (cI, 4, .inl fs1)), (s4, .inl (cI, 4, .inl fs4))]) hP hD hS hA [0, 2, 3] (by decide) rfl
      have hPc := hc9.1
      have hDc := hc9.2.1
      have hFc := hc9.2.2
      clear hc9
      refine va_callv (va_runV (As := [.int a1]) (rest := []) ⟨hx, hb, hml, hown, hts⟩ (c_X8_keepIfBetter l dC dI cI cZ cQ h0 be s1 ho ht9 s4 s5 fs1 fs4 a1 s.heap.size ) (cwV 1 hts gX8_giveFrom_X8_keepIfBetter rfl rfl rfl hd_X8_keepIfBetter_RX8 ⟨Nat.le_of_ble_eq_true rfl, Nat.le_of_ble_eq_true rfl⟩) (pv_D (va_recv hK hP (ci := 8) (q0 := 0) rfl rfl) hK hPc hDc) rfl rfl hl.1 rfl (lv_room (Nat.le_of_ble_eq_true rfl)) dX8_giveFrom_18 ⟨Nat.le_of_ble_eq_true rfl, Nat.le_of_ble_eq_true rfl⟩) hS (fun q _ h => hFc q h) hFc (fun u20 t H1 locs ht hvm hw21 hB hz1 hk1 hS => ?_)
      obtain ⟨f22, i23, hP1, hD1⟩ := hB
      replace hP1 := va_hp ht hP1
      obtain ⟨hP, hD⟩ := va_join (wr := [(ho, .inr (5, f_ho)), (s5, .inl (cI, 32, .inl fs5))]) (w1 := [(h0, .inr (8, [.int i23, .ref s1, .ref ho, .ref ht9, .ref s4, .ref s5])), (s1, .inl (cI, 4, .inl f22)), (s4, .inl (cI, 4, .inl fs4))]) hP hD [0, 2, 3] [1, 4] rfl rfl (by decide +kernel) (by decide +kernel) hk1 hFc hP1 hD1
      clear hP1 hD1
      clear hz1 hk1 hPc hDc hFc
      generalize H1 = H at hP hS ht ⊢
      have hPD : pdW (dC, dI) vwCl A [(ho, .inr (5, f_ho)), (s5, .inl (cI, 32, .inl fs5)), (h0, .inr (8, [.int i23, .ref s1, .ref ho, .ref ht9, .ref s4, .ref s5])), (s1, .inl (cI, 4, .inl f22)), (s4, .inl (cI, 4, .inl fs4))] H := ⟨hP, hD⟩
      have hP := hPD.1
      have hD := hPD.2
      clear hPD
      try dsimp only at hw21
      have hP9 := hP.sub (ws' := [(h0, .inr (8, [.int i23, .ref s1, .ref ho, .ref ht9, .ref s4, .ref s5])), (ho, .inr (5, f_ho)), (s1, .inl (cI, 4, .inl f22)), (s4, .inl (cI, 4, .inl fs4)), (s5, .inl (cI, 32, .inl fs5))]) [2, 0, 3, 4, 1] rfl
      have hD9 := hD.sub (ws' := [(h0, .inr (8, [.int i23, .ref s1, .ref ho, .ref ht9, .ref s4, .ref s5])), (ho, .inr (5, f_ho)), (s1, .inl (cI, 4, .inl f22)), (s4, .inl (cI, 4, .inl fs4)), (s5, .inl (cI, 32, .inl fs5))]) [2, 0, 3, 4, 1] (by decide +kernel) rfl
      exact W.vret hx hb hr (fun t ht hW => ⟨⟨(fun _ => 0), rfl, trivial, ⟨f22, fs4, i23, va_hq ht hP9, hD9⟩⟩, hS.F ht⟩) hS.2.2 dX8_giveFrom_21
set_option maxHeartbeats 4000000 in
set_option maxRecDepth 100000 in
theorem c_X8_find (l : Launch) (dC : Nat → ClassId) (dI : Nat → Nat → Nat) (cI cZ cQ : ClassId) (h0 : Nat) (be : Int32) (s1 : Nat) (ho : Nat) (ht9 : Nat) (s4 : Nat) (s5 : Nat) (o5 : Nat) (o6 : Nat) (o7 : Nat) (o10 : Nat) (o11 : Nat) (o12 : Nat) (nq : Nat) (nh : Nat) (f_ho : List Value) (hd : Nat) (f_ht9 : List Value) (a3 : Nat) (a4 : Nat) (f_hd : List Value) (fs1 : Nat → Int32) (fs4 : Nat → Int32) (fs5 : Nat → Int32) (fa3 : Nat → Int32) (fa4 : Nat → Int32) (fo5 : Nat → Int32) (fo6 : Nat → Int32) (fo7 : Nat → Int32) (fo10 : Nat → Int32) (fo11 : Nat → Int32) (fo12 : Nat → Int32) (sz : Nat) (e_ho_5 : fAt f_ho 5 = some (.ref o5)) (e_ho_6 : fAt f_ho 6 = some (.ref o6)) (e_ho_7 : fAt f_ho 7 = some (.ref o7)) (e_ho_10 : fAt f_ho 10 = some (.ref o10)) (e_ho_11 : fAt f_ho 11 = some (.ref o11)) (e_ho_12 : fAt f_ho 12 = some (.ref o12)) (e_ho_3 : fAt f_ho 3 = some (.int (nI nq))) (e_ho_4 : fAt f_ho 4 = some (.int (nI nh))) (e_ht9_0 : fAt f_ht9 0 = some (.ref ho)) (e_ht9_1 : fAt f_ht9 1 = some (.ref hd)) (e_hd_3 : fAt f_hd 3 = some (.ref a3)) (e_hd_4 : fAt f_hd 4 = some (.ref a4)) (hnq : nq ≤ 8) (hnh : nh ≤ 4) : Met l yX8_find wsX8_find ({ frames := 11, cells := 0, slots := 0, locals := 277 }) (va_Pc [.ref h0] (fun U => U.heap.size = sz ∧ va_P (dC, dI) vwCl [(h0, .inr (8, [.int be, .ref s1, .ref ho, .ref ht9, .ref s4, .ref s5])), (ho, .inr (5, f_ho)), (ht9, .inr (9, f_ht9)), (hd, .inr (1, f_hd)), (s1, .inl (cI, 4, .inl fs1)), (s4, .inl (cI, 4, .inl fs4)), (s5, .inl (cI, 32, .inl fs5)), (a3, .inl (cI, 8, .inl fa3)), (a4, .inl (cI, 8, .inl fa4)), (o5, .inl (cI, 8, .inl fo5)), (o6, .inl (cI, 8, .inl fo6)), (o7, .inl (cI, 8, .inl fo7)), (o10, .inl (cI, 4, .inl fo10)), (o11, .inl (cI, 4, .inl fo11)), (o12, .inl (cI, 4, .inl fo12))] U.heap ∧ va_K (dC, dI) vwCl (tys0 cI cZ cQ) U ∧ va_D (fun _ => True) [(h0, .inr (8, [.int be, .ref s1, .ref ho, .ref ht9, .ref s4, .ref s5])), (ho, .inr (5, f_ho)), (ht9, .inr (9, f_ht9)), (hd, .inr (1, f_hd)), (s1, .inl (cI, 4, .inl fs1)), (s4, .inl (cI, 4, .inl fs4)), (s5, .inl (cI, 32, .inl fs5)), (a3, .inl (cI, 8, .inl fa3)), (a4, .inl (cI, 8, .inl fa4)), (o5, .inl (cI, 8, .inl fo5)), (o6, .inl (cI, 8, .inl fo6)), (o7, .inl (cI, 8, .inl fo7)), (o10, .inl (cI, 4, .inl fo10)), (o11, .inl (cI, 4, .inl fo11)), (o12, .inl (cI, 4, .inl fo12))] ∧ xN U)) (va_Qv (fun (u : Nat → Nat) => True) (fun (_ : Nat → Nat) (t : State) => ∃ (gg0 gg1 gg2 : Nat → Int32) (ii0 : Int32) , va_P (dC, dI) vwCl [(h0, .inr (8, [.int ii0, .ref s1, .ref ho, .ref ht9, .ref s4, .ref s5])), (ho, .inr (5, f_ho)), (ht9, .inr (9, f_ht9)), (hd, .inr (1, f_hd)), (s1, .inl (cI, 4, .inl gg0)), (s4, .inl (cI, 4, .inl gg1)), (s5, .inl (cI, 32, .inl gg2)), (a3, .inl (cI, 8, .inl fa3)), (a4, .inl (cI, 8, .inl fa4)), (o5, .inl (cI, 8, .inl fo5)), (o6, .inl (cI, 8, .inl fo6)), (o7, .inl (cI, 8, .inl fo7)), (o10, .inl (cI, 4, .inl fo10)), (o11, .inl (cI, 4, .inl fo11)), (o12, .inl (cI, 4, .inl fo12))] t.heap ∧ va_D (va_A [(h0, .inr (8, [.int be, .ref s1, .ref ho, .ref ht9, .ref s4, .ref s5])), (ho, .inr (5, f_ho)), (ht9, .inr (9, f_ht9)), (hd, .inr (1, f_hd)), (s1, .inl (cI, 4, .inl fs1)), (s4, .inl (cI, 4, .inl fs4)), (s5, .inl (cI, 32, .inl fs5)), (a3, .inl (cI, 8, .inl fa3)), (a4, .inl (cI, 8, .inl fa4)), (o5, .inl (cI, 8, .inl fo5)), (o6, .inl (cI, 8, .inl fo6)), (o7, .inl (cI, 8, .inl fo7)), (o10, .inl (cI, 4, .inl fo10)), (o11, .inl (cI, 4, .inl fo11)), (o12, .inl (cI, 4, .inl fo12))] sz) [(h0, .inr (8, [.int ii0, .ref s1, .ref ho, .ref ht9, .ref s4, .ref s5])), (ho, .inr (5, f_ho)), (ht9, .inr (9, f_ht9)), (hd, .inr (1, f_hd)), (s1, .inl (cI, 4, .inl gg0)), (s4, .inl (cI, 4, .inl gg1)), (s5, .inl (cI, 32, .inl gg2)), (a3, .inl (cI, 8, .inl fa3)), (a4, .inl (cI, 8, .inl fa4)), (o5, .inl (cI, 8, .inl fo5)), (o6, .inl (cI, 8, .inl fo6)), (o7, .inl (cI, 8, .inl fo7)), (o10, .inl (cI, 4, .inl fo10)), (o11, .inl (cI, 4, .inl fo11)), (o12, .inl (cI, 4, .inl fo12))]) (va_A [(h0, .inr (8, [.int be, .ref s1, .ref ho, .ref ht9, .ref s4, .ref s5])), (ho, .inr (5, f_ho)), (ht9, .inr (9, f_ht9)), (hd, .inr (1, f_hd)), (s1, .inl (cI, 4, .inl fs1)), (s4, .inl (cI, 4, .inl fs4)), (s5, .inl (cI, 32, .inl fs5)), (a3, .inl (cI, 8, .inl fa3)), (a4, .inl (cI, 8, .inl fa4)), (o5, .inl (cI, 8, .inl fo5)), (o6, .inl (cI, 8, .inl fo6)), (o7, .inl (cI, 8, .inl fo7)), (o10, .inl (cI, 4, .inl fo10)), (o11, .inl (cI, 4, .inl fo11)), (o12, .inl (cI, 4, .inl fo12))] sz)) 0 0 (va_A [(h0, .inr (8, [.int be, .ref s1, .ref ho, .ref ht9, .ref s4, .ref s5])), (ho, .inr (5, f_ho)), (ht9, .inr (9, f_ht9)), (hd, .inr (1, f_hd)), (s1, .inl (cI, 4, .inl fs1)), (s4, .inl (cI, 4, .inl fs4)), (s5, .inl (cI, 32, .inl fs5)), (a3, .inl (cI, 8, .inl fa3)), (a4, .inl (cI, 8, .inl fa4)), (o5, .inl (cI, 8, .inl fo5)), (o6, .inl (cI, 8, .inl fo6)), (o7, .inl (cI, 8, .inl fo7)), (o10, .inl (cI, 4, .inl fo10)), (o11, .inl (cI, 4, .inl fo11)), (o12, .inl (cI, 4, .inl fo12))] sz) := by
  refine Met.ofW (cc := cX8_find) (maxL := 3) (ret := none) (by decide) rfl ?_
  intro p e s m args below meth c s₁ B hml hv
  obtain ⟨rfl, hsz, hP, hK, hD0, hN⟩ := hv
  have hx := B.exec
  have hb := B.bytes
  have hr := B.returns
  have hts := atoms_spec (ws := wsX8_find) B.pre
  have hown : s.vm.findClass RX8 = some m.cls := findClass_of_methodNamed B.named
  have hlocks := B.notSynchronized
  have hi_X5 : ∀ w ∈ u_ws RX5 TX5 13, w ∈ wsX8_find := fun _ h => List.mem_cons_of_mem _ (List.mem_append_left _ (List.mem_append_left _ (List.mem_append_right _ (h))))
  have hi_X8 : ∀ w ∈ u_ws RX8 TX8 6, w ∈ wsX8_find := fun _ h => List.mem_cons_of_mem _ (List.mem_append_left _ (List.mem_append_left _ (List.mem_append_left _ (List.mem_append_right _ (h)))))
  subst hsz
  have hD := hD0.self (sz := s.heap.size)
  generalize hAe : va_A [(h0, .inr (8, [.int be, .ref s1, .ref ho, .ref ht9, .ref s4, .ref s5])), (ho, .inr (5, f_ho)), (ht9, .inr (9, f_ht9)), (hd, .inr (1, f_hd)), (s1, .inl (cI, 4, .inl fs1)), (s4, .inl (cI, 4, .inl fs4)), (s5, .inl (cI, 32, .inl fs5)), (a3, .inl (cI, 8, .inl fa3)), (a4, .inl (cI, 8, .inl fa4)), (o5, .inl (cI, 8, .inl fo5)), (o6, .inl (cI, 8, .inl fo6)), (o7, .inl (cI, 8, .inl fo7)), (o10, .inl (cI, 4, .inl fo10)), (o11, .inl (cI, 4, .inl fo11)), (o12, .inl (cI, 4, .inl fo12))] s.heap.size = A at hD ⊢
  have hA : ∀ q : Nat, s.heap.size ≤ q → A q := fun q h => by rw [← hAe]; exact Or.inr h
  have hS : va_S A s.heap s.heap [] := va_S.rf
  have hl := lv_entry ([.ref h0]) (n := 3) (Nat.le_of_ble_eq_true rfl)
  rw [lg_entry_eq]
  generalize (lg_sl ([.ref h0]) ++ List.replicate (3 - (lg_sl ([.ref h0])).length) Slot.unset).toArray = ls at hl ⊢
  have hl : lv_has ls 3 [(0, .ref h0)] := hl
  refine lv_iconst (v := 0) hx hb dX8_find_0 (by decide) ?_
  refine lv_istore_n (lv' := [(1, .int 0), (0, .ref h0)]) hx hb dX8_find_1 rfl hl (by decide) rfl (fun ls hl => ?_)
  refine (fun (K : ∀ (d2 : Nat) (k2 : Nat) (f2_s5 : Nat → Int32) (H : Heap) (locs : List Loc) (ls : Array Slot), k2 + d2 = nh → va_P (dC, dI) vwCl [(h0, .inr (8, [.int be, .ref s1, .ref ho, .ref ht9, .ref s4, .ref s5])), (ho, .inr (5, f_ho)), (ht9, .inr (9, f_ht9)), (hd, .inr (1, f_hd)), (s1, .inl (cI, 4, .inl fs1)), (s4, .inl (cI, 4, .inl fs4)), (s5, .inl (cI, 32, .inl f2_s5)), (a3, .inl (cI, 8, .inl fa3)), (a4, .inl (cI, 8, .inl fa4)), (o5, .inl (cI, 8, .inl fo5)), (o6, .inl (cI, 8, .inl fo6)), (o7, .inl (cI, 8, .inl fo7)), (o10, .inl (cI, 4, .inl fo10)), (o11, .inl (cI, 4, .inl fo11)), (o12, .inl (cI, 4, .inl fo12))] H → va_D A [(h0, .inr (8, [.int be, .ref s1, .ref ho, .ref ht9, .ref s4, .ref s5])), (ho, .inr (5, f_ho)), (ht9, .inr (9, f_ht9)), (hd, .inr (1, f_hd)), (s1, .inl (cI, 4, .inl fs1)), (s4, .inl (cI, 4, .inl fs4)), (s5, .inl (cI, 32, .inl f2_s5)), (a3, .inl (cI, 8, .inl fa3)), (a4, .inl (cI, 8, .inl fa4)), (o5, .inl (cI, 8, .inl fo5)), (o6, .inl (cI, 8, .inl fo6)), (o7, .inl (cI, 8, .inl fo7)), (o10, .inl (cI, 4, .inl fo10)), (o11, .inl (cI, 4, .inl fo11)), (o12, .inl (cI, 4, .inl fo12))] → va_S A s.heap H locs → lv_has ls 3 [(1, .int (nI k2)), (0, .ref h0)] → W p l e _ s m _ below meth c H locs _ _ _ (F0 m 2 ls [])) => K nh 0 fs5 _ _ _ (by omega) hP hD hS (lv_sub hl [0, 1] rfl)) ?_
  intro d2
  induction d2 with
  | zero =>
    intro k2 f2_s5 H locs ls hk2 hP hD hS hl
    refine lv_iload_n hx hb dX8_find_2 rfl (lv_at hl 0 rfl) ?_
    refine lv_aload_n hx hb dX8_find_3 rfl (lv_at hl 1 rfl) ?_
    refine va_get (D := (dC, dI)) (ci := 8) (v := .ref ho) (C := RX8) (T := TX8) (N := 6) hx hb hts hi_X8 hown hK hP 0 rfl rfl 2 (by decide) (hts (.fieldLink RX8 25 "LeftQuills$Sharing" "office" "LLeftQuills$Office;") (wmx 1 rfl)) (fun _ h9 => h9) rfl dX8_find_4 ?_
    refine va_get (D := (dC, dI)) (ci := 5) (v := .int (nI nh)) (C := RX5) (T := TX5) (N := 13) hx hb hts hi_X5 hown hK hP 1 rfl rfl 4 (by decide) (hts (.fieldLink RX8 33 "LeftQuills$Office" "hands" "I") (wmx 2 rfl)) (fun _ h9 => h9) e_ho_4 dX8_find_7 ?_
    refine lv_icmp_ge (tgt := 58) hx hb dX8_find_10 (by decide) (fun c1 => ?_) (fun c1 => ?_)
    ·
      have c1 : nh ≤ k2 := (nI_leI (a := nh) (b := k2) (by omega) (by omega)).mp c1
      refine lv_aload_n hx hb dX8_find_58 rfl (lv_at hl 1 rfl) ?_
      refine lv_iconst (v := (-1)) hx hb dX8_find_59 (by decide) ?_
      refine va_put (D := (dC, dI)) (ci := 8) (v := .int (-1)) (ty := .int) (C := RX8) (T := TX8) (N := 6) hx hb hts hi_X8 tyX8 tyX8_ok nmX8 hown hK hP hD hS 0 rfl rfl 0 (by decide) (hts (.fieldLink RX8 9 "LeftQuills$Sharing" "best" "I") (wmx 6 rfl)) (fun _ h9 => h9) rfl (by decide +kernel) rfl rfl (Nat.le_of_ble_eq_true rfl) dX8_find_60 (fun H locs hP hD hS => ?_)
      have hPD : pdW (dC, dI) vwCl A [(h0, .inr (8, [.int (-1), .ref s1, .ref ho, .ref ht9, .ref s4, .ref s5])), (ho, .inr (5, f_ho)), (ht9, .inr (9, f_ht9)), (hd, .inr (1, f_hd)), (s1, .inl (cI, 4, .inl fs1)), (s4, .inl (cI, 4, .inl fs4)), (s5, .inl (cI, 32, .inl f2_s5)), (a3, .inl (cI, 8, .inl fa3)), (a4, .inl (cI, 8, .inl fa4)), (o5, .inl (cI, 8, .inl fo5)), (o6, .inl (cI, 8, .inl fo6)), (o7, .inl (cI, 8, .inl fo7)), (o10, .inl (cI, 4, .inl fo10)), (o11, .inl (cI, 4, .inl fo11)), (o12, .inl (cI, 4, .inl fo12))] H := ⟨hP, hD⟩
      have hP := hPD.1
      have hD := hPD.2
      clear hPD
      refine lv_aload_n hx hb dX8_find_63 rfl (lv_at hl 1 rfl) ?_
      refine lv_iconst (v := 0) hx hb dX8_find_64 (by decide) ?_
      refine lv_iconst (v := 0) hx hb dX8_find_65 (by decide) ?_
      refine lv_iconst (v := 0) hx hb dX8_find_66 (by decide) ?_
      have hc9 := va_cut (W' := [(h0, .inr (8, [.int (-1), .ref s1, .ref ho, .ref ht9, .ref s4, .ref s5])), (ho, .inr (5, f_ho)), (s1, .inl (cI, 4, .inl fs1)), (s4, .inl (cI, 4, .inl fs4)), (s5, .inl (cI, 32, .inl f2_s5))]) hP hD hS hA [0, 1, 4, 5, 6] (by decide) rfl
      have hPc := hc9.1
      have hDc := hc9.2.1
      have hFc := hc9.2.2
      clear hc9
      refine va_callv (va_runV (As := [.int 0, .int 0, .int 0]) (rest := []) ⟨hx, hb, hml, hown, hts⟩ (c_X8_giveFrom_4 l dC dI cI cZ cQ h0 (-1) s1 ho ht9 s4 s5 nq nh f_ho fs1 fs4 f2_s5 0 0 0 H.size e_ho_3 e_ho_4 (by omega) (by omega) (by omega) (by omega)) (cwV 3 hts gX8_find_X8_giveFrom rfl rfl rfl hd_X8_giveFrom_RX8 ⟨Nat.le_of_ble_eq_true rfl, Nat.le_of_ble_eq_true rfl⟩) (pv_D (va_recv hK hP (ci := 8) (q0 := 0) rfl rfl) hK hPc hDc) rfl rfl hl.1 rfl (lv_room (Nat.le_of_ble_eq_true rfl)) dX8_find_67 ⟨Nat.le_of_ble_eq_true rfl, Nat.le_of_ble_eq_true rfl⟩) hS (fun q _ h => hFc q h) hFc (fun u3 t H1 locs ht hvm hw4 hB hz1 hk1 hS => ?_)
      obtain ⟨f5, f6, i7, hP1, hD1⟩ := hB
      replace hP1 := va_hp ht hP1
      obtain ⟨hP, hD⟩ := va_join (wr := [(ht9, .inr (9, f_ht9)), (hd, .inr (1, f_hd)), (a3, .inl (cI, 8, .inl fa3)), (a4, .inl (cI, 8, .inl fa4)), (o5, .inl (cI, 8, .inl fo5)), (o6, .inl (cI, 8, .inl fo6)), (o7, .inl (cI, 8, .inl fo7)), (o10, .inl (cI, 4, .inl fo10)), (o11, .inl (cI, 4, .inl fo11)), (o12, .inl (cI, 4, .inl fo12))]) (w1 := [(h0, .inr (8, [.int i7, .ref s1, .ref ho, .ref ht9, .ref s4, .ref s5])), (ho, .inr (5, f_ho)), (s1, .inl (cI, 4, .inl f5)), (s4, .inl (cI, 4, .inl f6)), (s5, .inl (cI, 32, .inl f2_s5))]) hP hD [0, 1, 4, 5, 6] [2, 3, 7, 8, 9, 10, 11, 12, 13, 14] rfl rfl (by decide +kernel) (by decide +kernel) hk1 hFc hP1 hD1
      clear hP1 hD1
      clear hz1 hk1 hPc hDc hFc
      generalize H1 = H at hP hS ht ⊢
      have hPD : pdW (dC, dI) vwCl A [(ht9, .inr (9, f_ht9)), (hd, .inr (1, f_hd)), (a3, .inl (cI, 8, .inl fa3)), (a4, .inl (cI, 8, .inl fa4)), (o5, .inl (cI, 8, .inl fo5)), (o6, .inl (cI, 8, .inl fo6)), (o7, .inl (cI, 8, .inl fo7)), (o10, .inl (cI, 4, .inl fo10)), (o11, .inl (cI, 4, .inl fo11)), (o12, .inl (cI, 4, .inl fo12)), (h0, .inr (8, [.int i7, .ref s1, .ref ho, .ref ht9, .ref s4, .ref s5])), (ho, .inr (5, f_ho)), (s1, .inl (cI, 4, .inl f5)), (s4, .inl (cI, 4, .inl f6)), (s5, .inl (cI, 32, .inl f2_s5))] H := ⟨hP, hD⟩
      have hP := hPD.1
      have hD := hPD.2
      clear hPD
      try dsimp only at hw4
      have hP9 := hP.sub (ws' := [(h0, .inr (8, [.int i7, .ref s1, .ref ho, .ref ht9, .ref s4, .ref s5])), (ho, .inr (5, f_ho)), (ht9, .inr (9, f_ht9)), (hd, .inr (1, f_hd)), (s1, .inl (cI, 4, .inl f5)), (s4, .inl (cI, 4, .inl f6)), (s5, .inl (cI, 32, .inl f2_s5)), (a3, .inl (cI, 8, .inl fa3)), (a4, .inl (cI, 8, .inl fa4)), (o5, .inl (cI, 8, .inl fo5)), (o6, .inl (cI, 8, .inl fo6)), (o7, .inl (cI, 8, .inl fo7)), (o10, .inl (cI, 4, .inl fo10)), (o11, .inl (cI, 4, .inl fo11)), (o12, .inl (cI, 4, .inl fo12))]) [10, 11, 0, 1, 12, 13, 14, 2, 3, 4, 5, 6, 7, 8, 9] rfl
      have hD9 := hD.sub (ws' := [(h0, .inr (8, [.int i7, .ref s1, .ref ho, .ref ht9, .ref s4, .ref s5])), (ho, .inr (5, f_ho)), (ht9, .inr (9, f_ht9)), (hd, .inr (1, f_hd)), (s1, .inl (cI, 4, .inl f5)), (s4, .inl (cI, 4, .inl f6)), (s5, .inl (cI, 32, .inl f2_s5)), (a3, .inl (cI, 8, .inl fa3)), (a4, .inl (cI, 8, .inl fa4)), (o5, .inl (cI, 8, .inl fo5)), (o6, .inl (cI, 8, .inl fo6)), (o7, .inl (cI, 8, .inl fo7)), (o10, .inl (cI, 4, .inl fo10)), (o11, .inl (cI, 4, .inl fo11)), (o12, .inl (cI, 4, .inl fo12))]) [10, 11, 0, 1, 12, 13, 14, 2, 3, 4, 5, 6, 7, 8, 9] (by decide +kernel) rfl
      exact W.vret hx hb hr (fun t ht hW => ⟨⟨(fun _ => 0), rfl, trivial, ⟨f5, f6, f2_s5, i7, va_hq ht hP9, hD9⟩⟩, hS.F ht⟩) hS.2.2 dX8_find_70
    ·
      have c1 : ¬ nh ≤ k2 := fun h => c1 ((nI_leI (a := nh) (b := k2) (by omega) (by omega)).mpr h)
      omega
  | succ d2 ih2 =>
    intro k2 f2_s5 H locs ls hk2 hP hD hS hl
    refine lv_iload_n hx hb dX8_find_2 rfl (lv_at hl 0 rfl) ?_
    refine lv_aload_n hx hb dX8_find_3 rfl (lv_at hl 1 rfl) ?_
    refine va_get (D := (dC, dI)) (ci := 8) (v := .ref ho) (C := RX8) (T := TX8) (N := 6) hx hb hts hi_X8 hown hK hP 0 rfl rfl 2 (by decide) (hts (.fieldLink RX8 25 "LeftQuills$Sharing" "office" "LLeftQuills$Office;") (wmx 1 rfl)) (fun _ h9 => h9) rfl dX8_find_4 ?_
    refine va_get (D := (dC, dI)) (ci := 5) (v := .int (nI nh)) (C := RX5) (T := TX5) (N := 13) hx hb hts hi_X5 hown hK hP 1 rfl rfl 4 (by decide) (hts (.fieldLink RX8 33 "LeftQuills$Office" "hands" "I") (wmx 2 rfl)) (fun _ h9 => h9) e_ho_4 dX8_find_7 ?_
    refine lv_icmp_ge (tgt := 58) hx hb dX8_find_10 (by decide) (fun c8 => ?_) (fun c8 => ?_)
    ·
      have c8 : nh ≤ k2 := (nI_leI (a := nh) (b := k2) (by omega) (by omega)).mp c8
      omega
    ·
      have c8 : ¬ nh ≤ k2 := fun h => c8 ((nI_leI (a := nh) (b := k2) (by omega) (by omega)).mpr h)
      refine lv_iconst (v := 0) hx hb dX8_find_13 (by decide) ?_
      refine lv_istore_n (lv' := [(2, .int 0), (1, .int (nI k2)), (0, .ref h0)]) hx hb dX8_find_14 rfl hl (by decide) rfl (fun ls hl => ?_)
      refine (fun (K : ∀ (d15 : Nat) (k15 : Nat) (f15_s5 : Nat → Int32) (H : Heap) (locs : List Loc) (ls : Array Slot), k15 + d15 = nq → va_P (dC, dI) vwCl [(h0, .inr (8, [.int be, .ref s1, .ref ho, .ref ht9, .ref s4, .ref s5])), (ho, .inr (5, f_ho)), (ht9, .inr (9, f_ht9)), (hd, .inr (1, f_hd)), (s1, .inl (cI, 4, .inl fs1)), (s4, .inl (cI, 4, .inl fs4)), (s5, .inl (cI, 32, .inl f15_s5)), (a3, .inl (cI, 8, .inl fa3)), (a4, .inl (cI, 8, .inl fa4)), (o5, .inl (cI, 8, .inl fo5)), (o6, .inl (cI, 8, .inl fo6)), (o7, .inl (cI, 8, .inl fo7)), (o10, .inl (cI, 4, .inl fo10)), (o11, .inl (cI, 4, .inl fo11)), (o12, .inl (cI, 4, .inl fo12))] H → va_D A [(h0, .inr (8, [.int be, .ref s1, .ref ho, .ref ht9, .ref s4, .ref s5])), (ho, .inr (5, f_ho)), (ht9, .inr (9, f_ht9)), (hd, .inr (1, f_hd)), (s1, .inl (cI, 4, .inl fs1)), (s4, .inl (cI, 4, .inl fs4)), (s5, .inl (cI, 32, .inl f15_s5)), (a3, .inl (cI, 8, .inl fa3)), (a4, .inl (cI, 8, .inl fa4)), (o5, .inl (cI, 8, .inl fo5)), (o6, .inl (cI, 8, .inl fo6)), (o7, .inl (cI, 8, .inl fo7)), (o10, .inl (cI, 4, .inl fo10)), (o11, .inl (cI, 4, .inl fo11)), (o12, .inl (cI, 4, .inl fo12))] → va_S A s.heap H locs → lv_has ls 3 [(2, .int (nI k15)), (1, .int (nI k2)), (0, .ref h0)] → W p l e _ s m _ below meth c H locs _ _ _ (F0 m 15 ls [])) => K nq 0 f2_s5 _ _ _ (by omega) hP hD hS (lv_sub hl [0, 1, 2] rfl)) ?_
      intro d15
      induction d15 with
      | zero =>
        intro k15 f15_s5 H locs ls hk15 hP hD hS hl
        refine lv_iload_n hx hb dX8_find_15 rfl (lv_at hl 0 rfl) ?_
        refine lv_aload_n hx hb dX8_find_16 rfl (lv_at hl 2 rfl) ?_
        refine va_get (D := (dC, dI)) (ci := 8) (v := .ref ho) (C := RX8) (T := TX8) (N := 6) hx hb hts hi_X8 hown hK hP 0 rfl rfl 2 (by decide) (hts (.fieldLink RX8 25 "LeftQuills$Sharing" "office" "LLeftQuills$Office;") (wmx 1 rfl)) (fun _ h9 => h9) rfl dX8_find_17 ?_
        refine va_get (D := (dC, dI)) (ci := 5) (v := .int (nI nq)) (C := RX5) (T := TX5) (N := 13) hx hb hts hi_X5 hown hK hP 1 rfl rfl 3 (by decide) (hts (.fieldLink RX8 38 "LeftQuills$Office" "quills" "I") (wmx 3 rfl)) (fun _ h9 => h9) e_ho_3 dX8_find_20 ?_
        refine lv_icmp_ge (tgt := 52) hx hb dX8_find_23 (by decide) (fun c9 => ?_) (fun c9 => ?_)
        ·
          have c9 : nq ≤ k15 := (nI_leI (a := nq) (b := k15) (by omega) (by omega)).mp c9
          refine lv_iinc (v := nI (k2 + 1)) (lv' := [(1, .int (nI (k2 + 1))), (2, .int (nI k15)), (0, .ref h0)]) hx hb dX8_find_52 hl (k := 1) rfl ((rfl : nI k2 + Int32.ofInt 1 = nI k2 + 1).trans (nI_add k2 1)) (by decide) rfl (fun ls hl => ?_)
          refine lv_goto (tgt := 2) hx hb dX8_find_55 (by decide) ?_
          exact ih2 (k2 + 1) f15_s5 _ _ _ (by omega) hP hD hS (lv_sub hl [0, 2] rfl)
        ·
          have c9 : ¬ nq ≤ k15 := fun h => c9 ((nI_leI (a := nq) (b := k15) (by omega) (by omega)).mpr h)
          omega
      | succ d15 ih15 =>
        intro k15 f15_s5 H locs ls hk15 hP hD hS hl
        refine lv_iload_n hx hb dX8_find_15 rfl (lv_at hl 0 rfl) ?_
        refine lv_aload_n hx hb dX8_find_16 rfl (lv_at hl 2 rfl) ?_
        refine va_get (D := (dC, dI)) (ci := 8) (v := .ref ho) (C := RX8) (T := TX8) (N := 6) hx hb hts hi_X8 hown hK hP 0 rfl rfl 2 (by decide) (hts (.fieldLink RX8 25 "LeftQuills$Sharing" "office" "LLeftQuills$Office;") (wmx 1 rfl)) (fun _ h9 => h9) rfl dX8_find_17 ?_
        refine va_get (D := (dC, dI)) (ci := 5) (v := .int (nI nq)) (C := RX5) (T := TX5) (N := 13) hx hb hts hi_X5 hown hK hP 1 rfl rfl 3 (by decide) (hts (.fieldLink RX8 38 "LeftQuills$Office" "quills" "I") (wmx 3 rfl)) (fun _ h9 => h9) e_ho_3 dX8_find_20 ?_
        refine lv_icmp_ge (tgt := 52) hx hb dX8_find_23 (by decide) (fun c10 => ?_) (fun c10 => ?_)
        ·
          have c10 : nq ≤ k15 := (nI_leI (a := nq) (b := k15) (by omega) (by omega)).mp c10
          omega
        ·
          have c10 : ¬ nq ≤ k15 := fun h => c10 ((nI_leI (a := nq) (b := k15) (by omega) (by omega)).mpr h)
          refine lv_aload_n hx hb dX8_find_26 rfl (lv_at hl 2 rfl) ?_
          refine va_get (D := (dC, dI)) (ci := 8) (v := .ref s5) (C := RX8) (T := TX8) (N := 6) hx hb hts hi_X8 hown hK hP 0 rfl rfl 5 (by decide) (hts (.fieldLink RX8 22 "LeftQuills$Sharing" "good" "[I") (wmx 4 rfl)) (fun _ h9 => h9) rfl dX8_find_27 ?_
          refine lv_iload_n hx hb dX8_find_30 rfl (lv_at hl 1 rfl) ?_
          refine lv_bipush (v := 8) hx hb dX8_find_31 (by decide) ?_
          refine lv_imul hx hb dX8_find_33 ?_
          refine lv_topi (fun z11 ez11 => ?_)
          obtain rfl : z11 = nI (k2 * 8) := ez11.trans (pk_mul k2 8)
          refine lv_iload_n hx hb dX8_find_34 rfl (lv_at hl 0 rfl) ?_
          refine lv_iadd hx hb dX8_find_35 ?_
          refine lv_topi (fun z12 ez12 => ?_)
          obtain rfl : z12 = nI ((k2 * 8) + k15) := ez12.trans (nI_add (k2 * 8) k15)
          refine lv_aload_n hx hb dX8_find_36 rfl (lv_at hl 2 rfl) ?_
          refine va_get (D := (dC, dI)) (ci := 8) (v := .ref ht9) (C := RX8) (T := TX8) (N := 6) hx hb hts hi_X8 hown hK hP 0 rfl rfl 3 (by decide) (hts (.fieldLink RX8 29 "LeftQuills$Sharing" "trials" "LLeftQuills$Trials;") (wmx 5 rfl)) (fun _ h9 => h9) rfl dX8_find_37 ?_
          refine lv_iload_n hx hb dX8_find_40 rfl (lv_at hl 0 rfl) ?_
          refine lv_iload_n hx hb dX8_find_41 rfl (lv_at hl 1 rfl) ?_
          have hPc := hP.sub (ws' := [(ht9, .inr (9, f_ht9)), (ho, .inr (5, f_ho)), (hd, .inr (1, f_hd)), (a3, .inl (cI, 8, .inl fa3)), (a4, .inl (cI, 8, .inl fa4)), (o5, .inl (cI, 8, .inl fo5)), (o6, .inl (cI, 8, .inl fo6)), (o7, .inl (cI, 8, .inl fo7)), (o10, .inl (cI, 4, .inl fo10)), (o11, .inl (cI, 4, .inl fo11)), (o12, .inl (cI, 4, .inl fo12))]) [2, 1, 3, 7, 8, 9, 10, 11, 12, 13, 14] rfl
          refine va_calli (va_runV (As := [.int (nI k15), .int (nI k2)]) (rest := [.int (nI ((k2 * 8) + k15)), .ref s5]) ⟨hx, hb, hml, hown, hts⟩ (c_X9_goodNow l dC dI cI cZ cQ ht9 ho hd f_ht9 o5 o6 o7 o10 o11 o12 f_ho a3 a4 f_hd fa3 fa4 fo5 fo6 fo7 fo10 fo11 fo12 k15 k2 H.size e_ht9_0 e_ht9_1 e_ho_5 e_ho_6 e_ho_7 e_ho_10 e_ho_11 e_ho_12 e_hd_3 e_hd_4 (by omega) (by omega)) (cwV 2 hts gX8_find_X9_goodNow rfl rfl rfl hd_X9_goodNow_RX9 ⟨Nat.le_of_ble_eq_true rfl, Nat.le_of_ble_eq_true rfl⟩) ⟨fun a U g mk q => by obtain ⟨q0, q1, qP, qK, qN⟩ := q; exact ⟨q0, q1, qP, va_K.moved (u := U) (U := U.calling g mk a) (Vm.Alike.refl U.vm) qK, qN.calling⟩, va_recv hK hP (ci := 9) (q0 := 2) rfl rfl, fun U hU hW => ⟨rfl, by rw [hU], by rw [hU]; exact hPc, va_K.moved hW.alike hK, hN.warm hW⟩⟩ rfl rfl hl.1 rfl (lv_room (Nat.le_of_ble_eq_true rfl)) dX8_find_42 ⟨Nat.le_of_ble_eq_true rfl, Nat.le_of_ble_eq_true rfl⟩) hS (fun q _ h => False.elim h) (fun q h => False.elim h) (fun r13 u14 t H1 locs ht hvm hw15 hB hz1 hk1 hS => ?_)
          have hP := hP.kept (fun k q hk => hk1 q.1 (hP k q hk).lt (fun h => h))
          clear hz1 hk1 hPc
          generalize H1 = H at hP hS ht ⊢
          try dsimp only at hw15
          refine va_iast hx hb hK hP hD hS 6 0 rfl rfl (vp_in_nI (n := (k2 * 8) + k15) (N := 32) (by omega) (by decide)) dX8_find_45 (fun H locs hP hD hS => ?_)
          generalize hgf16 : upd f15_s5 ((nI ((k2 * 8) + k15)).toNatClampNeg) r13 = f16 at hP hD
          have hPD : pdW (dC, dI) vwCl A [(h0, .inr (8, [.int be, .ref s1, .ref ho, .ref ht9, .ref s4, .ref s5])), (ho, .inr (5, f_ho)), (ht9, .inr (9, f_ht9)), (hd, .inr (1, f_hd)), (s1, .inl (cI, 4, .inl fs1)), (s4, .inl (cI, 4, .inl fs4)), (s5, .inl (cI, 32, .inl f16)), (a3, .inl (cI, 8, .inl fa3)), (a4, .inl (cI, 8, .inl fa4)), (o5, .inl (cI, 8, .inl fo5)), (o6, .inl (cI, 8, .inl fo6)), (o7, .inl (cI, 8, .inl fo7)), (o10, .inl (cI, 4, .inl fo10)), (o11, .inl (cI, 4, .inl fo11)), (o12, .inl (cI, 4, .inl fo12))] H := ⟨hP, hD⟩
          have hP := hPD.1
          have hD := hPD.2
          clear hPD
          refine lv_iinc (v := nI (k15 + 1)) (lv' := [(2, .int (nI (k15 + 1))), (1, .int (nI k2)), (0, .ref h0)]) hx hb dX8_find_46 hl (k := 0) rfl ((rfl : nI k15 + Int32.ofInt 1 = nI k15 + 1).trans (nI_add k15 1)) (by decide) rfl (fun ls hl => ?_)
          refine lv_goto (tgt := 15) hx hb dX8_find_49 (by decide) ?_
          exact ih15 (k15 + 1) f16 _ _ _ (by omega) hP hD hS (lv_sub hl [0, 1, 2] rfl)
