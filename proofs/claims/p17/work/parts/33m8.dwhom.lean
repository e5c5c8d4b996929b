set_option maxHeartbeats 4000000 in
set_option maxRecDepth 100000 in
theorem c_X8_keepD (l : Launch) (dC : Nat → ClassId) (dI : Nat → Nat → Nat) (cI cZ cQ : ClassId) (h0 : Nat) (be : Int32) (s1 : Nat) (ho : Nat) (ht9 : Nat) (s4 : Nat) (s5 : Nat) (fs1 : Nat → Int32) (fs4 : Nat → Int32) (ss : Nat) (sz : Nat) (hss : ss ≤ 4000) : Met l yX8_keepIfBetter wsX8_keepIfBetter ({ frames := 1, cells := 0, slots := 0, locals := 40 }) (va_Pc [.ref h0, .int (nI ss)] (fun U => U.heap.size = sz ∧ va_P (dC, dI) vwCl [(h0, .inr (8, [.int be, .ref s1, .ref ho, .ref ht9, .ref s4, .ref s5])), (s1, .inl (cI, 4, .inl fs1)), (s4, .inl (cI, 4, .inl fs4))] U.heap ∧ va_K (dC, dI) vwCl (tys0 cI cZ cQ) U ∧ va_D (fun _ => True) [(h0, .inr (8, [.int be, .ref s1, .ref ho, .ref ht9, .ref s4, .ref s5])), (s1, .inl (cI, 4, .inl fs1)), (s4, .inl (cI, 4, .inl fs4))])) (va_Qv (fun (u : Nat → Nat) => True) (fun (_ : Nat → Nat) (t : State) => ∃ (gg0 : Nat → Int32) (ii0 : Int32) , (ii0 = if be < nI ss then nI ss else be) ∧ (∀ i, i < 4 → gg0 i = if be < nI ss then fs4 i else fs1 i) ∧ va_P (dC, dI) vwCl [(h0, .inr (8, [.int ii0, .ref s1, .ref ho, .ref ht9, .ref s4, .ref s5])), (s1, .inl (cI, 4, .inl gg0)), (s4, .inl (cI, 4, .inl fs4))] t.heap ∧ va_D (va_A [(h0, .inr (8, [.int be, .ref s1, .ref ho, .ref ht9, .ref s4, .ref s5])), (s1, .inl (cI, 4, .inl fs1)), (s4, .inl (cI, 4, .inl fs4))] sz) [(h0, .inr (8, [.int ii0, .ref s1, .ref ho, .ref ht9, .ref s4, .ref s5])), (s1, .inl (cI, 4, .inl gg0)), (s4, .inl (cI, 4, .inl fs4))]) (va_A [(h0, .inr (8, [.int be, .ref s1, .ref ho, .ref ht9, .ref s4, .ref s5])), (s1, .inl (cI, 4, .inl fs1)), (s4, .inl (cI, 4, .inl fs4))] sz)) 0 0 (va_A [(h0, .inr (8, [.int be, .ref s1, .ref ho, .ref ht9, .ref s4, .ref s5])), (s1, .inl (cI, 4, .inl fs1)), (s4, .inl (cI, 4, .inl fs4))] sz) := by
  refine Met.ofW (cc := cX8_keepIfBetter) (maxL := 2) (ret := none) (by decide) rfl ?_
  intro p e s m args below meth c s₁ B hml hv
  obtain ⟨rfl, hsz, hP, hK, hD0⟩ := hv
  have hx := B.exec
  have hb := B.bytes
  have hr := B.returns
  have hts := atoms_spec (ws := wsX8_keepIfBetter) B.pre
  have hown : s.vm.findClass RX8 = some m.cls := findClass_of_methodNamed B.named
  have hlocks := B.notSynchronized
  have hi_X8 : ∀ w ∈ u_ws RX8 TX8 6, w ∈ wsX8_keepIfBetter := fun _ h => List.mem_cons_of_mem _ (List.mem_append_right _ (h))
  subst hsz
  have hD := hD0.self (sz := s.heap.size)
  generalize hAe : va_A [(h0, .inr (8, [.int be, .ref s1, .ref ho, .ref ht9, .ref s4, .ref s5])), (s1, .inl (cI, 4, .inl fs1)), (s4, .inl (cI, 4, .inl fs4))] s.heap.size = A at hD ⊢
  have hA : ∀ q : Nat, s.heap.size ≤ q → A q := fun q h => by rw [← hAe]; exact Or.inr h
  have hS : va_S A s.heap s.heap [] := va_S.rf
  have hl := lv_entry ([.ref h0, .int (nI ss)]) (n := 2) (Nat.le_of_ble_eq_true rfl)
  rw [lg_entry_eq]
  generalize (lg_sl ([.ref h0, .int (nI ss)]) ++ List.replicate (2 - (lg_sl ([.ref h0, .int (nI ss)])).length) Slot.unset).toArray = ls at hl ⊢
  have hl : lv_has ls 2 [(0, .ref h0), (1, .int (nI ss))] := hl
  refine lv_iload_n hx hb dX8_keepIfBetter_0 rfl (lv_at hl 1 rfl) ?_
  refine lv_aload_n hx hb dX8_keepIfBetter_1 rfl (lv_at hl 0 rfl) ?_
  refine va_get (D := (dC, dI)) (ci := 8) (v := .int be) (C := RX8) (T := TX8) (N := 6) hx hb hts hi_X8 hown hK hP 0 rfl rfl 0 (by decide) (hts (.fieldLink RX8 9 "LeftQuills$Sharing" "best" "I") (wmx 1 rfl)) (fun _ h9 => h9) rfl dX8_keepIfBetter_2 ?_
  refine lv_icmp_le (tgt := 27) hx hb dX8_keepIfBetter_5 (by decide) (fun c1 => ?_) (fun c1 => ?_)
  ·
    have hP9 := hP.sub (ws' := [(h0, .inr (8, [.int be, .ref s1, .ref ho, .ref ht9, .ref s4, .ref s5])), (s1, .inl (cI, 4, .inl fs1)), (s4, .inl (cI, 4, .inl fs4))]) [0, 1, 2] rfl
    have hD9 := hD.sub (ws' := [(h0, .inr (8, [.int be, .ref s1, .ref ho, .ref ht9, .ref s4, .ref s5])), (s1, .inl (cI, 4, .inl fs1)), (s4, .inl (cI, 4, .inl fs4))]) [0, 1, 2] (by decide +kernel) rfl
    exact W.vret hx hb hr (fun t ht hW => ⟨⟨(fun _ => 0), rfl, trivial, ⟨fs1, be, ((if_neg (fa_len c1)).symm), (fun i _ => (if_neg (fa_len c1)).symm), by rw [ht]; exact hP9, hD9⟩⟩, hS.F ht⟩) hS.2.2 dX8_keepIfBetter_27
  ·
    refine lv_aload_n hx hb dX8_keepIfBetter_8 rfl (lv_at hl 0 rfl) ?_
    refine lv_iload_n hx hb dX8_keepIfBetter_9 rfl (lv_at hl 1 rfl) ?_
    refine va_put (D := (dC, dI)) (ci := 8) (v := .int (nI ss)) (ty := .int) (C := RX8) (T := TX8) (N := 6) hx hb hts hi_X8 tyX8 tyX8_ok nmX8 hown hK hP hD hS 0 rfl rfl 0 (by decide) (hts (.fieldLink RX8 9 "LeftQuills$Sharing" "best" "I") (wmx 1 rfl)) (fun _ h9 => h9) rfl (by decide +kernel) rfl rfl (Nat.le_of_ble_eq_true rfl) dX8_keepIfBetter_10 (fun H locs hP hD hS => ?_)
    have hP : va_P (dC, dI) vwCl [(h0, .inr (8, [.int (nI ss), .ref s1, .ref ho, .ref ht9, .ref s4, .ref s5])), (s1, .inl (cI, 4, .inl fs1)), (s4, .inl (cI, 4, .inl fs4))] H := hP
    have hD : va_D A [(h0, .inr (8, [.int (nI ss), .ref s1, .ref ho, .ref ht9, .ref s4, .ref s5])), (s1, .inl (cI, 4, .inl fs1)), (s4, .inl (cI, 4, .inl fs4))] := hD
    refine lv_aload_n hx hb dX8_keepIfBetter_13 rfl (lv_at hl 0 rfl) ?_
    refine va_get (D := (dC, dI)) (ci := 8) (v := .ref s4) (C := RX8) (T := TX8) (N := 6) hx hb hts hi_X8 hown hK hP 0 rfl rfl 4 (by decide) (hts (.fieldLink RX8 19 "LeftQuills$Sharing" "quillOf" "[I") (wmx 2 rfl)) (fun _ h9 => h9) rfl dX8_keepIfBetter_14 ?_
    refine lv_iconst (v := 0) hx hb dX8_keepIfBetter_17 (by decide) ?_
    refine lv_aload_n hx hb dX8_keepIfBetter_18 rfl (lv_at hl 0 rfl) ?_
    refine va_get (D := (dC, dI)) (ci := 8) (v := .ref s1) (C := RX8) (T := TX8) (N := 6) hx hb hts hi_X8 hown hK hP 0 rfl rfl 1 (by decide) (hts (.fieldLink RX8 15 "LeftQuills$Sharing" "bestQuill" "[I") (wmx 3 rfl)) (fun _ h9 => h9) rfl dX8_keepIfBetter_19 ?_
    refine lv_iconst (v := 0) hx hb dX8_keepIfBetter_22 (by decide) ?_
    refine lv_iconst (v := 4) hx hb dX8_keepIfBetter_23 (by decide) ?_
    refine va_copyi hx hb (hml.trans hl.1.symm) hown (hts (.methodLink RX8 59 arraycopyName) (wmx 4 rfl)) (hts (.native arraycopyName) (wmx 5 rfl)) (hts (.static arraycopyName) (wmx 6 rfl)) (hts (.initialized "java/lang/System") (wmx 7 rfl)) hK hP hD hS 2 1 0 0 rfl rfl rfl rfl rfl (by decide) (by decide) (by decide) (by decide) (by decide) (fun _ _ => rfl) (Nat.le_of_ble_eq_true rfl) (Nat.le_of_ble_eq_true rfl) dX8_keepIfBetter_24 (fun H locs hP hD hS => ?_)
    generalize hgf2 : va_cpy _ _ _ _ _ = f2 at hP hD
    have hP : va_P (dC, dI) vwCl [(h0, .inr (8, [.int (nI ss), .ref s1, .ref ho, .ref ht9, .ref s4, .ref s5])), (s1, .inl (cI, 4, .inl f2)), (s4, .inl (cI, 4, .inl fs4))] H := hP
    have hD : va_D A [(h0, .inr (8, [.int (nI ss), .ref s1, .ref ho, .ref ht9, .ref s4, .ref s5])), (s1, .inl (cI, 4, .inl f2)), (s4, .inl (cI, 4, .inl fs4))] := hD
    have hP9 := hP.sub (ws' := [(h0, .inr (8, [.int (nI ss), .ref s1, .ref ho, .ref ht9, .ref s4, .ref s5])), (s1, .inl (cI, 4, .inl f2)), (s4, .inl (cI, 4, .inl fs4))]) [0, 1, 2] rfl
    have hD9 := hD.sub (ws' := [(h0, .inr (8, [.int (nI ss), .ref s1, .ref ho, .ref ht9, .ref s4, .ref s5])), (s1, .inl (cI, 4, .inl f2)), (s4, .inl (cI, 4, .inl fs4))]) [0, 1, 2] (by decide +kernel) rfl
    exact W.vret hx hb hr (fun t ht hW => ⟨⟨(fun _ => 0), rfl, trivial, ⟨f2, (nI ss), ((if_pos (fa_nle c1)).symm), (fun i hi => Eq.trans (by rw [← hgf2]; exact cpy_lt (by decide) (by decide) (by decide) hi) (if_pos (fa_nle c1)).symm), by rw [ht]; exact hP9, hD9⟩⟩, hS.F ht⟩) hS.2.2 dX8_keepIfBetter_27
set_option maxHeartbeats 4000000 in
set_option maxRecDepth 100000 in
theorem c_X8_giveFromD_0 (l : Launch) (dC : Nat → ClassId) (dI : Nat → Nat → Nat) (cI cZ cQ : ClassId) (h0 : Nat) (be : Int32) (s1 : Nat) (ho : Nat) (ht9 : Nat) (s4 : Nat) (s5 : Nat) (nq : Nat) (nh : Nat) (f_ho : List Value) (fs1 : Nat → Int32) (fs4 : Nat → Int32) (fs5 : Nat → Int32) (k : Nat) (tt : Nat) (ss : Nat) (pw : Nat) (gg : Nat → Nat → Nat) (sz : Nat) (e_ho_3 : f_ho[3]? = some (.int (nI nq))) (e_ho_4 : f_ho[4]? = some (.int (nI nh))) (hnq : nq ≤ 8) (hnh : nh ≤ 4) (hk : k ≤ nh) (hd : 4 ≤ k + 0) (htt : tt = twT k pw) (hss : ss = twS gg k pw) (hvd : twV nq k pw = true) (hq4 : ∀ i, i < k → fs4 i = nI (twD k pw i)) (hG : ∀ j k, gg j k ≤ 999) (hT : ∀ k j, k < nh → j < nq → fs5 (k * 8 + j) = nI (gg j k)) (hBw : twB nq gg nh (pw * 8 ^ (nh - k)) be (twR nh fs1)) : Met l yX8_giveFrom wsX8_giveFrom ({ frames := 2, cells := 0, slots := 0, locals := 61 }) (va_Pc [.ref h0, .int (nI k), .int (nI tt), .int (nI ss)] (fun U => U.heap.size = sz ∧ va_P (dC, dI) vwCl [(h0, .inr (8, [.int be, .ref s1, .ref ho, .ref ht9, .ref s4, .ref s5])), (ho, .inr (5, f_ho)), (s1, .inl (cI, 4, .inl fs1)), (s4, .inl (cI, 4, .inl fs4)), (s5, .inl (cI, 32, .inl fs5))] U.heap ∧ va_K (dC, dI) vwCl (tys0 cI cZ cQ) U ∧ va_D (fun _ => True) [(h0, .inr (8, [.int be, .ref s1, .ref ho, .ref ht9, .ref s4, .ref s5])), (ho, .inr (5, f_ho)), (s1, .inl (cI, 4, .inl fs1)), (s4, .inl (cI, 4, .inl fs4)), (s5, .inl (cI, 32, .inl fs5))])) (va_Qv (fun (u : Nat → Nat) => True) (fun (_ : Nat → Nat) (t : State) => ∃ (gg0 : Nat → Int32) (ii0 : Int32) , (twB nq gg nh ((pw + 1) * 8 ^ (nh - k)) ii0 (twR nh gg0)) ∧ (∀ i, i < k → fs4 i = fs4 i) ∧ va_P (dC, dI) vwCl [(h0, .inr (8, [.int ii0, .ref s1, .ref ho, .ref ht9, .ref s4, .ref s5])), (ho, .inr (5, f_ho)), (s1, .inl (cI, 4, .inl gg0)), (s4, .inl (cI, 4, .inl fs4)), (s5, .inl (cI, 32, .inl fs5))] t.heap ∧ va_D (va_A [(h0, .inr (8, [.int be, .ref s1, .ref ho, .ref ht9, .ref s4, .ref s5])), (ho, .inr (5, f_ho)), (s1, .inl (cI, 4, .inl fs1)), (s4, .inl (cI, 4, .inl fs4)), (s5, .inl (cI, 32, .inl fs5))] sz) [(h0, .inr (8, [.int ii0, .ref s1, .ref ho, .ref ht9, .ref s4, .ref s5])), (ho, .inr (5, f_ho)), (s1, .inl (cI, 4, .inl gg0)), (s4, .inl (cI, 4, .inl fs4)), (s5, .inl (cI, 32, .inl fs5))]) (va_A [(h0, .inr (8, [.int be, .ref s1, .ref ho, .ref ht9, .ref s4, .ref s5])), (ho, .inr (5, f_ho)), (s1, .inl (cI, 4, .inl fs1)), (s4, .inl (cI, 4, .inl fs4)), (s5, .inl (cI, 32, .inl fs5))] sz)) 0 0 (va_A [(h0, .inr (8, [.int be, .ref s1, .ref ho, .ref ht9, .ref s4, .ref s5])), (ho, .inr (5, f_ho)), (s1, .inl (cI, 4, .inl fs1)), (s4, .inl (cI, 4, .inl fs4)), (s5, .inl (cI, 32, .inl fs5))] sz) := by
  refine Met.ofW (cc := cX8_giveFrom) (maxL := 5) (ret := none) (by decide) rfl ?_
  intro p e s m args below meth c s₁ B hml hv
  obtain ⟨rfl, hsz, hP, hK, hD0⟩ := hv
  have hx := B.exec
  have hb := B.bytes
  have hr := B.returns
  have hts := atoms_spec (ws := wsX8_giveFrom) B.pre
  have hown : s.vm.findClass RX8 = some m.cls := findClass_of_methodNamed B.named
  have hlocks := B.notSynchronized
  have hi_X5 : ∀ w ∈ u_ws RX5 TX5 13, w ∈ wsX8_giveFrom := fun _ h => List.mem_cons_of_mem _ (List.mem_append_right _ (h))
  have hi_X8 : ∀ w ∈ u_ws RX8 TX8 6, w ∈ wsX8_giveFrom := fun _ h => List.mem_cons_of_mem _ (List.mem_append_left _ (List.mem_append_right _ (h)))
  subst hsz
  have hD := hD0.self (sz := s.heap.size)
  generalize hAe : va_A [(h0, .inr (8, [.int be, .ref s1, .ref ho, .ref ht9, .ref s4, .ref s5])), (ho, .inr (5, f_ho)), (s1, .inl (cI, 4, .inl fs1)), (s4, .inl (cI, 4, .inl fs4)), (s5, .inl (cI, 32, .inl fs5))] s.heap.size = A at hD ⊢
  have hA : ∀ q : Nat, s.heap.size ≤ q → A q := fun q h => by rw [← hAe]; exact Or.inr h
  have hS : va_S A s.heap s.heap [] := va_S.rf
  have hl := lv_entry ([.ref h0, .int (nI k), .int (nI tt), .int (nI ss)]) (n := 5) (Nat.le_of_ble_eq_true rfl)
  rw [lg_entry_eq]
  generalize (lg_sl ([.ref h0, .int (nI k), .int (nI tt), .int (nI ss)]) ++ List.replicate (5 - (lg_sl ([.ref h0, .int (nI k), .int (nI tt), .int (nI ss)])).length) Slot.unset).toArray = ls at hl ⊢
  have hl : lv_has ls 5 [(0, .ref h0), (1, .int (nI k)), (2, .int (nI tt)), (3, .int (nI ss))] := hl
  refine lv_iload_n hx hb dX8_giveFrom_0 rfl (lv_at hl 1 rfl) ?_
  refine lv_aload_n hx hb dX8_giveFrom_1 rfl (lv_at hl 0 rfl) ?_
  refine va_get (D := (dC, dI)) (ci := 8) (v := .ref ho) (C := RX8) (T := TX8) (N := 6) hx hb hts hi_X8 hown hK hP 0 rfl rfl 2 (by decide) (hts (.fieldLink RX8 25 "LeftQuills$Sharing" "office" "LLeftQuills$Office;") (wmx 1 rfl)) (fun _ h9 => h9) rfl dX8_giveFrom_2 ?_
  refine va_get (D := (dC, dI)) (ci := 5) (v := .int (nI nh)) (C := RX5) (T := TX5) (N := 13) hx hb hts hi_X5 hown hK hP 1 rfl rfl 4 (by decide) (hts (.fieldLink RX8 33 "LeftQuills$Office" "hands" "I") (wmx 2 rfl)) (fun _ h9 => h9) e_ho_4 dX8_giveFrom_5 ?_
  refine lv_icmp_ge (tgt := 16) hx hb dX8_giveFrom_8 (by decide) (fun c1 => ?_) (fun c1 => ?_)
  ·
    have c1 : nh ≤ k := (nI_leI (a := nh) (b := k) (by omega) (by omega)).mp c1
    refine lv_aload_n hx hb dX8_giveFrom_16 rfl (lv_at hl 0 rfl) ?_
    refine lv_iload_n hx hb dX8_giveFrom_17 rfl (lv_at hl 3 rfl) ?_
    have hPc := hP.sub (ws' := [(h0, .inr (8, [.int be, .ref s1, .ref ho, .ref ht9, .ref s4, .ref s5])), (s1, .inl (cI, 4, .inl fs1)), (s4, .inl (cI, 4, .inl fs4))]) [0, 2, 3] rfl
    have hDc := hD.sub (ws' := [(h0, .inr (8, [.int be, .ref s1, .ref ho, .ref ht9, .ref s4, .ref s5])), (s1, .inl (cI, 4, .inl fs1)), (s4, .inl (cI, 4, .inl fs4))]) [0, 2, 3] (by decide) rfl
    have hFc := va_free (wc := [(h0, .inr (8, [.int be, .ref s1, .ref ho, .ref ht9, .ref s4, .ref s5])), (s1, .inl (cI, 4, .inl fs1)), (s4, .inl (cI, 4, .inl fs4))]) hD hS hA [0, 2, 3] rfl
    refine va_callv (va_runV (As := [.int (nI ss)]) (rest := []) ⟨hx, hb, hml, hown, hts⟩ (c_X8_keepD l dC dI cI cZ cQ h0 be s1 ho ht9 s4 s5 fs1 fs4 ss s.heap.size (by rw [hss]; exact tw_S4 hG (by omega))) (cwV 1 hts gX8_giveFrom_X8_keepIfBetter rfl rfl rfl (by decide +kernel) ⟨Nat.le_of_ble_eq_true rfl, Nat.le_of_ble_eq_true rfl⟩) ⟨fun a U g mk q => by obtain ⟨q0, q1, qP, qK, qD⟩ := q; exact ⟨q0, q1, qP, va_K.moved (u := U) (U := U.calling g mk a) (Vm.Alike.refl U.vm) qK, qD⟩, va_recv hK hP (ci := 8) (q0 := 0) rfl rfl, fun U hU hW => ⟨rfl, by rw [hU], by rw [hU]; exact hPc, va_K.moved hW.alike hK, hDc.weaken (fun _ _ _ _ => trivial)⟩⟩ rfl rfl hl.1 rfl (lv_room (Nat.le_of_ble_eq_true rfl)) dX8_giveFrom_18 ⟨Nat.le_of_ble_eq_true rfl, Nat.le_of_ble_eq_true rfl⟩) hS (fun q _ h => hFc q h) hFc (fun u3 t H1 locs ht hvm hw4 hB hz1 hk1 hS => ?_)
    obtain ⟨f5, i6, he7, he8, hP1, hD1⟩ := hB
    rw [ht] at hP1
    obtain ⟨hP, hD⟩ := va_join (wr := [(ho, .inr (5, f_ho)), (s5, .inl (cI, 32, .inl fs5))]) (w1 := [(h0, .inr (8, [.int i6, .ref s1, .ref ho, .ref ht9, .ref s4, .ref s5])), (s1, .inl (cI, 4, .inl f5)), (s4, .inl (cI, 4, .inl fs4))]) hP hD [0, 2, 3] [1, 4] rfl rfl (by decide +kernel) (by decide +kernel) hk1 hFc hP1 hD1
    clear hP1 hD1
    clear hz1 hk1 hPc hDc hFc
    generalize H1 = H at hP hS ht ⊢
    have hP : va_P (dC, dI) vwCl [(ho, .inr (5, f_ho)), (s5, .inl (cI, 32, .inl fs5)), (h0, .inr (8, [.int i6, .ref s1, .ref ho, .ref ht9, .ref s4, .ref s5])), (s1, .inl (cI, 4, .inl f5)), (s4, .inl (cI, 4, .inl fs4))] H := hP
    have hD : va_D A [(ho, .inr (5, f_ho)), (s5, .inl (cI, 32, .inl fs5)), (h0, .inr (8, [.int i6, .ref s1, .ref ho, .ref ht9, .ref s4, .ref s5])), (s1, .inl (cI, 4, .inl f5)), (s4, .inl (cI, 4, .inl fs4))] := hD
    try dsimp only at hw4
    have hP9 := hP.sub (ws' := [(h0, .inr (8, [.int i6, .ref s1, .ref ho, .ref ht9, .ref s4, .ref s5])), (ho, .inr (5, f_ho)), (s1, .inl (cI, 4, .inl f5)), (s4, .inl (cI, 4, .inl fs4)), (s5, .inl (cI, 32, .inl fs5))]) [2, 0, 3, 4, 1] rfl
    have hD9 := hD.sub (ws' := [(h0, .inr (8, [.int i6, .ref s1, .ref ho, .ref ht9, .ref s4, .ref s5])), (ho, .inr (5, f_ho)), (s1, .inl (cI, 4, .inl f5)), (s4, .inl (cI, 4, .inl fs4)), (s5, .inl (cI, 32, .inl fs5))]) [2, 0, 3, 4, 1] (by decide +kernel) rfl
    exact W.vret hx hb hr (fun t ht hW => ⟨⟨(fun _ => 0), rfl, trivial, ⟨f5, i6, (tw_keep hG (by omega) (show k = nh by omega) hBw hvd hss hq4 he7 he8), (fun i _ => rfl), by rw [ht]; exact hP9, hD9⟩⟩, hS.F ht⟩) hS.2.2 dX8_giveFrom_21
  ·
    have c1 : ¬ nh ≤ k := fun h => c1 ((nI_leI (a := nh) (b := k) (by omega) (by omega)).mpr h)
    omega
set_option maxHeartbeats 4000000 in
set_option maxRecDepth 100000 in
theorem c_X8_giveQuillD_1 (l : Launch) (dC : Nat → ClassId) (dI : Nat → Nat → Nat) (cI cZ cQ : ClassId) (h0 : Nat) (be : Int32) (s1 : Nat) (ho : Nat) (ht9 : Nat) (s4 : Nat) (s5 : Nat) (nq : Nat) (nh : Nat) (f_ho : List Value) (fs1 : Nat → Int32) (fs4 : Nat → Int32) (fs5 : Nat → Int32) (k : Nat) (j : Nat) (tt : Nat) (ss : Nat) (pw : Nat) (gg : Nat → Nat → Nat) (sz : Nat) (e_ho_3 : f_ho[3]? = some (.int (nI nq))) (e_ho_4 : f_ho[4]? = some (.int (nI nh))) (hnq : nq ≤ 8) (hnh : nh ≤ 4) (hj : j < nq) (hk : k < nh) (hd : 4 ≤ k + 1) (htt : tt = twT k pw) (hss : ss = twS gg k pw) (hvd : twV nq k pw = true) (hq4 : ∀ i, i < k → fs4 i = nI (twD k pw i)) (hG : ∀ j k, gg j k ≤ 999) (hT : ∀ k j, k < nh → j < nq → fs5 (k * 8 + j) = nI (gg j k)) (hbit : (twT k pw).testBit j = false) (hBw : twB nq gg nh ((8 * pw + j) * 8 ^ (nh - (k + 1))) be (twR nh fs1)) : Met l yX8_giveQuill wsX8_giveQuill ({ frames := 3, cells := 0, slots := 0, locals := 85 }) (va_Pc [.ref h0, .int (nI k), .int (nI j), .int (nI tt), .int (nI ss)] (fun U => U.heap.size = sz ∧ va_P (dC, dI) vwCl [(h0, .inr (8, [.int be, .ref s1, .ref ho, .ref ht9, .ref s4, .ref s5])), (ho, .inr (5, f_ho)), (s1, .inl (cI, 4, .inl fs1)), (s4, .inl (cI, 4, .inl fs4)), (s5, .inl (cI, 32, .inl fs5))] U.heap ∧ va_K (dC, dI) vwCl (tys0 cI cZ cQ) U ∧ va_D (fun _ => True) [(h0, .inr (8, [.int be, .ref s1, .ref ho, .ref ht9, .ref s4, .ref s5])), (ho, .inr (5, f_ho)), (s1, .inl (cI, 4, .inl fs1)), (s4, .inl (cI, 4, .inl fs4)), (s5, .inl (cI, 32, .inl fs5))])) (va_Qv (fun (u : Nat → Nat) => True) (fun (_ : Nat → Nat) (t : State) => ∃ (gg0 gg1 : Nat → Int32) (ii0 : Int32) , (twB nq gg nh ((8 * pw + j + 1) * 8 ^ (nh - (k + 1))) ii0 (twR nh gg0)) ∧ (∀ i, i < k → gg1 i = fs4 i) ∧ va_P (dC, dI) vwCl [(h0, .inr (8, [.int ii0, .ref s1, .ref ho, .ref ht9, .ref s4, .ref s5])), (ho, .inr (5, f_ho)), (s1, .inl (cI, 4, .inl gg0)), (s4, .inl (cI, 4, .inl gg1)), (s5, .inl (cI, 32, .inl fs5))] t.heap ∧ va_D (va_A [(h0, .inr (8, [.int be, .ref s1, .ref ho, .ref ht9, .ref s4, .ref s5])), (ho, .inr (5, f_ho)), (s1, .inl (cI, 4, .inl fs1)), (s4, .inl (cI, 4, .inl fs4)), (s5, .inl (cI, 32, .inl fs5))] sz) [(h0, .inr (8, [.int ii0, .ref s1, .ref ho, .ref ht9, .ref s4, .ref s5])), (ho, .inr (5, f_ho)), (s1, .inl (cI, 4, .inl gg0)), (s4, .inl (cI, 4, .inl gg1)), (s5, .inl (cI, 32, .inl fs5))]) (va_A [(h0, .inr (8, [.int be, .ref s1, .ref ho, .ref ht9, .ref s4, .ref s5])), (ho, .inr (5, f_ho)), (s1, .inl (cI, 4, .inl fs1)), (s4, .inl (cI, 4, .inl fs4)), (s5, .inl (cI, 32, .inl fs5))] sz)) 0 0 (va_A [(h0, .inr (8, [.int be, .ref s1, .ref ho, .ref ht9, .ref s4, .ref s5])), (ho, .inr (5, f_ho)), (s1, .inl (cI, 4, .inl fs1)), (s4, .inl (cI, 4, .inl fs4)), (s5, .inl (cI, 32, .inl fs5))] sz) := by
  refine Met.ofW (cc := cX8_giveQuill) (maxL := 5) (ret := none) (by decide) rfl ?_
  intro p e s m args below meth c s₁ B hml hv
  obtain ⟨rfl, hsz, hP, hK, hD0⟩ := hv
  have hx := B.exec
  have hb := B.bytes
  have hr := B.returns
  have hts := atoms_spec (ws := wsX8_giveQuill) B.pre
  have hown : s.vm.findClass RX8 = some m.cls := findClass_of_methodNamed B.named
  have hlocks := B.notSynchronized
  have hi_X8 : ∀ w ∈ u_ws RX8 TX8 6, w ∈ wsX8_giveQuill := fun _ h => List.mem_cons_of_mem _ (List.mem_append_left _ (List.mem_append_right _ (h)))
  subst hsz
  have hD := hD0.self (sz := s.heap.size)
  generalize hAe : va_A [(h0, .inr (8, [.int be, .ref s1, .ref ho, .ref ht9, .ref s4, .ref s5])), (ho, .inr (5, f_ho)), (s1, .inl (cI, 4, .inl fs1)), (s4, .inl (cI, 4, .inl fs4)), (s5, .inl (cI, 32, .inl fs5))] s.heap.size = A at hD ⊢
  have hA : ∀ q : Nat, s.heap.size ≤ q → A q := fun q h => by rw [← hAe]; exact Or.inr h
  have hS : va_S A s.heap s.heap [] := va_S.rf
  have hl := lv_entry ([.ref h0, .int (nI k), .int (nI j), .int (nI tt), .int (nI ss)]) (n := 5) (Nat.le_of_ble_eq_true rfl)
  rw [lg_entry_eq]
  generalize (lg_sl ([.ref h0, .int (nI k), .int (nI j), .int (nI tt), .int (nI ss)]) ++ List.replicate (5 - (lg_sl ([.ref h0, .int (nI k), .int (nI j), .int (nI tt), .int (nI ss)])).length) Slot.unset).toArray = ls at hl ⊢
  have hl : lv_has ls 5 [(0, .ref h0), (1, .int (nI k)), (2, .int (nI j)), (3, .int (nI tt)), (4, .int (nI ss))] := hl
  refine lv_aload_n hx hb dX8_giveQuill_0 rfl (lv_at hl 0 rfl) ?_
  refine va_get (D := (dC, dI)) (ci := 8) (v := .ref s4) (C := RX8) (T := TX8) (N := 6) hx hb hts hi_X8 hown hK hP 0 rfl rfl 4 (by decide) (hts (.fieldLink RX8 19 "LeftQuills$Sharing" "quillOf" "[I") (wmx 1 rfl)) (fun _ h9 => h9) rfl dX8_giveQuill_1 ?_
  refine lv_iload_n hx hb dX8_giveQuill_4 rfl (lv_at hl 1 rfl) ?_
  refine lv_iload_n hx hb dX8_giveQuill_5 rfl (lv_at hl 2 rfl) ?_
  refine va_iast hx hb hK hP hD hS 3 0 rfl rfl (vp_in_nI (n := k) (N := 4) (by omega) (by decide)) dX8_giveQuill_6 (fun H locs hP hD hS => ?_)
  have hcl := (nI_clamp (n := k) (by omega))
  rw [hcl] at hP hD
  clear hcl
  have hP : va_P (dC, dI) vwCl [(h0, .inr (8, [.int be, .ref s1, .ref ho, .ref ht9, .ref s4, .ref s5])), (ho, .inr (5, f_ho)), (s1, .inl (cI, 4, .inl fs1)), (s4, .inl (cI, 4, .inl (upd fs4 k (nI j)))), (s5, .inl (cI, 32, .inl fs5))] H := hP
  have hD : va_D A [(h0, .inr (8, [.int be, .ref s1, .ref ho, .ref ht9, .ref s4, .ref s5])), (ho, .inr (5, f_ho)), (s1, .inl (cI, 4, .inl fs1)), (s4, .inl (cI, 4, .inl (upd fs4 k (nI j)))), (s5, .inl (cI, 32, .inl fs5))] := hD
  refine lv_aload_n hx hb dX8_giveQuill_7 rfl (lv_at hl 0 rfl) ?_
  refine lv_iload_n hx hb dX8_giveQuill_8 rfl (lv_at hl 1 rfl) ?_
  refine lv_iconst (v := 1) hx hb dX8_giveQuill_9 (by decide) ?_
  refine lv_iadd hx hb dX8_giveQuill_10 ?_
  refine lv_topi (fun z2 ez2 => ?_)
  obtain rfl : z2 = nI (k + 1) := ez2.trans (nI_add k 1)
  refine lv_iload_n hx hb dX8_giveQuill_11 rfl (lv_at hl 3 rfl) ?_
  refine lv_iconst (v := 1) hx hb dX8_giveQuill_12 (by decide) ?_
  refine lv_iload_n hx hb dX8_giveQuill_13 rfl (lv_at hl 2 rfl) ?_
  refine lv_ishl hx hb dX8_giveQuill_14 ?_
  refine lv_ior hx hb dX8_giveQuill_15 ?_
  refine lv_topi (fun z3 ez3 => ?_)
  obtain rfl : z3 = nI (tt ||| 2 ^ j) := tw_or (by omega) htt ez3
  refine lv_iload hx hb dX8_giveQuill_16 (lv_at hl 4 rfl) ?_
  refine lv_aload_n hx hb dX8_giveQuill_18 rfl (lv_at hl 0 rfl) ?_
  refine va_get (D := (dC, dI)) (ci := 8) (v := .ref s5) (C := RX8) (T := TX8) (N := 6) hx hb hts hi_X8 hown hK hP 0 rfl rfl 5 (by decide) (hts (.fieldLink RX8 22 "LeftQuills$Sharing" "good" "[I") (wmx 2 rfl)) (fun _ h9 => h9) rfl dX8_giveQuill_19 ?_
  refine lv_iload_n hx hb dX8_giveQuill_22 rfl (lv_at hl 1 rfl) ?_
  refine lv_bipush (v := 8) hx hb dX8_giveQuill_23 (by decide) ?_
  refine lv_imul hx hb dX8_giveQuill_25 ?_
  refine lv_topi (fun z4 ez4 => ?_)
  obtain rfl : z4 = nI (k * 8) := ez4.trans (pk_mul k 8)
  refine lv_iload_n hx hb dX8_giveQuill_26 rfl (lv_at hl 2 rfl) ?_
  refine lv_iadd hx hb dX8_giveQuill_27 ?_
  refine lv_topi (fun z5 ez5 => ?_)
  obtain rfl : z5 = nI ((k * 8) + j) := ez5.trans (nI_add (k * 8) j)
  refine va_iald hx hb hK hP 4 0 rfl rfl (vp_in_nI (n := (k * 8) + j) (N := 32) (by omega) (by decide)) dX8_giveQuill_28 ?_
  refine W.eq (g2 := F0 m 29 ls [.int (fs5 ((k * 8) + j)), .int (nI ss), .int (nI (tt ||| 2 ^ j)), .int (nI (k + 1)), .ref h0]) (congrArg (fun y9 => F0 m 29 ls (.int (fs5 y9) :: [.int (nI ss), .int (nI (tt ||| 2 ^ j)), .int (nI (k + 1)), .ref h0])) ((nI_clamp (n := (k * 8) + j) (by omega)))) ?_
  refine lv_iadd hx hb dX8_giveQuill_29 ?_
  refine lv_topi (fun z6 ez6 => ?_)
  obtain rfl : z6 = nI (ss + gg j k) := tw_add (hT k j (by omega) (by omega)) ez6
  have hPc := hP.sub (ws' := [(h0, .inr (8, [.int be, .ref s1, .ref ho, .ref ht9, .ref s4, .ref s5])), (ho, .inr (5, f_ho)), (s1, .inl (cI, 4, .inl fs1)), (s4, .inl (cI, 4, .inl (upd fs4 k (nI j)))), (s5, .inl (cI, 32, .inl fs5))]) [0, 1, 2, 3, 4] rfl
  have hDc := hD.sub (ws' := [(h0, .inr (8, [.int be, .ref s1, .ref ho, .ref ht9, .ref s4, .ref s5])), (ho, .inr (5, f_ho)), (s1, .inl (cI, 4, .inl fs1)), (s4, .inl (cI, 4, .inl (upd fs4 k (nI j)))), (s5, .inl (cI, 32, .inl fs5))]) [0, 1, 2, 3, 4] (by decide) rfl
  have hFc := va_free (wc := [(h0, .inr (8, [.int be, .ref s1, .ref ho, .ref ht9, .ref s4, .ref s5])), (ho, .inr (5, f_ho)), (s1, .inl (cI, 4, .inl fs1)), (s4, .inl (cI, 4, .inl (upd fs4 k (nI j)))), (s5, .inl (cI, 32, .inl fs5))]) hD hS hA [0, 1, 2, 3, 4] rfl
  refine va_callv (va_runV (As := [.int (nI (k + 1)), .int (nI (tt ||| 2 ^ j)), .int (nI (ss + gg j k))]) (rest := []) ⟨hx, hb, hml, hown, hts⟩ (c_X8_giveFromD_0 l dC dI cI cZ cQ h0 be s1 ho ht9 s4 s5 nq nh f_ho fs1 (upd fs4 k (nI j)) fs5 (k + 1) (tt ||| 2 ^ j) (ss + gg j k) (8 * pw + j) gg H.size e_ho_3 e_ho_4 (by omega) (by omega) (by omega) (by omega) (tw_tt (by omega) htt) (tw_ss (by omega) hss) ((tw_Vx (by omega)).mpr ⟨hvd, hj, hbit⟩) (tw_q4 (by omega) hq4) hG hT hBw) (cwV 3 hts gX8_giveQuill_X8_giveFrom rfl rfl rfl (by decide +kernel) ⟨Nat.le_of_ble_eq_true rfl, Nat.le_of_ble_eq_true rfl⟩) ⟨fun a U g mk q => by obtain ⟨q0, q1, qP, qK, qD⟩ := q; exact ⟨q0, q1, qP, va_K.moved (u := U) (U := U.calling g mk a) (Vm.Alike.refl U.vm) qK, qD⟩, va_recv hK hP (ci := 8) (q0 := 0) rfl rfl, fun U hU hW => ⟨rfl, by rw [hU], by rw [hU]; exact hPc, va_K.moved hW.alike hK, hDc.weaken (fun _ _ _ _ => trivial)⟩⟩ rfl rfl hl.1 rfl (lv_room (Nat.le_of_ble_eq_true rfl)) dX8_giveQuill_30 ⟨Nat.le_of_ble_eq_true rfl, Nat.le_of_ble_eq_true rfl⟩) hS (fun q _ h => hFc q h) hFc (fun u8 t H1 locs ht hvm hw9 hB hz1 hk1 hS => ?_)
  obtain ⟨f10, i11, he12, he13, hP1, hD1⟩ := hB
  rw [ht] at hP1
  obtain ⟨hP, hD⟩ := va_join (wr := []) (w1 := [(h0, .inr (8, [.int i11, .ref s1, .ref ho, .ref ht9, .ref s4, .ref s5])), (ho, .inr (5, f_ho)), (s1, .inl (cI, 4, .inl f10)), (s4, .inl (cI, 4, .inl (upd fs4 k (nI j)))), (s5, .inl (cI, 32, .inl fs5))]) hP hD [0, 1, 2, 3, 4] [] rfl rfl (by decide +kernel) (by decide +kernel) hk1 hFc hP1 hD1
  clear hP1 hD1
  clear hz1 hk1 hPc hDc hFc
  generalize H1 = H at hP hS ht ⊢
  have hP : va_P (dC, dI) vwCl [(h0, .inr (8, [.int i11, .ref s1, .ref ho, .ref ht9, .ref s4, .ref s5])), (ho, .inr (5, f_ho)), (s1, .inl (cI, 4, .inl f10)), (s4, .inl (cI, 4, .inl (upd fs4 k (nI j)))), (s5, .inl (cI, 32, .inl fs5))] H := hP
  have hD : va_D A [(h0, .inr (8, [.int i11, .ref s1, .ref ho, .ref ht9, .ref s4, .ref s5])), (ho, .inr (5, f_ho)), (s1, .inl (cI, 4, .inl f10)), (s4, .inl (cI, 4, .inl (upd fs4 k (nI j)))), (s5, .inl (cI, 32, .inl fs5))] := hD
  try dsimp only at hw9
  have hP9 := hP.sub (ws' := [(h0, .inr (8, [.int i11, .ref s1, .ref ho, .ref ht9, .ref s4, .ref s5])), (ho, .inr (5, f_ho)), (s1, .inl (cI, 4, .inl f10)), (s4, .inl (cI, 4, .inl (upd fs4 k (nI j)))), (s5, .inl (cI, 32, .inl fs5))]) [0, 1, 2, 3, 4] rfl
  have hD9 := hD.sub (ws' := [(h0, .inr (8, [.int i11, .ref s1, .ref ho, .ref ht9, .ref s4, .ref s5])), (ho, .inr (5, f_ho)), (s1, .inl (cI, 4, .inl f10)), (s4, .inl (cI, 4, .inl (upd fs4 k (nI j)))), (s5, .inl (cI, 32, .inl fs5))]) [0, 1, 2, 3, 4] (by decide +kernel) rfl
  exact W.vret hx hb hr (fun t ht hW => ⟨⟨(fun _ => 0), rfl, trivial, ⟨f10, (upd fs4 k (nI j)), i11, he12, (fun i hi => (he13 i (by omega)).trans (pk_un (by omega))), by rw [ht]; exact hP9, hD9⟩⟩, hS.F ht⟩) hS.2.2 dX8_giveQuill_33
set_option maxHeartbeats 4000000 in
set_option maxRecDepth 100000 in
theorem c_X8_giveFromD_1 (l : Launch) (dC : Nat → ClassId) (dI : Nat → Nat → Nat) (cI cZ cQ : ClassId) (h0 : Nat) (be : Int32) (s1 : Nat) (ho : Nat) (ht9 : Nat) (s4 : Nat) (s5 : Nat) (nq : Nat) (nh : Nat) (f_ho : List Value) (fs1 : Nat → Int32) (fs4 : Nat → Int32) (fs5 : Nat → Int32) (k : Nat) (tt : Nat) (ss : Nat) (pw : Nat) (gg : Nat → Nat → Nat) (sz : Nat) (e_ho_3 : f_ho[3]? = some (.int (nI nq))) (e_ho_4 : f_ho[4]? = some (.int (nI nh))) (hnq : nq ≤ 8) (hnh : nh ≤ 4) (hk : k ≤ nh) (hd : 4 ≤ k + 1) (htt : tt = twT k pw) (hss : ss = twS gg k pw) (hvd : twV nq k pw = true) (hq4 : ∀ i, i < k → fs4 i = nI (twD k pw i)) (hG : ∀ j k, gg j k ≤ 999) (hT : ∀ k j, k < nh → j < nq → fs5 (k * 8 + j) = nI (gg j k)) (hBw : twB nq gg nh (pw * 8 ^ (nh - k)) be (twR nh fs1)) : Met l yX8_giveFrom wsX8_giveFrom ({ frames := 4, cells := 0, slots := 0, locals := 109 }) (va_Pc [.ref h0, .int (nI k), .int (nI tt), .int (nI ss)] (fun U => U.heap.size = sz ∧ va_P (dC, dI) vwCl [(h0, .inr (8, [.int be, .ref s1, .ref ho, .ref ht9, .ref s4, .ref s5])), (ho, .inr (5, f_ho)), (s1, .inl (cI, 4, .inl fs1)), (s4, .inl (cI, 4, .inl fs4)), (s5, .inl (cI, 32, .inl fs5))] U.heap ∧ va_K (dC, dI) vwCl (tys0 cI cZ cQ) U ∧ va_D (fun _ => True) [(h0, .inr (8, [.int be, .ref s1, .ref ho, .ref ht9, .ref s4, .ref s5])), (ho, .inr (5, f_ho)), (s1, .inl (cI, 4, .inl fs1)), (s4, .inl (cI, 4, .inl fs4)), (s5, .inl (cI, 32, .inl fs5))])) (va_Qv (fun (u : Nat → Nat) => True) (fun (_ : Nat → Nat) (t : State) => ∃ (gg0 gg1 : Nat → Int32) (ii0 : Int32) , (twB nq gg nh ((pw + 1) * 8 ^ (nh - k)) ii0 (twR nh gg0)) ∧ (∀ i, i < k → gg1 i = fs4 i) ∧ va_P (dC, dI) vwCl [(h0, .inr (8, [.int ii0, .ref s1, .ref ho, .ref ht9, .ref s4, .ref s5])), (ho, .inr (5, f_ho)), (s1, .inl (cI, 4, .inl gg0)), (s4, .inl (cI, 4, .inl gg1)), (s5, .inl (cI, 32, .inl fs5))] t.heap ∧ va_D (va_A [(h0, .inr (8, [.int be, .ref s1, .ref ho, .ref ht9, .ref s4, .ref s5])), (ho, .inr (5, f_ho)), (s1, .inl (cI, 4, .inl fs1)), (s4, .inl (cI, 4, .inl fs4)), (s5, .inl (cI, 32, .inl fs5))] sz) [(h0, .inr (8, [.int ii0, .ref s1, .ref ho, .ref ht9, .ref s4, .ref s5])), (ho, .inr (5, f_ho)), (s1, .inl (cI, 4, .inl gg0)), (s4, .inl (cI, 4, .inl gg1)), (s5, .inl (cI, 32, .inl fs5))]) (va_A [(h0, .inr (8, [.int be, .ref s1, .ref ho, .ref ht9, .ref s4, .ref s5])), (ho, .inr (5, f_ho)), (s1, .inl (cI, 4, .inl fs1)), (s4, .inl (cI, 4, .inl fs4)), (s5, .inl (cI, 32, .inl fs5))] sz)) 0 0 (va_A [(h0, .inr (8, [.int be, .ref s1, .ref ho, .ref ht9, .ref s4, .ref s5])), (ho, .inr (5, f_ho)), (s1, .inl (cI, 4, .inl fs1)), (s4, .inl (cI, 4, .inl fs4)), (s5, .inl (cI, 32, .inl fs5))] sz) := by
  refine Met.ofW (cc := cX8_giveFrom) (maxL := 5) (ret := none) (by decide) rfl ?_
  intro p e s m args below meth c s₁ B hml hv
  obtain ⟨rfl, hsz, hP, hK, hD0⟩ := hv
  have hx := B.exec
  have hb := B.bytes
  have hr := B.returns
  have hts := atoms_spec (ws := wsX8_giveFrom) B.pre
  have hown : s.vm.findClass RX8 = some m.cls := findClass_of_methodNamed B.named
  have hlocks := B.notSynchronized
  have hi_X5 : ∀ w ∈ u_ws RX5 TX5 13, w ∈ wsX8_giveFrom := fun _ h => List.mem_cons_of_mem _ (List.mem_append_right _ (h))
  have hi_X8 : ∀ w ∈ u_ws RX8 TX8 6, w ∈ wsX8_giveFrom := fun _ h => List.mem_cons_of_mem _ (List.mem_append_left _ (List.mem_append_right _ (h)))
  subst hsz
  have hD := hD0.self (sz := s.heap.size)
  generalize hAe : va_A [(h0, .inr (8, [.int be, .ref s1, .ref ho, .ref ht9, .ref s4, .ref s5])), (ho, .inr (5, f_ho)), (s1, .inl (cI, 4, .inl fs1)), (s4, .inl (cI, 4, .inl fs4)), (s5, .inl (cI, 32, .inl fs5))] s.heap.size = A at hD ⊢
  have hA : ∀ q : Nat, s.heap.size ≤ q → A q := fun q h => by rw [← hAe]; exact Or.inr h
  have hS : va_S A s.heap s.heap [] := va_S.rf
  have hl := lv_entry ([.ref h0, .int (nI k), .int (nI tt), .int (nI ss)]) (n := 5) (Nat.le_of_ble_eq_true rfl)
  rw [lg_entry_eq]
  generalize (lg_sl ([.ref h0, .int (nI k), .int (nI tt), .int (nI ss)]) ++ List.replicate (5 - (lg_sl ([.ref h0, .int (nI k), .int (nI tt), .int (nI ss)])).length) Slot.unset).toArray = ls at hl ⊢
  have hl : lv_has ls 5 [(0, .ref h0), (1, .int (nI k)), (2, .int (nI tt)), (3, .int (nI ss))] := hl
  refine lv_iload_n hx hb dX8_giveFrom_0 rfl (lv_at hl 1 rfl) ?_
  refine lv_aload_n hx hb dX8_giveFrom_1 rfl (lv_at hl 0 rfl) ?_
  refine va_get (D := (dC, dI)) (ci := 8) (v := .ref ho) (C := RX8) (T := TX8) (N := 6) hx hb hts hi_X8 hown hK hP 0 rfl rfl 2 (by decide) (hts (.fieldLink RX8 25 "LeftQuills$Sharing" "office" "LLeftQuills$Office;") (wmx 1 rfl)) (fun _ h9 => h9) rfl dX8_giveFrom_2 ?_
  refine va_get (D := (dC, dI)) (ci := 5) (v := .int (nI nh)) (C := RX5) (T := TX5) (N := 13) hx hb hts hi_X5 hown hK hP 1 rfl rfl 4 (by decide) (hts (.fieldLink RX8 33 "LeftQuills$Office" "hands" "I") (wmx 2 rfl)) (fun _ h9 => h9) e_ho_4 dX8_giveFrom_5 ?_
  refine lv_icmp_ge (tgt := 16) hx hb dX8_giveFrom_8 (by decide) (fun c1 => ?_) (fun c1 => ?_)
  ·
    have c1 : nh ≤ k := (nI_leI (a := nh) (b := k) (by omega) (by omega)).mp c1
    refine lv_aload_n hx hb dX8_giveFrom_16 rfl (lv_at hl 0 rfl) ?_
    refine lv_iload_n hx hb dX8_giveFrom_17 rfl (lv_at hl 3 rfl) ?_
    have hPc := hP.sub (ws' := [(h0, .inr (8, [.int be, .ref s1, .ref ho, .ref ht9, .ref s4, .ref s5])), (s1, .inl (cI, 4, .inl fs1)), (s4, .inl (cI, 4, .inl fs4))]) [0, 2, 3] rfl
    have hDc := hD.sub (ws' := [(h0, .inr (8, [.int be, .ref s1, .ref ho, .ref ht9, .ref s4, .ref s5])), (s1, .inl (cI, 4, .inl fs1)), (s4, .inl (cI, 4, .inl fs4))]) [0, 2, 3] (by decide) rfl
    have hFc := va_free (wc := [(h0, .inr (8, [.int be, .ref s1, .ref ho, .ref ht9, .ref s4, .ref s5])), (s1, .inl (cI, 4, .inl fs1)), (s4, .inl (cI, 4, .inl fs4))]) hD hS hA [0, 2, 3] rfl
    refine va_callv (va_runV (As := [.int (nI ss)]) (rest := []) ⟨hx, hb, hml, hown, hts⟩ (c_X8_keepD l dC dI cI cZ cQ h0 be s1 ho ht9 s4 s5 fs1 fs4 ss s.heap.size (by rw [hss]; exact tw_S4 hG (by omega))) (cwV 1 hts gX8_giveFrom_X8_keepIfBetter rfl rfl rfl (by decide +kernel) ⟨Nat.le_of_ble_eq_true rfl, Nat.le_of_ble_eq_true rfl⟩) ⟨fun a U g mk q => by obtain ⟨q0, q1, qP, qK, qD⟩ := q; exact ⟨q0, q1, qP, va_K.moved (u := U) (U := U.calling g mk a) (Vm.Alike.refl U.vm) qK, qD⟩, va_recv hK hP (ci := 8) (q0 := 0) rfl rfl, fun U hU hW => ⟨rfl, by rw [hU], by rw [hU]; exact hPc, va_K.moved hW.alike hK, hDc.weaken (fun _ _ _ _ => trivial)⟩⟩ rfl rfl hl.1 rfl (lv_room (Nat.le_of_ble_eq_true rfl)) dX8_giveFrom_18 ⟨Nat.le_of_ble_eq_true rfl, Nat.le_of_ble_eq_true rfl⟩) hS (fun q _ h => hFc q h) hFc (fun u3 t H1 locs ht hvm hw4 hB hz1 hk1 hS => ?_)
    obtain ⟨f5, i6, he7, he8, hP1, hD1⟩ := hB
    rw [ht] at hP1
    obtain ⟨hP, hD⟩ := va_join (wr := [(ho, .inr (5, f_ho)), (s5, .inl (cI, 32, .inl fs5))]) (w1 := [(h0, .inr (8, [.int i6, .ref s1, .ref ho, .ref ht9, .ref s4, .ref s5])), (s1, .inl (cI, 4, .inl f5)), (s4, .inl (cI, 4, .inl fs4))]) hP hD [0, 2, 3] [1, 4] rfl rfl (by decide +kernel) (by decide +kernel) hk1 hFc hP1 hD1
    clear hP1 hD1
    clear hz1 hk1 hPc hDc hFc
    generalize H1 = H at hP hS ht ⊢
    have hP : va_P (dC, dI) vwCl [(ho, .inr (5, f_ho)), (s5, .inl (cI, 32, .inl fs5)), (h0, .inr (8, [.int i6, .ref s1, .ref ho, .ref ht9, .ref s4, .ref s5])), (s1, .inl (cI, 4, .inl f5)), (s4, .inl (cI, 4, .inl fs4))] H := hP
    have hD : va_D A [(ho, .inr (5, f_ho)), (s5, .inl (cI, 32, .inl fs5)), (h0, .inr (8, [.int i6, .ref s1, .ref ho, .ref ht9, .ref s4, .ref s5])), (s1, .inl (cI, 4, .inl f5)), (s4, .inl (cI, 4, .inl fs4))] := hD
    try dsimp only at hw4
    have hP9 := hP.sub (ws' := [(h0, .inr (8, [.int i6, .ref s1, .ref ho, .ref ht9, .ref s4, .ref s5])), (ho, .inr (5, f_ho)), (s1, .inl (cI, 4, .inl f5)), (s4, .inl (cI, 4, .inl fs4)), (s5, .inl (cI, 32, .inl fs5))]) [2, 0, 3, 4, 1] rfl
    have hD9 := hD.sub (ws' := [(h0, .inr (8, [.int i6, .ref s1, .ref ho, .ref ht9, .ref s4, .ref s5])), (ho, .inr (5, f_ho)), (s1, .inl (cI, 4, .inl f5)), (s4, .inl (cI, 4, .inl fs4)), (s5, .inl (cI, 32, .inl fs5))]) [2, 0, 3, 4, 1] (by decide +kernel) rfl
    exact W.vret hx hb hr (fun t ht hW => ⟨⟨(fun _ => 0), rfl, trivial, ⟨f5, fs4, i6, (tw_keep hG (by omega) (show k = nh by omega) hBw hvd hss hq4 he7 he8), (fun i _ => rfl), by rw [ht]; exact hP9, hD9⟩⟩, hS.F ht⟩) hS.2.2 dX8_giveFrom_21
  ·
    have c1 : ¬ nh ≤ k := fun h => c1 ((nI_leI (a := nh) (b := k) (by omega) (by omega)).mpr h)
    refine lv_iload_n hx hb dX8_giveFrom_11 rfl (lv_at hl 1 rfl) ?_
    refine lv_iconst (v := 4) hx hb dX8_giveFrom_12 (by decide) ?_
    refine lv_icmp_lt (tgt := 22) hx hb dX8_giveFrom_13 (by decide) (fun c9 => ?_) (fun c9 => ?_)
    ·
      have c9 : k < 4 := (nI_ltI (a := k) (b := 4) (by omega) (by omega)).mp c9
      refine lv_iconst (v := 0) hx hb dX8_giveFrom_22 (by decide) ?_
      refine lv_istore (lv' := [(4, .int 0), (0, .ref h0), (1, .int (nI k)), (2, .int (nI tt)), (3, .int (nI ss))]) hx hb dX8_giveFrom_23 hl (by decide) rfl (fun ls hl => ?_)
      refine (fun (K : ∀ (d25 : Nat) (k25 : Nat) (f25_s1 : Nat → Int32) (f25_s4 : Nat → Int32) (i25_h0_0 : Int32) (H : Heap) (locs : List Loc) (ls : Array Slot), k25 + d25 = nq → twB nq gg nh ((8 * pw + k25) * 8 ^ (nh - (k + 1))) i25_h0_0 (twR nh f25_s1) → (∀ i, i < k → f25_s4 i = fs4 i) → va_P (dC, dI) vwCl [(h0, .inr (8, [.int i25_h0_0, .ref s1, .ref ho, .ref ht9, .ref s4, .ref s5])), (ho, .inr (5, f_ho)), (s1, .inl (cI, 4, .inl f25_s1)), (s4, .inl (cI, 4, .inl f25_s4)), (s5, .inl (cI, 32, .inl fs5))] H → va_D A [(h0, .inr (8, [.int i25_h0_0, .ref s1, .ref ho, .ref ht9, .ref s4, .ref s5])), (ho, .inr (5, f_ho)), (s1, .inl (cI, 4, .inl f25_s1)), (s4, .inl (cI, 4, .inl f25_s4)), (s5, .inl (cI, 32, .inl fs5))] → va_S A s.heap H locs → lv_has ls 5 [(4, .int (nI k25)), (0, .ref h0), (1, .int (nI k)), (2, .int (nI tt)), (3, .int (nI ss))] → W p l e _ s m _ below meth c H locs _ _ _ (F0 m 25 ls [])) => K nq 0 fs1 fs4 be _ _ _ (by omega) (tw_st (show k < nh by omega) hBw) (fun i _ => rfl) hP hD hS (lv_sub hl [0, 1, 2, 3, 4] rfl)) ?_
      intro d25
      induction d25 with
      | zero =>
        intro k25 f25_s1 f25_s4 i25_h0_0 H locs ls hk25 hv25_0 hv25_1 hP hD hS hl
        refine lv_iload hx hb dX8_giveFrom_25 (lv_at hl 0 rfl) ?_
        refine lv_aload_n hx hb dX8_giveFrom_27 rfl (lv_at hl 1 rfl) ?_
        refine va_get (D := (dC, dI)) (ci := 8) (v := .ref ho) (C := RX8) (T := TX8) (N := 6) hx hb hts hi_X8 hown hK hP 0 rfl rfl 2 (by decide) (hts (.fieldLink RX8 25 "LeftQuills$Sharing" "office" "LLeftQuills$Office;") (wmx 1 rfl)) (fun _ h9 => h9) rfl dX8_giveFrom_28 ?_
        refine va_get (D := (dC, dI)) (ci := 5) (v := .int (nI nq)) (C := RX5) (T := TX5) (N := 13) hx hb hts hi_X5 hown hK hP 1 rfl rfl 3 (by decide) (hts (.fieldLink RX8 38 "LeftQuills$Office" "quills" "I") (wmx 3 rfl)) (fun _ h9 => h9) e_ho_3 dX8_giveFrom_31 ?_
        refine lv_icmp_ge (tgt := 61) hx hb dX8_giveFrom_34 (by decide) (fun c10 => ?_) (fun c10 => ?_)
        ·
          have c10 : nq ≤ k25 := (nI_leI (a := nq) (b := k25) (by omega) (by omega)).mp c10
          have hP9 := hP.sub (ws' := [(h0, .inr (8, [.int i25_h0_0, .ref s1, .ref ho, .ref ht9, .ref s4, .ref s5])), (ho, .inr (5, f_ho)), (s1, .inl (cI, 4, .inl f25_s1)), (s4, .inl (cI, 4, .inl f25_s4)), (s5, .inl (cI, 32, .inl fs5))]) [0, 1, 2, 3, 4] rfl
          have hD9 := hD.sub (ws' := [(h0, .inr (8, [.int i25_h0_0, .ref s1, .ref ho, .ref ht9, .ref s4, .ref s5])), (ho, .inr (5, f_ho)), (s1, .inl (cI, 4, .inl f25_s1)), (s4, .inl (cI, 4, .inl f25_s4)), (s5, .inl (cI, 32, .inl fs5))]) [0, 1, 2, 3, 4] (by decide +kernel) rfl
          exact W.vret hx hb hr (fun t ht hW => ⟨⟨(fun _ => 0), rfl, trivial, ⟨f25_s1, f25_s4, i25_h0_0, (tw_end (show k < nh by omega) (show k25 = nq by omega) hnq hv25_0), hv25_1, by rw [ht]; exact hP9, hD9⟩⟩, hS.F ht⟩) hS.2.2 dX8_giveFrom_61
        ·
          have c10 : ¬ nq ≤ k25 := fun h => c10 ((nI_leI (a := nq) (b := k25) (by omega) (by omega)).mpr h)
          omega
      | succ d25 ih25 =>
        intro k25 f25_s1 f25_s4 i25_h0_0 H locs ls hk25 hv25_0 hv25_1 hP hD hS hl
        refine lv_iload hx hb dX8_giveFrom_25 (lv_at hl 0 rfl) ?_
        refine lv_aload_n hx hb dX8_giveFrom_27 rfl (lv_at hl 1 rfl) ?_
        refine va_get (D := (dC, dI)) (ci := 8) (v := .ref ho) (C := RX8) (T := TX8) (N := 6) hx hb hts hi_X8 hown hK hP 0 rfl rfl 2 (by decide) (hts (.fieldLink RX8 25 "LeftQuills$Sharing" "office" "LLeftQuills$Office;") (wmx 1 rfl)) (fun _ h9 => h9) rfl dX8_giveFrom_28 ?_
        refine va_get (D := (dC, dI)) (ci := 5) (v := .int (nI nq)) (C := RX5) (T := TX5) (N := 13) hx hb hts hi_X5 hown hK hP 1 rfl rfl 3 (by decide) (hts (.fieldLink RX8 38 "LeftQuills$Office" "quills" "I") (wmx 3 rfl)) (fun _ h9 => h9) e_ho_3 dX8_giveFrom_31 ?_
        refine lv_icmp_ge (tgt := 61) hx hb dX8_giveFrom_34 (by decide) (fun c11 => ?_) (fun c11 => ?_)
        ·
          have c11 : nq ≤ k25 := (nI_leI (a := nq) (b := k25) (by omega) (by omega)).mp c11
          omega
        ·
          have c11 : ¬ nq ≤ k25 := fun h => c11 ((nI_leI (a := nq) (b := k25) (by omega) (by omega)).mpr h)
          refine lv_iload_n hx hb dX8_giveFrom_37 rfl (lv_at hl 3 rfl) ?_
          refine lv_iconst (v := 1) hx hb dX8_giveFrom_38 (by decide) ?_
          refine lv_iload hx hb dX8_giveFrom_39 (lv_at hl 0 rfl) ?_
          refine lv_ishl hx hb dX8_giveFrom_41 ?_
          refine lv_iand hx hb dX8_giveFrom_42 ?_
          refine lv_if_ne (tgt := 55) hx hb dX8_giveFrom_43 (by decide) (fun c12 => ?_) (fun c12 => ?_)
          ·
            refine lv_iinc (v := nI (k25 + 1)) (lv' := [(4, .int (nI (k25 + 1))), (0, .ref h0), (1, .int (nI k)), (2, .int (nI tt)), (3, .int (nI ss))]) hx hb dX8_giveFrom_55 hl (k := 0) rfl ((rfl : nI k25 + Int32.ofInt 1 = nI k25 + 1).trans (nI_add k25 1)) (by decide) rfl (fun ls hl => ?_)
            refine lv_goto (tgt := 25) hx hb dX8_giveFrom_58 (by decide) ?_
            exact ih25 (k25 + 1) f25_s1 f25_s4 i25_h0_0 _ _ _ (by omega) (tw_tk (show k < nh by omega) (by omega) htt c12 hv25_0) hv25_1 hP hD hS (lv_sub hl [0, 1, 2, 3, 4] rfl)
          ·
            refine lv_aload_n hx hb dX8_giveFrom_46 rfl (lv_at hl 1 rfl) ?_
            refine lv_iload_n hx hb dX8_giveFrom_47 rfl (lv_at hl 2 rfl) ?_
            refine lv_iload hx hb dX8_giveFrom_48 (lv_at hl 0 rfl) ?_
            refine lv_iload_n hx hb dX8_giveFrom_50 rfl (lv_at hl 3 rfl) ?_
            refine lv_iload_n hx hb dX8_giveFrom_51 rfl (lv_at hl 4 rfl) ?_
            have hPc := hP.sub (ws' := [(h0, .inr (8, [.int i25_h0_0, .ref s1, .ref ho, .ref ht9, .ref s4, .ref s5])), (ho, .inr (5, f_ho)), (s1, .inl (cI, 4, .inl f25_s1)), (s4, .inl (cI, 4, .inl f25_s4)), (s5, .inl (cI, 32, .inl fs5))]) [0, 1, 2, 3, 4] rfl
            have hDc := hD.sub (ws' := [(h0, .inr (8, [.int i25_h0_0, .ref s1, .ref ho, .ref ht9, .ref s4, .ref s5])), (ho, .inr (5, f_ho)), (s1, .inl (cI, 4, .inl f25_s1)), (s4, .inl (cI, 4, .inl f25_s4)), (s5, .inl (cI, 32, .inl fs5))]) [0, 1, 2, 3, 4] (by decide) rfl
            have hFc := va_free (wc := [(h0, .inr (8, [.int i25_h0_0, .ref s1, .ref ho, .ref ht9, .ref s4, .ref s5])), (ho, .inr (5, f_ho)), (s1, .inl (cI, 4, .inl f25_s1)), (s4, .inl (cI, 4, .inl f25_s4)), (s5, .inl (cI, 32, .inl fs5))]) hD hS hA [0, 1, 2, 3, 4] rfl
            refine va_callv (va_runV (As := [.int (nI k), .int (nI k25), .int (nI tt), .int (nI ss)]) (rest := []) ⟨hx, hb, hml, hown, hts⟩ (c_X8_giveQuillD_1 l dC dI cI cZ cQ h0 i25_h0_0 s1 ho ht9 s4 s5 nq nh f_ho f25_s1 f25_s4 fs5 k k25 tt ss pw gg H.size e_ho_3 e_ho_4 (by omega) (by omega) (by omega) (by omega) (by omega) htt hss hvd (fun i hi => (hv25_1 i hi).trans (hq4 i hi)) hG hT (tw_fr (by omega) htt c12) hv25_0) (cwV 4 hts gX8_giveFrom_X8_giveQuill rfl rfl rfl (by decide +kernel) ⟨Nat.le_of_ble_eq_true rfl, Nat.le_of_ble_eq_true rfl⟩) ⟨fun a U g mk q => by obtain ⟨q0, q1, qP, qK, qD⟩ := q; exact ⟨q0, q1, qP, va_K.moved (u := U) (U := U.calling g mk a) (Vm.Alike.refl U.vm) qK, qD⟩, va_recv hK hP (ci := 8) (q0 := 0) rfl rfl, fun U hU hW => ⟨rfl, by rw [hU], by rw [hU]; exact hPc, va_K.moved hW.alike hK, hDc.weaken (fun _ _ _ _ => trivial)⟩⟩ rfl rfl hl.1 rfl (lv_room (Nat.le_of_ble_eq_true rfl)) dX8_giveFrom_52 ⟨Nat.le_of_ble_eq_true rfl, Nat.le_of_ble_eq_true rfl⟩) hS (fun q _ h => hFc q h) hFc (fun u14 t H1 locs ht hvm hw15 hB hz1 hk1 hS => ?_)
            obtain ⟨f16, f17, i18, he19, he20, hP1, hD1⟩ := hB
            rw [ht] at hP1
            obtain ⟨hP, hD⟩ := va_join (wr := []) (w1 := [(h0, .inr (8, [.int i18, .ref s1, .ref ho, .ref ht9, .ref s4, .ref s5])), (ho, .inr (5, f_ho)), (s1, .inl (cI, 4, .inl f16)), (s4, .inl (cI, 4, .inl f17)), (s5, .inl (cI, 32, .inl fs5))]) hP hD [0, 1, 2, 3, 4] [] rfl rfl (by decide +kernel) (by decide +kernel) hk1 hFc hP1 hD1
            clear hP1 hD1
            clear hz1 hk1 hPc hDc hFc
            generalize H1 = H at hP hS ht ⊢
            have hP : va_P (dC, dI) vwCl [(h0, .inr (8, [.int i18, .ref s1, .ref ho, .ref ht9, .ref s4, .ref s5])), (ho, .inr (5, f_ho)), (s1, .inl (cI, 4, .inl f16)), (s4, .inl (cI, 4, .inl f17)), (s5, .inl (cI, 32, .inl fs5))] H := hP
            have hD : va_D A [(h0, .inr (8, [.int i18, .ref s1, .ref ho, .ref ht9, .ref s4, .ref s5])), (ho, .inr (5, f_ho)), (s1, .inl (cI, 4, .inl f16)), (s4, .inl (cI, 4, .inl f17)), (s5, .inl (cI, 32, .inl fs5))] := hD
            try dsimp only at hw15
            refine lv_iinc (v := nI (k25 + 1)) (lv' := [(4, .int (nI (k25 + 1))), (0, .ref h0), (1, .int (nI k)), (2, .int (nI tt)), (3, .int (nI ss))]) hx hb dX8_giveFrom_55 hl (k := 0) rfl ((rfl : nI k25 + Int32.ofInt 1 = nI k25 + 1).trans (nI_add k25 1)) (by decide) rfl (fun ls hl => ?_)
            refine lv_goto (tgt := 25) hx hb dX8_giveFrom_58 (by decide) ?_
            exact ih25 (k25 + 1) f16 f17 i18 _ _ _ (by omega) (tw_j1 he19) (fun i hi => (he20 i hi).trans (hv25_1 i hi)) hP hD hS (lv_sub hl [0, 1, 2, 3, 4] rfl)
    ·
      have c9 : ¬ k < 4 := fun h => c9 ((nI_ltI (a := k) (b := 4) (by omega) (by omega)).mpr h)
      omega
set_option maxHeartbeats 4000000 in
set_option maxRecDepth 100000 in
theorem c_X8_giveQuillD_2 (l : Launch) (dC : Nat → ClassId) (dI : Nat → Nat → Nat) (cI cZ cQ : ClassId) (h0 : Nat) (be : Int32) (s1 : Nat) (ho : Nat) (ht9 : Nat) (s4 : Nat) (s5 : Nat) (nq : Nat) (nh : Nat) (f_ho : List Value) (fs1 : Nat → Int32) (fs4 : Nat → Int32) (fs5 : Nat → Int32) (k : Nat) (j : Nat) (tt : Nat) (ss : Nat) (pw : Nat) (gg : Nat → Nat → Nat) (sz : Nat) (e_ho_3 : f_ho[3]? = some (.int (nI nq))) (e_ho_4 : f_ho[4]? = some (.int (nI nh))) (hnq : nq ≤ 8) (hnh : nh ≤ 4) (hj : j < nq) (hk : k < nh) (hd : 4 ≤ k + 2) (htt : tt = twT k pw) (hss : ss = twS gg k pw) (hvd : twV nq k pw = true) (hq4 : ∀ i, i < k → fs4 i = nI (twD k pw i)) (hG : ∀ j k, gg j k ≤ 999) (hT : ∀ k j, k < nh → j < nq → fs5 (k * 8 + j) = nI (gg j k)) (hbit : (twT k pw).testBit j = false) (hBw : twB nq gg nh ((8 * pw + j) * 8 ^ (nh - (k + 1))) be (twR nh fs1)) : Met l yX8_giveQuill wsX8_giveQuill ({ frames := 5, cells := 0, slots := 0, locals := 133 }) (va_Pc [.ref h0, .int (nI k), .int (nI j), .int (nI tt), .int (nI ss)] (fun U => U.heap.size = sz ∧ va_P (dC, dI) vwCl [(h0, .inr (8, [.int be, .ref s1, .ref ho, .ref ht9, .ref s4, .ref s5])), (ho, .inr (5, f_ho)), (s1, .inl (cI, 4, .inl fs1)), (s4, .inl (cI, 4, .inl fs4)), (s5, .inl (cI, 32, .inl fs5))] U.heap ∧ va_K (dC, dI) vwCl (tys0 cI cZ cQ) U ∧ va_D (fun _ => True) [(h0, .inr (8, [.int be, .ref s1, .ref ho, .ref ht9, .ref s4, .ref s5])), (ho, .inr (5, f_ho)), (s1, .inl (cI, 4, .inl fs1)), (s4, .inl (cI, 4, .inl fs4)), (s5, .inl (cI, 32, .inl fs5))])) (va_Qv (fun (u : Nat → Nat) => True) (fun (_ : Nat → Nat) (t : State) => ∃ (gg0 gg1 : Nat → Int32) (ii0 : Int32) , (twB nq gg nh ((8 * pw + j + 1) * 8 ^ (nh - (k + 1))) ii0 (twR nh gg0)) ∧ (∀ i, i < k → gg1 i = fs4 i) ∧ va_P (dC, dI) vwCl [(h0, .inr (8, [.int ii0, .ref s1, .ref ho, .ref ht9, .ref s4, .ref s5])), (ho, .inr (5, f_ho)), (s1, .inl (cI, 4, .inl gg0)), (s4, .inl (cI, 4, .inl gg1)), (s5, .inl (cI, 32, .inl fs5))] t.heap ∧ va_D (va_A [(h0, .inr (8, [.int be, .ref s1, .ref ho, .ref ht9, .ref s4, .ref s5])), (ho, .inr (5, f_ho)), (s1, .inl (cI, 4, .inl fs1)), (s4, .inl (cI, 4, .inl fs4)), (s5, .inl (cI, 32, .inl fs5))] sz) [(h0, .inr (8, [.int ii0, .ref s1, .ref ho, .ref ht9, .ref s4, .ref s5])), (ho, .inr (5, f_ho)), (s1, .inl (cI, 4, .inl gg0)), (s4, .inl (cI, 4, .inl gg1)), (s5, .inl (cI, 32, .inl fs5))]) (va_A [(h0, .inr (8, [.int be, .ref s1, .ref ho, .ref ht9, .ref s4, .ref s5])), (ho, .inr (5, f_ho)), (s1, .inl (cI, 4, .inl fs1)), (s4, .inl (cI, 4, .inl fs4)), (s5, .inl (cI, 32, .inl fs5))] sz)) 0 0 (va_A [(h0, .inr (8, [.int be, .ref s1, .ref ho, .ref ht9, .ref s4, .ref s5])), (ho, .inr (5, f_ho)), (s1, .inl (cI, 4, .inl fs1)), (s4, .inl (cI, 4, .inl fs4)), (s5, .inl (cI, 32, .inl fs5))] sz) := by
  refine Met.ofW (cc := cX8_giveQuill) (maxL := 5) (ret := none) (by decide) rfl ?_
  intro p e s m args below meth c s₁ B hml hv
  obtain ⟨rfl, hsz, hP, hK, hD0⟩ := hv
  have hx := B.exec
  have hb := B.bytes
  have hr := B.returns
  have hts := atoms_spec (ws := wsX8_giveQuill) B.pre
  have hown : s.vm.findClass RX8 = some m.cls := findClass_of_methodNamed B.named
  have hlocks := B.notSynchronized
  have hi_X8 : ∀ w ∈ u_ws RX8 TX8 6, w ∈ wsX8_giveQuill := fun _ h => List.mem_cons_of_mem _ (List.mem_append_left _ (List.mem_append_right _ (h)))
  subst hsz
  have hD := hD0.self (sz := s.heap.size)
  generalize hAe : va_A [(h0, .inr (8, [.int be, .ref s1, .ref ho, .ref ht9, .ref s4, .ref s5])), (ho, .inr (5, f_ho)), (s1, .inl (cI, 4, .inl fs1)), (s4, .inl (cI, 4, .inl fs4)), (s5, .inl (cI, 32, .inl fs5))] s.heap.size = A at hD ⊢
  have hA : ∀ q : Nat, s.heap.size ≤ q → A q := fun q h => by rw [← hAe]; exact Or.inr h
  have hS : va_S A s.heap s.heap [] := va_S.rf
  have hl := lv_entry ([.ref h0, .int (nI k), .int (nI j), .int (nI tt), .int (nI ss)]) (n := 5) (Nat.le_of_ble_eq_true rfl)
  rw [lg_entry_eq]
  generalize (lg_sl ([.ref h0, .int (nI k), .int (nI j), .int (nI tt), .int (nI ss)]) ++ List.replicate (5 - (lg_sl ([.ref h0, .int (nI k), .int (nI j), .int (nI tt), .int (nI ss)])).length) Slot.unset).toArray = ls at hl ⊢
  have hl : lv_has ls 5 [(0, .ref h0), (1, .int (nI k)), (2, .int (nI j)), (3, .int (nI tt)), (4, .int (nI ss))] := hl
  refine lv_aload_n hx hb dX8_giveQuill_0 rfl (lv_at hl 0 rfl) ?_
  refine va_get (D := (dC, dI)) (ci := 8) (v := .ref s4) (C := RX8) (T := TX8) (N := 6) hx hb hts hi_X8 hown hK hP 0 rfl rfl 4 (by decide) (hts (.fieldLink RX8 19 "LeftQuills$Sharing" "quillOf" "[I") (wmx 1 rfl)) (fun _ h9 => h9) rfl dX8_giveQuill_1 ?_
  refine lv_iload_n hx hb dX8_giveQuill_4 rfl (lv_at hl 1 rfl) ?_
  refine lv_iload_n hx hb dX8_giveQuill_5 rfl (lv_at hl 2 rfl) ?_
  refine va_iast hx hb hK hP hD hS 3 0 rfl rfl (vp_in_nI (n := k) (N := 4) (by omega) (by decide)) dX8_giveQuill_6 (fun H locs hP hD hS => ?_)
  have hcl := (nI_clamp (n := k) (by omega))
  rw [hcl] at hP hD
  clear hcl
  have hP : va_P (dC, dI) vwCl [(h0, .inr (8, [.int be, .ref s1, .ref ho, .ref ht9, .ref s4, .ref s5])), (ho, .inr (5, f_ho)), (s1, .inl (cI, 4, .inl fs1)), (s4, .inl (cI, 4, .inl (upd fs4 k (nI j)))), (s5, .inl (cI, 32, .inl fs5))] H := hP
  have hD : va_D A [(h0, .inr (8, [.int be, .ref s1, .ref ho, .ref ht9, .ref s4, .ref s5])), (ho, .inr (5, f_ho)), (s1, .inl (cI, 4, .inl fs1)), (s4, .inl (cI, 4, .inl (upd fs4 k (nI j)))), (s5, .inl (cI, 32, .inl fs5))] := hD
  refine lv_aload_n hx hb dX8_giveQuill_7 rfl (lv_at hl 0 rfl) ?_
  refine lv_iload_n hx hb dX8_giveQuill_8 rfl (lv_at hl 1 rfl) ?_
  refine lv_iconst (v := 1) hx hb dX8_giveQuill_9 (by decide) ?_
  refine lv_iadd hx hb dX8_giveQuill_10 ?_
  refine lv_topi (fun z2 ez2 => ?_)
  obtain rfl : z2 = nI (k + 1) := ez2.trans (nI_add k 1)
  refine lv_iload_n hx hb dX8_giveQuill_11 rfl (lv_at hl 3 rfl) ?_
  refine lv_iconst (v := 1) hx hb dX8_giveQuill_12 (by decide) ?_
  refine lv_iload_n hx hb dX8_giveQuill_13 rfl (lv_at hl 2 rfl) ?_
  refine lv_ishl hx hb dX8_giveQuill_14 ?_
  refine lv_ior hx hb dX8_giveQuill_15 ?_
  refine lv_topi (fun z3 ez3 => ?_)
  obtain rfl : z3 = nI (tt ||| 2 ^ j) := tw_or (by omega) htt ez3
  refine lv_iload hx hb dX8_giveQuill_16 (lv_at hl 4 rfl) ?_
  refine lv_aload_n hx hb dX8_giveQuill_18 rfl (lv_at hl 0 rfl) ?_
  refine va_get (D := (dC, dI)) (ci := 8) (v := .ref s5) (C := RX8) (T := TX8) (N := 6) hx hb hts hi_X8 hown hK hP 0 rfl rfl 5 (by decide) (hts (.fieldLink RX8 22 "LeftQuills$Sharing" "good" "[I") (wmx 2 rfl)) (fun _ h9 => h9) rfl dX8_giveQuill_19 ?_
  refine lv_iload_n hx hb dX8_giveQuill_22 rfl (lv_at hl 1 rfl) ?_
  refine lv_bipush (v := 8) hx hb dX8_giveQuill_23 (by decide) ?_
  refine lv_imul hx hb dX8_giveQuill_25 ?_
  refine lv_topi (fun z4 ez4 => ?_)
  obtain rfl : z4 = nI (k * 8) := ez4.trans (pk_mul k 8)
  refine lv_iload_n hx hb dX8_giveQuill_26 rfl (lv_at hl 2 rfl) ?_
  refine lv_iadd hx hb dX8_giveQuill_27 ?_
  refine lv_topi (fun z5 ez5 => ?_)
  obtain rfl : z5 = nI ((k * 8) + j) := ez5.trans (nI_add (k * 8) j)
  refine va_iald hx hb hK hP 4 0 rfl rfl (vp_in_nI (n := (k * 8) + j) (N := 32) (by omega) (by decide)) dX8_giveQuill_28 ?_
  refine W.eq (g2 := F0 m 29 ls [.int (fs5 ((k * 8) + j)), .int (nI ss), .int (nI (tt ||| 2 ^ j)), .int (nI (k + 1)), .ref h0]) (congrArg (fun y9 => F0 m 29 ls (.int (fs5 y9) :: [.int (nI ss), .int (nI (tt ||| 2 ^ j)), .int (nI (k + 1)), .ref h0])) ((nI_clamp (n := (k * 8) + j) (by omega)))) ?_
  refine lv_iadd hx hb dX8_giveQuill_29 ?_
  refine lv_topi (fun z6 ez6 => ?_)
  obtain rfl : z6 = nI (ss + gg j k) := tw_add (hT k j (by omega) (by omega)) ez6
  have hPc := hP.sub (ws' := [(h0, .inr (8, [.int be, .ref s1, .ref ho, .ref ht9, .ref s4, .ref s5])), (ho, .inr (5, f_ho)), (s1, .inl (cI, 4, .inl fs1)), (s4, .inl (cI, 4, .inl (upd fs4 k (nI j)))), (s5, .inl (cI, 32, .inl fs5))]) [0, 1, 2, 3, 4] rfl
  have hDc := hD.sub (ws' := [(h0, .inr (8, [.int be, .ref s1, .ref ho, .ref ht9, .ref s4, .ref s5])), (ho, .inr (5, f_ho)), (s1, .inl (cI, 4, .inl fs1)), (s4, .inl (cI, 4, .inl (upd fs4 k (nI j)))), (s5, .inl (cI, 32, .inl fs5))]) [0, 1, 2, 3, 4] (by decide) rfl
  have hFc := va_free (wc := [(h0, .inr (8, [.int be, .ref s1, .ref ho, .ref ht9, .ref s4, .ref s5])), (ho, .inr (5, f_ho)), (s1, .inl (cI, 4, .inl fs1)), (s4, .inl (cI, 4, .inl (upd fs4 k (nI j)))), (s5, .inl (cI, 32, .inl fs5))]) hD hS hA [0, 1, 2, 3, 4] rfl
  refine va_callv (va_runV (As := [.int (nI (k + 1)), .int (nI (tt ||| 2 ^ j)), .int (nI (ss + gg j k))]) (rest := []) ⟨hx, hb, hml, hown, hts⟩ (c_X8_giveFromD_1 l dC dI cI cZ cQ h0 be s1 ho ht9 s4 s5 nq nh f_ho fs1 (upd fs4 k (nI j)) fs5 (k + 1) (tt ||| 2 ^ j) (ss + gg j k) (8 * pw + j) gg H.size e_ho_3 e_ho_4 (by omega) (by omega) (by omega) (by omega) (tw_tt (by omega) htt) (tw_ss (by omega) hss) ((tw_Vx (by omega)).mpr ⟨hvd, hj, hbit⟩) (tw_q4 (by omega) hq4) hG hT hBw) (cwV 3 hts gX8_giveQuill_X8_giveFrom rfl rfl rfl (by decide +kernel) ⟨Nat.le_of_ble_eq_true rfl, Nat.le_of_ble_eq_true rfl⟩) ⟨fun a U g mk q => by obtain ⟨q0, q1, qP, qK, qD⟩ := q; exact ⟨q0, q1, qP, va_K.moved (u := U) (U := U.calling g mk a) (Vm.Alike.refl U.vm) qK, qD⟩, va_recv hK hP (ci := 8) (q0 := 0) rfl rfl, fun U hU hW => ⟨rfl, by rw [hU], by rw [hU]; exact hPc, va_K.moved hW.alike hK, hDc.weaken (fun _ _ _ _ => trivial)⟩⟩ rfl rfl hl.1 rfl (lv_room (Nat.le_of_ble_eq_true rfl)) dX8_giveQuill_30 ⟨Nat.le_of_ble_eq_true rfl, Nat.le_of_ble_eq_true rfl⟩) hS (fun q _ h => hFc q h) hFc (fun u8 t H1 locs ht hvm hw9 hB hz1 hk1 hS => ?_)
  obtain ⟨f10, f11, i12, he13, he14, hP1, hD1⟩ := hB
  rw [ht] at hP1
  obtain ⟨hP, hD⟩ := va_join (wr := []) (w1 := [(h0, .inr (8, [.int i12, .ref s1, .ref ho, .ref ht9, .ref s4, .ref s5])), (ho, .inr (5, f_ho)), (s1, .inl (cI, 4, .inl f10)), (s4, .inl (cI, 4, .inl f11)), (s5, .inl (cI, 32, .inl fs5))]) hP hD [0, 1, 2, 3, 4] [] rfl rfl (by decide +kernel) (by decide +kernel) hk1 hFc hP1 hD1
  clear hP1 hD1
  clear hz1 hk1 hPc hDc hFc
  generalize H1 = H at hP hS ht ⊢
  have hP : va_P (dC, dI) vwCl [(h0, .inr (8, [.int i12, .ref s1, .ref ho, .ref ht9, .ref s4, .ref s5])), (ho, .inr (5, f_ho)), (s1, .inl (cI, 4, .inl f10)), (s4, .inl (cI, 4, .inl f11)), (s5, .inl (cI, 32, .inl fs5))] H := hP
  have hD : va_D A [(h0, .inr (8, [.int i12, .ref s1, .ref ho, .ref ht9, .ref s4, .ref s5])), (ho, .inr (5, f_ho)), (s1, .inl (cI, 4, .inl f10)), (s4, .inl (cI, 4, .inl f11)), (s5, .inl (cI, 32, .inl fs5))] := hD
  try dsimp only at hw9
  have hP9 := hP.sub (ws' := [(h0, .inr (8, [.int i12, .ref s1, .ref ho, .ref ht9, .ref s4, .ref s5])), (ho, .inr (5, f_ho)), (s1, .inl (cI, 4, .inl f10)), (s4, .inl (cI, 4, .inl f11)), (s5, .inl (cI, 32, .inl fs5))]) [0, 1, 2, 3, 4] rfl
  have hD9 := hD.sub (ws' := [(h0, .inr (8, [.int i12, .ref s1, .ref ho, .ref ht9, .ref s4, .ref s5])), (ho, .inr (5, f_ho)), (s1, .inl (cI, 4, .inl f10)), (s4, .inl (cI, 4, .inl f11)), (s5, .inl (cI, 32, .inl fs5))]) [0, 1, 2, 3, 4] (by decide +kernel) rfl
  exact W.vret hx hb hr (fun t ht hW => ⟨⟨(fun _ => 0), rfl, trivial, ⟨f10, f11, i12, he13, (fun i hi => (he14 i (by omega)).trans (pk_un (by omega))), by rw [ht]; exact hP9, hD9⟩⟩, hS.F ht⟩) hS.2.2 dX8_giveQuill_33
set_option maxHeartbeats 4000000 in
set_option maxRecDepth 100000 in
theorem c_X8_giveFromD_2 (l : Launch) (dC : Nat → ClassId) (dI : Nat → Nat → Nat) (cI cZ cQ : ClassId) (h0 : Nat) (be : Int32) (s1 : Nat) (ho : Nat) (ht9 : Nat) (s4 : Nat) (s5 : Nat) (nq : Nat) (nh : Nat) (f_ho : List Value) (fs1 : Nat → Int32) (fs4 : Nat → Int32) (fs5 : Nat → Int32) (k : Nat) (tt : Nat) (ss : Nat) (pw : Nat) (gg : Nat → Nat → Nat) (sz : Nat) (e_ho_3 : f_ho[3]? = some (.int (nI nq))) (e_ho_4 : f_ho[4]? = some (.int (nI nh))) (hnq : nq ≤ 8) (hnh : nh ≤ 4) (hk : k ≤ nh) (hd : 4 ≤ k + 2) (htt : tt = twT k pw) (hss : ss = twS gg k pw) (hvd : twV nq k pw = true) (hq4 : ∀ i, i < k → fs4 i = nI (twD k pw i)) (hG : ∀ j k, gg j k ≤ 999) (hT : ∀ k j, k < nh → j < nq → fs5 (k * 8 + j) = nI (gg j k)) (hBw : twB nq gg nh (pw * 8 ^ (nh - k)) be (twR nh fs1)) : Met l yX8_giveFrom wsX8_giveFrom ({ frames := 6, cells := 0, slots := 0, locals := 157 }) (va_Pc [.ref h0, .int (nI k), .int (nI tt), .int (nI ss)] (fun U => U.heap.size = sz ∧ va_P (dC, dI) vwCl [(h0, .inr (8, [.int be, .ref s1, .ref ho, .ref ht9, .ref s4, .ref s5])), (ho, .inr (5, f_ho)), (s1, .inl (cI, 4, .inl fs1)), (s4, .inl (cI, 4, .inl fs4)), (s5, .inl (cI, 32, .inl fs5))] U.heap ∧ va_K (dC, dI) vwCl (tys0 cI cZ cQ) U ∧ va_D (fun _ => True) [(h0, .inr (8, [.int be, .ref s1, .ref ho, .ref ht9, .ref s4, .ref s5])), (ho, .inr (5, f_ho)), (s1, .inl (cI, 4, .inl fs1)), (s4, .inl (cI, 4, .inl fs4)), (s5, .inl (cI, 32, .inl fs5))])) (va_Qv (fun (u : Nat → Nat) => True) (fun (_ : Nat → Nat) (t : State) => ∃ (gg0 gg1 : Nat → Int32) (ii0 : Int32) , (twB nq gg nh ((pw + 1) * 8 ^ (nh - k)) ii0 (twR nh gg0)) ∧ (∀ i, i < k → gg1 i = fs4 i) ∧ va_P (dC, dI) vwCl [(h0, .inr (8, [.int ii0, .ref s1, .ref ho, .ref ht9, .ref s4, .ref s5])), (ho, .inr (5, f_ho)), (s1, .inl (cI, 4, .inl gg0)), (s4, .inl (cI, 4, .inl gg1)), (s5, .inl (cI, 32, .inl fs5))] t.heap ∧ va_D (va_A [(h0, .inr (8, [.int be, .ref s1, .ref ho, .ref ht9, .ref s4, .ref s5])), (ho, .inr (5, f_ho)), (s1, .inl (cI, 4, .inl fs1)), (s4, .inl (cI, 4, .inl fs4)), (s5, .inl (cI, 32, .inl fs5))] sz) [(h0, .inr (8, [.int ii0, .ref s1, .ref ho, .ref ht9, .ref s4, .ref s5])), (ho, .inr (5, f_ho)), (s1, .inl (cI, 4, .inl gg0)), (s4, .inl (cI, 4, .inl gg1)), (s5, .inl (cI, 32, .inl fs5))]) (va_A [(h0, .inr (8, [.int be, .ref s1, .ref ho, .ref ht9, .ref s4, .ref s5])), (ho, .inr (5, f_ho)), (s1, .inl (cI, 4, .inl fs1)), (s4, .inl (cI, 4, .inl fs4)), (s5, .inl (cI, 32, .inl fs5))] sz)) 0 0 (va_A [(h0, .inr (8, [.int be, .ref s1, .ref ho, .ref ht9, .ref s4, .ref s5])), (ho, .inr (5, f_ho)), (s1, .inl (cI, 4, .inl fs1)), (s4, .inl (cI, 4, .inl fs4)), (s5, .inl (cI, 32, .inl fs5))] sz) := by
  refine Met.ofW (cc := cX8_giveFrom) (maxL := 5) (ret := none) (by decide) rfl ?_
  intro p e s m args below meth c s₁ B hml hv
  obtain ⟨rfl, hsz, hP, hK, hD0⟩ := hv
  have hx := B.exec
  have hb := B.bytes
  have hr := B.returns
  have hts := atoms_spec (ws := wsX8_giveFrom) B.pre
  have hown : s.vm.findClass RX8 = some m.cls := findClass_of_methodNamed B.named
  have hlocks := B.notSynchronized
  have hi_X5 : ∀ w ∈ u_ws RX5 TX5 13, w ∈ wsX8_giveFrom := fun _ h => List.mem_cons_of_mem _ (List.mem_append_right _ (h))
  have hi_X8 : ∀ w ∈ u_ws RX8 TX8 6, w ∈ wsX8_giveFrom := fun _ h => List.mem_cons_of_mem _ (List.mem_append_left _ (List.mem_append_right _ (h)))
  subst hsz
  have hD := hD0.self (sz := s.heap.size)
  generalize hAe : va_A [(h0, .inr (8, [.int be, .ref s1, .ref ho, .ref ht9, .ref s4, .ref s5])), (ho, .inr (5, f_ho)), (s1, .inl (cI, 4, .inl fs1)), (s4, .inl (cI, 4, .inl fs4)), (s5, .inl (cI, 32, .inl fs5))] s.heap.size = A at hD ⊢
  have hA : ∀ q : Nat, s.heap.size ≤ q → A q := fun q h => by rw [← hAe]; exact Or.inr h
  have hS : va_S A s.heap s.heap [] := va_S.rf
  have hl := lv_entry ([.ref h0, .int (nI k), .int (nI tt), .int (nI ss)]) (n := 5) (Nat.le_of_ble_eq_true rfl)
  rw [lg_entry_eq]
  generalize (lg_sl ([.ref h0, .int (nI k), .int (nI tt), .int (nI ss)]) ++ List.replicate (5 - (lg_sl ([.ref h0, .int (nI k), .int (nI tt), .int (nI ss)])).length) Slot.unset).toArray = ls at hl ⊢
  have hl : lv_has ls 5 [(0, .ref h0), (1, .int (nI k)), (2, .int (nI tt)), (3, .int (nI ss))] := hl
  refine lv_iload_n hx hb dX8_giveFrom_0 rfl (lv_at hl 1 rfl) ?_
  refine lv_aload_n hx hb dX8_giveFrom_1 rfl (lv_at hl 0 rfl) ?_
  refine va_get (D := (dC, dI)) (ci := 8) (v := .ref ho) (C := RX8) (T := TX8) (N := 6) hx hb hts hi_X8 hown hK hP 0 rfl rfl 2 (by decide) (hts (.fieldLink RX8 25 "LeftQuills$Sharing" "office" "LLeftQuills$Office;") (wmx 1 rfl)) (fun _ h9 => h9) rfl dX8_giveFrom_2 ?_
  refine va_get (D := (dC, dI)) (ci := 5) (v := .int (nI nh)) (C := RX5) (T := TX5) (N := 13) hx hb hts hi_X5 hown hK hP 1 rfl rfl 4 (by decide) (hts (.fieldLink RX8 33 "LeftQuills$Office" "hands" "I") (wmx 2 rfl)) (fun _ h9 => h9) e_ho_4 dX8_giveFrom_5 ?_
  refine lv_icmp_ge (tgt := 16) hx hb dX8_giveFrom_8 (by decide) (fun c1 => ?_) (fun c1 => ?_)
  ·
    have c1 : nh ≤ k := (nI_leI (a := nh) (b := k) (by omega) (by omega)).mp c1
    refine lv_aload_n hx hb dX8_giveFrom_16 rfl (lv_at hl 0 rfl) ?_
    refine lv_iload_n hx hb dX8_giveFrom_17 rfl (lv_at hl 3 rfl) ?_
    have hPc := hP.sub (ws' := [(h0, .inr (8, [.int be, .ref s1, .ref ho, .ref ht9, .ref s4, .ref s5])), (s1, .inl (cI, 4, .inl fs1)), (s4, .inl (cI, 4, .inl fs4))]) [0, 2, 3] rfl
    have hDc := hD.sub (ws' := [(h0, .inr (8, [.int be, .ref s1, .ref ho, .ref ht9, .ref s4, .ref s5])), (s1, .inl (cI, 4, .inl fs1)), (s4, .inl (cI, 4, .inl fs4))]) [0, 2, 3] (by decide) rfl
    have hFc := va_free (wc := [(h0, .inr (8, [.int be, .ref s1, .ref ho, .ref ht9, .ref s4, .ref s5])), (s1, .inl (cI, 4, .inl fs1)), (s4, .inl (cI, 4, .inl fs4))]) hD hS hA [0, 2, 3] rfl
    refine va_callv (va_runV (As := [.int (nI ss)]) (rest := []) ⟨hx, hb, hml, hown, hts⟩ (c_X8_keepD l dC dI cI cZ cQ h0 be s1 ho ht9 s4 s5 fs1 fs4 ss s.heap.size (by rw [hss]; exact tw_S4 hG (by omega))) (cwV 1 hts gX8_giveFrom_X8_keepIfBetter rfl rfl rfl (by decide +kernel) ⟨Nat.le_of_ble_eq_true rfl, Nat.le_of_ble_eq_true rfl⟩) ⟨fun a U g mk q => by obtain ⟨q0, q1, qP, qK, qD⟩ := q; exact ⟨q0, q1, qP, va_K.moved (u := U) (U := U.calling g mk a) (Vm.Alike.refl U.vm) qK, qD⟩, va_recv hK hP (ci := 8) (q0 := 0) rfl rfl, fun U hU hW => ⟨rfl, by rw [hU], by rw [hU]; exact hPc, va_K.moved hW.alike hK, hDc.weaken (fun _ _ _ _ => trivial)⟩⟩ rfl rfl hl.1 rfl (lv_room (Nat.le_of_ble_eq_true rfl)) dX8_giveFrom_18 ⟨Nat.le_of_ble_eq_true rfl, Nat.le_of_ble_eq_true rfl⟩) hS (fun q _ h => hFc q h) hFc (fun u3 t H1 locs ht hvm hw4 hB hz1 hk1 hS => ?_)
    obtain ⟨f5, i6, he7, he8, hP1, hD1⟩ := hB
    rw [ht] at hP1
    obtain ⟨hP, hD⟩ := va_join (wr := [(ho, .inr (5, f_ho)), (s5, .inl (cI, 32, .inl fs5))]) (w1 := [(h0, .inr (8, [.int i6, .ref s1, .ref ho, .ref ht9, .ref s4, .ref s5])), (s1, .inl (cI, 4, .inl f5)), (s4, .inl (cI, 4, .inl fs4))]) hP hD [0, 2, 3] [1, 4] rfl rfl (by decide +kernel) (by decide +kernel) hk1 hFc hP1 hD1
    clear hP1 hD1
    clear hz1 hk1 hPc hDc hFc
    generalize H1 = H at hP hS ht ⊢
    have hP : va_P (dC, dI) vwCl [(ho, .inr (5, f_ho)), (s5, .inl (cI, 32, .inl fs5)), (h0, .inr (8, [.int i6, .ref s1, .ref ho, .ref ht9, .ref s4, .ref s5])), (s1, .inl (cI, 4, .inl f5)), (s4, .inl (cI, 4, .inl fs4))] H := hP
    have hD : va_D A [(ho, .inr (5, f_ho)), (s5, .inl (cI, 32, .inl fs5)), (h0, .inr (8, [.int i6, .ref s1, .ref ho, .ref ht9, .ref s4, .ref s5])), (s1, .inl (cI, 4, .inl f5)), (s4, .inl (cI, 4, .inl fs4))] := hD
    try dsimp only at hw4
    have hP9 := hP.sub (ws' := [(h0, .inr (8, [.int i6, .ref s1, .ref ho, .ref ht9, .ref s4, .ref s5])), (ho, .inr (5, f_ho)), (s1, .inl (cI, 4, .inl f5)), (s4, .inl (cI, 4, .inl fs4)), (s5, .inl (cI, 32, .inl fs5))]) [2, 0, 3, 4, 1] rfl
    have hD9 := hD.sub (ws' := [(h0, .inr (8, [.int i6, .ref s1, .ref ho, .ref ht9, .ref s4, .ref s5])), (ho, .inr (5, f_ho)), (s1, .inl (cI, 4, .inl f5)), (s4, .inl (cI, 4, .inl fs4)), (s5, .inl (cI, 32, .inl fs5))]) [2, 0, 3, 4, 1] (by decide +kernel) rfl
    exact W.vret hx hb hr (fun t ht hW => ⟨⟨(fun _ => 0), rfl, trivial, ⟨f5, fs4, i6, (tw_keep hG (by omega) (show k = nh by omega) hBw hvd hss hq4 he7 he8), (fun i _ => rfl), by rw [ht]; exact hP9, hD9⟩⟩, hS.F ht⟩) hS.2.2 dX8_giveFrom_21
  ·
    have c1 : ¬ nh ≤ k := fun h => c1 ((nI_leI (a := nh) (b := k) (by omega) (by omega)).mpr h)
    refine lv_iload_n hx hb dX8_giveFrom_11 rfl (lv_at hl 1 rfl) ?_
    refine lv_iconst (v := 4) hx hb dX8_giveFrom_12 (by decide) ?_
    refine lv_icmp_lt (tgt := 22) hx hb dX8_giveFrom_13 (by decide) (fun c9 => ?_) (fun c9 => ?_)
    ·
      have c9 : k < 4 := (nI_ltI (a := k) (b := 4) (by omega) (by omega)).mp c9
      refine lv_iconst (v := 0) hx hb dX8_giveFrom_22 (by decide) ?_
      refine lv_istore (lv' := [(4, .int 0), (0, .ref h0), (1, .int (nI k)), (2, .int (nI tt)), (3, .int (nI ss))]) hx hb dX8_giveFrom_23 hl (by decide) rfl (fun ls hl => ?_)
      refine (fun (K : ∀ (d25 : Nat) (k25 : Nat) (f25_s1 : Nat → Int32) (f25_s4 : Nat → Int32) (i25_h0_0 : Int32) (H : Heap) (locs : List Loc) (ls : Array Slot), k25 + d25 = nq → twB nq gg nh ((8 * pw + k25) * 8 ^ (nh - (k + 1))) i25_h0_0 (twR nh f25_s1) → (∀ i, i < k → f25_s4 i = fs4 i) → va_P (dC, dI) vwCl [(h0, .inr (8, [.int i25_h0_0, .ref s1, .ref ho, .ref ht9, .ref s4, .ref s5])), (ho, .inr (5, f_ho)), (s1, .inl (cI, 4, .inl f25_s1)), (s4, .inl (cI, 4, .inl f25_s4)), (s5, .inl (cI, 32, .inl fs5))] H → va_D A [(h0, .inr (8, [.int i25_h0_0, .ref s1, .ref ho, .ref ht9, .ref s4, .ref s5])), (ho, .inr (5, f_ho)), (s1, .inl (cI, 4, .inl f25_s1)), (s4, .inl (cI, 4, .inl f25_s4)), (s5, .inl (cI, 32, .inl fs5))] → va_S A s.heap H locs → lv_has ls 5 [(4, .int (nI k25)), (0, .ref h0), (1, .int (nI k)), (2, .int (nI tt)), (3, .int (nI ss))] → W p l e _ s m _ below meth c H locs _ _ _ (F0 m 25 ls [])) => K nq 0 fs1 fs4 be _ _ _ (by omega) (tw_st (show k < nh by omega) hBw) (fun i _ => rfl) hP hD hS (lv_sub hl [0, 1, 2, 3, 4] rfl)) ?_
      intro d25
      induction d25 with
      | zero =>
        intro k25 f25_s1 f25_s4 i25_h0_0 H locs ls hk25 hv25_0 hv25_1 hP hD hS hl
        refine lv_iload hx hb dX8_giveFrom_25 (lv_at hl 0 rfl) ?_
        refine lv_aload_n hx hb dX8_giveFrom_27 rfl (lv_at hl 1 rfl) ?_
        refine va_get (D := (dC, dI)) (ci := 8) (v := .ref ho) (C := RX8) (T := TX8) (N := 6) hx hb hts hi_X8 hown hK hP 0 rfl rfl 2 (by decide) (hts (.fieldLink RX8 25 "LeftQuills$Sharing" "office" "LLeftQuills$Office;") (wmx 1 rfl)) (fun _ h9 => h9) rfl dX8_giveFrom_28 ?_
        refine va_get (D := (dC, dI)) (ci := 5) (v := .int (nI nq)) (C := RX5) (T := TX5) (N := 13) hx hb hts hi_X5 hown hK hP 1 rfl rfl 3 (by decide) (hts (.fieldLink RX8 38 "LeftQuills$Office" "quills" "I") (wmx 3 rfl)) (fun _ h9 => h9) e_ho_3 dX8_giveFrom_31 ?_
        refine lv_icmp_ge (tgt := 61) hx hb dX8_giveFrom_34 (by decide) (fun c10 => ?_) (fun c10 => ?_)
        ·
          have c10 : nq ≤ k25 := (nI_leI (a := nq) (b := k25) (by omega) (by omega)).mp c10
          have hP9 := hP.sub (ws' := [(h0, .inr (8, [.int i25_h0_0, .ref s1, .ref ho, .ref ht9, .ref s4, .ref s5])), (ho, .inr (5, f_ho)), (s1, .inl (cI, 4, .inl f25_s1)), (s4, .inl (cI, 4, .inl f25_s4)), (s5, .inl (cI, 32, .inl fs5))]) [0, 1, 2, 3, 4] rfl
          have hD9 := hD.sub (ws' := [(h0, .inr (8, [.int i25_h0_0, .ref s1, .ref ho, .ref ht9, .ref s4, .ref s5])), (ho, .inr (5, f_ho)), (s1, .inl (cI, 4, .inl f25_s1)), (s4, .inl (cI, 4, .inl f25_s4)), (s5, .inl (cI, 32, .inl fs5))]) [0, 1, 2, 3, 4] (by decide +kernel) rfl
          exact W.vret hx hb hr (fun t ht hW => ⟨⟨(fun _ => 0), rfl, trivial, ⟨f25_s1, f25_s4, i25_h0_0, (tw_end (show k < nh by omega) (show k25 = nq by omega) hnq hv25_0), hv25_1, by rw [ht]; exact hP9, hD9⟩⟩, hS.F ht⟩) hS.2.2 dX8_giveFrom_61
        ·
          have c10 : ¬ nq ≤ k25 := fun h => c10 ((nI_leI (a := nq) (b := k25) (by omega) (by omega)).mpr h)
          omega
      | succ d25 ih25 =>
        intro k25 f25_s1 f25_s4 i25_h0_0 H locs ls hk25 hv25_0 hv25_1 hP hD hS hl
        refine lv_iload hx hb dX8_giveFrom_25 (lv_at hl 0 rfl) ?_
        refine lv_aload_n hx hb dX8_giveFrom_27 rfl (lv_at hl 1 rfl) ?_
        refine va_get (D := (dC, dI)) (ci := 8) (v := .ref ho) (C := RX8) (T := TX8) (N := 6) hx hb hts hi_X8 hown hK hP 0 rfl rfl 2 (by decide) (hts (.fieldLink RX8 25 "LeftQuills$Sharing" "office" "LLeftQuills$Office;") (wmx 1 rfl)) (fun _ h9 => h9) rfl dX8_giveFrom_28 ?_
        refine va_get (D := (dC, dI)) (ci := 5) (v := .int (nI nq)) (C := RX5) (T := TX5) (N := 13) hx hb hts hi_X5 hown hK hP 1 rfl rfl 3 (by decide) (hts (.fieldLink RX8 38 "LeftQuills$Office" "quills" "I") (wmx 3 rfl)) (fun _ h9 => h9) e_ho_3 dX8_giveFrom_31 ?_
        refine lv_icmp_ge (tgt := 61) hx hb dX8_giveFrom_34 (by decide) (fun c11 => ?_) (fun c11 => ?_)
        ·
          have c11 : nq ≤ k25 := (nI_leI (a := nq) (b := k25) (by omega) (by omega)).mp c11
          omega
        ·
          have c11 : ¬ nq ≤ k25 := fun h => c11 ((nI_leI (a := nq) (b := k25) (by omega) (by omega)).mpr h)
          refine lv_iload_n hx hb dX8_giveFrom_37 rfl (lv_at hl 3 rfl) ?_
          refine lv_iconst (v := 1) hx hb dX8_giveFrom_38 (by decide) ?_
          refine lv_iload hx hb dX8_giveFrom_39 (lv_at hl 0 rfl) ?_
          refine lv_ishl hx hb dX8_giveFrom_41 ?_
          refine lv_iand hx hb dX8_giveFrom_42 ?_
          refine lv_if_ne (tgt := 55) hx hb dX8_giveFrom_43 (by decide) (fun c12 => ?_) (fun c12 => ?_)
          ·
            refine lv_iinc (v := nI (k25 + 1)) (lv' := [(4, .int (nI (k25 + 1))), (0, .ref h0), (1, .int (nI k)), (2, .int (nI tt)), (3, .int (nI ss))]) hx hb dX8_giveFrom_55 hl (k := 0) rfl ((rfl : nI k25 + Int32.ofInt 1 = nI k25 + 1).trans (nI_add k25 1)) (by decide) rfl (fun ls hl => ?_)
            refine lv_goto (tgt := 25) hx hb dX8_giveFrom_58 (by decide) ?_
            exact ih25 (k25 + 1) f25_s1 f25_s4 i25_h0_0 _ _ _ (by omega) (tw_tk (show k < nh by omega) (by omega) htt c12 hv25_0) hv25_1 hP hD hS (lv_sub hl [0, 1, 2, 3, 4] rfl)
          ·
            refine lv_aload_n hx hb dX8_giveFrom_46 rfl (lv_at hl 1 rfl) ?_
            refine lv_iload_n hx hb dX8_giveFrom_47 rfl (lv_at hl 2 rfl) ?_
            refine lv_iload hx hb dX8_giveFrom_48 (lv_at hl 0 rfl) ?_
            refine lv_iload_n hx hb dX8_giveFrom_50 rfl (lv_at hl 3 rfl) ?_
            refine lv_iload_n hx hb dX8_giveFrom_51 rfl (lv_at hl 4 rfl) ?_
            have hPc := hP.sub (ws' := [(h0, .inr (8, [.int i25_h0_0, .ref s1, .ref ho, .ref ht9, .ref s4, .ref s5])), (ho, .inr (5, f_ho)), (s1, .inl (cI, 4, .inl f25_s1)), (s4, .inl (cI, 4, .inl f25_s4)), (s5, .inl (cI, 32, .inl fs5))]) [0, 1, 2, 3, 4] rfl
            have hDc := hD.sub (ws' := [(h0, .inr (8, [.int i25_h0_0, .ref s1, .ref ho, .ref ht9, .ref s4, .ref s5])), (ho, .inr (5, f_ho)), (s1, .inl (cI, 4, .inl f25_s1)), (s4, .inl (cI, 4, .inl f25_s4)), (s5, .inl (cI, 32, .inl fs5))]) [0, 1, 2, 3, 4] (by decide) rfl
            have hFc := va_free (wc := [(h0, .inr (8, [.int i25_h0_0, .ref s1, .ref ho, .ref ht9, .ref s4, .ref s5])), (ho, .inr (5, f_ho)), (s1, .inl (cI, 4, .inl f25_s1)), (s4, .inl (cI, 4, .inl f25_s4)), (s5, .inl (cI, 32, .inl fs5))]) hD hS hA [0, 1, 2, 3, 4] rfl
            refine va_callv (va_runV (As := [.int (nI k), .int (nI k25), .int (nI tt), .int (nI ss)]) (rest := []) ⟨hx, hb, hml, hown, hts⟩ (c_X8_giveQuillD_2 l dC dI cI cZ cQ h0 i25_h0_0 s1 ho ht9 s4 s5 nq nh f_ho f25_s1 f25_s4 fs5 k k25 tt ss pw gg H.size e_ho_3 e_ho_4 (by omega) (by omega) (by omega) (by omega) (by omega) htt hss hvd (fun i hi => (hv25_1 i hi).trans (hq4 i hi)) hG hT (tw_fr (by omega) htt c12) hv25_0) (cwV 4 hts gX8_giveFrom_X8_giveQuill rfl rfl rfl (by decide +kernel) ⟨Nat.le_of_ble_eq_true rfl, Nat.le_of_ble_eq_true rfl⟩) ⟨fun a U g mk q => by obtain ⟨q0, q1, qP, qK, qD⟩ := q; exact ⟨q0, q1, qP, va_K.moved (u := U) (U := U.calling g mk a) (Vm.Alike.refl U.vm) qK, qD⟩, va_recv hK hP (ci := 8) (q0 := 0) rfl rfl, fun U hU hW => ⟨rfl, by rw [hU], by rw [hU]; exact hPc, va_K.moved hW.alike hK, hDc.weaken (fun _ _ _ _ => trivial)⟩⟩ rfl rfl hl.1 rfl (lv_room (Nat.le_of_ble_eq_true rfl)) dX8_giveFrom_52 ⟨Nat.le_of_ble_eq_true rfl, Nat.le_of_ble_eq_true rfl⟩) hS (fun q _ h => hFc q h) hFc (fun u14 t H1 locs ht hvm hw15 hB hz1 hk1 hS => ?_)
            obtain ⟨f16, f17, i18, he19, he20, hP1, hD1⟩ := hB
            rw [ht] at hP1
            obtain ⟨hP, hD⟩ := va_join (wr := []) (w1 := [(h0, .inr (8, [.int i18, .ref s1, .ref ho, .ref ht9, .ref s4, .ref s5])), (ho, .inr (5, f_ho)), (s1, .inl (cI, 4, .inl f16)), (s4, .inl (cI, 4, .inl f17)), (s5, .inl (cI, 32, .inl fs5))]) hP hD [0, 1, 2, 3, 4] [] rfl rfl (by decide +kernel) (by decide +kernel) hk1 hFc hP1 hD1
            clear hP1 hD1
            clear hz1 hk1 hPc hDc hFc
            generalize H1 = H at hP hS ht ⊢
            have hP : va_P (dC, dI) vwCl [(h0, .inr (8, [.int i18, .ref s1, .ref ho, .ref ht9, .ref s4, .ref s5])), (ho, .inr (5, f_ho)), (s1, .inl (cI, 4, .inl f16)), (s4, .inl (cI, 4, .inl f17)), (s5, .inl (cI, 32, .inl fs5))] H := hP
            have hD : va_D A [(h0, .inr (8, [.int i18, .ref s1, .ref ho, .ref ht9, .ref s4, .ref s5])), (ho, .inr (5, f_ho)), (s1, .inl (cI, 4, .inl f16)), (s4, .inl (cI, 4, .inl f17)), (s5, .inl (cI, 32, .inl fs5))] := hD
            try dsimp only at hw15
            refine lv_iinc (v := nI (k25 + 1)) (lv' := [(4, .int (nI (k25 + 1))), (0, .ref h0), (1, .int (nI k)), (2, .int (nI tt)), (3, .int (nI ss))]) hx hb dX8_giveFrom_55 hl (k := 0) rfl ((rfl : nI k25 + Int32.ofInt 1 = nI k25 + 1).trans (nI_add k25 1)) (by decide) rfl (fun ls hl => ?_)
            refine lv_goto (tgt := 25) hx hb dX8_giveFrom_58 (by decide) ?_
            exact ih25 (k25 + 1) f16 f17 i18 _ _ _ (by omega) (tw_j1 he19) (fun i hi => (he20 i hi).trans (hv25_1 i hi)) hP hD hS (lv_sub hl [0, 1, 2, 3, 4] rfl)
    ·
      have c9 : ¬ k < 4 := fun h => c9 ((nI_ltI (a := k) (b := 4) (by omega) (by omega)).mpr h)
      omega
set_option maxHeartbeats 4000000 in
set_option maxRecDepth 100000 in
theorem c_X8_giveQuillD_3 (l : Launch) (dC : Nat → ClassId) (dI : Nat → Nat → Nat) (cI cZ cQ : ClassId) (h0 : Nat) (be : Int32) (s1 : Nat) (ho : Nat) (ht9 : Nat) (s4 : Nat) (s5 : Nat) (nq : Nat) (nh : Nat) (f_ho : List Value) (fs1 : Nat → Int32) (fs4 : Nat → Int32) (fs5 : Nat → Int32) (k : Nat) (j : Nat) (tt : Nat) (ss : Nat) (pw : Nat) (gg : Nat → Nat → Nat) (sz : Nat) (e_ho_3 : f_ho[3]? = some (.int (nI nq))) (e_ho_4 : f_ho[4]? = some (.int (nI nh))) (hnq : nq ≤ 8) (hnh : nh ≤ 4) (hj : j < nq) (hk : k < nh) (hd : 4 ≤ k + 3) (htt : tt = twT k pw) (hss : ss = twS gg k pw) (hvd : twV nq k pw = true) (hq4 : ∀ i, i < k → fs4 i = nI (twD k pw i)) (hG : ∀ j k, gg j k ≤ 999) (hT : ∀ k j, k < nh → j < nq → fs5 (k * 8 + j) = nI (gg j k)) (hbit : (twT k pw).testBit j = false) (hBw : twB nq gg nh ((8 * pw + j) * 8 ^ (nh - (k + 1))) be (twR nh fs1)) : Met l yX8_giveQuill wsX8_giveQuill ({ frames := 7, cells := 0, slots := 0, locals := 181 }) (va_Pc [.ref h0, .int (nI k), .int (nI j), .int (nI tt), .int (nI ss)] (fun U => U.heap.size = sz ∧ va_P (dC, dI) vwCl [(h0, .inr (8, [.int be, .ref s1, .ref ho, .ref ht9, .ref s4, .ref s5])), (ho, .inr (5, f_ho)), (s1, .inl (cI, 4, .inl fs1)), (s4, .inl (cI, 4, .inl fs4)), (s5, .inl (cI, 32, .inl fs5))] U.heap ∧ va_K (dC, dI) vwCl (tys0 cI cZ cQ) U ∧ va_D (fun _ => True) [(h0, .inr (8, [.int be, .ref s1, .ref ho, .ref ht9, .ref s4, .ref s5])), (ho, .inr (5, f_ho)), (s1, .inl (cI, 4, .inl fs1)), (s4, .inl (cI, 4, .inl fs4)), (s5, .inl (cI, 32, .inl fs5))])) (va_Qv (fun (u : Nat → Nat) => True) (fun (_ : Nat → Nat) (t : State) => ∃ (gg0 gg1 : Nat → Int32) (ii0 : Int32) , (twB nq gg nh ((8 * pw + j + 1) * 8 ^ (nh - (k + 1))) ii0 (twR nh gg0)) ∧ (∀ i, i < k → gg1 i = fs4 i) ∧ va_P (dC, dI) vwCl [(h0, .inr (8, [.int ii0, .ref s1, .ref ho, .ref ht9, .ref s4, .ref s5])), (ho, .inr (5, f_ho)), (s1, .inl (cI, 4, .inl gg0)), (s4, .inl (cI, 4, .inl gg1)), (s5, .inl (cI, 32, .inl fs5))] t.heap ∧ va_D (va_A [(h0, .inr (8, [.int be, .ref s1, .ref ho, .ref ht9, .ref s4, .ref s5])), (ho, .inr (5, f_ho)), (s1, .inl (cI, 4, .inl fs1)), (s4, .inl (cI, 4, .inl fs4)), (s5, .inl (cI, 32, .inl fs5))] sz) [(h0, .inr (8, [.int ii0, .ref s1, .ref ho, .ref ht9, .ref s4, .ref s5])), (ho, .inr (5, f_ho)), (s1, .inl (cI, 4, .inl gg0)), (s4, .inl (cI, 4, .inl gg1)), (s5, .inl (cI, 32, .inl fs5))]) (va_A [(h0, .inr (8, [.int be, .ref s1, .ref ho, .ref ht9, .ref s4, .ref s5])), (ho, .inr (5, f_ho)), (s1, .inl (cI, 4, .inl fs1)), (s4, .inl (cI, 4, .inl fs4)), (s5, .inl (cI, 32, .inl fs5))] sz)) 0 0 (va_A [(h0, .inr (8, [.int be, .ref s1, .ref ho, .ref ht9, .ref s4, .ref s5])), (ho, .inr (5, f_ho)), (s1, .inl (cI, 4, .inl fs1)), (s4, .inl (cI, 4, .inl fs4)), (s5, .inl (cI, 32, .inl fs5))] sz) := by
  refine Met.ofW (cc := cX8_giveQuill) (maxL := 5) (ret := none) (by decide) rfl ?_
  intro p e s m args below meth c s₁ B hml hv
  obtain ⟨rfl, hsz, hP, hK, hD0⟩ := hv
  have hx := B.exec
  have hb := B.bytes
  have hr := B.returns
  have hts := atoms_spec (ws := wsX8_giveQuill) B.pre
  have hown : s.vm.findClass RX8 = some m.cls := findClass_of_methodNamed B.named
  have hlocks := B.notSynchronized
  have hi_X8 : ∀ w ∈ u_ws RX8 TX8 6, w ∈ wsX8_giveQuill := fun _ h => List.mem_cons_of_mem _ (List.mem_append_left _ (List.mem_append_right _ (h)))
  subst hsz
  have hD := hD0.self (sz := s.heap.size)
  generalize hAe : va_A [(h0, .inr (8, [.int be, .ref s1, .ref ho, .ref ht9, .ref s4, .ref s5])), (ho, .inr (5, f_ho)), (s1, .inl (cI, 4, .inl fs1)), (s4, .inl (cI, 4, .inl fs4)), (s5, .inl (cI, 32, .inl fs5))] s.heap.size = A at hD ⊢
  have hA : ∀ q : Nat, s.heap.size ≤ q → A q := fun q h => by rw [← hAe]; exact Or.inr h
  have hS : va_S A s.heap s.heap [] := va_S.rf
  have hl := lv_entry ([.ref h0, .int (nI k), .int (nI j), .int (nI tt), .int (nI ss)]) (n := 5) (Nat.le_of_ble_eq_true rfl)
  rw [lg_entry_eq]
  generalize (lg_sl ([.ref h0, .int (nI k), .int (nI j), .int (nI tt), .int (nI ss)]) ++ List.replicate (5 - (lg_sl ([.ref h0, .int (nI k), .int (nI j), .int (nI tt), .int (nI ss)])).length) Slot.unset).toArray = ls at hl ⊢
  have hl : lv_has ls 5 [(0, .ref h0), (1, .int (nI k)), (2, .int (nI j)), (3, .int (nI tt)), (4, .int (nI ss))] := hl
  refine lv_aload_n hx hb dX8_giveQuill_0 rfl (lv_at hl 0 rfl) ?_
  refine va_get (D := (dC, dI)) (ci := 8) (v := .ref s4) (C := RX8) (T := TX8) (N := 6) hx hb hts hi_X8 hown hK hP 0 rfl rfl 4 (by decide) (hts (.fieldLink RX8 19 "LeftQuills$Sharing" "quillOf" "[I") (wmx 1 rfl)) (fun _ h9 => h9) rfl dX8_giveQuill_1 ?_
  refine lv_iload_n hx hb dX8_giveQuill_4 rfl (lv_at hl 1 rfl) ?_
  refine lv_iload_n hx hb dX8_giveQuill_5 rfl (lv_at hl 2 rfl) ?_
  refine va_iast hx hb hK hP hD hS 3 0 rfl rfl (vp_in_nI (n := k) (N := 4) (by omega) (by decide)) dX8_giveQuill_6 (fun H locs hP hD hS => ?_)
  have hcl := (nI_clamp (n := k) (by omega))
  rw [hcl] at hP hD
  clear hcl
  have hP : va_P (dC, dI) vwCl [(h0, .inr (8, [.int be, .ref s1, .ref ho, .ref ht9, .ref s4, .ref s5])), (ho, .inr (5, f_ho)), (s1, .inl (cI, 4, .inl fs1)), (s4, .inl (cI, 4, .inl (upd fs4 k (nI j)))), (s5, .inl (cI, 32, .inl fs5))] H := hP
  have hD : va_D A [(h0, .inr (8, [.int be, .ref s1, .ref ho, .ref ht9, .ref s4, .ref s5])), (ho, .inr (5, f_ho)), (s1, .inl (cI, 4, .inl fs1)), (s4, .inl (cI, 4, .inl (upd fs4 k (nI j)))), (s5, .inl (cI, 32, .inl fs5))] := hD
  refine lv_aload_n hx hb dX8_giveQuill_7 rfl (lv_at hl 0 rfl) ?_
  refine lv_iload_n hx hb dX8_giveQuill_8 rfl (lv_at hl 1 rfl) ?_
  refine lv_iconst (v := 1) hx hb dX8_giveQuill_9 (by decide) ?_
  refine lv_iadd hx hb dX8_giveQuill_10 ?_
  refine lv_topi (fun z2 ez2 => ?_)
  obtain rfl : z2 = nI (k + 1) := ez2.trans (nI_add k 1)
  refine lv_iload_n hx hb dX8_giveQuill_11 rfl (lv_at hl 3 rfl) ?_
  refine lv_iconst (v := 1) hx hb dX8_giveQuill_12 (by decide) ?_
  refine lv_iload_n hx hb dX8_giveQuill_13 rfl (lv_at hl 2 rfl) ?_
  refine lv_ishl hx hb dX8_giveQuill_14 ?_
  refine lv_ior hx hb dX8_giveQuill_15 ?_
  refine lv_topi (fun z3 ez3 => ?_)
  obtain rfl : z3 = nI (tt ||| 2 ^ j) := tw_or (by omega) htt ez3
  refine lv_iload hx hb dX8_giveQuill_16 (lv_at hl 4 rfl) ?_
  refine lv_aload_n hx hb dX8_giveQuill_18 rfl (lv_at hl 0 rfl) ?_
  refine va_get (D := (dC, dI)) (ci := 8) (v := .ref s5) (C := RX8) (T := TX8) (N := 6) hx hb hts hi_X8 hown hK hP 0 rfl rfl 5 (by decide) (hts (.fieldLink RX8 22 "LeftQuills$Sharing" "good" "[I") (wmx 2 rfl)) (fun _ h9 => h9) rfl dX8_giveQuill_19 ?_
  refine lv_iload_n hx hb dX8_giveQuill_22 rfl (lv_at hl 1 rfl) ?_
  refine lv_bipush (v := 8) hx hb dX8_giveQuill_23 (by decide) ?_
  refine lv_imul hx hb dX8_giveQuill_25 ?_
  refine lv_topi (fun z4 ez4 => ?_)
  obtain rfl : z4 = nI (k * 8) := ez4.trans (pk_mul k 8)
  refine lv_iload_n hx hb dX8_giveQuill_26 rfl (lv_at hl 2 rfl) ?_
  refine lv_iadd hx hb dX8_giveQuill_27 ?_
  refine lv_topi (fun z5 ez5 => ?_)
  obtain rfl : z5 = nI ((k * 8) + j) := ez5.trans (nI_add (k * 8) j)
  refine va_iald hx hb hK hP 4 0 rfl rfl (vp_in_nI (n := (k * 8) + j) (N := 32) (by omega) (by decide)) dX8_giveQuill_28 ?_
  refine W.eq (g2 := F0 m 29 ls [.int (fs5 ((k * 8) + j)), .int (nI ss), .int (nI (tt ||| 2 ^ j)), .int (nI (k + 1)), .ref h0]) (congrArg (fun y9 => F0 m 29 ls (.int (fs5 y9) :: [.int (nI ss), .int (nI (tt ||| 2 ^ j)), .int (nI (k + 1)), .ref h0])) ((nI_clamp (n := (k * 8) + j) (by omega)))) ?_
  refine lv_iadd hx hb dX8_giveQuill_29 ?_
  refine lv_topi (fun z6 ez6 => ?_)
  obtain rfl : z6 = nI (ss + gg j k) := tw_add (hT k j (by omega) (by omega)) ez6
  have hPc := hP.sub (ws' := [(h0, .inr (8, [.int be, .ref s1, .ref ho, .ref ht9, .ref s4, .ref s5])), (ho, .inr (5, f_ho)), (s1, .inl (cI, 4, .inl fs1)), (s4, .inl (cI, 4, .inl (upd fs4 k (nI j)))), (s5, .inl (cI, 32, .inl fs5))]) [0, 1, 2, 3, 4] rfl
  have hDc := hD.sub (ws' := [(h0, .inr (8, [.int be, .ref s1, .ref ho, .ref ht9, .ref s4, .ref s5])), (ho, .inr (5, f_ho)), (s1, .inl (cI, 4, .inl fs1)), (s4, .inl (cI, 4, .inl (upd fs4 k (nI j)))), (s5, .inl (cI, 32, .inl fs5))]) [0, 1, 2, 3, 4] (by decide) rfl
  have hFc := va_free (wc := [(h0, .inr (8, [.int be, .ref s1, .ref ho, .ref ht9, .ref s4, .ref s5])), (ho, .inr (5, f_ho)), (s1, .inl (cI, 4, .inl fs1)), (s4, .inl (cI, 4, .inl (upd fs4 k (nI j)))), (s5, .inl (cI, 32, .inl fs5))]) hD hS hA [0, 1, 2, 3, 4] rfl
  refine va_callv (va_runV (As := [.int (nI (k + 1)), .int (nI (tt ||| 2 ^ j)), .int (nI (ss + gg j k))]) (rest := []) ⟨hx, hb, hml, hown, hts⟩ (c_X8_giveFromD_2 l dC dI cI cZ cQ h0 be s1 ho ht9 s4 s5 nq nh f_ho fs1 (upd fs4 k (nI j)) fs5 (k + 1) (tt ||| 2 ^ j) (ss + gg j k) (8 * pw + j) gg H.size e_ho_3 e_ho_4 (by omega) (by omega) (by omega) (by omega) (tw_tt (by omega) htt) (tw_ss (by omega) hss) ((tw_Vx (by omega)).mpr ⟨hvd, hj, hbit⟩) (tw_q4 (by omega) hq4) hG hT hBw) (cwV 3 hts gX8_giveQuill_X8_giveFrom rfl rfl rfl (by decide +kernel) ⟨Nat.le_of_ble_eq_true rfl, Nat.le_of_ble_eq_true rfl⟩) ⟨fun a U g mk q => by obtain ⟨q0, q1, qP, qK, qD⟩ := q; exact ⟨q0, q1, qP, va_K.moved (u := U) (U := U.calling g mk a) (Vm.Alike.refl U.vm) qK, qD⟩, va_recv hK hP (ci := 8) (q0 := 0) rfl rfl, fun U hU hW => ⟨rfl, by rw [hU], by rw [hU]; exact hPc, va_K.moved hW.alike hK, hDc.weaken (fun _ _ _ _ => trivial)⟩⟩ rfl rfl hl.1 rfl (lv_room (Nat.le_of_ble_eq_true rfl)) dX8_giveQuill_30 ⟨Nat.le_of_ble_eq_true rfl, Nat.le_of_ble_eq_true rfl⟩) hS (fun q _ h => hFc q h) hFc (fun u8 t H1 locs ht hvm hw9 hB hz1 hk1 hS => ?_)
  obtain ⟨f10, f11, i12, he13, he14, hP1, hD1⟩ := hB
  rw [ht] at hP1
  obtain ⟨hP, hD⟩ := va_join (wr := []) (w1 := [(h0, .inr (8, [.int i12, .ref s1, .ref ho, .ref ht9, .ref s4, .ref s5])), (ho, .inr (5, f_ho)), (s1, .inl (cI, 4, .inl f10)), (s4, .inl (cI, 4, .inl f11)), (s5, .inl (cI, 32, .inl fs5))]) hP hD [0, 1, 2, 3, 4] [] rfl rfl (by decide +kernel) (by decide +kernel) hk1 hFc hP1 hD1
  clear hP1 hD1
  clear hz1 hk1 hPc hDc hFc
  generalize H1 = H at hP hS ht ⊢
  have hP : va_P (dC, dI) vwCl [(h0, .inr (8, [.int i12, .ref s1, .ref ho, .ref ht9, .ref s4, .ref s5])), (ho, .inr (5, f_ho)), (s1, .inl (cI, 4, .inl f10)), (s4, .inl (cI, 4, .inl f11)), (s5, .inl (cI, 32, .inl fs5))] H := hP
  have hD : va_D A [(h0, .inr (8, [.int i12, .ref s1, .ref ho, .ref ht9, .ref s4, .ref s5])), (ho, .inr (5, f_ho)), (s1, .inl (cI, 4, .inl f10)), (s4, .inl (cI, 4, .inl f11)), (s5, .inl (cI, 32, .inl fs5))] := hD
  try dsimp only at hw9
  have hP9 := hP.sub (ws' := [(h0, .inr (8, [.int i12, .ref s1, .ref ho, .ref ht9, .ref s4, .ref s5])), (ho, .inr (5, f_ho)), (s1, .inl (cI, 4, .inl f10)), (s4, .inl (cI, 4, .inl f11)), (s5, .inl (cI, 32, .inl fs5))]) [0, 1, 2, 3, 4] rfl
  have hD9 := hD.sub (ws' := [(h0, .inr (8, [.int i12, .ref s1, .ref ho, .ref ht9, .ref s4, .ref s5])), (ho, .inr (5, f_ho)), (s1, .inl (cI, 4, .inl f10)), (s4, .inl (cI, 4, .inl f11)), (s5, .inl (cI, 32, .inl fs5))]) [0, 1, 2, 3, 4] (by decide +kernel) rfl
  exact W.vret hx hb hr (fun t ht hW => ⟨⟨(fun _ => 0), rfl, trivial, ⟨f10, f11, i12, he13, (fun i hi => (he14 i (by omega)).trans (pk_un (by omega))), by rw [ht]; exact hP9, hD9⟩⟩, hS.F ht⟩) hS.2.2 dX8_giveQuill_33
set_option maxHeartbeats 4000000 in
set_option maxRecDepth 100000 in
theorem c_X8_giveFromD_3 (l : Launch) (dC : Nat → ClassId) (dI : Nat → Nat → Nat) (cI cZ cQ : ClassId) (h0 : Nat) (be : Int32) (s1 : Nat) (ho : Nat) (ht9 : Nat) (s4 : Nat) (s5 : Nat) (nq : Nat) (nh : Nat) (f_ho : List Value) (fs1 : Nat → Int32) (fs4 : Nat → Int32) (fs5 : Nat → Int32) (k : Nat) (tt : Nat) (ss : Nat) (pw : Nat) (gg : Nat → Nat → Nat) (sz : Nat) (e_ho_3 : f_ho[3]? = some (.int (nI nq))) (e_ho_4 : f_ho[4]? = some (.int (nI nh))) (hnq : nq ≤ 8) (hnh : nh ≤ 4) (hk : k ≤ nh) (hd : 4 ≤ k + 3) (htt : tt = twT k pw) (hss : ss = twS gg k pw) (hvd : twV nq k pw = true) (hq4 : ∀ i, i < k → fs4 i = nI (twD k pw i)) (hG : ∀ j k, gg j k ≤ 999) (hT : ∀ k j, k < nh → j < nq → fs5 (k * 8 + j) = nI (gg j k)) (hBw : twB nq gg nh (pw * 8 ^ (nh - k)) be (twR nh fs1)) : Met l yX8_giveFrom wsX8_giveFrom ({ frames := 8, cells := 0, slots := 0, locals := 205 }) (va_Pc [.ref h0, .int (nI k), .int (nI tt), .int (nI ss)] (fun U => U.heap.size = sz ∧ va_P (dC, dI) vwCl [(h0, .inr (8, [.int be, .ref s1, .ref ho, .ref ht9, .ref s4, .ref s5])), (ho, .inr (5, f_ho)), (s1, .inl (cI, 4, .inl fs1)), (s4, .inl (cI, 4, .inl fs4)), (s5, .inl (cI, 32, .inl fs5))] U.heap ∧ va_K (dC, dI) vwCl (tys0 cI cZ cQ) U ∧ va_D (fun _ => True) [(h0, .inr (8, [.int be, .ref s1, .ref ho, .ref ht9, .ref s4, .ref s5])), (ho, .inr (5, f_ho)), (s1, .inl (cI, 4, .inl fs1)), (s4, .inl (cI, 4, .inl fs4)), (s5, .inl (cI, 32, .inl fs5))])) (va_Qv (fun (u : Nat → Nat) => True) (fun (_ : Nat → Nat) (t : State) => ∃ (gg0 gg1 : Nat → Int32) (ii0 : Int32) , (twB nq gg nh ((pw + 1) * 8 ^ (nh - k)) ii0 (twR nh gg0)) ∧ (∀ i, i < k → gg1 i = fs4 i) ∧ va_P (dC, dI) vwCl [(h0, .inr (8, [.int ii0, .ref s1, .ref ho, .ref ht9, .ref s4, .ref s5])), (ho, .inr (5, f_ho)), (s1, .inl (cI, 4, .inl gg0)), (s4, .inl (cI, 4, .inl gg1)), (s5, .inl (cI, 32, .inl fs5))] t.heap ∧ va_D (va_A [(h0, .inr (8, [.int be, .ref s1, .ref ho, .ref ht9, .ref s4, .ref s5])), (ho, .inr (5, f_ho)), (s1, .inl (cI, 4, .inl fs1)), (s4, .inl (cI, 4, .inl fs4)), (s5, .inl (cI, 32, .inl fs5))] sz) [(h0, .inr (8, [.int ii0, .ref s1, .ref ho, .ref ht9, .ref s4, .ref s5])), (ho, .inr (5, f_ho)), (s1, .inl (cI, 4, .inl gg0)), (s4, .inl (cI, 4, .inl gg1)), (s5, .inl (cI, 32, .inl fs5))]) (va_A [(h0, .inr (8, [.int be, .ref s1, .ref ho, .ref ht9, .ref s4, .ref s5])), (ho, .inr (5, f_ho)), (s1, .inl (cI, 4, .inl fs1)), (s4, .inl (cI, 4, .inl fs4)), (s5, .inl (cI, 32, .inl fs5))] sz)) 0 0 (va_A [(h0, .inr (8, [.int be, .ref s1, .ref ho, .ref ht9, .ref s4, .ref s5])), (ho, .inr (5, f_ho)), (s1, .inl (cI, 4, .inl fs1)), (s4, .inl (cI, 4, .inl fs4)), (s5, .inl (cI, 32, .inl fs5))] sz) := by
  refine Met.ofW (cc := cX8_giveFrom) (maxL := 5) (ret := none) (by decide) rfl ?_
  intro p e s m args below meth c s₁ B hml hv
  obtain ⟨rfl, hsz, hP, hK, hD0⟩ := hv
  have hx := B.exec
  have hb := B.bytes
  have hr := B.returns
  have hts := atoms_spec (ws := wsX8_giveFrom) B.pre
  have hown : s.vm.findClass RX8 = some m.cls := findClass_of_methodNamed B.named
  have hlocks := B.notSynchronized
  have hi_X5 : ∀ w ∈ u_ws RX5 TX5 13, w ∈ wsX8_giveFrom := fun _ h => List.mem_cons_of_mem _ (List.mem_append_right _ (h))
  have hi_X8 : ∀ w ∈ u_ws RX8 TX8 6, w ∈ wsX8_giveFrom := fun _ h => List.mem_cons_of_mem _ (List.mem_append_left _ (List.mem_append_right _ (h)))
  subst hsz
  have hD := hD0.self (sz := s.heap.size)
  generalize hAe : va_A [(h0, .inr (8, [.int be, .ref s1, .ref ho, .ref ht9, .ref s4, .ref s5])), (ho, .inr (5, f_ho)), (s1, .inl (cI, 4, .inl fs1)), (s4, .inl (cI, 4, .inl fs4)), (s5, .inl (cI, 32, .inl fs5))] s.heap.size = A at hD ⊢
  have hA : ∀ q : Nat, s.heap.size ≤ q → A q := fun q h => by rw [← hAe]; exact Or.inr h
  have hS : va_S A s.heap s.heap [] := va_S.rf
  have hl := lv_entry ([.ref h0, .int (nI k), .int (nI tt), .int (nI ss)]) (n := 5) (Nat.le_of_ble_eq_true rfl)
  rw [lg_entry_eq]
  generalize (lg_sl ([.ref h0, .int (nI k), .int (nI tt), .int (nI ss)]) ++ List.replicate (5 - (lg_sl ([.ref h0, .int (nI k), .int (nI tt), .int (nI ss)])).length) Slot.unset).toArray = ls at hl ⊢
  have hl : lv_has ls 5 [(0, .ref h0), (1, .int (nI k)), (2, .int (nI tt)), (3, .int (nI ss))] := hl
  refine lv_iload_n hx hb dX8_giveFrom_0 rfl (lv_at hl 1 rfl) ?_
  refine lv_aload_n hx hb dX8_giveFrom_1 rfl (lv_at hl 0 rfl) ?_
  refine va_get (D := (dC, dI)) (ci := 8) (v := .ref ho) (C := RX8) (T := TX8) (N := 6) hx hb hts hi_X8 hown hK hP 0 rfl rfl 2 (by decide) (hts (.fieldLink RX8 25 "LeftQuills$Sharing" "office" "LLeftQuills$Office;") (wmx 1 rfl)) (fun _ h9 => h9) rfl dX8_giveFrom_2 ?_
  refine va_get (D := (dC, dI)) (ci := 5) (v := .int (nI nh)) (C := RX5) (T := TX5) (N := 13) hx hb hts hi_X5 hown hK hP 1 rfl rfl 4 (by decide) (hts (.fieldLink RX8 33 "LeftQuills$Office" "hands" "I") (wmx 2 rfl)) (fun _ h9 => h9) e_ho_4 dX8_giveFrom_5 ?_
  refine lv_icmp_ge (tgt := 16) hx hb dX8_giveFrom_8 (by decide) (fun c1 => ?_) (fun c1 => ?_)
  ·
    have c1 : nh ≤ k := (nI_leI (a := nh) (b := k) (by omega) (by omega)).mp c1
    refine lv_aload_n hx hb dX8_giveFrom_16 rfl (lv_at hl 0 rfl) ?_
    refine lv_iload_n hx hb dX8_giveFrom_17 rfl (lv_at hl 3 rfl) ?_
    have hPc := hP.sub (ws' := [(h0, .inr (8, [.int be, .ref s1, .ref ho, .ref ht9, .ref s4, .ref s5])), (s1, .inl (cI, 4, .inl fs1)), (s4, .inl (cI, 4, .inl fs4))]) [0, 2, 3] rfl
    have hDc := hD.sub (ws' := [(h0, .inr (8, [.int be, .ref s1, .ref ho, .ref ht9, .ref s4, .ref s5])), (s1, .inl (cI, 4, .inl fs1)), (s4, .inl (cI, 4, .inl fs4))]) [0, 2, 3] (by decide) rfl
    have hFc := va_free (wc := [(h0, .inr (8, [.int be, .ref s1, .ref ho, .ref ht9, .ref s4, .ref s5])), (s1, .inl (cI, 4, .inl fs1)), (s4, .inl (cI, 4, .inl fs4))]) hD hS hA [0, 2, 3] rfl
    refine va_callv (va_runV (As := [.int (nI ss)]) (rest := []) ⟨hx, hb, hml, hown, hts⟩ (c_X8_keepD l dC dI cI cZ cQ h0 be s1 ho ht9 s4 s5 fs1 fs4 ss s.heap.size (by rw [hss]; exact tw_S4 hG (by omega))) (cwV 1 hts gX8_giveFrom_X8_keepIfBetter rfl rfl rfl (by decide +kernel) ⟨Nat.le_of_ble_eq_true rfl, Nat.le_of_ble_eq_true rfl⟩) ⟨fun a U g mk q => by obtain ⟨q0, q1, qP, qK, qD⟩ := q; exact ⟨q0, q1, qP, va_K.moved (u := U) (U := U.calling g mk a) (Vm.Alike.refl U.vm) qK, qD⟩, va_recv hK hP (ci := 8) (q0 := 0) rfl rfl, fun U hU hW => ⟨rfl, by rw [hU], by rw [hU]; exact hPc, va_K.moved hW.alike hK, hDc.weaken (fun _ _ _ _ => trivial)⟩⟩ rfl rfl hl.1 rfl (lv_room (Nat.le_of_ble_eq_true rfl)) dX8_giveFrom_18 ⟨Nat.le_of_ble_eq_true rfl, Nat.le_of_ble_eq_true rfl⟩) hS (fun q _ h => hFc q h) hFc (fun u3 t H1 locs ht hvm hw4 hB hz1 hk1 hS => ?_)
    obtain ⟨f5, i6, he7, he8, hP1, hD1⟩ := hB
    rw [ht] at hP1
    obtain ⟨hP, hD⟩ := va_join (wr := [(ho, .inr (5, f_ho)), (s5, .inl (cI, 32, .inl fs5))]) (w1 := [(h0, .inr (8, [.int i6, .ref s1, .ref ho, .ref ht9, .ref s4, .ref s5])), (s1, .inl (cI, 4, .inl f5)), (s4, .inl (cI, 4, .inl fs4))]) hP hD [0, 2, 3] [1, 4] rfl rfl (by decide +kernel) (by decide +kernel) hk1 hFc hP1 hD1
    clear hP1 hD1
    clear hz1 hk1 hPc hDc hFc
    generalize H1 = H at hP hS ht ⊢
    have hP : va_P (dC, dI) vwCl [(ho, .inr (5, f_ho)), (s5, .inl (cI, 32, .inl fs5)), (h0, .inr (8, [.int i6, .ref s1, .ref ho, .ref ht9, .ref s4, .ref s5])), (s1, .inl (cI, 4, .inl f5)), (s4, .inl (cI, 4, .inl fs4))] H := hP
    have hD : va_D A [(ho, .inr (5, f_ho)), (s5, .inl (cI, 32, .inl fs5)), (h0, .inr (8, [.int i6, .ref s1, .ref ho, .ref ht9, .ref s4, .ref s5])), (s1, .inl (cI, 4, .inl f5)), (s4, .inl (cI, 4, .inl fs4))] := hD
    try dsimp only at hw4
    have hP9 := hP.sub (ws' := [(h0, .inr (8, [.int i6, .ref s1, .ref ho, .ref ht9, .ref s4, .ref s5])), (ho, .inr (5, f_ho)), (s1, .inl (cI, 4, .inl f5)), (s4, .inl (cI, 4, .inl fs4)), (s5, .inl (cI, 32, .inl fs5))]) [2, 0, 3, 4, 1] rfl
    have hD9 := hD.sub (ws' := [(h0, .inr (8, [.int i6, .ref s1, .ref ho, .ref ht9, .ref s4, .ref s5])), (ho, .inr (5, f_ho)), (s1, .inl (cI, 4, .inl f5)), (s4, .inl (cI, 4, .inl fs4)), (s5, .inl (cI, 32, .inl fs5))]) [2, 0, 3, 4, 1] (by decide +kernel) rfl
    exact W.vret hx hb hr (fun t ht hW => ⟨⟨(fun _ => 0), rfl, trivial, ⟨f5, fs4, i6, (tw_keep hG (by omega) (show k = nh by omega) hBw hvd hss hq4 he7 he8), (fun i _ => rfl), by rw [ht]; exact hP9, hD9⟩⟩, hS.F ht⟩) hS.2.2 dX8_giveFrom_21
  ·
    have c1 : ¬ nh ≤ k := fun h => c1 ((nI_leI (a := nh) (b := k) (by omega) (by omega)).mpr h)
    refine lv_iload_n hx hb dX8_giveFrom_11 rfl (lv_at hl 1 rfl) ?_
    refine lv_iconst (v := 4) hx hb dX8_giveFrom_12 (by decide) ?_
    refine lv_icmp_lt (tgt := 22) hx hb dX8_giveFrom_13 (by decide) (fun c9 => ?_) (fun c9 => ?_)
    ·
      have c9 : k < 4 := (nI_ltI (a := k) (b := 4) (by omega) (by omega)).mp c9
      refine lv_iconst (v := 0) hx hb dX8_giveFrom_22 (by decide) ?_
      refine lv_istore (lv' := [(4, .int 0), (0, .ref h0), (1, .int (nI k)), (2, .int (nI tt)), (3, .int (nI ss))]) hx hb dX8_giveFrom_23 hl (by decide) rfl (fun ls hl => ?_)
      refine (fun (K : ∀ (d25 : Nat) (k25 : Nat) (f25_s1 : Nat → Int32) (f25_s4 : Nat → Int32) (i25_h0_0 : Int32) (H : Heap) (locs : List Loc) (ls : Array Slot), k25 + d25 = nq → twB nq gg nh ((8 * pw + k25) * 8 ^ (nh - (k + 1))) i25_h0_0 (twR nh f25_s1) → (∀ i, i < k → f25_s4 i = fs4 i) → va_P (dC, dI) vwCl [(h0, .inr (8, [.int i25_h0_0, .ref s1, .ref ho, .ref ht9, .ref s4, .ref s5])), (ho, .inr (5, f_ho)), (s1, .inl (cI, 4, .inl f25_s1)), (s4, .inl (cI, 4, .inl f25_s4)), (s5, .inl (cI, 32, .inl fs5))] H → va_D A [(h0, .inr (8, [.int i25_h0_0, .ref s1, .ref ho, .ref ht9, .ref s4, .ref s5])), (ho, .inr (5, f_ho)), (s1, .inl (cI, 4, .inl f25_s1)), (s4, .inl (cI, 4, .inl f25_s4)), (s5, .inl (cI, 32, .inl fs5))] → va_S A s.heap H locs → lv_has ls 5 [(4, .int (nI k25)), (0, .ref h0), (1, .int (nI k)), (2, .int (nI tt)), (3, .int (nI ss))] → W p l e _ s m _ below meth c H locs _ _ _ (F0 m 25 ls [])) => K nq 0 fs1 fs4 be _ _ _ (by omega) (tw_st (show k < nh by omega) hBw) (fun i _ => rfl) hP hD hS (lv_sub hl [0, 1, 2, 3, 4] rfl)) ?_
      intro d25
      induction d25 with
      | zero =>
        intro k25 f25_s1 f25_s4 i25_h0_0 H locs ls hk25 hv25_0 hv25_1 hP hD hS hl
        refine lv_iload hx hb dX8_giveFrom_25 (lv_at hl 0 rfl) ?_
        refine lv_aload_n hx hb dX8_giveFrom_27 rfl (lv_at hl 1 rfl) ?_
        refine va_get (D := (dC, dI)) (ci := 8) (v := .ref ho) (C := RX8) (T := TX8) (N := 6) hx hb hts hi_X8 hown hK hP 0 rfl rfl 2 (by decide) (hts (.fieldLink RX8 25 "LeftQuills$Sharing" "office" "LLeftQuills$Office;") (wmx 1 rfl)) (fun _ h9 => h9) rfl dX8_giveFrom_28 ?_
        refine va_get (D := (dC, dI)) (ci := 5) (v := .int (nI nq)) (C := RX5) (T := TX5) (N := 13) hx hb hts hi_X5 hown hK hP 1 rfl rfl 3 (by decide) (hts (.fieldLink RX8 38 "LeftQuills$Office" "quills" "I") (wmx 3 rfl)) (fun _ h9 => h9) e_ho_3 dX8_giveFrom_31 ?_
        refine lv_icmp_ge (tgt := 61) hx hb dX8_giveFrom_34 (by decide) (fun c10 => ?_) (fun c10 => ?_)
        ·
          have c10 : nq ≤ k25 := (nI_leI (a := nq) (b := k25) (by omega) (by omega)).mp c10
          have hP9 := hP.sub (ws' := [(h0, .inr (8, [.int i25_h0_0, .ref s1, .ref ho, .ref ht9, .ref s4, .ref s5])), (ho, .inr (5, f_ho)), (s1, .inl (cI, 4, .inl f25_s1)), (s4, .inl (cI, 4, .inl f25_s4)), (s5, .inl (cI, 32, .inl fs5))]) [0, 1, 2, 3, 4] rfl
          have hD9 := hD.sub (ws' := [(h0, .inr (8, [.int i25_h0_0, .ref s1, .ref ho, .ref ht9, .ref s4, .ref s5])), (ho, .inr (5, f_ho)), (s1, .inl (cI, 4, .inl f25_s1)), (s4, .inl (cI, 4, .inl f25_s4)), (s5, .inl (cI, 32, .inl fs5))]) [0, 1, 2, 3, 4] (by decide +kernel) rfl
          exact W.vret hx hb hr (fun t ht hW => ⟨⟨(fun _ => 0), rfl, trivial, ⟨f25_s1, f25_s4, i25_h0_0, (tw_end (show k < nh by omega) (show k25 = nq by omega) hnq hv25_0), hv25_1, by rw [ht]; exact hP9, hD9⟩⟩, hS.F ht⟩) hS.2.2 dX8_giveFrom_61
        ·
          have c10 : ¬ nq ≤ k25 := fun h => c10 ((nI_leI (a := nq) (b := k25) (by omega) (by omega)).mpr h)
          omega
      | succ d25 ih25 =>
        intro k25 f25_s1 f25_s4 i25_h0_0 H locs ls hk25 hv25_0 hv25_1 hP hD hS hl
        refine lv_iload hx hb dX8_giveFrom_25 (lv_at hl 0 rfl) ?_
        refine lv_aload_n hx hb dX8_giveFrom_27 rfl (lv_at hl 1 rfl) ?_
        refine va_get (D := (dC, dI)) (ci := 8) (v := .ref ho) (C := RX8) (T := TX8) (N := 6) hx hb hts hi_X8 hown hK hP 0 rfl rfl 2 (by decide) (hts (.fieldLink RX8 25 "LeftQuills$Sharing" "office" "LLeftQuills$Office;") (wmx 1 rfl)) (fun _ h9 => h9) rfl dX8_giveFrom_28 ?_
        refine va_get (D := (dC, dI)) (ci := 5) (v := .int (nI nq)) (C := RX5) (T := TX5) (N := 13) hx hb hts hi_X5 hown hK hP 1 rfl rfl 3 (by decide) (hts (.fieldLink RX8 38 "LeftQuills$Office" "quills" "I") (wmx 3 rfl)) (fun _ h9 => h9) e_ho_3 dX8_giveFrom_31 ?_
        refine lv_icmp_ge (tgt := 61) hx hb dX8_giveFrom_34 (by decide) (fun c11 => ?_) (fun c11 => ?_)
        ·
          have c11 : nq ≤ k25 := (nI_leI (a := nq) (b := k25) (by omega) (by omega)).mp c11
          omega
        ·
          have c11 : ¬ nq ≤ k25 := fun h => c11 ((nI_leI (a := nq) (b := k25) (by omega) (by omega)).mpr h)
          refine lv_iload_n hx hb dX8_giveFrom_37 rfl (lv_at hl 3 rfl) ?_
          refine lv_iconst (v := 1) hx hb dX8_giveFrom_38 (by decide) ?_
          refine lv_iload hx hb dX8_giveFrom_39 (lv_at hl 0 rfl) ?_
          refine lv_ishl hx hb dX8_giveFrom_41 ?_
          refine lv_iand hx hb dX8_giveFrom_42 ?_
          refine lv_if_ne (tgt := 55) hx hb dX8_giveFrom_43 (by decide) (fun c12 => ?_) (fun c12 => ?_)
          ·
            refine lv_iinc (v := nI (k25 + 1)) (lv' := [(4, .int (nI (k25 + 1))), (0, .ref h0), (1, .int (nI k)), (2, .int (nI tt)), (3, .int (nI ss))]) hx hb dX8_giveFrom_55 hl (k := 0) rfl ((rfl : nI k25 + Int32.ofInt 1 = nI k25 + 1).trans (nI_add k25 1)) (by decide) rfl (fun ls hl => ?_)
            refine lv_goto (tgt := 25) hx hb dX8_giveFrom_58 (by decide) ?_
            exact ih25 (k25 + 1) f25_s1 f25_s4 i25_h0_0 _ _ _ (by omega) (tw_tk (show k < nh by omega) (by omega) htt c12 hv25_0) hv25_1 hP hD hS (lv_sub hl [0, 1, 2, 3, 4] rfl)
          ·
            refine lv_aload_n hx hb dX8_giveFrom_46 rfl (lv_at hl 1 rfl) ?_
            refine lv_iload_n hx hb dX8_giveFrom_47 rfl (lv_at hl 2 rfl) ?_
            refine lv_iload hx hb dX8_giveFrom_48 (lv_at hl 0 rfl) ?_
            refine lv_iload_n hx hb dX8_giveFrom_50 rfl (lv_at hl 3 rfl) ?_
            refine lv_iload_n hx hb dX8_giveFrom_51 rfl (lv_at hl 4 rfl) ?_
            have hPc := hP.sub (ws' := [(h0, .inr (8, [.int i25_h0_0, .ref s1, .ref ho, .ref ht9, .ref s4, .ref s5])), (ho, .inr (5, f_ho)), (s1, .inl (cI, 4, .inl f25_s1)), (s4, .inl (cI, 4, .inl f25_s4)), (s5, .inl (cI, 32, .inl fs5))]) [0, 1, 2, 3, 4] rfl
            have hDc := hD.sub (ws' := [(h0, .inr (8, [.int i25_h0_0, .ref s1, .ref ho, .ref ht9, .ref s4, .ref s5])), (ho, .inr (5, f_ho)), (s1, .inl (cI, 4, .inl f25_s1)), (s4, .inl (cI, 4, .inl f25_s4)), (s5, .inl (cI, 32, .inl fs5))]) [0, 1, 2, 3, 4] (by decide) rfl
            have hFc := va_free (wc := [(h0, .inr (8, [.int i25_h0_0, .ref s1, .ref ho, .ref ht9, .ref s4, .ref s5])), (ho, .inr (5, f_ho)), (s1, .inl (cI, 4, .inl f25_s1)), (s4, .inl (cI, 4, .inl f25_s4)), (s5, .inl (cI, 32, .inl fs5))]) hD hS hA [0, 1, 2, 3, 4] rfl
            refine va_callv (va_runV (As := [.int (nI k), .int (nI k25), .int (nI tt), .int (nI ss)]) (rest := []) ⟨hx, hb, hml, hown, hts⟩ (c_X8_giveQuillD_3 l dC dI cI cZ cQ h0 i25_h0_0 s1 ho ht9 s4 s5 nq nh f_ho f25_s1 f25_s4 fs5 k k25 tt ss pw gg H.size e_ho_3 e_ho_4 (by omega) (by omega) (by omega) (by omega) (by omega) htt hss hvd (fun i hi => (hv25_1 i hi).trans (hq4 i hi)) hG hT (tw_fr (by omega) htt c12) hv25_0) (cwV 4 hts gX8_giveFrom_X8_giveQuill rfl rfl rfl (by decide +kernel) ⟨Nat.le_of_ble_eq_true rfl, Nat.le_of_ble_eq_true rfl⟩) ⟨fun a U g mk q => by obtain ⟨q0, q1, qP, qK, qD⟩ := q; exact ⟨q0, q1, qP, va_K.moved (u := U) (U := U.calling g mk a) (Vm.Alike.refl U.vm) qK, qD⟩, va_recv hK hP (ci := 8) (q0 := 0) rfl rfl, fun U hU hW => ⟨rfl, by rw [hU], by rw [hU]; exact hPc, va_K.moved hW.alike hK, hDc.weaken (fun _ _ _ _ => trivial)⟩⟩ rfl rfl hl.1 rfl (lv_room (Nat.le_of_ble_eq_true rfl)) dX8_giveFrom_52 ⟨Nat.le_of_ble_eq_true rfl, Nat.le_of_ble_eq_true rfl⟩) hS (fun q _ h => hFc q h) hFc (fun u14 t H1 locs ht hvm hw15 hB hz1 hk1 hS => ?_)
            obtain ⟨f16, f17, i18, he19, he20, hP1, hD1⟩ := hB
            rw [ht] at hP1
            obtain ⟨hP, hD⟩ := va_join (wr := []) (w1 := [(h0, .inr (8, [.int i18, .ref s1, .ref ho, .ref ht9, .ref s4, .ref s5])), (ho, .inr (5, f_ho)), (s1, .inl (cI, 4, .inl f16)), (s4, .inl (cI, 4, .inl f17)), (s5, .inl (cI, 32, .inl fs5))]) hP hD [0, 1, 2, 3, 4] [] rfl rfl (by decide +kernel) (by decide +kernel) hk1 hFc hP1 hD1
            clear hP1 hD1
            clear hz1 hk1 hPc hDc hFc
            generalize H1 = H at hP hS ht ⊢
            have hP : va_P (dC, dI) vwCl [(h0, .inr (8, [.int i18, .ref s1, .ref ho, .ref ht9, .ref s4, .ref s5])), (ho, .inr (5, f_ho)), (s1, .inl (cI, 4, .inl f16)), (s4, .inl (cI, 4, .inl f17)), (s5, .inl (cI, 32, .inl fs5))] H := hP
            have hD : va_D A [(h0, .inr (8, [.int i18, .ref s1, .ref ho, .ref ht9, .ref s4, .ref s5])), (ho, .inr (5, f_ho)), (s1, .inl (cI, 4, .inl f16)), (s4, .inl (cI, 4, .inl f17)), (s5, .inl (cI, 32, .inl fs5))] := hD
            try dsimp only at hw15
            refine lv_iinc (v := nI (k25 + 1)) (lv' := [(4, .int (nI (k25 + 1))), (0, .ref h0), (1, .int (nI k)), (2, .int (nI tt)), (3, .int (nI ss))]) hx hb dX8_giveFrom_55 hl (k := 0) rfl ((rfl : nI k25 + Int32.ofInt 1 = nI k25 + 1).trans (nI_add k25 1)) (by decide) rfl (fun ls hl => ?_)
            refine lv_goto (tgt := 25) hx hb dX8_giveFrom_58 (by decide) ?_
            exact ih25 (k25 + 1) f16 f17 i18 _ _ _ (by omega) (tw_j1 he19) (fun i hi => (he20 i hi).trans (hv25_1 i hi)) hP hD hS (lv_sub hl [0, 1, 2, 3, 4] rfl)
    ·
      have c9 : ¬ k < 4 := fun h => c9 ((nI_ltI (a := k) (b := 4) (by omega) (by omega)).mpr h)
      omega
set_option maxHeartbeats 4000000 in
set_option maxRecDepth 100000 in
theorem c_X8_giveQuillD_4 (l : Launch) (dC : Nat → ClassId) (dI : Nat → Nat → Nat) (cI cZ cQ : ClassId) (h0 : Nat) (be : Int32) (s1 : Nat) (ho : Nat) (ht9 : Nat) (s4 : Nat) (s5 : Nat) (nq : Nat) (nh : Nat) (f_ho : List Value) (fs1 : Nat → Int32) (fs4 : Nat → Int32) (fs5 : Nat → Int32) (k : Nat) (j : Nat) (tt : Nat) (ss : Nat) (pw : Nat) (gg : Nat → Nat → Nat) (sz : Nat) (e_ho_3 : f_ho[3]? = some (.int (nI nq))) (e_ho_4 : f_ho[4]? = some (.int (nI nh))) (hnq : nq ≤ 8) (hnh : nh ≤ 4) (hj : j < nq) (hk : k < nh) (hd : 4 ≤ k + 4) (htt : tt = twT k pw) (hss : ss = twS gg k pw) (hvd : twV nq k pw = true) (hq4 : ∀ i, i < k → fs4 i = nI (twD k pw i)) (hG : ∀ j k, gg j k ≤ 999) (hT : ∀ k j, k < nh → j < nq → fs5 (k * 8 + j) = nI (gg j k)) (hbit : (twT k pw).testBit j = false) (hBw : twB nq gg nh ((8 * pw + j) * 8 ^ (nh - (k + 1))) be (twR nh fs1)) : Met l yX8_giveQuill wsX8_giveQuill ({ frames := 9, cells := 0, slots := 0, locals := 229 }) (va_Pc [.ref h0, .int (nI k), .int (nI j), .int (nI tt), .int (nI ss)] (fun U => U.heap.size = sz ∧ va_P (dC, dI) vwCl [(h0, .inr (8, [.int be, .ref s1, .ref ho, .ref ht9, .ref s4, .ref s5])), (ho, .inr (5, f_ho)), (s1, .inl (cI, 4, .inl fs1)), (s4, .inl (cI, 4, .inl fs4)), (s5, .inl (cI, 32, .inl fs5))] U.heap ∧ va_K (dC, dI) vwCl (tys0 cI cZ cQ) U ∧ va_D (fun _ => True) [(h0, .inr (8, [.int be, .ref s1, .ref ho, .ref ht9, .ref s4, .ref s5])), (ho, .inr (5, f_ho)), (s1, .inl (cI, 4, .inl fs1)), (s4, .inl (cI, 4, .inl fs4)), (s5, .inl (cI, 32, .inl fs5))])) (va_Qv (fun (u : Nat → Nat) => True) (fun (_ : Nat → Nat) (t : State) => ∃ (gg0 gg1 : Nat → Int32) (ii0 : Int32) , (twB nq gg nh ((8 * pw + j + 1) * 8 ^ (nh - (k + 1))) ii0 (twR nh gg0)) ∧ (∀ i, i < k → gg1 i = fs4 i) ∧ va_P (dC, dI) vwCl [(h0, .inr (8, [.int ii0, .ref s1, .ref ho, .ref ht9, .ref s4, .ref s5])), (ho, .inr (5, f_ho)), (s1, .inl (cI, 4, .inl gg0)), (s4, .inl (cI, 4, .inl gg1)), (s5, .inl (cI, 32, .inl fs5))] t.heap ∧ va_D (va_A [(h0, .inr (8, [.int be, .ref s1, .ref ho, .ref ht9, .ref s4, .ref s5])), (ho, .inr (5, f_ho)), (s1, .inl (cI, 4, .inl fs1)), (s4, .inl (cI, 4, .inl fs4)), (s5, .inl (cI, 32, .inl fs5))] sz) [(h0, .inr (8, [.int ii0, .ref s1, .ref ho, .ref ht9, .ref s4, .ref s5])), (ho, .inr (5, f_ho)), (s1, .inl (cI, 4, .inl gg0)), (s4, .inl (cI, 4, .inl gg1)), (s5, .inl (cI, 32, .inl fs5))]) (va_A [(h0, .inr (8, [.int be, .ref s1, .ref ho, .ref ht9, .ref s4, .ref s5])), (ho, .inr (5, f_ho)), (s1, .inl (cI, 4, .inl fs1)), (s4, .inl (cI, 4, .inl fs4)), (s5, .inl (cI, 32, .inl fs5))] sz)) 0 0 (va_A [(h0, .inr (8, [.int be, .ref s1, .ref ho, .ref ht9, .ref s4, .ref s5])), (ho, .inr (5, f_ho)), (s1, .inl (cI, 4, .inl fs1)), (s4, .inl (cI, 4, .inl fs4)), (s5, .inl (cI, 32, .inl fs5))] sz) := by
  refine Met.ofW (cc := cX8_giveQuill) (maxL := 5) (ret := none) (by decide) rfl ?_
  intro p e s m args below meth c s₁ B hml hv
  obtain ⟨rfl, hsz, hP, hK, hD0⟩ := hv
  have hx := B.exec
  have hb := B.bytes
  have hr := B.returns
  have hts := atoms_spec (ws := wsX8_giveQuill) B.pre
  have hown : s.vm.findClass RX8 = some m.cls := findClass_of_methodNamed B.named
  have hlocks := B.notSynchronized
  have hi_X8 : ∀ w ∈ u_ws RX8 TX8 6, w ∈ wsX8_giveQuill := fun _ h => List.mem_cons_of_mem _ (List.mem_append_left _ (List.mem_append_right _ (h)))
  subst hsz
  have hD := hD0.self (sz := s.heap.size)
  generalize hAe : va_A [(h0, .inr (8, [.int be, .ref s1, .ref ho, .ref ht9, .ref s4, .ref s5])), (ho, .inr (5, f_ho)), (s1, .inl (cI, 4, .inl fs1)), (s4, .inl (cI, 4, .inl fs4)), (s5, .inl (cI, 32, .inl fs5))] s.heap.size = A at hD ⊢
  have hA : ∀ q : Nat, s.heap.size ≤ q → A q := fun q h => by rw [← hAe]; exact Or.inr h
  have hS : va_S A s.heap s.heap [] := va_S.rf
  have hl := lv_entry ([.ref h0, .int (nI k), .int (nI j), .int (nI tt), .int (nI ss)]) (n := 5) (Nat.le_of_ble_eq_true rfl)
  rw [lg_entry_eq]
  generalize (lg_sl ([.ref h0, .int (nI k), .int (nI j), .int (nI tt), .int (nI ss)]) ++ List.replicate (5 - (lg_sl ([.ref h0, .int (nI k), .int (nI j), .int (nI tt), .int (nI ss)])).length) Slot.unset).toArray = ls at hl ⊢
  have hl : lv_has ls 5 [(0, .ref h0), (1, .int (nI k)), (2, .int (nI j)), (3, .int (nI tt)), (4, .int (nI ss))] := hl
  refine lv_aload_n hx hb dX8_giveQuill_0 rfl (lv_at hl 0 rfl) ?_
  refine va_get (D := (dC, dI)) (ci := 8) (v := .ref s4) (C := RX8) (T := TX8) (N := 6) hx hb hts hi_X8 hown hK hP 0 rfl rfl 4 (by decide) (hts (.fieldLink RX8 19 "LeftQuills$Sharing" "quillOf" "[I") (wmx 1 rfl)) (fun _ h9 => h9) rfl dX8_giveQuill_1 ?_
  refine lv_iload_n hx hb dX8_giveQuill_4 rfl (lv_at hl 1 rfl) ?_
  refine lv_iload_n hx hb dX8_giveQuill_5 rfl (lv_at hl 2 rfl) ?_
  refine va_iast hx hb hK hP hD hS 3 0 rfl rfl (vp_in_nI (n := k) (N := 4) (by omega) (by decide)) dX8_giveQuill_6 (fun H locs hP hD hS => ?_)
  have hcl := (nI_clamp (n := k) (by omega))
  rw [hcl] at hP hD
  clear hcl
  have hP : va_P (dC, dI) vwCl [(h0, .inr (8, [.int be, .ref s1, .ref ho, .ref ht9, .ref s4, .ref s5])), (ho, .inr (5, f_ho)), (s1, .inl (cI, 4, .inl fs1)), (s4, .inl (cI, 4, .inl (upd fs4 k (nI j)))), (s5, .inl (cI, 32, .inl fs5))] H := hP
  have hD : va_D A [(h0, .inr (8, [.int be, .ref s1, .ref ho, .ref ht9, .ref s4, .ref s5])), (ho, .inr (5, f_ho)), (s1, .inl (cI, 4, .inl fs1)), (s4, .inl (cI, 4, .inl (upd fs4 k (nI j)))), (s5, .inl (cI, 32, .inl fs5))] := hD
  refine lv_aload_n hx hb dX8_giveQuill_7 rfl (lv_at hl 0 rfl) ?_
  refine lv_iload_n hx hb dX8_giveQuill_8 rfl (lv_at hl 1 rfl) ?_
  refine lv_iconst (v := 1) hx hb dX8_giveQuill_9 (by decide) ?_
  refine lv_iadd hx hb dX8_giveQuill_10 ?_
  refine lv_topi (fun z2 ez2 => ?_)
  obtain rfl : z2 = nI (k + 1) := ez2.trans (nI_add k 1)
  refine lv_iload_n hx hb dX8_giveQuill_11 rfl (lv_at hl 3 rfl) ?_
  refine lv_iconst (v := 1) hx hb dX8_giveQuill_12 (by decide) ?_
  refine lv_iload_n hx hb dX8_giveQuill_13 rfl (lv_at hl 2 rfl) ?_
  refine lv_ishl hx hb dX8_giveQuill_14 ?_
  refine lv_ior hx hb dX8_giveQuill_15 ?_
  refine lv_topi (fun z3 ez3 => ?_)
  obtain rfl : z3 = nI (tt ||| 2 ^ j) := tw_or (by omega) htt ez3
  refine lv_iload hx hb dX8_giveQuill_16 (lv_at hl 4 rfl) ?_
  refine lv_aload_n hx hb dX8_giveQuill_18 rfl (lv_at hl 0 rfl) ?_
  refine va_get (D := (dC, dI)) (ci := 8) (v := .ref s5) (C := RX8) (T := TX8) (N := 6) hx hb hts hi_X8 hown hK hP 0 rfl rfl 5 (by decide) (hts (.fieldLink RX8 22 "LeftQuills$Sharing" "good" "[I") (wmx 2 rfl)) (fun _ h9 => h9) rfl dX8_giveQuill_19 ?_
  refine lv_iload_n hx hb dX8_giveQuill_22 rfl (lv_at hl 1 rfl) ?_
  refine lv_bipush (v := 8) hx hb dX8_giveQuill_23 (by decide) ?_
  refine lv_imul hx hb dX8_giveQuill_25 ?_
  refine lv_topi (fun z4 ez4 => ?_)
  obtain rfl : z4 = nI (k * 8) := ez4.trans (pk_mul k 8)
  refine lv_iload_n hx hb dX8_giveQuill_26 rfl (lv_at hl 2 rfl) ?_
  refine lv_iadd hx hb dX8_giveQuill_27 ?_
  refine lv_topi (fun z5 ez5 => ?_)
  obtain rfl : z5 = nI ((k * 8) + j) := ez5.trans (nI_add (k * 8) j)
  refine va_iald hx hb hK hP 4 0 rfl rfl (vp_in_nI (n := (k * 8) + j) (N := 32) (by omega) (by decide)) dX8_giveQuill_28 ?_
  refine W.eq (g2 := F0 m 29 ls [.int (fs5 ((k * 8) + j)), .int (nI ss), .int (nI (tt ||| 2 ^ j)), .int (nI (k + 1)), .ref h0]) (congrArg (fun y9 => F0 m 29 ls (.int (fs5 y9) :: [.int (nI ss), .int (nI (tt ||| 2 ^ j)), .int (nI (k + 1)), .ref h0])) ((nI_clamp (n := (k * 8) + j) (by omega)))) ?_
  refine lv_iadd hx hb dX8_giveQuill_29 ?_
  refine lv_topi (fun z6 ez6 => ?_)
  obtain rfl : z6 = nI (ss + gg j k) := tw_add (hT k j (by omega) (by omega)) ez6
  have hPc := hP.sub (ws' := [(h0, .inr (8, [.int be, .ref s1, .ref ho, .ref ht9, .ref s4, .ref s5])), (ho, .inr (5, f_ho)), (s1, .inl (cI, 4, .inl fs1)), (s4, .inl (cI, 4, .inl (upd fs4 k (nI j)))), (s5, .inl (cI, 32, .inl fs5))]) [0, 1, 2, 3, 4] rfl
  have hDc := hD.sub (ws' := [(h0, .inr (8, [.int be, .ref s1, .ref ho, .ref ht9, .ref s4, .ref s5])), (ho, .inr (5, f_ho)), (s1, .inl (cI, 4, .inl fs1)), (s4, .inl (cI, 4, .inl (upd fs4 k (nI j)))), (s5, .inl (cI, 32, .inl fs5))]) [0, 1, 2, 3, 4] (by decide) rfl
  have hFc := va_free (wc := [(h0, .inr (8, [.int be, .ref s1, .ref ho, .ref ht9, .ref s4, .ref s5])), (ho, .inr (5, f_ho)), (s1, .inl (cI, 4, .inl fs1)), (s4, .inl (cI, 4, .inl (upd fs4 k (nI j)))), (s5, .inl (cI, 32, .inl fs5))]) hD hS hA [0, 1, 2, 3, 4] rfl
  refine va_callv (va_runV (As := [.int (nI (k + 1)), .int (nI (tt ||| 2 ^ j)), .int (nI (ss + gg j k))]) (rest := []) ⟨hx, hb, hml, hown, hts⟩ (c_X8_giveFromD_3 l dC dI cI cZ cQ h0 be s1 ho ht9 s4 s5 nq nh f_ho fs1 (upd fs4 k (nI j)) fs5 (k + 1) (tt ||| 2 ^ j) (ss + gg j k) (8 * pw + j) gg H.size e_ho_3 e_ho_4 (by omega) (by omega) (by omega) (by omega) (tw_tt (by omega) htt) (tw_ss (by omega) hss) ((tw_Vx (by omega)).mpr ⟨hvd, hj, hbit⟩) (tw_q4 (by omega) hq4) hG hT hBw) (cwV 3 hts gX8_giveQuill_X8_giveFrom rfl rfl rfl (by decide +kernel) ⟨Nat.le_of_ble_eq_true rfl, Nat.le_of_ble_eq_true rfl⟩) ⟨fun a U g mk q => by obtain ⟨q0, q1, qP, qK, qD⟩ := q; exact ⟨q0, q1, qP, va_K.moved (u := U) (U := U.calling g mk a) (Vm.Alike.refl U.vm) qK, qD⟩, va_recv hK hP (ci := 8) (q0 := 0) rfl rfl, fun U hU hW => ⟨rfl, by rw [hU], by rw [hU]; exact hPc, va_K.moved hW.alike hK, hDc.weaken (fun _ _ _ _ => trivial)⟩⟩ rfl rfl hl.1 rfl (lv_room (Nat.le_of_ble_eq_true rfl)) dX8_giveQuill_30 ⟨Nat.le_of_ble_eq_true rfl, Nat.le_of_ble_eq_true rfl⟩) hS (fun q _ h => hFc q h) hFc (fun u8 t H1 locs ht hvm hw9 hB hz1 hk1 hS => ?_)
  obtain ⟨f10, f11, i12, he13, he14, hP1, hD1⟩ := hB
  rw [ht] at hP1
  obtain ⟨hP, hD⟩ := va_join (wr := []) (w1 := [(h0, .inr (8, [.int i12, .ref s1, .ref ho, .ref ht9, .ref s4, .ref s5])), (ho, .inr (5, f_ho)), (s1, .inl (cI, 4, .inl f10)), (s4, .inl (cI, 4, .inl f11)), (s5, .inl (cI, 32, .inl fs5))]) hP hD [0, 1, 2, 3, 4] [] rfl rfl (by decide +kernel) (by decide +kernel) hk1 hFc hP1 hD1
  clear hP1 hD1
  clear hz1 hk1 hPc hDc hFc
  generalize H1 = H at hP hS ht ⊢
  have hP : va_P (dC, dI) vwCl [(h0, .inr (8, [.int i12, .ref s1, .ref ho, .ref ht9, .ref s4, .ref s5])), (ho, .inr (5, f_ho)), (s1, .inl (cI, 4, .inl f10)), (s4, .inl (cI, 4, .inl f11)), (s5, .inl (cI, 32, .inl fs5))] H := hP
  have hD : va_D A [(h0, .inr (8, [.int i12, .ref s1, .ref ho, .ref ht9, .ref s4, .ref s5])), (ho, .inr (5, f_ho)), (s1, .inl (cI, 4, .inl f10)), (s4, .inl (cI, 4, .inl f11)), (s5, .inl (cI, 32, .inl fs5))] := hD
  try dsimp only at hw9
  have hP9 := hP.sub (ws' := [(h0, .inr (8, [.int i12, .ref s1, .ref ho, .ref ht9, .ref s4, .ref s5])), (ho, .inr (5, f_ho)), (s1, .inl (cI, 4, .inl f10)), (s4, .inl (cI, 4, .inl f11)), (s5, .inl (cI, 32, .inl fs5))]) [0, 1, 2, 3, 4] rfl
  have hD9 := hD.sub (ws' := [(h0, .inr (8, [.int i12, .ref s1, .ref ho, .ref ht9, .ref s4, .ref s5])), (ho, .inr (5, f_ho)), (s1, .inl (cI, 4, .inl f10)), (s4, .inl (cI, 4, .inl f11)), (s5, .inl (cI, 32, .inl fs5))]) [0, 1, 2, 3, 4] (by decide +kernel) rfl
  exact W.vret hx hb hr (fun t ht hW => ⟨⟨(fun _ => 0), rfl, trivial, ⟨f10, f11, i12, he13, (fun i hi => (he14 i (by omega)).trans (pk_un (by omega))), by rw [ht]; exact hP9, hD9⟩⟩, hS.F ht⟩) hS.2.2 dX8_giveQuill_33
set_option maxHeartbeats 4000000 in
set_option maxRecDepth 100000 in
theorem c_X8_giveFromD_4 (l : Launch) (dC : Nat → ClassId) (dI : Nat → Nat → Nat) (cI cZ cQ : ClassId) (h0 : Nat) (be : Int32) (s1 : Nat) (ho : Nat) (ht9 : Nat) (s4 : Nat) (s5 : Nat) (nq : Nat) (nh : Nat) (f_ho : List Value) (fs1 : Nat → Int32) (fs4 : Nat → Int32) (fs5 : Nat → Int32) (k : Nat) (tt : Nat) (ss : Nat) (pw : Nat) (gg : Nat → Nat → Nat) (sz : Nat) (e_ho_3 : f_ho[3]? = some (.int (nI nq))) (e_ho_4 : f_ho[4]? = some (.int (nI nh))) (hnq : nq ≤ 8) (hnh : nh ≤ 4) (hk : k ≤ nh) (hd : 4 ≤ k + 4) (htt : tt = twT k pw) (hss : ss = twS gg k pw) (hvd : twV nq k pw = true) (hq4 : ∀ i, i < k → fs4 i = nI (twD k pw i)) (hG : ∀ j k, gg j k ≤ 999) (hT : ∀ k j, k < nh → j < nq → fs5 (k * 8 + j) = nI (gg j k)) (hBw : twB nq gg nh (pw * 8 ^ (nh - k)) be (twR nh fs1)) : Met l yX8_giveFrom wsX8_giveFrom ({ frames := 10, cells := 0, slots := 0, locals := 253 }) (va_Pc [.ref h0, .int (nI k), .int (nI tt), .int (nI ss)] (fun U => U.heap.size = sz ∧ va_P (dC, dI) vwCl [(h0, .inr (8, [.int be, .ref s1, .ref ho, .ref ht9, .ref s4, .ref s5])), (ho, .inr (5, f_ho)), (s1, .inl (cI, 4, .inl fs1)), (s4, .inl (cI, 4, .inl fs4)), (s5, .inl (cI, 32, .inl fs5))] U.heap ∧ va_K (dC, dI) vwCl (tys0 cI cZ cQ) U ∧ va_D (fun _ => True) [(h0, .inr (8, [.int be, .ref s1, .ref ho, .ref ht9, .ref s4, .ref s5])), (ho, .inr (5, f_ho)), (s1, .inl (cI, 4, .inl fs1)), (s4, .inl (cI, 4, .inl fs4)), (s5, .inl (cI, 32, .inl fs5))])) (va_Qv (fun (u : Nat → Nat) => True) (fun (_ : Nat → Nat) (t : State) => ∃ (gg0 gg1 : Nat → Int32) (ii0 : Int32) , (twB nq gg nh ((pw + 1) * 8 ^ (nh - k)) ii0 (twR nh gg0)) ∧ (∀ i, i < k → gg1 i = fs4 i) ∧ va_P (dC, dI) vwCl [(h0, .inr (8, [.int ii0, .ref s1, .ref ho, .ref ht9, .ref s4, .ref s5])), (ho, .inr (5, f_ho)), (s1, .inl (cI, 4, .inl gg0)), (s4, .inl (cI, 4, .inl gg1)), (s5, .inl (cI, 32, .inl fs5))] t.heap ∧ va_D (va_A [(h0, .inr (8, [.int be, .ref s1, .ref ho, .ref ht9, .ref s4, .ref s5])), (ho, .inr (5, f_ho)), (s1, .inl (cI, 4, .inl fs1)), (s4, .inl (cI, 4, .inl fs4)), (s5, .inl (cI, 32, .inl fs5))] sz) [(h0, .inr (8, [.int ii0, .ref s1, .ref ho, .ref ht9, .ref s4, .ref s5])), (ho, .inr (5, f_ho)), (s1, .inl (cI, 4, .inl gg0)), (s4, .inl (cI, 4, .inl gg1)), (s5, .inl (cI, 32, .inl fs5))]) (va_A [(h0, .inr (8, [.int be, .ref s1, .ref ho, .ref ht9, .ref s4, .ref s5])), (ho, .inr (5, f_ho)), (s1, .inl (cI, 4, .inl fs1)), (s4, .inl (cI, 4, .inl fs4)), (s5, .inl (cI, 32, .inl fs5))] sz)) 0 0 (va_A [(h0, .inr (8, [.int be, .ref s1, .ref ho, .ref ht9, .ref s4, .ref s5])), (ho, .inr (5, f_ho)), (s1, .inl (cI, 4, .inl fs1)), (s4, .inl (cI, 4, .inl fs4)), (s5, .inl (cI, 32, .inl fs5))] sz) := by
  refine Met.ofW (cc := cX8_giveFrom) (maxL := 5) (ret := none) (by decide) rfl ?_
  intro p e s m args below meth c s₁ B hml hv
  obtain ⟨rfl, hsz, hP, hK, hD0⟩ := hv
  have hx := B.exec
  have hb := B.bytes
  have hr := B.returns
  have hts := atoms_spec (ws := wsX8_giveFrom) B.pre
  have hown : s.vm.findClass RX8 = some m.cls := findClass_of_methodNamed B.named
  have hlocks := B.notSynchronized
  have hi_X5 : ∀ w ∈ u_ws RX5 TX5 13, w ∈ wsX8_giveFrom := fun _ h => List.mem_cons_of_mem _ (List.mem_append_right _ (h))
  have hi_X8 : ∀ w ∈ u_ws RX8 TX8 6, w ∈ wsX8_giveFrom := fun _ h => List.mem_cons_of_mem _ (List.mem_append_left _ (List.mem_append_right _ (h)))
  subst hsz
  have hD := hD0.self (sz := s.heap.size)
  generalize hAe : va_A [(h0, .inr (8, [.int be, .ref s1, .ref ho, .ref ht9, .ref s4, .ref s5])), (ho, .inr (5, f_ho)), (s1, .inl (cI, 4, .inl fs1)), (s4, .inl (cI, 4, .inl fs4)), (s5, .inl (cI, 32, .inl fs5))] s.heap.size = A at hD ⊢
  have hA : ∀ q : Nat, s.heap.size ≤ q → A q := fun q h => by rw [← hAe]; exact Or.inr h
  have hS : va_S A s.heap s.heap [] := va_S.rf
  have hl := lv_entry ([.ref h0, .int (nI k), .int (nI tt), .int (nI ss)]) (n := 5) (Nat.le_of_ble_eq_true rfl)
  rw [lg_entry_eq]
  generalize (lg_sl ([.ref h0, .int (nI k), .int (nI tt), .int (nI ss)]) ++ List.replicate (5 - (lg_sl ([.ref h0, .int (nI k), .int (nI tt), .int (nI ss)])).length) Slot.unset).toArray = ls at hl ⊢
  have hl : lv_has ls 5 [(0, .ref h0), (1, .int (nI k)), (2, .int (nI tt)), (3, .int (nI ss))] := hl
  refine lv_iload_n hx hb dX8_giveFrom_0 rfl (lv_at hl 1 rfl) ?_
  refine lv_aload_n hx hb dX8_giveFrom_1 rfl (lv_at hl 0 rfl) ?_
  refine va_get (D := (dC, dI)) (ci := 8) (v := .ref ho) (C := RX8) (T := TX8) (N := 6) hx hb hts hi_X8 hown hK hP 0 rfl rfl 2 (by decide) (hts (.fieldLink RX8 25 "LeftQuills$Sharing" "office" "LLeftQuills$Office;") (wmx 1 rfl)) (fun _ h9 => h9) rfl dX8_giveFrom_2 ?_
  refine va_get (D := (dC, dI)) (ci := 5) (v := .int (nI nh)) (C := RX5) (T := TX5) (N := 13) hx hb hts hi_X5 hown hK hP 1 rfl rfl 4 (by decide) (hts (.fieldLink RX8 33 "LeftQuills$Office" "hands" "I") (wmx 2 rfl)) (fun _ h9 => h9) e_ho_4 dX8_giveFrom_5 ?_
  refine lv_icmp_ge (tgt := 16) hx hb dX8_giveFrom_8 (by decide) (fun c1 => ?_) (fun c1 => ?_)
  ·
    have c1 : nh ≤ k := (nI_leI (a := nh) (b := k) (by omega) (by omega)).mp c1
    refine lv_aload_n hx hb dX8_giveFrom_16 rfl (lv_at hl 0 rfl) ?_
    refine lv_iload_n hx hb dX8_giveFrom_17 rfl (lv_at hl 3 rfl) ?_
    have hPc := hP.sub (ws' := [(h0, .inr (8, [.int be, .ref s1, .ref ho, .ref ht9, .ref s4, .ref s5])), (s1, .inl (cI, 4, .inl fs1)), (s4, .inl (cI, 4, .inl fs4))]) [0, 2, 3] rfl
    have hDc := hD.sub (ws' := [(h0, .inr (8, [.int be, .ref s1, .ref ho, .ref ht9, .ref s4, .ref s5])), (s1, .inl (cI, 4, .inl fs1)), (s4, .inl (cI, 4, .inl fs4))]) [0, 2, 3] (by decide) rfl
    have hFc := va_free (wc := [(h0, .inr (8, [.int be, .ref s1, .ref ho, .ref ht9, .ref s4, .ref s5])), (s1, .inl (cI, 4, .inl fs1)), (s4, .inl (cI, 4, .inl fs4))]) hD hS hA [0, 2, 3] rfl
    refine va_callv (va_runV (As := [.int (nI ss)]) (rest := []) ⟨hx, hb, hml, hown, hts⟩ (c_X8_keepD l dC dI cI cZ cQ h0 be s1 ho ht9 s4 s5 fs1 fs4 ss s.heap.size (by rw [hss]; exact tw_S4 hG (by omega))) (cwV 1 hts gX8_giveFrom_X8_keepIfBetter rfl rfl rfl (by decide +kernel) ⟨Nat.le_of_ble_eq_true rfl, Nat.le_of_ble_eq_true rfl⟩) ⟨fun a U g mk q => by obtain ⟨q0, q1, qP, qK, qD⟩ := q; exact ⟨q0, q1, qP, va_K.moved (u := U) (U := U.calling g mk a) (Vm.Alike.refl U.vm) qK, qD⟩, va_recv hK hP (ci := 8) (q0 := 0) rfl rfl, fun U hU hW => ⟨rfl, by rw [hU], by rw [hU]; exact hPc, va_K.moved hW.alike hK, hDc.weaken (fun _ _ _ _ => trivial)⟩⟩ rfl rfl hl.1 rfl (lv_room (Nat.le_of_ble_eq_true rfl)) dX8_giveFrom_18 ⟨Nat.le_of_ble_eq_true rfl, Nat.le_of_ble_eq_true rfl⟩) hS (fun q _ h => hFc q h) hFc (fun u3 t H1 locs ht hvm hw4 hB hz1 hk1 hS => ?_)
    obtain ⟨f5, i6, he7, he8, hP1, hD1⟩ := hB
    rw [ht] at hP1
    obtain ⟨hP, hD⟩ := va_join (wr := [(ho, .inr (5, f_ho)), (s5, .inl (cI, 32, .inl fs5))]) (w1 := [(h0, .inr (8, [.int i6, .ref s1, .ref ho, .ref ht9, .ref s4, .ref s5])), (s1, .inl (cI, 4, .inl f5)), (s4, .inl (cI, 4, .inl fs4))]) hP hD [0, 2, 3] [1, 4] rfl rfl (by decide +kernel) (by decide +kernel) hk1 hFc hP1 hD1
    clear hP1 hD1
    clear hz1 hk1 hPc hDc hFc
    generalize H1 = H at hP hS ht ⊢
    have hP : va_P (dC, dI) vwCl [(ho, .inr (5, f_ho)), (s5, .inl (cI, 32, .inl fs5)), (h0, .inr (8, [.int i6, .ref s1, .ref ho, .ref ht9, .ref s4, .ref s5])), (s1, .inl (cI, 4, .inl f5)), (s4, .inl (cI, 4, .inl fs4))] H := hP
    have hD : va_D A [(ho, .inr (5, f_ho)), (s5, .inl (cI, 32, .inl fs5)), (h0, .inr (8, [.int i6, .ref s1, .ref ho, .ref ht9, .ref s4, .ref s5])), (s1, .inl (cI, 4, .inl f5)), (s4, .inl (cI, 4, .inl fs4))] := hD
    try dsimp only at hw4
    have hP9 := hP.sub (ws' := [(h0, .inr (8, [.int i6, .ref s1, .ref ho, .ref ht9, .ref s4, .ref s5])), (ho, .inr (5, f_ho)), (s1, .inl (cI, 4, .inl f5)), (s4, .inl (cI, 4, .inl fs4)), (s5, .inl (cI, 32, .inl fs5))]) [2, 0, 3, 4, 1] rfl
    have hD9 := hD.sub (ws' := [(h0, .inr (8, [.int i6, .ref s1, .ref ho, .ref ht9, .ref s4, .ref s5])), (ho, .inr (5, f_ho)), (s1, .inl (cI, 4, .inl f5)), (s4, .inl (cI, 4, .inl fs4)), (s5, .inl (cI, 32, .inl fs5))]) [2, 0, 3, 4, 1] (by decide +kernel) rfl
    exact W.vret hx hb hr (fun t ht hW => ⟨⟨(fun _ => 0), rfl, trivial, ⟨f5, fs4, i6, (tw_keep hG (by omega) (show k = nh by omega) hBw hvd hss hq4 he7 he8), (fun i _ => rfl), by rw [ht]; exact hP9, hD9⟩⟩, hS.F ht⟩) hS.2.2 dX8_giveFrom_21
  ·
    have c1 : ¬ nh ≤ k := fun h => c1 ((nI_leI (a := nh) (b := k) (by omega) (by omega)).mpr h)
    refine lv_iload_n hx hb dX8_giveFrom_11 rfl (lv_at hl 1 rfl) ?_
    refine lv_iconst (v := 4) hx hb dX8_giveFrom_12 (by decide) ?_
    refine lv_icmp_lt (tgt := 22) hx hb dX8_giveFrom_13 (by decide) (fun c9 => ?_) (fun c9 => ?_)
    ·
      have c9 : k < 4 := (nI_ltI (a := k) (b := 4) (by omega) (by omega)).mp c9
      refine lv_iconst (v := 0) hx hb dX8_giveFrom_22 (by decide) ?_
      refine lv_istore (lv' := [(4, .int 0), (0, .ref h0), (1, .int (nI k)), (2, .int (nI tt)), (3, .int (nI ss))]) hx hb dX8_giveFrom_23 hl (by decide) rfl (fun ls hl => ?_)
      refine (fun (K : ∀ (d25 : Nat) (k25 : Nat) (f25_s1 : Nat → Int32) (f25_s4 : Nat → Int32) (i25_h0_0 : Int32) (H : Heap) (locs : List Loc) (ls : Array Slot), k25 + d25 = nq → twB nq gg nh ((8 * pw + k25) * 8 ^ (nh - (k + 1))) i25_h0_0 (twR nh f25_s1) → (∀ i, i < k → f25_s4 i = fs4 i) → va_P (dC, dI) vwCl [(h0, .inr (8, [.int i25_h0_0, .ref s1, .ref ho, .ref ht9, .ref s4, .ref s5])), (ho, .inr (5, f_ho)), (s1, .inl (cI, 4, .inl f25_s1)), (s4, .inl (cI, 4, .inl f25_s4)), (s5, .inl (cI, 32, .inl fs5))] H → va_D A [(h0, .inr (8, [.int i25_h0_0, .ref s1, .ref ho, .ref ht9, .ref s4, .ref s5])), (ho, .inr (5, f_ho)), (s1, .inl (cI, 4, .inl f25_s1)), (s4, .inl (cI, 4, .inl f25_s4)), (s5, .inl (cI, 32, .inl fs5))] → va_S A s.heap H locs → lv_has ls 5 [(4, .int (nI k25)), (0, .ref h0), (1, .int (nI k)), (2, .int (nI tt)), (3, .int (nI ss))] → W p l e _ s m _ below meth c H locs _ _ _ (F0 m 25 ls [])) => K nq 0 fs1 fs4 be _ _ _ (by omega) (tw_st (show k < nh by omega) hBw) (fun i _ => rfl) hP hD hS (lv_sub hl [0, 1, 2, 3, 4] rfl)) ?_
      intro d25
      induction d25 with
      | zero =>
        intro k25 f25_s1 f25_s4 i25_h0_0 H locs ls hk25 hv25_0 hv25_1 hP hD hS hl
        refine lv_iload hx hb dX8_giveFrom_25 (lv_at hl 0 rfl) ?_
        refine lv_aload_n hx hb dX8_giveFrom_27 rfl (lv_at hl 1 rfl) ?_
        refine va_get (D := (dC, dI)) (ci := 8) (v := .ref ho) (C := RX8) (T := TX8) (N := 6) hx hb hts hi_X8 hown hK hP 0 rfl rfl 2 (by decide) (hts (.fieldLink RX8 25 "LeftQuills$Sharing" "office" "LLeftQuills$Office;") (wmx 1 rfl)) (fun _ h9 => h9) rfl dX8_giveFrom_28 ?_
        refine va_get (D := (dC, dI)) (ci := 5) (v := .int (nI nq)) (C := RX5) (T := TX5) (N := 13) hx hb hts hi_X5 hown hK hP 1 rfl rfl 3 (by decide) (hts (.fieldLink RX8 38 "LeftQuills$Office" "quills" "I") (wmx 3 rfl)) (fun _ h9 => h9) e_ho_3 dX8_giveFrom_31 ?_
        refine lv_icmp_ge (tgt := 61) hx hb dX8_giveFrom_34 (by decide) (fun c10 => ?_) (fun c10 => ?_)
        ·
          have c10 : nq ≤ k25 := (nI_leI (a := nq) (b := k25) (by omega) (by omega)).mp c10
          have hP9 := hP.sub (ws' := [(h0, .inr (8, [.int i25_h0_0, .ref s1, .ref ho, .ref ht9, .ref s4, .ref s5])), (ho, .inr (5, f_ho)), (s1, .inl (cI, 4, .inl f25_s1)), (s4, .inl (cI, 4, .inl f25_s4)), (s5, .inl (cI, 32, .inl fs5))]) [0, 1, 2, 3, 4] rfl
          have hD9 := hD.sub (ws' := [(h0, .inr (8, [.int i25_h0_0, .ref s1, .ref ho, .ref ht9, .ref s4, .ref s5])), (ho, .inr (5, f_ho)), (s1, .inl (cI, 4, .inl f25_s1)), (s4, .inl (cI, 4, .inl f25_s4)), (s5, .inl (cI, 32, .inl fs5))]) [0, 1, 2, 3, 4] (by decide +kernel) rfl
          exact W.vret hx hb hr (fun t ht hW => ⟨⟨(fun _ => 0), rfl, trivial, ⟨f25_s1, f25_s4, i25_h0_0, (tw_end (show k < nh by omega) (show k25 = nq by omega) hnq hv25_0), hv25_1, by rw [ht]; exact hP9, hD9⟩⟩, hS.F ht⟩) hS.2.2 dX8_giveFrom_61
        ·
          have c10 : ¬ nq ≤ k25 := fun h => c10 ((nI_leI (a := nq) (b := k25) (by omega) (by omega)).mpr h)
          omega
      | succ d25 ih25 =>
        intro k25 f25_s1 f25_s4 i25_h0_0 H locs ls hk25 hv25_0 hv25_1 hP hD hS hl
        refine lv_iload hx hb dX8_giveFrom_25 (lv_at hl 0 rfl) ?_
        refine lv_aload_n hx hb dX8_giveFrom_27 rfl (lv_at hl 1 rfl) ?_
        refine va_get (D := (dC, dI)) (ci := 8) (v := .ref ho) (C := RX8) (T := TX8) (N := 6) hx hb hts hi_X8 hown hK hP 0 rfl rfl 2 (by decide) (hts (.fieldLink RX8 25 "LeftQuills$Sharing" "office" "LLeftQuills$Office;") (wmx 1 rfl)) (fun _ h9 => h9) rfl dX8_giveFrom_28 ?_
        refine va_get (D := (dC, dI)) (ci := 5) (v := .int (nI nq)) (C := RX5) (T := TX5) (N := 13) hx hb hts hi_X5 hown hK hP 1 rfl rfl 3 (by decide) (hts (.fieldLink RX8 38 "LeftQuills$Office" "quills" "I") (wmx 3 rfl)) (fun _ h9 => h9) e_ho_3 dX8_giveFrom_31 ?_
        refine lv_icmp_ge (tgt := 61) hx hb dX8_giveFrom_34 (by decide) (fun c11 => ?_) (fun c11 => ?_)
        ·
          have c11 : nq ≤ k25 := (nI_leI (a := nq) (b := k25) (by omega) (by omega)).mp c11
          omega
        ·
          have c11 : ¬ nq ≤ k25 := fun h => c11 ((nI_leI (a := nq) (b := k25) (by omega) (by omega)).mpr h)
          refine lv_iload_n hx hb dX8_giveFrom_37 rfl (lv_at hl 3 rfl) ?_
          refine lv_iconst (v := 1) hx hb dX8_giveFrom_38 (by decide) ?_
          refine lv_iload hx hb dX8_giveFrom_39 (lv_at hl 0 rfl) ?_
          refine lv_ishl hx hb dX8_giveFrom_41 ?_
          refine lv_iand hx hb dX8_giveFrom_42 ?_
          refine lv_if_ne (tgt := 55) hx hb dX8_giveFrom_43 (by decide) (fun c12 => ?_) (fun c12 => ?_)
          ·
            refine lv_iinc (v := nI (k25 + 1)) (lv' := [(4, .int (nI (k25 + 1))), (0, .ref h0), (1, .int (nI k)), (2, .int (nI tt)), (3, .int (nI ss))]) hx hb dX8_giveFrom_55 hl (k := 0) rfl ((rfl : nI k25 + Int32.ofInt 1 = nI k25 + 1).trans (nI_add k25 1)) (by decide) rfl (fun ls hl => ?_)
            refine lv_goto (tgt := 25) hx hb dX8_giveFrom_58 (by decide) ?_
            exact ih25 (k25 + 1) f25_s1 f25_s4 i25_h0_0 _ _ _ (by omega) (tw_tk (show k < nh by omega) (by omega) htt c12 hv25_0) hv25_1 hP hD hS (lv_sub hl [0, 1, 2, 3, 4] rfl)
          ·
            refine lv_aload_n hx hb dX8_giveFrom_46 rfl (lv_at hl 1 rfl) ?_
            refine lv_iload_n hx hb dX8_giveFrom_47 rfl (lv_at hl 2 rfl) ?_
            refine lv_iload hx hb dX8_giveFrom_48 (lv_at hl 0 rfl) ?_
            refine lv_iload_n hx hb dX8_giveFrom_50 rfl (lv_at hl 3 rfl) ?_
            refine lv_iload_n hx hb dX8_giveFrom_51 rfl (lv_at hl 4 rfl) ?_
            have hPc := hP.sub (ws' := [(h0, .inr (8, [.int i25_h0_0, .ref s1, .ref ho, .ref ht9, .ref s4, .ref s5])), (ho, .inr (5, f_ho)), (s1, .inl (cI, 4, .inl f25_s1)), (s4, .inl (cI, 4, .inl f25_s4)), (s5, .inl (cI, 32, .inl fs5))]) [0, 1, 2, 3, 4] rfl
            have hDc := hD.sub (ws' := [(h0, .inr (8, [.int i25_h0_0, .ref s1, .ref ho, .ref ht9, .ref s4, .ref s5])), (ho, .inr (5, f_ho)), (s1, .inl (cI, 4, .inl f25_s1)), (s4, .inl (cI, 4, .inl f25_s4)), (s5, .inl (cI, 32, .inl fs5))]) [0, 1, 2, 3, 4] (by decide) rfl
            have hFc := va_free (wc := [(h0, .inr (8, [.int i25_h0_0, .ref s1, .ref ho, .ref ht9, .ref s4, .ref s5])), (ho, .inr (5, f_ho)), (s1, .inl (cI, 4, .inl f25_s1)), (s4, .inl (cI, 4, .inl f25_s4)), (s5, .inl (cI, 32, .inl fs5))]) hD hS hA [0, 1, 2, 3, 4] rfl
            refine va_callv (va_runV (As := [.int (nI k), .int (nI k25), .int (nI tt), .int (nI ss)]) (rest := []) ⟨hx, hb, hml, hown, hts⟩ (c_X8_giveQuillD_4 l dC dI cI cZ cQ h0 i25_h0_0 s1 ho ht9 s4 s5 nq nh f_ho f25_s1 f25_s4 fs5 k k25 tt ss pw gg H.size e_ho_3 e_ho_4 (by omega) (by omega) (by omega) (by omega) (by omega) htt hss hvd (fun i hi => (hv25_1 i hi).trans (hq4 i hi)) hG hT (tw_fr (by omega) htt c12) hv25_0) (cwV 4 hts gX8_giveFrom_X8_giveQuill rfl rfl rfl (by decide +kernel) ⟨Nat.le_of_ble_eq_true rfl, Nat.le_of_ble_eq_true rfl⟩) ⟨fun a U g mk q => by obtain ⟨q0, q1, qP, qK, qD⟩ := q; exact ⟨q0, q1, qP, va_K.moved (u := U) (U := U.calling g mk a) (Vm.Alike.refl U.vm) qK, qD⟩, va_recv hK hP (ci := 8) (q0 := 0) rfl rfl, fun U hU hW => ⟨rfl, by rw [hU], by rw [hU]; exact hPc, va_K.moved hW.alike hK, hDc.weaken (fun _ _ _ _ => trivial)⟩⟩ rfl rfl hl.1 rfl (lv_room (Nat.le_of_ble_eq_true rfl)) dX8_giveFrom_52 ⟨Nat.le_of_ble_eq_true rfl, Nat.le_of_ble_eq_true rfl⟩) hS (fun q _ h => hFc q h) hFc (fun u14 t H1 locs ht hvm hw15 hB hz1 hk1 hS => ?_)
            obtain ⟨f16, f17, i18, he19, he20, hP1, hD1⟩ := hB
            rw [ht] at hP1
            obtain ⟨hP, hD⟩ := va_join (wr := []) (w1 := [(h0, .inr (8, [.int i18, .ref s1, .ref ho, .ref ht9, .ref s4, .ref s5])), (ho, .inr (5, f_ho)), (s1, .inl (cI, 4, .inl f16)), (s4, .inl (cI, 4, .inl f17)), (s5, .inl (cI, 32, .inl fs5))]) hP hD [0, 1, 2, 3, 4] [] rfl rfl (by decide +kernel) (by decide +kernel) hk1 hFc hP1 hD1
            clear hP1 hD1
            clear hz1 hk1 hPc hDc hFc
            generalize H1 = H at hP hS ht ⊢
            have hP : va_P (dC, dI) vwCl [(h0, .inr (8, [.int i18, .ref s1, .ref ho, .ref ht9, .ref s4, .ref s5])), (ho, .inr (5, f_ho)), (s1, .inl (cI, 4, .inl f16)), (s4, .inl (cI, 4, .inl f17)), (s5, .inl (cI, 32, .inl fs5))] H := hP
            have hD : va_D A [(h0, .inr (8, [.int i18, .ref s1, .ref ho, .ref ht9, .ref s4, .ref s5])), (ho, .inr (5, f_ho)), (s1, .inl (cI, 4, .inl f16)), (s4, .inl (cI, 4, .inl f17)), (s5, .inl (cI, 32, .inl fs5))] := hD
            try dsimp only at hw15
            refine lv_iinc (v := nI (k25 + 1)) (lv' := [(4, .int (nI (k25 + 1))), (0, .ref h0), (1, .int (nI k)), (2, .int (nI tt)), (3, .int (nI ss))]) hx hb dX8_giveFrom_55 hl (k := 0) rfl ((rfl : nI k25 + Int32.ofInt 1 = nI k25 + 1).trans (nI_add k25 1)) (by decide) rfl (fun ls hl => ?_)
            refine lv_goto (tgt := 25) hx hb dX8_giveFrom_58 (by decide) ?_
            exact ih25 (k25 + 1) f16 f17 i18 _ _ _ (by omega) (tw_j1 he19) (fun i hi => (he20 i hi).trans (hv25_1 i hi)) hP hD hS (lv_sub hl [0, 1, 2, 3, 4] rfl)
    ·
      have c9 : ¬ k < 4 := fun h => c9 ((nI_ltI (a := k) (b := 4) (by omega) (by omega)).mpr h)
      omega
set_option maxHeartbeats 4000000 in
set_option maxRecDepth 100000 in
theorem c_X8_findD (l : Launch) (dC : Nat → ClassId) (dI : Nat → Nat → Nat) (cI cZ cQ : ClassId) (h0 : Nat) (be : Int32) (s1 : Nat) (ho : Nat) (ht9 : Nat) (s4 : Nat) (s5 : Nat) (o5 : Nat) (o6 : Nat) (o7 : Nat) (o10 : Nat) (o11 : Nat) (o12 : Nat) (nq : Nat) (nh : Nat) (f_ho : List Value) (hd : Nat) (f_ht9 : List Value) (a3 : Nat) (a4 : Nat) (f_hd : List Value) (fs1 : Nat → Int32) (fs4 : Nat → Int32) (fs5 : Nat → Int32) (fa3 : Nat → Int32) (fa4 : Nat → Int32) (fo5 : Nat → Int32) (fo6 : Nat → Int32) (fo7 : Nat → Int32) (fo10 : Nat → Int32) (fo11 : Nat → Int32) (fo12 : Nat → Int32) (sz : Nat) (e_ho_5 : f_ho[5]? = some (.ref o5)) (e_ho_6 : f_ho[6]? = some (.ref o6)) (e_ho_7 : f_ho[7]? = some (.ref o7)) (e_ho_10 : f_ho[10]? = some (.ref o10)) (e_ho_11 : f_ho[11]? = some (.ref o11)) (e_ho_12 : f_ho[12]? = some (.ref o12)) (e_ho_3 : f_ho[3]? = some (.int (nI nq))) (e_ho_4 : f_ho[4]? = some (.int (nI nh))) (e_ht9_0 : f_ht9[0]? = some (.ref ho)) (e_ht9_1 : f_ht9[1]? = some (.ref hd)) (e_hd_3 : f_hd[3]? = some (.ref a3)) (e_hd_4 : f_hd[4]? = some (.ref a4)) (hnq : nq ≤ 8) (hnh : nh ≤ 4) : Met l yX8_find wsX8_find ({ frames := 11, cells := 0, slots := 0, locals := 277 }) (va_Pc [.ref h0] (fun U => U.heap.size = sz ∧ va_P (dC, dI) vwCl [(h0, .inr (8, [.int be, .ref s1, .ref ho, .ref ht9, .ref s4, .ref s5])), (ho, .inr (5, f_ho)), (ht9, .inr (9, f_ht9)), (hd, .inr (1, f_hd)), (s1, .inl (cI, 4, .inl fs1)), (s4, .inl (cI, 4, .inl fs4)), (s5, .inl (cI, 32, .inl fs5)), (a3, .inl (cI, 8, .inl fa3)), (a4, .inl (cI, 8, .inl fa4)), (o5, .inl (cI, 8, .inl fo5)), (o6, .inl (cI, 8, .inl fo6)), (o7, .inl (cI, 8, .inl fo7)), (o10, .inl (cI, 4, .inl fo10)), (o11, .inl (cI, 4, .inl fo11)), (o12, .inl (cI, 4, .inl fo12))] U.heap ∧ va_K (dC, dI) vwCl (tys0 cI cZ cQ) U ∧ va_D (fun _ => True) [(h0, .inr (8, [.int be, .ref s1, .ref ho, .ref ht9, .ref s4, .ref s5])), (ho, .inr (5, f_ho)), (ht9, .inr (9, f_ht9)), (hd, .inr (1, f_hd)), (s1, .inl (cI, 4, .inl fs1)), (s4, .inl (cI, 4, .inl fs4)), (s5, .inl (cI, 32, .inl fs5)), (a3, .inl (cI, 8, .inl fa3)), (a4, .inl (cI, 8, .inl fa4)), (o5, .inl (cI, 8, .inl fo5)), (o6, .inl (cI, 8, .inl fo6)), (o7, .inl (cI, 8, .inl fo7)), (o10, .inl (cI, 4, .inl fo10)), (o11, .inl (cI, 4, .inl fo11)), (o12, .inl (cI, 4, .inl fo12))] ∧ xN U)) (va_Qv (fun (u : Nat → Nat) => True) (fun (_ : Nat → Nat) (t : State) => ∃ (gg0 gg1 gg2 : Nat → Int32) (ii0 : Int32) , (twB nq (fun j k => gdM lcB (wrF (fo5 j) (fo6 j) (fo7 j) (fo10 k) (fo11 k)) (fo12 k) (fa3 j) (fa4 j) 999) nh (8 ^ nh) ii0 (twR nh gg0)) ∧ va_P (dC, dI) vwCl [(h0, .inr (8, [.int ii0, .ref s1, .ref ho, .ref ht9, .ref s4, .ref s5])), (ho, .inr (5, f_ho)), (ht9, .inr (9, f_ht9)), (hd, .inr (1, f_hd)), (s1, .inl (cI, 4, .inl gg0)), (s4, .inl (cI, 4, .inl gg1)), (s5, .inl (cI, 32, .inl gg2)), (a3, .inl (cI, 8, .inl fa3)), (a4, .inl (cI, 8, .inl fa4)), (o5, .inl (cI, 8, .inl fo5)), (o6, .inl (cI, 8, .inl fo6)), (o7, .inl (cI, 8, .inl fo7)), (o10, .inl (cI, 4, .inl fo10)), (o11, .inl (cI, 4, .inl fo11)), (o12, .inl (cI, 4, .inl fo12))] t.heap ∧ va_D (va_A [(h0, .inr (8, [.int be, .ref s1, .ref ho, .ref ht9, .ref s4, .ref s5])), (ho, .inr (5, f_ho)), (ht9, .inr (9, f_ht9)), (hd, .inr (1, f_hd)), (s1, .inl (cI, 4, .inl fs1)), (s4, .inl (cI, 4, .inl fs4)), (s5, .inl (cI, 32, .inl fs5)), (a3, .inl (cI, 8, .inl fa3)), (a4, .inl (cI, 8, .inl fa4)), (o5, .inl (cI, 8, .inl fo5)), (o6, .inl (cI, 8, .inl fo6)), (o7, .inl (cI, 8, .inl fo7)), (o10, .inl (cI, 4, .inl fo10)), (o11, .inl (cI, 4, .inl fo11)), (o12, .inl (cI, 4, .inl fo12))] sz) [(h0, .inr (8, [.int ii0, .ref s1, .ref ho, .ref ht9, .ref s4, .ref s5])), (ho, .inr (5, f_ho)), (ht9, .inr (9, f_ht9)), (hd, .inr (1, f_hd)), (s1, .inl (cI, 4, .inl gg0)), (s4, .inl (cI, 4, .inl gg1)), (s5, .inl (cI, 32, .inl gg2)), (a3, .inl (cI, 8, .inl fa3)), (a4, .inl (cI, 8, .inl fa4)), (o5, .inl (cI, 8, .inl fo5)), (o6, .inl (cI, 8, .inl fo6)), (o7, .inl (cI, 8, .inl fo7)), (o10, .inl (cI, 4, .inl fo10)), (o11, .inl (cI, 4, .inl fo11)), (o12, .inl (cI, 4, .inl fo12))]) (va_A [(h0, .inr (8, [.int be, .ref s1, .ref ho, .ref ht9, .ref s4, .ref s5])), (ho, .inr (5, f_ho)), (ht9, .inr (9, f_ht9)), (hd, .inr (1, f_hd)), (s1, .inl (cI, 4, .inl fs1)), (s4, .inl (cI, 4, .inl fs4)), (s5, .inl (cI, 32, .inl fs5)), (a3, .inl (cI, 8, .inl fa3)), (a4, .inl (cI, 8, .inl fa4)), (o5, .inl (cI, 8, .inl fo5)), (o6, .inl (cI, 8, .inl fo6)), (o7, .inl (cI, 8, .inl fo7)), (o10, .inl (cI, 4, .inl fo10)), (o11, .inl (cI, 4, .inl fo11)), (o12, .inl (cI, 4, .inl fo12))] sz)) 0 0 (va_A [(h0, .inr (8, [.int be, .ref s1, .ref ho, .ref ht9, .ref s4, .ref s5])), (ho, .inr (5, f_ho)), (ht9, .inr (9, f_ht9)), (hd, .inr (1, f_hd)), (s1, .inl (cI, 4, .inl fs1)), (s4, .inl (cI, 4, .inl fs4)), (s5, .inl (cI, 32, .inl fs5)), (a3, .inl (cI, 8, .inl fa3)), (a4, .inl (cI, 8, .inl fa4)), (o5, .inl (cI, 8, .inl fo5)), (o6, .inl (cI, 8, .inl fo6)), (o7, .inl (cI, 8, .inl fo7)), (o10, .inl (cI, 4, .inl fo10)), (o11, .inl (cI, 4, .inl fo11)), (o12, .inl (cI, 4, .inl fo12))] sz) := by
  refine Met.ofW (cc := cX8_find) (maxL := 3) (ret := none) (by decide) rfl ?_
  intro p e s m args below meth c s₁ B hml hv
  obtain ⟨rfl, hsz, hP, hK, hD0, hN⟩ := hv
  have hx := B.exec
  have hb := B.bytes
  have hr := B.returns
  have hts := atoms_spec (ws := wsX8_find) B.pre
  have hown : s.vm.findClass RX8 = some m.cls := findClass_of_methodNamed B.named
  have hlocks := B.notSynchronized
  have hi_X5 : ∀ w ∈ u_ws RX5 TX5 13, w ∈ wsX8_find := fun _ h => List.mem_cons_of_mem _ (List.mem_append_left _ (List.mem_append_left _ (List.mem_append_right _ (h))))
  have hi_X8 : ∀ w ∈ u_ws RX8 TX8 6, w ∈ wsX8_find := fun _ h => List.mem_cons_of_mem _ (List.mem_append_left _ (List.mem_append_left _ (List.mem_append_left _ (List.mem_append_right _ (h)))))
  subst hsz
  have hD := hD0.self (sz := s.heap.size)
  generalize hAe : va_A [(h0, .inr (8, [.int be, .ref s1, .ref ho, .ref ht9, .ref s4, .ref s5])), (ho, .inr (5, f_ho)), (ht9, .inr (9, f_ht9)), (hd, .inr (1, f_hd)), (s1, .inl (cI, 4, .inl fs1)), (s4, .inl (cI, 4, .inl fs4)), (s5, .inl (cI, 32, .inl fs5)), (a3, .inl (cI, 8, .inl fa3)), (a4, .inl (cI, 8, .inl fa4)), (o5, .inl (cI, 8, .inl fo5)), (o6, .inl (cI, 8, .inl fo6)), (o7, .inl (cI, 8, .inl fo7)), (o10, .inl (cI, 4, .inl fo10)), (o11, .inl (cI, 4, .inl fo11)), (o12, .inl (cI, 4, .inl fo12))] s.heap.size = A at hD ⊢
  have hA : ∀ q : Nat, s.heap.size ≤ q → A q := fun q h => by rw [← hAe]; exact Or.inr h
  have hS : va_S A s.heap s.heap [] := va_S.rf
  have hl := lv_entry ([.ref h0]) (n := 3) (Nat.le_of_ble_eq_true rfl)
  rw [lg_entry_eq]
  generalize (lg_sl ([.ref h0]) ++ List.replicate (3 - (lg_sl ([.ref h0])).length) Slot.unset).toArray = ls at hl ⊢
  have hl : lv_has ls 3 [(0, .ref h0)] := hl
  refine lv_iconst (v := 0) hx hb dX8_find_0 (by decide) ?_
  refine lv_istore_n (lv' := [(1, .int 0), (0, .ref h0)]) hx hb dX8_find_1 rfl hl (by decide) rfl (fun ls hl => ?_)
  refine (fun (K : ∀ (d2 : Nat) (k2 : Nat) (f2_s5 : Nat → Int32) (H : Heap) (locs : List Loc) (ls : Array Slot), k2 + d2 = nh → twF f2_s5 (fun j k => gdM lcB (wrF (fo5 j) (fo6 j) (fo7 j) (fo10 k) (fo11 k)) (fo12 k) (fa3 j) (fa4 j) 999) nq k2 0 → va_P (dC, dI) vwCl [(h0, .inr (8, [.int be, .ref s1, .ref ho, .ref ht9, .ref s4, .ref s5])), (ho, .inr (5, f_ho)), (ht9, .inr (9, f_ht9)), (hd, .inr (1, f_hd)), (s1, .inl (cI, 4, .inl fs1)), (s4, .inl (cI, 4, .inl fs4)), (s5, .inl (cI, 32, .inl f2_s5)), (a3, .inl (cI, 8, .inl fa3)), (a4, .inl (cI, 8, .inl fa4)), (o5, .inl (cI, 8, .inl fo5)), (o6, .inl (cI, 8, .inl fo6)), (o7, .inl (cI, 8, .inl fo7)), (o10, .inl (cI, 4, .inl fo10)), (o11, .inl (cI, 4, .inl fo11)), (o12, .inl (cI, 4, .inl fo12))] H → va_D A [(h0, .inr (8, [.int be, .ref s1, .ref ho, .ref ht9, .ref s4, .ref s5])), (ho, .inr (5, f_ho)), (ht9, .inr (9, f_ht9)), (hd, .inr (1, f_hd)), (s1, .inl (cI, 4, .inl fs1)), (s4, .inl (cI, 4, .inl fs4)), (s5, .inl (cI, 32, .inl f2_s5)), (a3, .inl (cI, 8, .inl fa3)), (a4, .inl (cI, 8, .inl fa4)), (o5, .inl (cI, 8, .inl fo5)), (o6, .inl (cI, 8, .inl fo6)), (o7, .inl (cI, 8, .inl fo7)), (o10, .inl (cI, 4, .inl fo10)), (o11, .inl (cI, 4, .inl fo11)), (o12, .inl (cI, 4, .inl fo12))] → va_S A s.heap H locs → lv_has ls 3 [(1, .int (nI k2)), (0, .ref h0)] → W p l e _ s m _ below meth c H locs _ _ _ (F0 m 2 ls [])) => K nh 0 fs5 _ _ _ (by omega) tw_f0 hP hD hS (lv_sub hl [0, 1] rfl)) ?_
  intro d2
  induction d2 with
  | zero =>
    intro k2 f2_s5 H locs ls hk2 hv2_0 hP hD hS hl
    refine lv_iload_n hx hb dX8_find_2 rfl (lv_at hl 0 rfl) ?_
    refine lv_aload_n hx hb dX8_find_3 rfl (lv_at hl 1 rfl) ?_
    refine va_get (D := (dC, dI)) (ci := 8) (v := .ref ho) (C := RX8) (T := TX8) (N := 6) hx hb hts hi_X8 hown hK hP 0 rfl rfl 2 (by decide) (hts (.fieldLink RX8 25 "LeftQuills$Sharing" "office" "LLeftQuills$Office;") (wmx 1 rfl)) (fun _ h9 => h9) rfl dX8_find_4 ?_
    refine va_get (D := (dC, dI)) (ci := 5) (v := .int (nI nh)) (C := RX5) (T := TX5) (N := 13) hx hb hts hi_X5 hown hK hP 1 rfl rfl 4 (by decide) (hts (.fieldLink RX8 33 "LeftQuills$Office" "hands" "I") (wmx 2 rfl)) (fun _ h9 => h9) e_ho_4 dX8_find_7 ?_
    refine lv_icmp_ge (tgt := 58) hx hb dX8_find_10 (by decide) (fun c1 => ?_) (fun c1 => ?_)
    ·
      have c1 : nh ≤ k2 := (nI_leI (a := nh) (b := k2) (by omega) (by omega)).mp c1
      refine lv_aload_n hx hb dX8_find_58 rfl (lv_at hl 1 rfl) ?_
      refine lv_iconst (v := (-1)) hx hb dX8_find_59 (by decide) ?_
      refine va_put (D := (dC, dI)) (ci := 8) (v := .int (-1)) (ty := .int) (C := RX8) (T := TX8) (N := 6) hx hb hts hi_X8 tyX8 tyX8_ok nmX8 hown hK hP hD hS 0 rfl rfl 0 (by decide) (hts (.fieldLink RX8 9 "LeftQuills$Sharing" "best" "I") (wmx 6 rfl)) (fun _ h9 => h9) rfl (by decide +kernel) rfl rfl (Nat.le_of_ble_eq_true rfl) dX8_find_60 (fun H locs hP hD hS => ?_)
      have hP : va_P (dC, dI) vwCl [(h0, .inr (8, [.int (-1), .ref s1, .ref ho, .ref ht9, .ref s4, .ref s5])), (ho, .inr (5, f_ho)), (ht9, .inr (9, f_ht9)), (hd, .inr (1, f_hd)), (s1, .inl (cI, 4, .inl fs1)), (s4, .inl (cI, 4, .inl fs4)), (s5, .inl (cI, 32, .inl f2_s5)), (a3, .inl (cI, 8, .inl fa3)), (a4, .inl (cI, 8, .inl fa4)), (o5, .inl (cI, 8, .inl fo5)), (o6, .inl (cI, 8, .inl fo6)), (o7, .inl (cI, 8, .inl fo7)), (o10, .inl (cI, 4, .inl fo10)), (o11, .inl (cI, 4, .inl fo11)), (o12, .inl (cI, 4, .inl fo12))] H := hP
      have hD : va_D A [(h0, .inr (8, [.int (-1), .ref s1, .ref ho, .ref ht9, .ref s4, .ref s5])), (ho, .inr (5, f_ho)), (ht9, .inr (9, f_ht9)), (hd, .inr (1, f_hd)), (s1, .inl (cI, 4, .inl fs1)), (s4, .inl (cI, 4, .inl fs4)), (s5, .inl (cI, 32, .inl f2_s5)), (a3, .inl (cI, 8, .inl fa3)), (a4, .inl (cI, 8, .inl fa4)), (o5, .inl (cI, 8, .inl fo5)), (o6, .inl (cI, 8, .inl fo6)), (o7, .inl (cI, 8, .inl fo7)), (o10, .inl (cI, 4, .inl fo10)), (o11, .inl (cI, 4, .inl fo11)), (o12, .inl (cI, 4, .inl fo12))] := hD
      refine lv_aload_n hx hb dX8_find_63 rfl (lv_at hl 1 rfl) ?_
      refine lv_iconst (v := 0) hx hb dX8_find_64 (by decide) ?_
      refine lv_iconst (v := 0) hx hb dX8_find_65 (by decide) ?_
      refine lv_iconst (v := 0) hx hb dX8_find_66 (by decide) ?_
      have hPc := hP.sub (ws' := [(h0, .inr (8, [.int (-1), .ref s1, .ref ho, .ref ht9, .ref s4, .ref s5])), (ho, .inr (5, f_ho)), (s1, .inl (cI, 4, .inl fs1)), (s4, .inl (cI, 4, .inl fs4)), (s5, .inl (cI, 32, .inl f2_s5))]) [0, 1, 4, 5, 6] rfl
      have hDc := hD.sub (ws' := [(h0, .inr (8, [.int (-1), .ref s1, .ref ho, .ref ht9, .ref s4, .ref s5])), (ho, .inr (5, f_ho)), (s1, .inl (cI, 4, .inl fs1)), (s4, .inl (cI, 4, .inl fs4)), (s5, .inl (cI, 32, .inl f2_s5))]) [0, 1, 4, 5, 6] (by decide) rfl
      have hFc := va_free (wc := [(h0, .inr (8, [.int (-1), .ref s1, .ref ho, .ref ht9, .ref s4, .ref s5])), (ho, .inr (5, f_ho)), (s1, .inl (cI, 4, .inl fs1)), (s4, .inl (cI, 4, .inl fs4)), (s5, .inl (cI, 32, .inl f2_s5))]) hD hS hA [0, 1, 4, 5, 6] rfl
      refine va_callv (va_runV (As := [.int 0, .int 0, .int 0]) (rest := []) ⟨hx, hb, hml, hown, hts⟩ (c_X8_giveFromD_4 l dC dI cI cZ cQ h0 (-1) s1 ho ht9 s4 s5 nq nh f_ho fs1 fs4 f2_s5 0 0 0 0 (fun j k => gdM lcB (wrF (fo5 j) (fo6 j) (fo7 j) (fo10 k) (fo11 k)) (fo12 k) (fa3 j) (fa4 j) 999) H.size e_ho_3 e_ho_4 (by omega) (by omega) (by omega) (by omega) rfl rfl rfl (fun i hi => absurd hi (by omega)) (fun _ _ => gdM_le) (tw_f3 hv2_0 (show k2 = nh by omega)) tw_b0) (cwV 3 hts gX8_find_X8_giveFrom rfl rfl rfl (by decide +kernel) ⟨Nat.le_of_ble_eq_true rfl, Nat.le_of_ble_eq_true rfl⟩) ⟨fun a U g mk q => by obtain ⟨q0, q1, qP, qK, qD⟩ := q; exact ⟨q0, q1, qP, va_K.moved (u := U) (U := U.calling g mk a) (Vm.Alike.refl U.vm) qK, qD⟩, va_recv hK hP (ci := 8) (q0 := 0) rfl rfl, fun U hU hW => ⟨rfl, by rw [hU], by rw [hU]; exact hPc, va_K.moved hW.alike hK, hDc.weaken (fun _ _ _ _ => trivial)⟩⟩ rfl rfl hl.1 rfl (lv_room (Nat.le_of_ble_eq_true rfl)) dX8_find_67 ⟨Nat.le_of_ble_eq_true rfl, Nat.le_of_ble_eq_true rfl⟩) hS (fun q _ h => hFc q h) hFc (fun u3 t H1 locs ht hvm hw4 hB hz1 hk1 hS => ?_)
      obtain ⟨f5, f6, i7, he8, he9, hP1, hD1⟩ := hB
      rw [ht] at hP1
      obtain ⟨hP, hD⟩ := va_join (wr := [(ht9, .inr (9, f_ht9)), (hd, .inr (1, f_hd)), (a3, .inl (cI, 8, .inl fa3)), (a4, .inl (cI, 8, .inl fa4)), (o5, .inl (cI, 8, .inl fo5)), (o6, .inl (cI, 8, .inl fo6)), (o7, .inl (cI, 8, .inl fo7)), (o10, .inl (cI, 4, .inl fo10)), (o11, .inl (cI, 4, .inl fo11)), (o12, .inl (cI, 4, .inl fo12))]) (w1 := [(h0, .inr (8, [.int i7, .ref s1, .ref ho, .ref ht9, .ref s4, .ref s5])), (ho, .inr (5, f_ho)), (s1, .inl (cI, 4, .inl f5)), (s4, .inl (cI, 4, .inl f6)), (s5, .inl (cI, 32, .inl f2_s5))]) hP hD [0, 1, 4, 5, 6] [2, 3, 7, 8, 9, 10, 11, 12, 13, 14] rfl rfl (by decide +kernel) (by decide +kernel) hk1 hFc hP1 hD1
      clear hP1 hD1
      clear hz1 hk1 hPc hDc hFc
      generalize H1 = H at hP hS ht ⊢
      have hP : va_P (dC, dI) vwCl [(ht9, .inr (9, f_ht9)), (hd, .inr (1, f_hd)), (a3, .inl (cI, 8, .inl fa3)), (a4, .inl (cI, 8, .inl fa4)), (o5, .inl (cI, 8, .inl fo5)), (o6, .inl (cI, 8, .inl fo6)), (o7, .inl (cI, 8, .inl fo7)), (o10, .inl (cI, 4, .inl fo10)), (o11, .inl (cI, 4, .inl fo11)), (o12, .inl (cI, 4, .inl fo12)), (h0, .inr (8, [.int i7, .ref s1, .ref ho, .ref ht9, .ref s4, .ref s5])), (ho, .inr (5, f_ho)), (s1, .inl (cI, 4, .inl f5)), (s4, .inl (cI, 4, .inl f6)), (s5, .inl (cI, 32, .inl f2_s5))] H := hP
      have hD : va_D A [(ht9, .inr (9, f_ht9)), (hd, .inr (1, f_hd)), (a3, .inl (cI, 8, .inl fa3)), (a4, .inl (cI, 8, .inl fa4)), (o5, .inl (cI, 8, .inl fo5)), (o6, .inl (cI, 8, .inl fo6)), (o7, .inl (cI, 8, .inl fo7)), (o10, .inl (cI, 4, .inl fo10)), (o11, .inl (cI, 4, .inl fo11)), (o12, .inl (cI, 4, .inl fo12)), (h0, .inr (8, [.int i7, .ref s1, .ref ho, .ref ht9, .ref s4, .ref s5])), (ho, .inr (5, f_ho)), (s1, .inl (cI, 4, .inl f5)), (s4, .inl (cI, 4, .inl f6)), (s5, .inl (cI, 32, .inl f2_s5))] := hD
      try dsimp only at hw4
      have hP9 := hP.sub (ws' := [(h0, .inr (8, [.int i7, .ref s1, .ref ho, .ref ht9, .ref s4, .ref s5])), (ho, .inr (5, f_ho)), (ht9, .inr (9, f_ht9)), (hd, .inr (1, f_hd)), (s1, .inl (cI, 4, .inl f5)), (s4, .inl (cI, 4, .inl f6)), (s5, .inl (cI, 32, .inl f2_s5)), (a3, .inl (cI, 8, .inl fa3)), (a4, .inl (cI, 8, .inl fa4)), (o5, .inl (cI, 8, .inl fo5)), (o6, .inl (cI, 8, .inl fo6)), (o7, .inl (cI, 8, .inl fo7)), (o10, .inl (cI, 4, .inl fo10)), (o11, .inl (cI, 4, .inl fo11)), (o12, .inl (cI, 4, .inl fo12))]) [10, 11, 0, 1, 12, 13, 14, 2, 3, 4, 5, 6, 7, 8, 9] rfl
      have hD9 := hD.sub (ws' := [(h0, .inr (8, [.int i7, .ref s1, .ref ho, .ref ht9, .ref s4, .ref s5])), (ho, .inr (5, f_ho)), (ht9, .inr (9, f_ht9)), (hd, .inr (1, f_hd)), (s1, .inl (cI, 4, .inl f5)), (s4, .inl (cI, 4, .inl f6)), (s5, .inl (cI, 32, .inl f2_s5)), (a3, .inl (cI, 8, .inl fa3)), (a4, .inl (cI, 8, .inl fa4)), (o5, .inl (cI, 8, .inl fo5)), (o6, .inl (cI, 8, .inl fo6)), (o7, .inl (cI, 8, .inl fo7)), (o10, .inl (cI, 4, .inl fo10)), (o11, .inl (cI, 4, .inl fo11)), (o12, .inl (cI, 4, .inl fo12))]) [10, 11, 0, 1, 12, 13, 14, 2, 3, 4, 5, 6, 7, 8, 9] (by decide +kernel) rfl
      exact W.vret hx hb hr (fun t ht hW => ⟨⟨(fun _ => 0), rfl, trivial, ⟨f5, f6, f2_s5, i7, (tw_fin he8), by rw [ht]; exact hP9, hD9⟩⟩, hS.F ht⟩) hS.2.2 dX8_find_70
    ·
      have c1 : ¬ nh ≤ k2 := fun h => c1 ((nI_leI (a := nh) (b := k2) (by omega) (by omega)).mpr h)
      omega
  | succ d2 ih2 =>
    intro k2 f2_s5 H locs ls hk2 hv2_0 hP hD hS hl
    refine lv_iload_n hx hb dX8_find_2 rfl (lv_at hl 0 rfl) ?_
    refine lv_aload_n hx hb dX8_find_3 rfl (lv_at hl 1 rfl) ?_
    refine va_get (D := (dC, dI)) (ci := 8) (v := .ref ho) (C := RX8) (T := TX8) (N := 6) hx hb hts hi_X8 hown hK hP 0 rfl rfl 2 (by decide) (hts (.fieldLink RX8 25 "LeftQuills$Sharing" "office" "LLeftQuills$Office;") (wmx 1 rfl)) (fun _ h9 => h9) rfl dX8_find_4 ?_
    refine va_get (D := (dC, dI)) (ci := 5) (v := .int (nI nh)) (C := RX5) (T := TX5) (N := 13) hx hb hts hi_X5 hown hK hP 1 rfl rfl 4 (by decide) (hts (.fieldLink RX8 33 "LeftQuills$Office" "hands" "I") (wmx 2 rfl)) (fun _ h9 => h9) e_ho_4 dX8_find_7 ?_
    refine lv_icmp_ge (tgt := 58) hx hb dX8_find_10 (by decide) (fun c10 => ?_) (fun c10 => ?_)
    ·
      have c10 : nh ≤ k2 := (nI_leI (a := nh) (b := k2) (by omega) (by omega)).mp c10
      omega
    ·
      have c10 : ¬ nh ≤ k2 := fun h => c10 ((nI_leI (a := nh) (b := k2) (by omega) (by omega)).mpr h)
      refine lv_iconst (v := 0) hx hb dX8_find_13 (by decide) ?_
      refine lv_istore_n (lv' := [(2, .int 0), (1, .int (nI k2)), (0, .ref h0)]) hx hb dX8_find_14 rfl hl (by decide) rfl (fun ls hl => ?_)
      refine (fun (K : ∀ (d15 : Nat) (k15 : Nat) (f15_s5 : Nat → Int32) (H : Heap) (locs : List Loc) (ls : Array Slot), k15 + d15 = nq → twF f15_s5 (fun j k => gdM lcB (wrF (fo5 j) (fo6 j) (fo7 j) (fo10 k) (fo11 k)) (fo12 k) (fa3 j) (fa4 j) 999) nq k2 k15 → va_P (dC, dI) vwCl [(h0, .inr (8, [.int be, .ref s1, .ref ho, .ref ht9, .ref s4, .ref s5])), (ho, .inr (5, f_ho)), (ht9, .inr (9, f_ht9)), (hd, .inr (1, f_hd)), (s1, .inl (cI, 4, .inl fs1)), (s4, .inl (cI, 4, .inl fs4)), (s5, .inl (cI, 32, .inl f15_s5)), (a3, .inl (cI, 8, .inl fa3)), (a4, .inl (cI, 8, .inl fa4)), (o5, .inl (cI, 8, .inl fo5)), (o6, .inl (cI, 8, .inl fo6)), (o7, .inl (cI, 8, .inl fo7)), (o10, .inl (cI, 4, .inl fo10)), (o11, .inl (cI, 4, .inl fo11)), (o12, .inl (cI, 4, .inl fo12))] H → va_D A [(h0, .inr (8, [.int be, .ref s1, .ref ho, .ref ht9, .ref s4, .ref s5])), (ho, .inr (5, f_ho)), (ht9, .inr (9, f_ht9)), (hd, .inr (1, f_hd)), (s1, .inl (cI, 4, .inl fs1)), (s4, .inl (cI, 4, .inl fs4)), (s5, .inl (cI, 32, .inl f15_s5)), (a3, .inl (cI, 8, .inl fa3)), (a4, .inl (cI, 8, .inl fa4)), (o5, .inl (cI, 8, .inl fo5)), (o6, .inl (cI, 8, .inl fo6)), (o7, .inl (cI, 8, .inl fo7)), (o10, .inl (cI, 4, .inl fo10)), (o11, .inl (cI, 4, .inl fo11)), (o12, .inl (cI, 4, .inl fo12))] → va_S A s.heap H locs → lv_has ls 3 [(2, .int (nI k15)), (1, .int (nI k2)), (0, .ref h0)] → W p l e _ s m _ below meth c H locs _ _ _ (F0 m 15 ls [])) => K nq 0 f2_s5 _ _ _ (by omega) hv2_0 hP hD hS (lv_sub hl [0, 1, 2] rfl)) ?_
      intro d15
      induction d15 with
      | zero =>
        intro k15 f15_s5 H locs ls hk15 hv15_0 hP hD hS hl
        refine lv_iload_n hx hb dX8_find_15 rfl (lv_at hl 0 rfl) ?_
        refine lv_aload_n hx hb dX8_find_16 rfl (lv_at hl 2 rfl) ?_
        refine va_get (D := (dC, dI)) (ci := 8) (v := .ref ho) (C := RX8) (T := TX8) (N := 6) hx hb hts hi_X8 hown hK hP 0 rfl rfl 2 (by decide) (hts (.fieldLink RX8 25 "LeftQuills$Sharing" "office" "LLeftQuills$Office;") (wmx 1 rfl)) (fun _ h9 => h9) rfl dX8_find_17 ?_
        refine va_get (D := (dC, dI)) (ci := 5) (v := .int (nI nq)) (C := RX5) (T := TX5) (N := 13) hx hb hts hi_X5 hown hK hP 1 rfl rfl 3 (by decide) (hts (.fieldLink RX8 38 "LeftQuills$Office" "quills" "I") (wmx 3 rfl)) (fun _ h9 => h9) e_ho_3 dX8_find_20 ?_
        refine lv_icmp_ge (tgt := 52) hx hb dX8_find_23 (by decide) (fun c11 => ?_) (fun c11 => ?_)
        ·
          have c11 : nq ≤ k15 := (nI_leI (a := nq) (b := k15) (by omega) (by omega)).mp c11
          refine lv_iinc (v := nI (k2 + 1)) (lv' := [(1, .int (nI (k2 + 1))), (2, .int (nI k15)), (0, .ref h0)]) hx hb dX8_find_52 hl (k := 1) rfl ((rfl : nI k2 + Int32.ofInt 1 = nI k2 + 1).trans (nI_add k2 1)) (by decide) rfl (fun ls hl => ?_)
          refine lv_goto (tgt := 2) hx hb dX8_find_55 (by decide) ?_
          exact ih2 (k2 + 1) f15_s5 _ _ _ (by omega) (tw_f2 hv15_0 (show k15 = nq by omega)) hP hD hS (lv_sub hl [0, 2] rfl)
        ·
          have c11 : ¬ nq ≤ k15 := fun h => c11 ((nI_leI (a := nq) (b := k15) (by omega) (by omega)).mpr h)
          omega
      | succ d15 ih15 =>
        intro k15 f15_s5 H locs ls hk15 hv15_0 hP hD hS hl
        refine lv_iload_n hx hb dX8_find_15 rfl (lv_at hl 0 rfl) ?_
        refine lv_aload_n hx hb dX8_find_16 rfl (lv_at hl 2 rfl) ?_
        refine va_get (D := (dC, dI)) (ci := 8) (v := .ref ho) (C := RX8) (T := TX8) (N := 6) hx hb hts hi_X8 hown hK hP 0 rfl rfl 2 (by decide) (hts (.fieldLink RX8 25 "LeftQuills$Sharing" "office" "LLeftQuills$Office;") (wmx 1 rfl)) (fun _ h9 => h9) rfl dX8_find_17 ?_
        refine va_get (D := (dC, dI)) (ci := 5) (v := .int (nI nq)) (C := RX5) (T := TX5) (N := 13) hx hb hts hi_X5 hown hK hP 1 rfl rfl 3 (by decide) (hts (.fieldLink RX8 38 "LeftQuills$Office" "quills" "I") (wmx 3 rfl)) (fun _ h9 => h9) e_ho_3 dX8_find_20 ?_
        refine lv_icmp_ge (tgt := 52) hx hb dX8_find_23 (by decide) (fun c12 => ?_) (fun c12 => ?_)
        ·
          have c12 : nq ≤ k15 := (nI_leI (a := nq) (b := k15) (by omega) (by omega)).mp c12
          omega
        ·
          have c12 : ¬ nq ≤ k15 := fun h => c12 ((nI_leI (a := nq) (b := k15) (by omega) (by omega)).mpr h)
          refine lv_aload_n hx hb dX8_find_26 rfl (lv_at hl 2 rfl) ?_
          refine va_get (D := (dC, dI)) (ci := 8) (v := .ref s5) (C := RX8) (T := TX8) (N := 6) hx hb hts hi_X8 hown hK hP 0 rfl rfl 5 (by decide) (hts (.fieldLink RX8 22 "LeftQuills$Sharing" "good" "[I") (wmx 4 rfl)) (fun _ h9 => h9) rfl dX8_find_27 ?_
          refine lv_iload_n hx hb dX8_find_30 rfl (lv_at hl 1 rfl) ?_
          refine lv_bipush (v := 8) hx hb dX8_find_31 (by decide) ?_
          refine lv_imul hx hb dX8_find_33 ?_
          refine lv_topi (fun z13 ez13 => ?_)
          obtain rfl : z13 = nI (k2 * 8) := ez13.trans (pk_mul k2 8)
          refine lv_iload_n hx hb dX8_find_34 rfl (lv_at hl 0 rfl) ?_
          refine lv_iadd hx hb dX8_find_35 ?_
          refine lv_topi (fun z14 ez14 => ?_)
          obtain rfl : z14 = nI ((k2 * 8) + k15) := ez14.trans (nI_add (k2 * 8) k15)
          refine lv_aload_n hx hb dX8_find_36 rfl (lv_at hl 2 rfl) ?_
          refine va_get (D := (dC, dI)) (ci := 8) (v := .ref ht9) (C := RX8) (T := TX8) (N := 6) hx hb hts hi_X8 hown hK hP 0 rfl rfl 3 (by decide) (hts (.fieldLink RX8 29 "LeftQuills$Sharing" "trials" "LLeftQuills$Trials;") (wmx 5 rfl)) (fun _ h9 => h9) rfl dX8_find_37 ?_
          refine lv_iload_n hx hb dX8_find_40 rfl (lv_at hl 0 rfl) ?_
          refine lv_iload_n hx hb dX8_find_41 rfl (lv_at hl 1 rfl) ?_
          have hPc := hP.sub (ws' := [(ht9, .inr (9, f_ht9)), (ho, .inr (5, f_ho)), (hd, .inr (1, f_hd)), (a3, .inl (cI, 8, .inl fa3)), (a4, .inl (cI, 8, .inl fa4)), (o5, .inl (cI, 8, .inl fo5)), (o6, .inl (cI, 8, .inl fo6)), (o7, .inl (cI, 8, .inl fo7)), (o10, .inl (cI, 4, .inl fo10)), (o11, .inl (cI, 4, .inl fo11)), (o12, .inl (cI, 4, .inl fo12))]) [2, 1, 3, 7, 8, 9, 10, 11, 12, 13, 14] rfl
          refine va_calli (va_runV (As := [.int (nI k15), .int (nI k2)]) (rest := [.int (nI ((k2 * 8) + k15)), .ref s5]) ⟨hx, hb, hml, hown, hts⟩ (c_X9_goodNowD l dC dI cI cZ cQ ht9 ho hd f_ht9 o5 o6 o7 o10 o11 o12 f_ho a3 a4 f_hd fa3 fa4 fo5 fo6 fo7 fo10 fo11 fo12 k15 k2 H.size e_ht9_0 e_ht9_1 e_ho_5 e_ho_6 e_ho_7 e_ho_10 e_ho_11 e_ho_12 e_hd_3 e_hd_4 (by omega) (by omega)) (cwV 2 hts gX8_find_X9_goodNow rfl rfl rfl (by decide +kernel) ⟨Nat.le_of_ble_eq_true rfl, Nat.le_of_ble_eq_true rfl⟩) ⟨fun a U g mk q => by obtain ⟨q0, q1, qP, qK, qN⟩ := q; exact ⟨q0, q1, qP, va_K.moved (u := U) (U := U.calling g mk a) (Vm.Alike.refl U.vm) qK, qN.calling⟩, va_recv hK hP (ci := 9) (q0 := 2) rfl rfl, fun U hU hW => ⟨rfl, by rw [hU], by rw [hU]; exact hPc, va_K.moved hW.alike hK, hN.warm hW⟩⟩ rfl rfl hl.1 rfl (lv_room (Nat.le_of_ble_eq_true rfl)) dX8_find_42 ⟨Nat.le_of_ble_eq_true rfl, Nat.le_of_ble_eq_true rfl⟩) hS (fun q _ h => False.elim h) (fun q h => False.elim h) (fun r15 u16 t H1 locs ht hvm hw17 hB hz1 hk1 hS => ?_)
          have hP := hP.kept (fun k q hk => hk1 q.1 (hP k q hk).lt (fun h => h))
          clear hz1 hk1 hPc
          generalize H1 = H at hP hS ht ⊢
          try dsimp only at hw17
          obtain ⟨w18, hw18, ew18, rfl⟩ := nat_ix gdM_le hw17
          refine va_iast hx hb hK hP hD hS 6 0 rfl rfl (vp_in_nI (n := (k2 * 8) + k15) (N := 32) (by omega) (by decide)) dX8_find_45 (fun H locs hP hD hS => ?_)
          have hcl := (nI_clamp (n := (k2 * 8) + k15) (by omega))
          rw [hcl] at hP hD
          clear hcl
          have hP : va_P (dC, dI) vwCl [(h0, .inr (8, [.int be, .ref s1, .ref ho, .ref ht9, .ref s4, .ref s5])), (ho, .inr (5, f_ho)), (ht9, .inr (9, f_ht9)), (hd, .inr (1, f_hd)), (s1, .inl (cI, 4, .inl fs1)), (s4, .inl (cI, 4, .inl fs4)), (s5, .inl (cI, 32, .inl (upd f15_s5 ((k2 * 8) + k15) (nI w18)))), (a3, .inl (cI, 8, .inl fa3)), (a4, .inl (cI, 8, .inl fa4)), (o5, .inl (cI, 8, .inl fo5)), (o6, .inl (cI, 8, .inl fo6)), (o7, .inl (cI, 8, .inl fo7)), (o10, .inl (cI, 4, .inl fo10)), (o11, .inl (cI, 4, .inl fo11)), (o12, .inl (cI, 4, .inl fo12))] H := hP
          have hD : va_D A [(h0, .inr (8, [.int be, .ref s1, .ref ho, .ref ht9, .ref s4, .ref s5])), (ho, .inr (5, f_ho)), (ht9, .inr (9, f_ht9)), (hd, .inr (1, f_hd)), (s1, .inl (cI, 4, .inl fs1)), (s4, .inl (cI, 4, .inl fs4)), (s5, .inl (cI, 32, .inl (upd f15_s5 ((k2 * 8) + k15) (nI w18)))), (a3, .inl (cI, 8, .inl fa3)), (a4, .inl (cI, 8, .inl fa4)), (o5, .inl (cI, 8, .inl fo5)), (o6, .inl (cI, 8, .inl fo6)), (o7, .inl (cI, 8, .inl fo7)), (o10, .inl (cI, 4, .inl fo10)), (o11, .inl (cI, 4, .inl fo11)), (o12, .inl (cI, 4, .inl fo12))] := hD
          refine lv_iinc (v := nI (k15 + 1)) (lv' := [(2, .int (nI (k15 + 1))), (1, .int (nI k2)), (0, .ref h0)]) hx hb dX8_find_46 hl (k := 0) rfl ((rfl : nI k15 + Int32.ofInt 1 = nI k15 + 1).trans (nI_add k15 1)) (by decide) rfl (fun ls hl => ?_)
          refine lv_goto (tgt := 15) hx hb dX8_find_49 (by decide) ?_
          exact ih15 (k15 + 1) (upd f15_s5 ((k2 * 8) + k15) (nI w18)) _ _ _ (by omega) (tw_f1 hv15_0 hnq (by omega) ew18.out) hP hD hS (lv_sub hl [0, 1, 2] rfl)
set_option maxHeartbeats 4000000 in
set_option maxRecDepth 100000 in
theorem c_X10_toWhomD (l : Launch) (dC : Nat → ClassId) (dI : Nat → Nat → Nat) (cI cZ cQ : ClassId) (h0 : Nat) (x4 : Nat) (x10 : Nat) (f_h0 : List Value) (o5 : Nat) (o6 : Nat) (o7 : Nat) (o10 : Nat) (o11 : Nat) (o12 : Nat) (nq : Nat) (nh : Nat) (f_x4 : List Value) (be : Int32) (s1 : Nat) (x9 : Nat) (s4 : Nat) (s5 : Nat) (x6 : Nat) (f_x9 : List Value) (a3 : Nat) (a4 : Nat) (f_x6 : List Value) (fs1 : Nat → Int32) (fs4 : Nat → Int32) (fs5 : Nat → Int32) (fa3 : Nat → Int32) (fa4 : Nat → Int32) (fo5 : Nat → Int32) (fo6 : Nat → Int32) (fo7 : Nat → Int32) (fo10 : Nat → Int32) (fo11 : Nat → Int32) (fo12 : Nat → Int32) (q0 : Int32) (sz : Nat) (e_h0_4 : f_h0[4]? = some (.ref x4)) (e_h0_10 : f_h0[10]? = some (.ref x10)) (e_x4_5 : f_x4[5]? = some (.ref o5)) (e_x4_6 : f_x4[6]? = some (.ref o6)) (e_x4_7 : f_x4[7]? = some (.ref o7)) (e_x4_10 : f_x4[10]? = some (.ref o10)) (e_x4_11 : f_x4[11]? = some (.ref o11)) (e_x4_12 : f_x4[12]? = some (.ref o12)) (e_x4_3 : f_x4[3]? = some (.int (nI nq))) (e_x4_4 : f_x4[4]? = some (.int (nI nh))) (e_x9_0 : f_x9[0]? = some (.ref x4)) (e_x9_1 : f_x9[1]? = some (.ref x6)) (e_x6_3 : f_x6[3]? = some (.ref a3)) (e_x6_4 : f_x6[4]? = some (.ref a4)) (hnq : nq ≤ 8) (hnh : nh ≤ 4) : Met l yX10_toWhom wsX10_toWhom ({ frames := 12, cells := 0, slots := 0, locals := 299 }) (va_Pc [.ref h0, .int q0] (fun U => U.heap.size = sz ∧ va_P (dC, dI) vwCl [(h0, .inr (10, f_h0)), (x4, .inr (5, f_x4)), (x10, .inr (8, [.int be, .ref s1, .ref x4, .ref x9, .ref s4, .ref s5])), (x9, .inr (9, f_x9)), (x6, .inr (1, f_x6)), (s1, .inl (cI, 4, .inl fs1)), (s4, .inl (cI, 4, .inl fs4)), (s5, .inl (cI, 32, .inl fs5)), (a3, .inl (cI, 8, .inl fa3)), (a4, .inl (cI, 8, .inl fa4)), (o5, .inl (cI, 8, .inl fo5)), (o6, .inl (cI, 8, .inl fo6)), (o7, .inl (cI, 8, .inl fo7)), (o10, .inl (cI, 4, .inl fo10)), (o11, .inl (cI, 4, .inl fo11)), (o12, .inl (cI, 4, .inl fo12))] U.heap ∧ va_K (dC, dI) vwCl (tys0 cI cZ cQ) U ∧ va_D (fun _ => True) [(h0, .inr (10, f_h0)), (x4, .inr (5, f_x4)), (x10, .inr (8, [.int be, .ref s1, .ref x4, .ref x9, .ref s4, .ref s5])), (x9, .inr (9, f_x9)), (x6, .inr (1, f_x6)), (s1, .inl (cI, 4, .inl fs1)), (s4, .inl (cI, 4, .inl fs4)), (s5, .inl (cI, 32, .inl fs5)), (a3, .inl (cI, 8, .inl fa3)), (a4, .inl (cI, 8, .inl fa4)), (o5, .inl (cI, 8, .inl fo5)), (o6, .inl (cI, 8, .inl fo6)), (o7, .inl (cI, 8, .inl fo7)), (o10, .inl (cI, 4, .inl fo10)), (o11, .inl (cI, 4, .inl fo11)), (o12, .inl (cI, 4, .inl fo12))] ∧ xN U)) (va_Qi (fun (r : Int32) (u : Nat → Nat) => twO nq nh (fun j k => gdM lcB (wrF (fo5 j) (fo6 j) (fo7 j) (fo10 k) (fo11 k)) (fo12 k) (fa3 j) (fa4 j) 999) q0 r) (fun (_ : Nat → Nat) (t : State) => ∃ (gg0 gg1 gg2 : Nat → Int32) (ii0 : Int32) , va_P (dC, dI) vwCl [(h0, .inr (10, f_h0)), (x4, .inr (5, f_x4)), (x10, .inr (8, [.int ii0, .ref s1, .ref x4, .ref x9, .ref s4, .ref s5])), (x9, .inr (9, f_x9)), (x6, .inr (1, f_x6)), (s1, .inl (cI, 4, .inl gg0)), (s4, .inl (cI, 4, .inl gg1)), (s5, .inl (cI, 32, .inl gg2)), (a3, .inl (cI, 8, .inl fa3)), (a4, .inl (cI, 8, .inl fa4)), (o5, .inl (cI, 8, .inl fo5)), (o6, .inl (cI, 8, .inl fo6)), (o7, .inl (cI, 8, .inl fo7)), (o10, .inl (cI, 4, .inl fo10)), (o11, .inl (cI, 4, .inl fo11)), (o12, .inl (cI, 4, .inl fo12))] t.heap ∧ va_D (va_A [(h0, .inr (10, f_h0)), (x4, .inr (5, f_x4)), (x10, .inr (8, [.int be, .ref s1, .ref x4, .ref x9, .ref s4, .ref s5])), (x9, .inr (9, f_x9)), (x6, .inr (1, f_x6)), (s1, .inl (cI, 4, .inl fs1)), (s4, .inl (cI, 4, .inl fs4)), (s5, .inl (cI, 32, .inl fs5)), (a3, .inl (cI, 8, .inl fa3)), (a4, .inl (cI, 8, .inl fa4)), (o5, .inl (cI, 8, .inl fo5)), (o6, .inl (cI, 8, .inl fo6)), (o7, .inl (cI, 8, .inl fo7)), (o10, .inl (cI, 4, .inl fo10)), (o11, .inl (cI, 4, .inl fo11)), (o12, .inl (cI, 4, .inl fo12))] sz) [(h0, .inr (10, f_h0)), (x4, .inr (5, f_x4)), (x10, .inr (8, [.int ii0, .ref s1, .ref x4, .ref x9, .ref s4, .ref s5])), (x9, .inr (9, f_x9)), (x6, .inr (1, f_x6)), (s1, .inl (cI, 4, .inl gg0)), (s4, .inl (cI, 4, .inl gg1)), (s5, .inl (cI, 32, .inl gg2)), (a3, .inl (cI, 8, .inl fa3)), (a4, .inl (cI, 8, .inl fa4)), (o5, .inl (cI, 8, .inl fo5)), (o6, .inl (cI, 8, .inl fo6)), (o7, .inl (cI, 8, .inl fo7)), (o10, .inl (cI, 4, .inl fo10)), (o11, .inl (cI, 4, .inl fo11)), (o12, .inl (cI, 4, .inl fo12))]) (va_A [(h0, .inr (10, f_h0)), (x4, .inr (5, f_x4)), (x10, .inr (8, [.int be, .ref s1, .ref x4, .ref x9, .ref s4, .ref s5])), (x9, .inr (9, f_x9)), (x6, .inr (1, f_x6)), (s1, .inl (cI, 4, .inl fs1)), (s4, .inl (cI, 4, .inl fs4)), (s5, .inl (cI, 32, .inl fs5)), (a3, .inl (cI, 8, .inl fa3)), (a4, .inl (cI, 8, .inl fa4)), (o5, .inl (cI, 8, .inl fo5)), (o6, .inl (cI, 8, .inl fo6)), (o7, .inl (cI, 8, .inl fo7)), (o10, .inl (cI, 4, .inl fo10)), (o11, .inl (cI, 4, .inl fo11)), (o12, .inl (cI, 4, .inl fo12))] sz)) 0 0 (va_A [(h0, .inr (10, f_h0)), (x4, .inr (5, f_x4)), (x10, .inr (8, [.int be, .ref s1, .ref x4, .ref x9, .ref s4, .ref s5])), (x9, .inr (9, f_x9)), (x6, .inr (1, f_x6)), (s1, .inl (cI, 4, .inl fs1)), (s4, .inl (cI, 4, .inl fs4)), (s5, .inl (cI, 32, .inl fs5)), (a3, .inl (cI, 8, .inl fa3)), (a4, .inl (cI, 8, .inl fa4)), (o5, .inl (cI, 8, .inl fo5)), (o6, .inl (cI, 8, .inl fo6)), (o7, .inl (cI, 8, .inl fo7)), (o10, .inl (cI, 4, .inl fo10)), (o11, .inl (cI, 4, .inl fo11)), (o12, .inl (cI, 4, .inl fo12))] sz) := by
  refine Met.ofW (cc := cX10_toWhom) (maxL := 2) (ret := (some .int)) (by decide) rfl ?_
  intro p e s m args below meth c s₁ B hml hv
  obtain ⟨rfl, hsz, hP, hK, hD0, hN⟩ := hv
  have hx := B.exec
  have hb := B.bytes
  have hr := B.returns
  have hts := atoms_spec (ws := wsX10_toWhom) B.pre
  have hown : s.vm.findClass RX10 = some m.cls := findClass_of_methodNamed B.named
  have hlocks := B.notSynchronized
  have hi_X10 : ∀ w ∈ u_ws RX10 TX10 14, w ∈ wsX10_toWhom := fun _ h => List.mem_cons_of_mem _ (List.mem_append_left _ (List.mem_append_left _ (List.mem_append_left _ (List.mem_append_left _ (List.mem_append_right _ (h))))))
  have hi_X5 : ∀ w ∈ u_ws RX5 TX5 13, w ∈ wsX10_toWhom := fun _ h => List.mem_cons_of_mem _ (List.mem_append_left _ (List.mem_append_left _ (List.mem_append_left _ (List.mem_append_right _ (h)))))
  have hi_X8 : ∀ w ∈ u_ws RX8 TX8 6, w ∈ wsX10_toWhom := fun _ h => List.mem_cons_of_mem _ (List.mem_append_left _ (List.mem_append_left _ (List.mem_append_right _ (h))))
  subst hsz
  have hD := hD0.self (sz := s.heap.size)
  generalize hAe : va_A [(h0, .inr (10, f_h0)), (x4, .inr (5, f_x4)), (x10, .inr (8, [.int be, .ref s1, .ref x4, .ref x9, .ref s4, .ref s5])), (x9, .inr (9, f_x9)), (x6, .inr (1, f_x6)), (s1, .inl (cI, 4, .inl fs1)), (s4, .inl (cI, 4, .inl fs4)), (s5, .inl (cI, 32, .inl fs5)), (a3, .inl (cI, 8, .inl fa3)), (a4, .inl (cI, 8, .inl fa4)), (o5, .inl (cI, 8, .inl fo5)), (o6, .inl (cI, 8, .inl fo6)), (o7, .inl (cI, 8, .inl fo7)), (o10, .inl (cI, 4, .inl fo10)), (o11, .inl (cI, 4, .inl fo11)), (o12, .inl (cI, 4, .inl fo12))] s.heap.size = A at hD ⊢
  have hA : ∀ q : Nat, s.heap.size ≤ q → A q := fun q h => by rw [← hAe]; exact Or.inr h
  have hS : va_S A s.heap s.heap [] := va_S.rf
  have hl := lv_entry ([.ref h0, .int q0]) (n := 2) (Nat.le_of_ble_eq_true rfl)
  rw [lg_entry_eq]
  generalize (lg_sl ([.ref h0, .int q0]) ++ List.replicate (2 - (lg_sl ([.ref h0, .int q0])).length) Slot.unset).toArray = ls at hl ⊢
  have hl : lv_has ls 2 [(0, .ref h0), (1, .int q0)] := hl
  refine lv_iload_n hx hb dX10_toWhom_0 rfl (lv_at hl 1 rfl) ?_
  refine lv_iconst (v := (-1)) hx hb dX10_toWhom_1 (by decide) ?_
  refine lv_icmp_eq (tgt := 16) hx hb dX10_toWhom_2 (by decide) (fun c1 => ?_) (fun c1 => ?_)
  ·
    refine lv_aload_n hx hb dX10_toWhom_16 rfl (lv_at hl 0 rfl) ?_
    refine va_get (D := (dC, dI)) (ci := 10) (v := .ref x4) (C := RX10) (T := TX10) (N := 14) hx hb hts hi_X10 hown hK hP 0 rfl rfl 4 (by decide) (hts (.fieldLink RX10 26 "LeftQuills" "office" "LLeftQuills$Office;") (wmx 2 rfl)) (fun _ h9 => h9) e_h0_4 dX10_toWhom_17 ?_
    refine va_get (D := (dC, dI)) (ci := 5) (v := .int (nI nq)) (C := RX5) (T := TX5) (N := 13) hx hb hts hi_X5 hown hK hP 1 rfl rfl 3 (by decide) (hts (.fieldLink RX10 127 "LeftQuills$Office" "quills" "I") (wmx 3 rfl)) (fun _ h9 => h9) e_x4_3 dX10_toWhom_20 ?_
    refine lv_aload_n hx hb dX10_toWhom_23 rfl (lv_at hl 0 rfl) ?_
    refine va_get (D := (dC, dI)) (ci := 10) (v := .ref x4) (C := RX10) (T := TX10) (N := 14) hx hb hts hi_X10 hown hK hP 0 rfl rfl 4 (by decide) (hts (.fieldLink RX10 26 "LeftQuills" "office" "LLeftQuills$Office;") (wmx 2 rfl)) (fun _ h9 => h9) e_h0_4 dX10_toWhom_24 ?_
    refine va_get (D := (dC, dI)) (ci := 5) (v := .int (nI nh)) (C := RX5) (T := TX5) (N := 13) hx hb hts hi_X5 hown hK hP 1 rfl rfl 4 (by decide) (hts (.fieldLink RX10 136 "LeftQuills$Office" "hands" "I") (wmx 4 rfl)) (fun _ h9 => h9) e_x4_4 dX10_toWhom_27 ?_
    refine lv_icmp_ge (tgt := 35) hx hb dX10_toWhom_30 (by decide) (fun c2 => ?_) (fun c2 => ?_)
    ·
      have c2 : nh ≤ nq := (nI_leI (a := nh) (b := nq) (by omega) (by omega)).mp c2
      refine lv_aload_n hx hb dX10_toWhom_35 rfl (lv_at hl 0 rfl) ?_
      refine va_get (D := (dC, dI)) (ci := 10) (v := .ref x10) (C := RX10) (T := TX10) (N := 14) hx hb hts hi_X10 hown hK hP 0 rfl rfl 10 (by decide) (hts (.fieldLink RX10 74 "LeftQuills" "sharing" "LLeftQuills$Sharing;") (wmx 5 rfl)) (fun _ h9 => h9) e_h0_10 dX10_toWhom_36 ?_
      have hPc := hP.sub (ws' := [(x10, .inr (8, [.int be, .ref s1, .ref x4, .ref x9, .ref s4, .ref s5])), (x4, .inr (5, f_x4)), (x9, .inr (9, f_x9)), (x6, .inr (1, f_x6)), (s1, .inl (cI, 4, .inl fs1)), (s4, .inl (cI, 4, .inl fs4)), (s5, .inl (cI, 32, .inl fs5)), (a3, .inl (cI, 8, .inl fa3)), (a4, .inl (cI, 8, .inl fa4)), (o5, .inl (cI, 8, .inl fo5)), (o6, .inl (cI, 8, .inl fo6)), (o7, .inl (cI, 8, .inl fo7)), (o10, .inl (cI, 4, .inl fo10)), (o11, .inl (cI, 4, .inl fo11)), (o12, .inl (cI, 4, .inl fo12))]) [2, 1, 3, 4, 5, 6, 7, 8, 9, 10, 11, 12, 13, 14, 15] rfl
      have hDc := hD.sub (ws' := [(x10, .inr (8, [.int be, .ref s1, .ref x4, .ref x9, .ref s4, .ref s5])), (x4, .inr (5, f_x4)), (x9, .inr (9, f_x9)), (x6, .inr (1, f_x6)), (s1, .inl (cI, 4, .inl fs1)), (s4, .inl (cI, 4, .inl fs4)), (s5, .inl (cI, 32, .inl fs5)), (a3, .inl (cI, 8, .inl fa3)), (a4, .inl (cI, 8, .inl fa4)), (o5, .inl (cI, 8, .inl fo5)), (o6, .inl (cI, 8, .inl fo6)), (o7, .inl (cI, 8, .inl fo7)), (o10, .inl (cI, 4, .inl fo10)), (o11, .inl (cI, 4, .inl fo11)), (o12, .inl (cI, 4, .inl fo12))]) [2, 1, 3, 4, 5, 6, 7, 8, 9, 10, 11, 12, 13, 14, 15] (by decide) rfl
      have hFc := va_free (wc := [(x10, .inr (8, [.int be, .ref s1, .ref x4, .ref x9, .ref s4, .ref s5])), (x4, .inr (5, f_x4)), (x9, .inr (9, f_x9)), (x6, .inr (1, f_x6)), (s1, .inl (cI, 4, .inl fs1)), (s4, .inl (cI, 4, .inl fs4)), (s5, .inl (cI, 32, .inl fs5)), (a3, .inl (cI, 8, .inl fa3)), (a4, .inl (cI, 8, .inl fa4)), (o5, .inl (cI, 8, .inl fo5)), (o6, .inl (cI, 8, .inl fo6)), (o7, .inl (cI, 8, .inl fo7)), (o10, .inl (cI, 4, .inl fo10)), (o11, .inl (cI, 4, .inl fo11)), (o12, .inl (cI, 4, .inl fo12))]) hD hS hA [2, 1, 3, 4, 5, 6, 7, 8, 9, 10, 11, 12, 13, 14, 15] rfl
      refine va_callv (va_runV (As := []) (rest := []) ⟨hx, hb, hml, hown, hts⟩ (c_X8_findD l dC dI cI cZ cQ x10 be s1 x4 x9 s4 s5 o5 o6 o7 o10 o11 o12 nq nh f_x4 x6 f_x9 a3 a4 f_x6 fs1 fs4 fs5 fa3 fa4 fo5 fo6 fo7 fo10 fo11 fo12 s.heap.size e_x4_5 e_x4_6 e_x4_7 e_x4_10 e_x4_11 e_x4_12 e_x4_3 e_x4_4 e_x9_0 e_x9_1 e_x6_3 e_x6_4 (by omega) (by omega)) (cwV 0 hts gX10_toWhom_X8_find rfl rfl rfl (by decide +kernel) ⟨Nat.le_of_ble_eq_true rfl, Nat.le_of_ble_eq_true rfl⟩) ⟨fun a U g mk q => by obtain ⟨q0, q1, qP, qK, qD, qN⟩ := q; exact ⟨q0, q1, qP, va_K.moved (u := U) (U := U.calling g mk a) (Vm.Alike.refl U.vm) qK, qD, qN.calling⟩, va_recv hK hP (ci := 8) (q0 := 2) rfl rfl, fun U hU hW => ⟨rfl, by rw [hU], by rw [hU]; exact hPc, va_K.moved hW.alike hK, hDc.weaken (fun _ _ _ _ => trivial), hN.warm hW⟩⟩ rfl rfl hl.1 rfl (lv_room (Nat.le_of_ble_eq_true rfl)) dX10_toWhom_39 ⟨Nat.le_of_ble_eq_true rfl, Nat.le_of_ble_eq_true rfl⟩) hS (fun q _ h => hFc q h) hFc (fun u4 t H1 locs ht hvm hw5 hB hz1 hk1 hS => ?_)
      obtain ⟨f6, f7, f8, i9, he10, hP1, hD1⟩ := hB
      rw [ht] at hP1
      obtain ⟨hP, hD⟩ := va_join (wr := [(h0, .inr (10, f_h0))]) (w1 := [(x10, .inr (8, [.int i9, .ref s1, .ref x4, .ref x9, .ref s4, .ref s5])), (x4, .inr (5, f_x4)), (x9, .inr (9, f_x9)), (x6, .inr (1, f_x6)), (s1, .inl (cI, 4, .inl f6)), (s4, .inl (cI, 4, .inl f7)), (s5, .inl (cI, 32, .inl f8)), (a3, .inl (cI, 8, .inl fa3)), (a4, .inl (cI, 8, .inl fa4)), (o5, .inl (cI, 8, .inl fo5)), (o6, .inl (cI, 8, .inl fo6)), (o7, .inl (cI, 8, .inl fo7)), (o10, .inl (cI, 4, .inl fo10)), (o11, .inl (cI, 4, .inl fo11)), (o12, .inl (cI, 4, .inl fo12))]) hP hD [2, 1, 3, 4, 5, 6, 7, 8, 9, 10, 11, 12, 13, 14, 15] [0] rfl rfl (by decide +kernel) (by decide +kernel) hk1 hFc hP1 hD1
      clear hP1 hD1
      clear hz1 hk1 hPc hDc hFc
      generalize H1 = H at hP hS ht ⊢
      have hP : va_P (dC, dI) vwCl [(h0, .inr (10, f_h0)), (x10, .inr (8, [.int i9, .ref s1, .ref x4, .ref x9, .ref s4, .ref s5])), (x4, .inr (5, f_x4)), (x9, .inr (9, f_x9)), (x6, .inr (1, f_x6)), (s1, .inl (cI, 4, .inl f6)), (s4, .inl (cI, 4, .inl f7)), (s5, .inl (cI, 32, .inl f8)), (a3, .inl (cI, 8, .inl fa3)), (a4, .inl (cI, 8, .inl fa4)), (o5, .inl (cI, 8, .inl fo5)), (o6, .inl (cI, 8, .inl fo6)), (o7, .inl (cI, 8, .inl fo7)), (o10, .inl (cI, 4, .inl fo10)), (o11, .inl (cI, 4, .inl fo11)), (o12, .inl (cI, 4, .inl fo12))] H := hP
      have hD : va_D A [(h0, .inr (10, f_h0)), (x10, .inr (8, [.int i9, .ref s1, .ref x4, .ref x9, .ref s4, .ref s5])), (x4, .inr (5, f_x4)), (x9, .inr (9, f_x9)), (x6, .inr (1, f_x6)), (s1, .inl (cI, 4, .inl f6)), (s4, .inl (cI, 4, .inl f7)), (s5, .inl (cI, 32, .inl f8)), (a3, .inl (cI, 8, .inl fa3)), (a4, .inl (cI, 8, .inl fa4)), (o5, .inl (cI, 8, .inl fo5)), (o6, .inl (cI, 8, .inl fo6)), (o7, .inl (cI, 8, .inl fo7)), (o10, .inl (cI, 4, .inl fo10)), (o11, .inl (cI, 4, .inl fo11)), (o12, .inl (cI, 4, .inl fo12))] := hD
      try dsimp only at hw5
      refine lv_iload_n hx hb dX10_toWhom_42 rfl (lv_at hl 1 rfl) ?_
      refine lv_iconst (v := (-1)) hx hb dX10_toWhom_43 (by decide) ?_
      refine lv_icmp_ne (tgt := 57) hx hb dX10_toWhom_44 (by decide) (fun c11 => ?_) (fun c11 => ?_)
      · exact absurd c1 c11
      refine lv_aload_n hx hb dX10_toWhom_47 rfl (lv_at hl 0 rfl) ?_
      refine va_get (D := (dC, dI)) (ci := 10) (v := .ref x10) (C := RX10) (T := TX10) (N := 14) hx hb hts hi_X10 hown hK hP 0 rfl rfl 10 (by decide) (hts (.fieldLink RX10 74 "LeftQuills" "sharing" "LLeftQuills$Sharing;") (wmx 5 rfl)) (fun _ h9 => h9) e_h0_10 dX10_toWhom_48 ?_
      refine va_get (D := (dC, dI)) (ci := 8) (v := .int i9) (C := RX8) (T := TX8) (N := 6) hx hb hts hi_X8 hown hK hP 1 rfl rfl 0 (by decide) (hts (.fieldLink RX10 244 "LeftQuills$Sharing" "best" "I") (wmx 6 rfl)) (fun _ h9 => h9) rfl dX10_toWhom_51 ?_
      refine lv_goto (tgt := 66) hx hb dX10_toWhom_54 (by decide) ?_
      have hP9 := hP.sub (ws' := [(h0, .inr (10, f_h0)), (x4, .inr (5, f_x4)), (x10, .inr (8, [.int i9, .ref s1, .ref x4, .ref x9, .ref s4, .ref s5])), (x9, .inr (9, f_x9)), (x6, .inr (1, f_x6)), (s1, .inl (cI, 4, .inl f6)), (s4, .inl (cI, 4, .inl f7)), (s5, .inl (cI, 32, .inl f8)), (a3, .inl (cI, 8, .inl fa3)), (a4, .inl (cI, 8, .inl fa4)), (o5, .inl (cI, 8, .inl fo5)), (o6, .inl (cI, 8, .inl fo6)), (o7, .inl (cI, 8, .inl fo7)), (o10, .inl (cI, 4, .inl fo10)), (o11, .inl (cI, 4, .inl fo11)), (o12, .inl (cI, 4, .inl fo12))]) [0, 2, 1, 3, 4, 5, 6, 7, 8, 9, 10, 11, 12, 13, 14, 15] rfl
      have hD9 := hD.sub (ws' := [(h0, .inr (10, f_h0)), (x4, .inr (5, f_x4)), (x10, .inr (8, [.int i9, .ref s1, .ref x4, .ref x9, .ref s4, .ref s5])), (x9, .inr (9, f_x9)), (x6, .inr (1, f_x6)), (s1, .inl (cI, 4, .inl f6)), (s4, .inl (cI, 4, .inl f7)), (s5, .inl (cI, 32, .inl f8)), (a3, .inl (cI, 8, .inl fa3)), (a4, .inl (cI, 8, .inl fa4)), (o5, .inl (cI, 8, .inl fo5)), (o6, .inl (cI, 8, .inl fo6)), (o7, .inl (cI, 8, .inl fo7)), (o10, .inl (cI, 4, .inl fo10)), (o11, .inl (cI, 4, .inl fo11)), (o12, .inl (cI, 4, .inl fo12))]) [0, 2, 1, 3, 4, 5, 6, 7, 8, 9, 10, 11, 12, 13, 14, 15] (by decide +kernel) rfl
      exact W.iret (v := i9) hx hb hr (fun t ht hW => ⟨⟨i9, (fun _ => 0), rfl, (two_n c1 (by omega) he10), ⟨f6, f7, f8, i9, by rw [ht]; exact hP9, hD9⟩⟩, hS.F ht⟩) hS.2.2 dX10_toWhom_66
    ·
      have c2 : ¬ nh ≤ nq := fun h => c2 ((nI_leI (a := nh) (b := nq) (by omega) (by omega)).mpr h)
      refine lv_iconst (v := (-1)) hx hb dX10_toWhom_33 (by decide) ?_
      have hP9 := hP.sub (ws' := [(h0, .inr (10, f_h0)), (x4, .inr (5, f_x4)), (x10, .inr (8, [.int be, .ref s1, .ref x4, .ref x9, .ref s4, .ref s5])), (x9, .inr (9, f_x9)), (x6, .inr (1, f_x6)), (s1, .inl (cI, 4, .inl fs1)), (s4, .inl (cI, 4, .inl fs4)), (s5, .inl (cI, 32, .inl fs5)), (a3, .inl (cI, 8, .inl fa3)), (a4, .inl (cI, 8, .inl fa4)), (o5, .inl (cI, 8, .inl fo5)), (o6, .inl (cI, 8, .inl fo6)), (o7, .inl (cI, 8, .inl fo7)), (o10, .inl (cI, 4, .inl fo10)), (o11, .inl (cI, 4, .inl fo11)), (o12, .inl (cI, 4, .inl fo12))]) [0, 1, 2, 3, 4, 5, 6, 7, 8, 9, 10, 11, 12, 13, 14, 15] rfl
      have hD9 := hD.sub (ws' := [(h0, .inr (10, f_h0)), (x4, .inr (5, f_x4)), (x10, .inr (8, [.int be, .ref s1, .ref x4, .ref x9, .ref s4, .ref s5])), (x9, .inr (9, f_x9)), (x6, .inr (1, f_x6)), (s1, .inl (cI, 4, .inl fs1)), (s4, .inl (cI, 4, .inl fs4)), (s5, .inl (cI, 32, .inl fs5)), (a3, .inl (cI, 8, .inl fa3)), (a4, .inl (cI, 8, .inl fa4)), (o5, .inl (cI, 8, .inl fo5)), (o6, .inl (cI, 8, .inl fo6)), (o7, .inl (cI, 8, .inl fo7)), (o10, .inl (cI, 4, .inl fo10)), (o11, .inl (cI, 4, .inl fo11)), (o12, .inl (cI, 4, .inl fo12))]) [0, 1, 2, 3, 4, 5, 6, 7, 8, 9, 10, 11, 12, 13, 14, 15] (by decide +kernel) rfl
      exact W.iret (v := (-1)) hx hb hr (fun t ht hW => ⟨⟨(-1), (fun _ => 0), rfl, (two_f (Or.inl c1) (by omega)), ⟨fs1, fs4, fs5, be, by rw [ht]; exact hP9, hD9⟩⟩, hS.F ht⟩) hS.2.2 dX10_toWhom_34
  ·
    refine lv_aload_n hx hb dX10_toWhom_5 rfl (lv_at hl 0 rfl) ?_
    refine lv_iload_n hx hb dX10_toWhom_6 rfl (lv_at hl 1 rfl) ?_
    have hPc := hP.sub (ws' := [(h0, .inr (10, f_h0)), (x4, .inr (5, f_x4))]) [0, 1] rfl
    refine va_calli (va_runV (As := [.int q0]) (rest := []) ⟨hx, hb, hml, hown, hts⟩ (c_X10_isHand l dC dI cI cZ cQ h0 x4 f_h0 (nI nh) f_x4 q0 s.heap.size e_h0_4 e_x4_4) (cwV 1 hts gX10_toWhom_X10_isHand rfl rfl rfl (by decide +kernel) ⟨Nat.le_of_ble_eq_true rfl, Nat.le_of_ble_eq_true rfl⟩) ⟨fun a U g mk q => by obtain ⟨q0, q1, qP, qK⟩ := q; exact ⟨q0, q1, qP, va_K.moved (u := U) (U := U.calling g mk a) (Vm.Alike.refl U.vm) qK⟩, va_recv hK hP (ci := 10) (q0 := 0) rfl rfl, fun U hU hW => ⟨rfl, by rw [hU], by rw [hU]; exact hPc, va_K.moved hW.alike hK⟩⟩ rfl rfl hl.1 rfl (lv_room (Nat.le_of_ble_eq_true rfl)) dX10_toWhom_7 ⟨Nat.le_of_ble_eq_true rfl, Nat.le_of_ble_eq_true rfl⟩) hS (fun q _ h => False.elim h) (fun q h => False.elim h) (fun r12 u13 t H1 locs ht hvm hw14 hB hz1 hk1 hS => ?_)
    have hP := hP.kept (fun k q hk => hk1 q.1 (hP k q hk).lt (fun h => h))
    clear hz1 hk1 hPc
    generalize H1 = H at hP hS ht ⊢
    try dsimp only at hw14
    rcases hw14 with ⟨rfl, hw14⟩ | ⟨rfl, hw14⟩
    ·
      obtain ⟨j15, hj15, rfl⟩ := x_ix hw14 (by omega)
      refine lv_if_ne (tgt := 16) hx hb dX10_toWhom_10 (by decide) (fun c16 => ?_) (fun c16 => ?_)
      rotate_left
      · exact absurd c16 (by decide)
      clear c16
      refine lv_aload_n hx hb dX10_toWhom_16 rfl (lv_at hl 0 rfl) ?_
      refine va_get (D := (dC, dI)) (ci := 10) (v := .ref x4) (C := RX10) (T := TX10) (N := 14) hx hb hts hi_X10 hown hK hP 0 rfl rfl 4 (by decide) (hts (.fieldLink RX10 26 "LeftQuills" "office" "LLeftQuills$Office;") (wmx 2 rfl)) (fun _ h9 => h9) e_h0_4 dX10_toWhom_17 ?_
      refine va_get (D := (dC, dI)) (ci := 5) (v := .int (nI nq)) (C := RX5) (T := TX5) (N := 13) hx hb hts hi_X5 hown hK hP 1 rfl rfl 3 (by decide) (hts (.fieldLink RX10 127 "LeftQuills$Office" "quills" "I") (wmx 3 rfl)) (fun _ h9 => h9) e_x4_3 dX10_toWhom_20 ?_
      refine lv_aload_n hx hb dX10_toWhom_23 rfl (lv_at hl 0 rfl) ?_
      refine va_get (D := (dC, dI)) (ci := 10) (v := .ref x4) (C := RX10) (T := TX10) (N := 14) hx hb hts hi_X10 hown hK hP 0 rfl rfl 4 (by decide) (hts (.fieldLink RX10 26 "LeftQuills" "office" "LLeftQuills$Office;") (wmx 2 rfl)) (fun _ h9 => h9) e_h0_4 dX10_toWhom_24 ?_
      refine va_get (D := (dC, dI)) (ci := 5) (v := .int (nI nh)) (C := RX5) (T := TX5) (N := 13) hx hb hts hi_X5 hown hK hP 1 rfl rfl 4 (by decide) (hts (.fieldLink RX10 136 "LeftQuills$Office" "hands" "I") (wmx 4 rfl)) (fun _ h9 => h9) e_x4_4 dX10_toWhom_27 ?_
      refine lv_icmp_ge (tgt := 35) hx hb dX10_toWhom_30 (by decide) (fun c17 => ?_) (fun c17 => ?_)
      ·
        have c17 : nh ≤ nq := (nI_leI (a := nh) (b := nq) (by omega) (by omega)).mp c17
        refine lv_aload_n hx hb dX10_toWhom_35 rfl (lv_at hl 0 rfl) ?_
        refine va_get (D := (dC, dI)) (ci := 10) (v := .ref x10) (C := RX10) (T := TX10) (N := 14) hx hb hts hi_X10 hown hK hP 0 rfl rfl 10 (by decide) (hts (.fieldLink RX10 74 "LeftQuills" "sharing" "LLeftQuills$Sharing;") (wmx 5 rfl)) (fun _ h9 => h9) e_h0_10 dX10_toWhom_36 ?_
        have hPc := hP.sub (ws' := [(x10, .inr (8, [.int be, .ref s1, .ref x4, .ref x9, .ref s4, .ref s5])), (x4, .inr (5, f_x4)), (x9, .inr (9, f_x9)), (x6, .inr (1, f_x6)), (s1, .inl (cI, 4, .inl fs1)), (s4, .inl (cI, 4, .inl fs4)), (s5, .inl (cI, 32, .inl fs5)), (a3, .inl (cI, 8, .inl fa3)), (a4, .inl (cI, 8, .inl fa4)), (o5, .inl (cI, 8, .inl fo5)), (o6, .inl (cI, 8, .inl fo6)), (o7, .inl (cI, 8, .inl fo7)), (o10, .inl (cI, 4, .inl fo10)), (o11, .inl (cI, 4, .inl fo11)), (o12, .inl (cI, 4, .inl fo12))]) [2, 1, 3, 4, 5, 6, 7, 8, 9, 10, 11, 12, 13, 14, 15] rfl
        have hDc := hD.sub (ws' := [(x10, .inr (8, [.int be, .ref s1, .ref x4, .ref x9, .ref s4, .ref s5])), (x4, .inr (5, f_x4)), (x9, .inr (9, f_x9)), (x6, .inr (1, f_x6)), (s1, .inl (cI, 4, .inl fs1)), (s4, .inl (cI, 4, .inl fs4)), (s5, .inl (cI, 32, .inl fs5)), (a3, .inl (cI, 8, .inl fa3)), (a4, .inl (cI, 8, .inl fa4)), (o5, .inl (cI, 8, .inl fo5)), (o6, .inl (cI, 8, .inl fo6)), (o7, .inl (cI, 8, .inl fo7)), (o10, .inl (cI, 4, .inl fo10)), (o11, .inl (cI, 4, .inl fo11)), (o12, .inl (cI, 4, .inl fo12))]) [2, 1, 3, 4, 5, 6, 7, 8, 9, 10, 11, 12, 13, 14, 15] (by decide) rfl
        have hFc := va_free (wc := [(x10, .inr (8, [.int be, .ref s1, .ref x4, .ref x9, .ref s4, .ref s5])), (x4, .inr (5, f_x4)), (x9, .inr (9, f_x9)), (x6, .inr (1, f_x6)), (s1, .inl (cI, 4, .inl fs1)), (s4, .inl (cI, 4, .inl fs4)), (s5, .inl (cI, 32, .inl fs5)), (a3, .inl (cI, 8, .inl fa3)), (a4, .inl (cI, 8, .inl fa4)), (o5, .inl (cI, 8, .inl fo5)), (o6, .inl (cI, 8, .inl fo6)), (o7, .inl (cI, 8, .inl fo7)), (o10, .inl (cI, 4, .inl fo10)), (o11, .inl (cI, 4, .inl fo11)), (o12, .inl (cI, 4, .inl fo12))]) hD hS hA [2, 1, 3, 4, 5, 6, 7, 8, 9, 10, 11, 12, 13, 14, 15] rfl
        refine va_callv (va_runV (As := []) (rest := []) ⟨hx, hb, hml, hown, hts⟩ (c_X8_findD l dC dI cI cZ cQ x10 be s1 x4 x9 s4 s5 o5 o6 o7 o10 o11 o12 nq nh f_x4 x6 f_x9 a3 a4 f_x6 fs1 fs4 fs5 fa3 fa4 fo5 fo6 fo7 fo10 fo11 fo12 H.size e_x4_5 e_x4_6 e_x4_7 e_x4_10 e_x4_11 e_x4_12 e_x4_3 e_x4_4 e_x9_0 e_x9_1 e_x6_3 e_x6_4 (by omega) (by omega)) (cwV 0 hts gX10_toWhom_X8_find rfl rfl rfl (by decide +kernel) ⟨Nat.le_of_ble_eq_true rfl, Nat.le_of_ble_eq_true rfl⟩) ⟨fun a U g mk q => by obtain ⟨q0, q1, qP, qK, qD, qN⟩ := q; exact ⟨q0, q1, qP, va_K.moved (u := U) (U := U.calling g mk a) (Vm.Alike.refl U.vm) qK, qD, qN.calling⟩, va_recv hK hP (ci := 8) (q0 := 2) rfl rfl, fun U hU hW => ⟨rfl, by rw [hU], by rw [hU]; exact hPc, va_K.moved hW.alike hK, hDc.weaken (fun _ _ _ _ => trivial), hN.warm hW⟩⟩ rfl rfl hl.1 rfl (lv_room (Nat.le_of_ble_eq_true rfl)) dX10_toWhom_39 ⟨Nat.le_of_ble_eq_true rfl, Nat.le_of_ble_eq_true rfl⟩) hS (fun q _ h => hFc q h) hFc (fun u19 t H1 locs ht hvm hw20 hB hz1 hk1 hS => ?_)
        obtain ⟨f21, f22, f23, i24, he25, hP1, hD1⟩ := hB
        rw [ht] at hP1
        obtain ⟨hP, hD⟩ := va_join (wr := [(h0, .inr (10, f_h0))]) (w1 := [(x10, .inr (8, [.int i24, .ref s1, .ref x4, .ref x9, .ref s4, .ref s5])), (x4, .inr (5, f_x4)), (x9, .inr (9, f_x9)), (x6, .inr (1, f_x6)), (s1, .inl (cI, 4, .inl f21)), (s4, .inl (cI, 4, .inl f22)), (s5, .inl (cI, 32, .inl f23)), (a3, .inl (cI, 8, .inl fa3)), (a4, .inl (cI, 8, .inl fa4)), (o5, .inl (cI, 8, .inl fo5)), (o6, .inl (cI, 8, .inl fo6)), (o7, .inl (cI, 8, .inl fo7)), (o10, .inl (cI, 4, .inl fo10)), (o11, .inl (cI, 4, .inl fo11)), (o12, .inl (cI, 4, .inl fo12))]) hP hD [2, 1, 3, 4, 5, 6, 7, 8, 9, 10, 11, 12, 13, 14, 15] [0] rfl rfl (by decide +kernel) (by decide +kernel) hk1 hFc hP1 hD1
        clear hP1 hD1
        clear hz1 hk1 hPc hDc hFc
        generalize H1 = H at hP hS ht ⊢
        have hP : va_P (dC, dI) vwCl [(h0, .inr (10, f_h0)), (x10, .inr (8, [.int i24, .ref s1, .ref x4, .ref x9, .ref s4, .ref s5])), (x4, .inr (5, f_x4)), (x9, .inr (9, f_x9)), (x6, .inr (1, f_x6)), (s1, .inl (cI, 4, .inl f21)), (s4, .inl (cI, 4, .inl f22)), (s5, .inl (cI, 32, .inl f23)), (a3, .inl (cI, 8, .inl fa3)), (a4, .inl (cI, 8, .inl fa4)), (o5, .inl (cI, 8, .inl fo5)), (o6, .inl (cI, 8, .inl fo6)), (o7, .inl (cI, 8, .inl fo7)), (o10, .inl (cI, 4, .inl fo10)), (o11, .inl (cI, 4, .inl fo11)), (o12, .inl (cI, 4, .inl fo12))] H := hP
        have hD : va_D A [(h0, .inr (10, f_h0)), (x10, .inr (8, [.int i24, .ref s1, .ref x4, .ref x9, .ref s4, .ref s5])), (x4, .inr (5, f_x4)), (x9, .inr (9, f_x9)), (x6, .inr (1, f_x6)), (s1, .inl (cI, 4, .inl f21)), (s4, .inl (cI, 4, .inl f22)), (s5, .inl (cI, 32, .inl f23)), (a3, .inl (cI, 8, .inl fa3)), (a4, .inl (cI, 8, .inl fa4)), (o5, .inl (cI, 8, .inl fo5)), (o6, .inl (cI, 8, .inl fo6)), (o7, .inl (cI, 8, .inl fo7)), (o10, .inl (cI, 4, .inl fo10)), (o11, .inl (cI, 4, .inl fo11)), (o12, .inl (cI, 4, .inl fo12))] := hD
        try dsimp only at hw20
        refine lv_iload_n hx hb dX10_toWhom_42 rfl (lv_at hl 1 rfl) ?_
        refine lv_iconst (v := (-1)) hx hb dX10_toWhom_43 (by decide) ?_
        refine lv_icmp_ne (tgt := 57) hx hb dX10_toWhom_44 (by decide) (fun c26 => ?_) (fun c26 => ?_)
        rotate_left
        · exact absurd (congrArg Int32.toInt c26) (by rw [nI_toInt (by omega), show (-1 : Int32).toInt = -1 from by decide]; omega)
        refine lv_aload_n hx hb dX10_toWhom_57 rfl (lv_at hl 0 rfl) ?_
        refine va_get (D := (dC, dI)) (ci := 10) (v := .ref x10) (C := RX10) (T := TX10) (N := 14) hx hb hts hi_X10 hown hK hP 0 rfl rfl 10 (by decide) (hts (.fieldLink RX10 74 "LeftQuills" "sharing" "LLeftQuills$Sharing;") (wmx 5 rfl)) (fun _ h9 => h9) e_h0_10 dX10_toWhom_58 ?_
        refine va_get (D := (dC, dI)) (ci := 8) (v := .ref s1) (C := RX8) (T := TX8) (N := 6) hx hb hts hi_X8 hown hK hP 1 rfl rfl 1 (by decide) (hts (.fieldLink RX10 247 "LeftQuills$Sharing" "bestQuill" "[I") (wmx 7 rfl)) (fun _ h9 => h9) rfl dX10_toWhom_61 ?_
        refine lv_iload_n hx hb dX10_toWhom_64 rfl (lv_at hl 1 rfl) ?_
        refine va_iald hx hb hK hP 5 0 rfl rfl (vp_in_nI (n := j15) (N := 4) (by omega) (by decide)) dX10_toWhom_65 ?_
        refine W.eq (g2 := F0 m 66 ls [.int (f21 j15)]) (congrArg (fun y9 => F0 m 66 ls (.int (f21 y9) :: [])) ((nI_clamp (n := j15) (by omega)))) ?_
        have hP9 := hP.sub (ws' := [(h0, .inr (10, f_h0)), (x4, .inr (5, f_x4)), (x10, .inr (8, [.int i24, .ref s1, .ref x4, .ref x9, .ref s4, .ref s5])), (x9, .inr (9, f_x9)), (x6, .inr (1, f_x6)), (s1, .inl (cI, 4, .inl f21)), (s4, .inl (cI, 4, .inl f22)), (s5, .inl (cI, 32, .inl f23)), (a3, .inl (cI, 8, .inl fa3)), (a4, .inl (cI, 8, .inl fa4)), (o5, .inl (cI, 8, .inl fo5)), (o6, .inl (cI, 8, .inl fo6)), (o7, .inl (cI, 8, .inl fo7)), (o10, .inl (cI, 4, .inl fo10)), (o11, .inl (cI, 4, .inl fo11)), (o12, .inl (cI, 4, .inl fo12))]) [0, 2, 1, 3, 4, 5, 6, 7, 8, 9, 10, 11, 12, 13, 14, 15] rfl
        have hD9 := hD.sub (ws' := [(h0, .inr (10, f_h0)), (x4, .inr (5, f_x4)), (x10, .inr (8, [.int i24, .ref s1, .ref x4, .ref x9, .ref s4, .ref s5])), (x9, .inr (9, f_x9)), (x6, .inr (1, f_x6)), (s1, .inl (cI, 4, .inl f21)), (s4, .inl (cI, 4, .inl f22)), (s5, .inl (cI, 32, .inl f23)), (a3, .inl (cI, 8, .inl fa3)), (a4, .inl (cI, 8, .inl fa4)), (o5, .inl (cI, 8, .inl fo5)), (o6, .inl (cI, 8, .inl fo6)), (o7, .inl (cI, 8, .inl fo7)), (o10, .inl (cI, 4, .inl fo10)), (o11, .inl (cI, 4, .inl fo11)), (o12, .inl (cI, 4, .inl fo12))]) [0, 2, 1, 3, 4, 5, 6, 7, 8, 9, 10, 11, 12, 13, 14, 15] (by decide +kernel) rfl
        exact W.iret (v := f21 j15) hx hb hr (fun t ht hW => ⟨⟨f21 j15, (fun _ => 0), rfl, (two_y hw14 (by omega) (by omega) he25 (fun K _ h9 => h9 _ (by omega))), ⟨f21, f22, f23, i24, by rw [ht]; exact hP9, hD9⟩⟩, hS.F ht⟩) hS.2.2 dX10_toWhom_66
      ·
        have c17 : ¬ nh ≤ nq := fun h => c17 ((nI_leI (a := nh) (b := nq) (by omega) (by omega)).mpr h)
        refine lv_iconst (v := (-1)) hx hb dX10_toWhom_33 (by decide) ?_
        have hP9 := hP.sub (ws' := [(h0, .inr (10, f_h0)), (x4, .inr (5, f_x4)), (x10, .inr (8, [.int be, .ref s1, .ref x4, .ref x9, .ref s4, .ref s5])), (x9, .inr (9, f_x9)), (x6, .inr (1, f_x6)), (s1, .inl (cI, 4, .inl fs1)), (s4, .inl (cI, 4, .inl fs4)), (s5, .inl (cI, 32, .inl fs5)), (a3, .inl (cI, 8, .inl fa3)), (a4, .inl (cI, 8, .inl fa4)), (o5, .inl (cI, 8, .inl fo5)), (o6, .inl (cI, 8, .inl fo6)), (o7, .inl (cI, 8, .inl fo7)), (o10, .inl (cI, 4, .inl fo10)), (o11, .inl (cI, 4, .inl fo11)), (o12, .inl (cI, 4, .inl fo12))]) [0, 1, 2, 3, 4, 5, 6, 7, 8, 9, 10, 11, 12, 13, 14, 15] rfl
        have hD9 := hD.sub (ws' := [(h0, .inr (10, f_h0)), (x4, .inr (5, f_x4)), (x10, .inr (8, [.int be, .ref s1, .ref x4, .ref x9, .ref s4, .ref s5])), (x9, .inr (9, f_x9)), (x6, .inr (1, f_x6)), (s1, .inl (cI, 4, .inl fs1)), (s4, .inl (cI, 4, .inl fs4)), (s5, .inl (cI, 32, .inl fs5)), (a3, .inl (cI, 8, .inl fa3)), (a4, .inl (cI, 8, .inl fa4)), (o5, .inl (cI, 8, .inl fo5)), (o6, .inl (cI, 8, .inl fo6)), (o7, .inl (cI, 8, .inl fo7)), (o10, .inl (cI, 4, .inl fo10)), (o11, .inl (cI, 4, .inl fo11)), (o12, .inl (cI, 4, .inl fo12))]) [0, 1, 2, 3, 4, 5, 6, 7, 8, 9, 10, 11, 12, 13, 14, 15] (by decide +kernel) rfl
        exact W.iret (v := (-1)) hx hb hr (fun t ht hW => ⟨⟨(-1), (fun _ => 0), rfl, (two_f (Or.inr hw14) (by omega)), ⟨fs1, fs4, fs5, be, by rw [ht]; exact hP9, hD9⟩⟩, hS.F ht⟩) hS.2.2 dX10_toWhom_34
    ·
      refine lv_if_ne (tgt := 16) hx hb dX10_toWhom_10 (by decide) (fun c27 => ?_) (fun c27 => ?_)
      · exact absurd c27 (by decide)
      clear c27
      refine lv_ldc (v := (-1000000001)) hx hb hown (hts (.constant RX10 160 (-1000000001)) (wmx 1 rfl)) dX10_toWhom_13 ?_
      have hP9 := hP.sub (ws' := [(h0, .inr (10, f_h0)), (x4, .inr (5, f_x4)), (x10, .inr (8, [.int be, .ref s1, .ref x4, .ref x9, .ref s4, .ref s5])), (x9, .inr (9, f_x9)), (x6, .inr (1, f_x6)), (s1, .inl (cI, 4, .inl fs1)), (s4, .inl (cI, 4, .inl fs4)), (s5, .inl (cI, 32, .inl fs5)), (a3, .inl (cI, 8, .inl fa3)), (a4, .inl (cI, 8, .inl fa4)), (o5, .inl (cI, 8, .inl fo5)), (o6, .inl (cI, 8, .inl fo6)), (o7, .inl (cI, 8, .inl fo7)), (o10, .inl (cI, 4, .inl fo10)), (o11, .inl (cI, 4, .inl fo11)), (o12, .inl (cI, 4, .inl fo12))]) [0, 1, 2, 3, 4, 5, 6, 7, 8, 9, 10, 11, 12, 13, 14, 15] rfl
      have hD9 := hD.sub (ws' := [(h0, .inr (10, f_h0)), (x4, .inr (5, f_x4)), (x10, .inr (8, [.int be, .ref s1, .ref x4, .ref x9, .ref s4, .ref s5])), (x9, .inr (9, f_x9)), (x6, .inr (1, f_x6)), (s1, .inl (cI, 4, .inl fs1)), (s4, .inl (cI, 4, .inl fs4)), (s5, .inl (cI, 32, .inl fs5)), (a3, .inl (cI, 8, .inl fa3)), (a4, .inl (cI, 8, .inl fa4)), (o5, .inl (cI, 8, .inl fo5)), (o6, .inl (cI, 8, .inl fo6)), (o7, .inl (cI, 8, .inl fo7)), (o10, .inl (cI, 4, .inl fo10)), (o11, .inl (cI, 4, .inl fo11)), (o12, .inl (cI, 4, .inl fo12))]) [0, 1, 2, 3, 4, 5, 6, 7, 8, 9, 10, 11, 12, 13, 14, 15] (by decide +kernel) rfl
      exact W.iret (v := (-1000000001)) hx hb hr (fun t ht hW => ⟨⟨(-1000000001), (fun _ => 0), rfl, (two_u c1 hw14), ⟨fs1, fs4, fs5, be, by rw [ht]; exact hP9, hD9⟩⟩, hS.F ht⟩) hS.2.2 dX10_toWhom_15
set_option maxHeartbeats 4000000 in
set_option maxRecDepth 100000 in
theorem c_X11_figureD (l : Launch) (dC : Nat → ClassId) (dI : Nat → Nat → Nat) (cI cZ cQ : ClassId) (a0 : Int32) (a1 : Int32) (a2 : Int32) (sz : Nat)  : Met l yX11_figure wsX11_figure ({ frames := 0, cells := 0, slots := 0, locals := 40 }) (va_Pc [.int a0, .int a1, .int a2] (fun U => U.heap.size = sz ∧ va_P (dC, dI) vwCl [] U.heap ∧ va_K (dC, dI) vwCl (tys0 cI cZ cQ) U)) (va_Qi (fun (r : Int32) (u : Nat → Nat) => r = fgF a0 a1 a2) (fun (_ : Nat → Nat) (_ : State) => True) (fun _ : Nat => False)) 0 0 (fun _ : Nat => False) := by
  refine Met.ofW (cc := cX11_figure) (maxL := 3) (ret := (some .int)) (by decide) rfl ?_
  intro p e s m args below meth c s₁ B hml hv
  obtain ⟨rfl, hsz, hP, hK⟩ := hv
  have hx := B.exec
  have hb := B.bytes
  have hr := B.returns
  have hts := atoms_spec (ws := wsX11_figure) B.pre
  have hown : s.vm.findClass RX11 = some m.cls := findClass_of_methodNamed B.named
  have hlocks := B.notSynchronized
  subst hsz
  have hS : va_S (fun _ : Nat => False) s.heap s.heap [] := va_S.rf
  have hl := lv_entry ([.int a0, .int a1, .int a2]) (n := 3) (Nat.le_of_ble_eq_true rfl)
  rw [lg_entry_eq]
  generalize (lg_sl ([.int a0, .int a1, .int a2]) ++ List.replicate (3 - (lg_sl ([.int a0, .int a1, .int a2])).length) Slot.unset).toArray = ls at hl ⊢
  have hl : lv_has ls 3 [(0, .int a0), (1, .int a1), (2, .int a2)] := hl
  refine lv_iload_n hx hb dX11_figure_0 rfl (lv_at hl 0 rfl) ?_
  refine lv_iconst (v := 3) hx hb dX11_figure_1 (by decide) ?_
  refine lv_iload_n hx hb dX11_figure_2 rfl (lv_at hl 1 rfl) ?_
  refine lv_iconst (v := 1) hx hb dX11_figure_3 (by decide) ?_
  refine lv_isub hx hb dX11_figure_4 ?_
  refine lv_iload_n hx hb dX11_figure_5 rfl (lv_at hl 2 rfl) ?_
  refine lv_isub hx hb dX11_figure_6 ?_
  refine lv_imul hx hb dX11_figure_7 ?_
  refine lv_ishr hx hb dX11_figure_8 ?_
  refine lv_bipush (v := 7) hx hb dX11_figure_9 (by decide) ?_
  refine lv_iand hx hb dX11_figure_11 ?_
  refine lv_topi (fun z1 ez1 => ?_)
  obtain ⟨w2, hw2, ekw2⟩ := pk_andE (a0 >>> ((3 * ((a1 - 1) - a2)) &&& 31)) (m := 7) 3 (by decide)
  have hw2 : w2 < 8 := hw2
  obtain rfl : z1 = nI w2 := ez1.trans ekw2
  exact W.iret (v := nI w2) hx hb hr (fun t ht hW => ⟨⟨nI w2, (fun _ => 0), rfl, (ekw2.symm), trivial⟩, hS.F ht⟩) hS.2.2 dX11_figure_12
set_option maxHeartbeats 4000000 in
set_option maxRecDepth 100000 in
theorem c_X11_has17 (l : Launch) (dC : Nat → ClassId) (dI : Nat → Nat → Nat) (cI cZ cQ : ClassId) (sb : Nat) (n : Nat) (sz : Nat) (hsb : sb < 256) (hn : n < 8) : Met l yX11_has wsX11_has ({ frames := 0, cells := 0, slots := 0, locals := 40 }) (va_Pc [.int (nI sb), .int (nI n)] (fun U => U.heap.size = sz ∧ va_P (dC, dI) vwCl [] U.heap ∧ va_K (dC, dI) vwCl (tys0 cI cZ cQ) U)) (va_Qi (fun (r : Int32) (u : Nat → Nat) => (r = 1 ∧ sb.testBit n = true) ∨ (r = 0 ∧ ¬ sb.testBit n = true)) (fun (_ : Nat → Nat) (_ : State) => True) (fun _ : Nat => False)) 0 0 (fun _ : Nat => False) := by
  refine Met.ofW (cc := cX11_has) (maxL := 2) (ret := (some .boolean)) (by decide) rfl ?_
  intro p e s m args below meth c s₁ B hml hv
  obtain ⟨rfl, hsz, hP, hK⟩ := hv
  have hx := B.exec
  have hb := B.bytes
  have hr := B.returns
  have hts := atoms_spec (ws := wsX11_has) B.pre
  have hown : s.vm.findClass RX11 = some m.cls := findClass_of_methodNamed B.named
  have hlocks := B.notSynchronized
  subst hsz
  have hS : va_S (fun _ : Nat => False) s.heap s.heap [] := va_S.rf
  have hl := lv_entry ([.int (nI sb), .int (nI n)]) (n := 2) (Nat.le_of_ble_eq_true rfl)
  rw [lg_entry_eq]
  generalize (lg_sl ([.int (nI sb), .int (nI n)]) ++ List.replicate (2 - (lg_sl ([.int (nI sb), .int (nI n)])).length) Slot.unset).toArray = ls at hl ⊢
  have hl : lv_has ls 2 [(0, .int (nI sb)), (1, .int (nI n))] := hl
  refine lv_iload_n hx hb dX11_has_0 rfl (lv_at hl 0 rfl) ?_
  refine lv_iload_n hx hb dX11_has_1 rfl (lv_at hl 1 rfl) ?_
  refine lv_ishr hx hb dX11_has_2 ?_
  refine lv_iconst (v := 1) hx hb dX11_has_3 (by decide) ?_
  refine lv_iand hx hb dX11_has_4 ?_
  refine lv_topi (fun z1 ez1 => ?_)
  obtain ⟨w2, hw2, ekw2⟩ := pk_andE ((nI sb) >>> ((nI n) &&& 31)) (m := 1) 1 (by decide)
  have hw2 : w2 < 2 := hw2
  obtain rfl : z1 = nI w2 := ez1.trans ekw2
  refine lv_iconst (v := 1) hx hb dX11_has_5 (by decide) ?_
  refine lv_icmp_ne (tgt := 13) hx hb dX11_has_6 (by decide) (fun c3 => ?_) (fun c3 => ?_)
  ·
    have c3 : ¬ w2 = 1 := fun h => c3 ((nI_eq (a := w2) (b := 1) (by omega) (by omega)).mpr h)
    refine lv_iconst (v := 0) hx hb dX11_has_13 (by decide) ?_
    exact W.zret (v := 0) hx hb hr (rfl) (fun t ht hW => ⟨⟨0, (fun _ => 0), rfl, Or.inr ⟨rfl, tw_hn hsb hn (by omega) ekw2 (by omega)⟩, trivial⟩, hS.F ht⟩) hS.2.2 dX11_has_14
  ·
    have c3 : w2 = 1 := (nI_eq (a := w2) (b := 1) (by omega) (by omega)).mp c3
    refine lv_iconst (v := 1) hx hb dX11_has_9 (by decide) ?_
    refine lv_goto (tgt := 14) hx hb dX11_has_10 (by decide) ?_
    exact W.zret (v := 1) hx hb hr (rfl) (fun t ht hW => ⟨⟨1, (fun _ => 0), rfl, Or.inl ⟨rfl, tw_hy hsb hn (by omega) ekw2 (by omega)⟩, trivial⟩, hS.F ht⟩) hS.2.2 dX11_has_14
set_option maxHeartbeats 4000000 in
set_option maxRecDepth 100000 in
theorem c_X11_findGivenD (l : Launch) (dC : Nat → ClassId) (dI : Nat → Nat → Nat) (cI cZ cQ : ClassId) (h0 : Nat) (n0 : Int32) (n1 : Int32) (nq : Nat) (m3 : Nat) (m4 : Nat) (m5 : Nat) (nh : Nat) (m7 : Nat) (m8 : Nat) (m9 : Nat) (m10 : Nat) (sd : Nat) (m12 : Nat) (tx : Nat) (n14 : Int32) (at9 : Nat) (n16 : Int32) (n17 : Int32) (m18 : Nat) (rq : Nat) (m20 : Nat) (m21 : Nat) (m22 : Nat) (m23 : Nat) (m24 : Nat) (rh : Nat) (m26 : Nat) (m27 : Nat) (m28 : Nat) (un : Nat) (m30 : Nat) (n31 : Int32) (n32 : Int32) (m33 : Nat) (n34 : Int32) (n35 : Int32) (m36 : Nat) (wm : Nat) (m38 : Nat) (m39 : Nat) (m40 : Nat) (bk : Nat) (m42 : Nat) (m43 : Nat) (m44 : Nat) (m45 : Nat) (fm3 : Nat → Int32) (fm4 : Nat → Int32) (fm5 : Nat → Int32) (fm7 : Nat → Int32) (fm8 : Nat → Int32) (fm9 : Nat → Int32) (fm10 : Nat → Int32) (sz : Nat) (hnq : nq ≤ 8) (hci : cIn fm5 nq) (hnh : nh ≤ 4) : Met l yX11_findGiven wsX11_findGiven ({ frames := 5, cells := 0, slots := 0, locals := 157 }) (va_Pc [.ref h0] (fun U => U.heap.size = sz ∧ va_P (dC, dI) vwCl [(h0, .inr (11, [.int n0, .int n1, .int (nI nq), .ref m3, .ref m4, .ref m5, .int (nI nh), .ref m7, .ref m8, .ref m9, .ref m10, .int (nI sd), .ref m12, .int (nI tx), .int n14, .int (nI at9), .int n16, .int n17, .ref m18, .int (nI rq), .ref m20, .ref m21, .ref m22, .ref m23, .ref m24, .int (nI rh), .ref m26, .ref m27, .ref m28, .int (nI un), .ref m30, .int n31, .int n32, .ref m33, .int n34, .int n35, .ref m36, .int (nI wm), .ref m38, .ref m39, .ref m40, .int (nI bk), .ref m42, .ref m43, .ref m44, .ref m45])), (m3, .inl (cI, 8, .inl fm3)), (m4, .inl (cI, 8, .inl fm4)), (m5, .inl (cI, 8, .inl fm5)), (m7, .inl (cI, 4, .inl fm7)), (m8, .inl (cI, 4, .inl fm8)), (m9, .inl (cI, 4, .inl fm9)), (m10, .inl (cI, 34, .inl fm10))] U.heap ∧ va_K (dC, dI) vwCl (tys0 cI cZ cQ) U ∧ va_D (fun _ => True) [(h0, .inr (11, [.int n0, .int n1, .int (nI nq), .ref m3, .ref m4, .ref m5, .int (nI nh), .ref m7, .ref m8, .ref m9, .ref m10, .int (nI sd), .ref m12, .int (nI tx), .int n14, .int (nI at9), .int n16, .int n17, .ref m18, .int (nI rq), .ref m20, .ref m21, .ref m22, .ref m23, .ref m24, .int (nI rh), .ref m26, .ref m27, .ref m28, .int (nI un), .ref m30, .int n31, .int n32, .ref m33, .int n34, .int n35, .ref m36, .int (nI wm), .ref m38, .ref m39, .ref m40, .int (nI bk), .ref m42, .ref m43, .ref m44, .ref m45])), (m3, .inl (cI, 8, .inl fm3)), (m4, .inl (cI, 8, .inl fm4)), (m5, .inl (cI, 8, .inl fm5)), (m7, .inl (cI, 4, .inl fm7)), (m8, .inl (cI, 4, .inl fm8)), (m9, .inl (cI, 4, .inl fm9)), (m10, .inl (cI, 34, .inl fm10))])) (va_Qv (fun (u : Nat → Nat) => True) (fun (_ : Nat → Nat) (t : State) => ∃ (ii0 ii1 : Int32) , (twB nq (fun j k => gdM lmB (wrF (fm3 j) (fm4 j) (fm5 j) (fm7 k) (fm8 k)) (fm9 k) (fm10 (8 + j)) (fm10 (16 + j)) 999) nh (8 ^ nh) ii1 (fun K => ii0 = nI K)) ∧ va_P (dC, dI) vwCl [(h0, .inr (11, [.int n0, .int n1, .int (nI nq), .ref m3, .ref m4, .ref m5, .int (nI nh), .ref m7, .ref m8, .ref m9, .ref m10, .int (nI sd), .ref m12, .int (nI tx), .int n14, .int (nI at9), .int n16, .int n17, .ref m18, .int (nI rq), .ref m20, .ref m21, .ref m22, .ref m23, .ref m24, .int (nI rh), .ref m26, .ref m27, .ref m28, .int (nI un), .ref m30, .int ii0, .int ii1, .ref m33, .int n34, .int n35, .ref m36, .int (nI wm), .ref m38, .ref m39, .ref m40, .int (nI bk), .ref m42, .ref m43, .ref m44, .ref m45])), (m3, .inl (cI, 8, .inl fm3)), (m4, .inl (cI, 8, .inl fm4)), (m5, .inl (cI, 8, .inl fm5)), (m7, .inl (cI, 4, .inl fm7)), (m8, .inl (cI, 4, .inl fm8)), (m9, .inl (cI, 4, .inl fm9)), (m10, .inl (cI, 34, .inl fm10))] t.heap ∧ va_D (va_A [(h0, .inr (11, [.int n0, .int n1, .int (nI nq), .ref m3, .ref m4, .ref m5, .int (nI nh), .ref m7, .ref m8, .ref m9, .ref m10, .int (nI sd), .ref m12, .int (nI tx), .int n14, .int (nI at9), .int n16, .int n17, .ref m18, .int (nI rq), .ref m20, .ref m21, .ref m22, .ref m23, .ref m24, .int (nI rh), .ref m26, .ref m27, .ref m28, .int (nI un), .ref m30, .int n31, .int n32, .ref m33, .int n34, .int n35, .ref m36, .int (nI wm), .ref m38, .ref m39, .ref m40, .int (nI bk), .ref m42, .ref m43, .ref m44, .ref m45])), (m3, .inl (cI, 8, .inl fm3)), (m4, .inl (cI, 8, .inl fm4)), (m5, .inl (cI, 8, .inl fm5)), (m7, .inl (cI, 4, .inl fm7)), (m8, .inl (cI, 4, .inl fm8)), (m9, .inl (cI, 4, .inl fm9)), (m10, .inl (cI, 34, .inl fm10))] sz) [(h0, .inr (11, [.int n0, .int n1, .int (nI nq), .ref m3, .ref m4, .ref m5, .int (nI nh), .ref m7, .ref m8, .ref m9, .ref m10, .int (nI sd), .ref m12, .int (nI tx), .int n14, .int (nI at9), .int n16, .int n17, .ref m18, .int (nI rq), .ref m20, .ref m21, .ref m22, .ref m23, .ref m24, .int (nI rh), .ref m26, .ref m27, .ref m28, .int (nI un), .ref m30, .int ii0, .int ii1, .ref m33, .int n34, .int n35, .ref m36, .int (nI wm), .ref m38, .ref m39, .ref m40, .int (nI bk), .ref m42, .ref m43, .ref m44, .ref m45])), (m3, .inl (cI, 8, .inl fm3)), (m4, .inl (cI, 8, .inl fm4)), (m5, .inl (cI, 8, .inl fm5)), (m7, .inl (cI, 4, .inl fm7)), (m8, .inl (cI, 4, .inl fm8)), (m9, .inl (cI, 4, .inl fm9)), (m10, .inl (cI, 34, .inl fm10))]) (va_A [(h0, .inr (11, [.int n0, .int n1, .int (nI nq), .ref m3, .ref m4, .ref m5, .int (nI nh), .ref m7, .ref m8, .ref m9, .ref m10, .int (nI sd), .ref m12, .int (nI tx), .int n14, .int (nI at9), .int n16, .int n17, .ref m18, .int (nI rq), .ref m20, .ref m21, .ref m22, .ref m23, .ref m24, .int (nI rh), .ref m26, .ref m27, .ref m28, .int (nI un), .ref m30, .int n31, .int n32, .ref m33, .int n34, .int n35, .ref m36, .int (nI wm), .ref m38, .ref m39, .ref m40, .int (nI bk), .ref m42, .ref m43, .ref m44, .ref m45])), (m3, .inl (cI, 8, .inl fm3)), (m4, .inl (cI, 8, .inl fm4)), (m5, .inl (cI, 8, .inl fm5)), (m7, .inl (cI, 4, .inl fm7)), (m8, .inl (cI, 4, .inl fm8)), (m9, .inl (cI, 4, .inl fm9)), (m10, .inl (cI, 34, .inl fm10))] sz)) 0 0 (va_A [(h0, .inr (11, [.int n0, .int n1, .int (nI nq), .ref m3, .ref m4, .ref m5, .int (nI nh), .ref m7, .ref m8, .ref m9, .ref m10, .int (nI sd), .ref m12, .int (nI tx), .int n14, .int (nI at9), .int n16, .int n17, .ref m18, .int (nI rq), .ref m20, .ref m21, .ref m22, .ref m23, .ref m24, .int (nI rh), .ref m26, .ref m27, .ref m28, .int (nI un), .ref m30, .int n31, .int n32, .ref m33, .int n34, .int n35, .ref m36, .int (nI wm), .ref m38, .ref m39, .ref m40, .int (nI bk), .ref m42, .ref m43, .ref m44, .ref m45])), (m3, .inl (cI, 8, .inl fm3)), (m4, .inl (cI, 8, .inl fm4)), (m5, .inl (cI, 8, .inl fm5)), (m7, .inl (cI, 4, .inl fm7)), (m8, .inl (cI, 4, .inl fm8)), (m9, .inl (cI, 4, .inl fm9)), (m10, .inl (cI, 34, .inl fm10))] sz) := by
  refine Met.ofW (cc := cX11_findGiven) (maxL := 7) (ret := none) (by decide) rfl ?_
  intro p e s m args below meth c s₁ B hml hv
  obtain ⟨rfl, hsz, hP, hK, hD0⟩ := hv
  have hx := B.exec
  have hb := B.bytes
  have hr := B.returns
  have hts := atoms_spec (ws := wsX11_findGiven) B.pre
  have hown : s.vm.findClass RX11 = some m.cls := findClass_of_methodNamed B.named
  have hlocks := B.notSynchronized
  have hi_X11 : ∀ w ∈ u_ws RX11 TX11 46, w ∈ wsX11_findGiven := fun _ h => List.mem_cons_of_mem _ (List.mem_append_right _ (h))
  subst hsz
  have hD := hD0.self (sz := s.heap.size)
  generalize hAe : va_A [(h0, .inr (11, [.int n0, .int n1, .int (nI nq), .ref m3, .ref m4, .ref m5, .int (nI nh), .ref m7, .ref m8, .ref m9, .ref m10, .int (nI sd), .ref m12, .int (nI tx), .int n14, .int (nI at9), .int n16, .int n17, .ref m18, .int (nI rq), .ref m20, .ref m21, .ref m22, .ref m23, .ref m24, .int (nI rh), .ref m26, .ref m27, .ref m28, .int (nI un), .ref m30, .int n31, .int n32, .ref m33, .int n34, .int n35, .ref m36, .int (nI wm), .ref m38, .ref m39, .ref m40, .int (nI bk), .ref m42, .ref m43, .ref m44, .ref m45])), (m3, .inl (cI, 8, .inl fm3)), (m4, .inl (cI, 8, .inl fm4)), (m5, .inl (cI, 8, .inl fm5)), (m7, .inl (cI, 4, .inl fm7)), (m8, .inl (cI, 4, .inl fm8)), (m9, .inl (cI, 4, .inl fm9)), (m10, .inl (cI, 34, .inl fm10))] s.heap.size = A at hD ⊢
  have hA : ∀ q : Nat, s.heap.size ≤ q → A q := fun q h => by rw [← hAe]; exact Or.inr h
  have hS : va_S A s.heap s.heap [] := va_S.rf
  have hl := lv_entry ([.ref h0]) (n := 7) (Nat.le_of_ble_eq_true rfl)
  rw [lg_entry_eq]
  generalize (lg_sl ([.ref h0]) ++ List.replicate (7 - (lg_sl ([.ref h0])).length) Slot.unset).toArray = ls at hl ⊢
  have hl : lv_has ls 7 [(0, .ref h0)] := hl
  obtain ⟨n8, hn8, en8, es8⟩ := tw_N8 hnh
  replace en8 : Hid (n8 = 8 ^ nh) := Hid.mk en8
  refine lv_aload_n hx hb dX11_findGiven_0 rfl (lv_at hl 0 rfl) ?_
  refine lv_iconst (v := (-1)) hx hb dX11_findGiven_1 (by decide) ?_
  refine va_put (D := (dC, dI)) (ci := 11) (v := .int (-1)) (ty := .int) (C := RX11) (T := TX11) (N := 46) hx hb hts hi_X11 tyX11 tyX11_ok nmX11 hown hK hP hD hS 0 rfl rfl 31 (by decide) (hts (.fieldLink RX11 269 "LeftQuillsModel" "given" "I") (wmx 1 rfl)) (fun _ h9 => h9) rfl (by decide +kernel) rfl rfl (Nat.le_of_ble_eq_true rfl) dX11_findGiven_2 (fun H locs hP hD hS => ?_)
  have hP : va_P (dC, dI) vwCl [(h0, .inr (11, [.int n0, .int n1, .int (nI nq), .ref m3, .ref m4, .ref m5, .int (nI nh), .ref m7, .ref m8, .ref m9, .ref m10, .int (nI sd), .ref m12, .int (nI tx), .int n14, .int (nI at9), .int n16, .int n17, .ref m18, .int (nI rq), .ref m20, .ref m21, .ref m22, .ref m23, .ref m24, .int (nI rh), .ref m26, .ref m27, .ref m28, .int (nI un), .ref m30, .int (-1), .int n32, .ref m33, .int n34, .int n35, .ref m36, .int (nI wm), .ref m38, .ref m39, .ref m40, .int (nI bk), .ref m42, .ref m43, .ref m44, .ref m45])), (m3, .inl (cI, 8, .inl fm3)), (m4, .inl (cI, 8, .inl fm4)), (m5, .inl (cI, 8, .inl fm5)), (m7, .inl (cI, 4, .inl fm7)), (m8, .inl (cI, 4, .inl fm8)), (m9, .inl (cI, 4, .inl fm9)), (m10, .inl (cI, 34, .inl fm10))] H := hP
  have hD : va_D A [(h0, .inr (11, [.int n0, .int n1, .int (nI nq), .ref m3, .ref m4, .ref m5, .int (nI nh), .ref m7, .ref m8, .ref m9, .ref m10, .int (nI sd), .ref m12, .int (nI tx), .int n14, .int (nI at9), .int n16, .int n17, .ref m18, .int (nI rq), .ref m20, .ref m21, .ref m22, .ref m23, .ref m24, .int (nI rh), .ref m26, .ref m27, .ref m28, .int (nI un), .ref m30, .int (-1), .int n32, .ref m33, .int n34, .int n35, .ref m36, .int (nI wm), .ref m38, .ref m39, .ref m40, .int (nI bk), .ref m42, .ref m43, .ref m44, .ref m45])), (m3, .inl (cI, 8, .inl fm3)), (m4, .inl (cI, 8, .inl fm4)), (m5, .inl (cI, 8, .inl fm5)), (m7, .inl (cI, 4, .inl fm7)), (m8, .inl (cI, 4, .inl fm8)), (m9, .inl (cI, 4, .inl fm9)), (m10, .inl (cI, 34, .inl fm10))] := hD
  refine lv_aload_n hx hb dX11_findGiven_5 rfl (lv_at hl 0 rfl) ?_
  refine lv_iconst (v := (-1)) hx hb dX11_findGiven_6 (by decide) ?_
  refine va_put (D := (dC, dI)) (ci := 11) (v := .int (-1)) (ty := .int) (C := RX11) (T := TX11) (N := 46) hx hb hts hi_X11 tyX11 tyX11_ok nmX11 hown hK hP hD hS 0 rfl rfl 32 (by decide) (hts (.fieldLink RX11 272 "LeftQuillsModel" "givenMost" "I") (wmx 2 rfl)) (fun _ h9 => h9) rfl (by decide +kernel) rfl rfl (Nat.le_of_ble_eq_true rfl) dX11_findGiven_7 (fun H locs hP hD hS => ?_)
  have hP : va_P (dC, dI) vwCl [(h0, .inr (11, [.int n0, .int n1, .int (nI nq), .ref m3, .ref m4, .ref m5, .int (nI nh), .ref m7, .ref m8, .ref m9, .ref m10, .int (nI sd), .ref m12, .int (nI tx), .int n14, .int (nI at9), .int n16, .int n17, .ref m18, .int (nI rq), .ref m20, .ref m21, .ref m22, .ref m23, .ref m24, .int (nI rh), .ref m26, .ref m27, .ref m28, .int (nI un), .ref m30, .int (-1), .int (-1), .ref m33, .int n34, .int n35, .ref m36, .int (nI wm), .ref m38, .ref m39, .ref m40, .int (nI bk), .ref m42, .ref m43, .ref m44, .ref m45])), (m3, .inl (cI, 8, .inl fm3)), (m4, .inl (cI, 8, .inl fm4)), (m5, .inl (cI, 8, .inl fm5)), (m7, .inl (cI, 4, .inl fm7)), (m8, .inl (cI, 4, .inl fm8)), (m9, .inl (cI, 4, .inl fm9)), (m10, .inl (cI, 34, .inl fm10))] H := hP
  have hD : va_D A [(h0, .inr (11, [.int n0, .int n1, .int (nI nq), .ref m3, .ref m4, .ref m5, .int (nI nh), .ref m7, .ref m8, .ref m9, .ref m10, .int (nI sd), .ref m12, .int (nI tx), .int n14, .int (nI at9), .int n16, .int n17, .ref m18, .int (nI rq), .ref m20, .ref m21, .ref m22, .ref m23, .ref m24, .int (nI rh), .ref m26, .ref m27, .ref m28, .int (nI un), .ref m30, .int (-1), .int (-1), .ref m33, .int n34, .int n35, .ref m36, .int (nI wm), .ref m38, .ref m39, .ref m40, .int (nI bk), .ref m42, .ref m43, .ref m44, .ref m45])), (m3, .inl (cI, 8, .inl fm3)), (m4, .inl (cI, 8, .inl fm4)), (m5, .inl (cI, 8, .inl fm5)), (m7, .inl (cI, 4, .inl fm7)), (m8, .inl (cI, 4, .inl fm8)), (m9, .inl (cI, 4, .inl fm9)), (m10, .inl (cI, 34, .inl fm10))] := hD
  refine lv_iconst (v := 0) hx hb dX11_findGiven_10 (by decide) ?_
  refine lv_istore_n (lv' := [(1, .int 0), (0, .ref h0)]) hx hb dX11_findGiven_11 rfl hl (by decide) rfl (fun ls hl => ?_)
  refine (fun (K : ∀ (d12 : Nat) (k12 : Nat) (i12_h0_31 : Int32) (i12_h0_32 : Int32) (H : Heap) (locs : List Loc) (ls : Array Slot), k12 + d12 = n8 → twB nq (fun j k => gdM lmB (wrF (fm3 j) (fm4 j) (fm5 j) (fm7 k) (fm8 k)) (fm9 k) (fm10 (8 + j)) (fm10 (16 + j)) 999) nh k12 i12_h0_32 (fun K => i12_h0_31 = nI K) → va_P (dC, dI) vwCl [(h0, .inr (11, [.int n0, .int n1, .int (nI nq), .ref m3, .ref m4, .ref m5, .int (nI nh), .ref m7, .ref m8, .ref m9, .ref m10, .int (nI sd), .ref m12, .int (nI tx), .int n14, .int (nI at9), .int n16, .int n17, .ref m18, .int (nI rq), .ref m20, .ref m21, .ref m22, .ref m23, .ref m24, .int (nI rh), .ref m26, .ref m27, .ref m28, .int (nI un), .ref m30, .int i12_h0_31, .int i12_h0_32, .ref m33, .int n34, .int n35, .ref m36, .int (nI wm), .ref m38, .ref m39, .ref m40, .int (nI bk), .ref m42, .ref m43, .ref m44, .ref m45])), (m3, .inl (cI, 8, .inl fm3)), (m4, .inl (cI, 8, .inl fm4)), (m5, .inl (cI, 8, .inl fm5)), (m7, .inl (cI, 4, .inl fm7)), (m8, .inl (cI, 4, .inl fm8)), (m9, .inl (cI, 4, .inl fm9)), (m10, .inl (cI, 34, .inl fm10))] H → va_D A [(h0, .inr (11, [.int n0, .int n1, .int (nI nq), .ref m3, .ref m4, .ref m5, .int (nI nh), .ref m7, .ref m8, .ref m9, .ref m10, .int (nI sd), .ref m12, .int (nI tx), .int n14, .int (nI at9), .int n16, .int n17, .ref m18, .int (nI rq), .ref m20, .ref m21, .ref m22, .ref m23, .ref m24, .int (nI rh), .ref m26, .ref m27, .ref m28, .int (nI un), .ref m30, .int i12_h0_31, .int i12_h0_32, .ref m33, .int n34, .int n35, .ref m36, .int (nI wm), .ref m38, .ref m39, .ref m40, .int (nI bk), .ref m42, .ref m43, .ref m44, .ref m45])), (m3, .inl (cI, 8, .inl fm3)), (m4, .inl (cI, 8, .inl fm4)), (m5, .inl (cI, 8, .inl fm5)), (m7, .inl (cI, 4, .inl fm7)), (m8, .inl (cI, 4, .inl fm8)), (m9, .inl (cI, 4, .inl fm9)), (m10, .inl (cI, 34, .inl fm10))] → va_S A s.heap H locs → lv_has ls 7 [(1, .int (nI k12)), (0, .ref h0)] → W p l e _ s m _ below meth c H locs _ _ _ (F0 m 12 ls [])) => K n8 0 (-1) (-1) _ _ _ (by omega) (tw_0 rfl) hP hD hS (lv_sub hl [0, 1] rfl)) ?_
  intro d12
  induction d12 with
  | zero =>
    intro k12 i12_h0_31 i12_h0_32 H locs ls hk12 hv12_0 hP hD hS hl
    refine lv_iload_n hx hb dX11_findGiven_12 rfl (lv_at hl 0 rfl) ?_
    refine lv_iconst (v := 1) hx hb dX11_findGiven_13 (by decide) ?_
    refine lv_iconst (v := 3) hx hb dX11_findGiven_14 (by decide) ?_
    refine lv_aload_n hx hb dX11_findGiven_15 rfl (lv_at hl 1 rfl) ?_
    refine va_get (D := (dC, dI)) (ci := 11) (v := .int (nI nh)) (C := RX11) (T := TX11) (N := 46) hx hb hts hi_X11 hown hK hP 0 rfl rfl 6 (by decide) (hts (.fieldLink RX11 106 "LeftQuillsModel" "hands" "I") (wmx 3 rfl)) (fun _ h9 => h9) rfl dX11_findGiven_16 ?_
    refine lv_imul hx hb dX11_findGiven_19 ?_
    refine lv_topi (fun z1 ez1 => ?_)
    obtain rfl : z1 = nI (3 * nh) := ez1.trans (pk_mul 3 nh)
    refine lv_ishl hx hb dX11_findGiven_20 ?_
    refine lv_topi (fun z2 ez2 => ?_)
    obtain rfl : z2 = nI n8 := ez2.trans es8
    refine lv_icmp_ge (tgt := 174) hx hb dX11_findGiven_21 (by decide) (fun c3 => ?_) (fun c3 => ?_)
    ·
      have c3 : n8 ≤ k12 := (nI_leI (a := n8) (b := k12) (by omega) (by omega)).mp c3
      have hP9 := hP.sub (ws' := [(h0, .inr (11, [.int n0, .int n1, .int (nI nq), .ref m3, .ref m4, .ref m5, .int (nI nh), .ref m7, .ref m8, .ref m9, .ref m10, .int (nI sd), .ref m12, .int (nI tx), .int n14, .int (nI at9), .int n16, .int n17, .ref m18, .int (nI rq), .ref m20, .ref m21, .ref m22, .ref m23, .ref m24, .int (nI rh), .ref m26, .ref m27, .ref m28, .int (nI un), .ref m30, .int i12_h0_31, .int i12_h0_32, .ref m33, .int n34, .int n35, .ref m36, .int (nI wm), .ref m38, .ref m39, .ref m40, .int (nI bk), .ref m42, .ref m43, .ref m44, .ref m45])), (m3, .inl (cI, 8, .inl fm3)), (m4, .inl (cI, 8, .inl fm4)), (m5, .inl (cI, 8, .inl fm5)), (m7, .inl (cI, 4, .inl fm7)), (m8, .inl (cI, 4, .inl fm8)), (m9, .inl (cI, 4, .inl fm9)), (m10, .inl (cI, 34, .inl fm10))]) [0, 1, 2, 3, 4, 5, 6, 7] rfl
      have hD9 := hD.sub (ws' := [(h0, .inr (11, [.int n0, .int n1, .int (nI nq), .ref m3, .ref m4, .ref m5, .int (nI nh), .ref m7, .ref m8, .ref m9, .ref m10, .int (nI sd), .ref m12, .int (nI tx), .int n14, .int (nI at9), .int n16, .int n17, .ref m18, .int (nI rq), .ref m20, .ref m21, .ref m22, .ref m23, .ref m24, .int (nI rh), .ref m26, .ref m27, .ref m28, .int (nI un), .ref m30, .int i12_h0_31, .int i12_h0_32, .ref m33, .int n34, .int n35, .ref m36, .int (nI wm), .ref m38, .ref m39, .ref m40, .int (nI bk), .ref m42, .ref m43, .ref m44, .ref m45])), (m3, .inl (cI, 8, .inl fm3)), (m4, .inl (cI, 8, .inl fm4)), (m5, .inl (cI, 8, .inl fm5)), (m7, .inl (cI, 4, .inl fm7)), (m8, .inl (cI, 4, .inl fm8)), (m9, .inl (cI, 4, .inl fm9)), (m10, .inl (cI, 34, .inl fm10))]) [0, 1, 2, 3, 4, 5, 6, 7] (by decide +kernel) rfl
      exact W.vret hx hb hr (fun t ht hW => ⟨⟨(fun _ => 0), rfl, trivial, ⟨i12_h0_31, i12_h0_32, (by rw [← en8.out, show n8 = k12 from by omega]; exact hv12_0), by rw [ht]; exact hP9, hD9⟩⟩, hS.F ht⟩) hS.2.2 dX11_findGiven_174
    ·
      have c3 : ¬ n8 ≤ k12 := fun h => c3 ((nI_leI (a := n8) (b := k12) (by omega) (by omega)).mpr h)
      omega
  | succ d12 ih12 =>
    intro k12 i12_h0_31 i12_h0_32 H locs ls hk12 hv12_0 hP hD hS hl
    refine lv_iload_n hx hb dX11_findGiven_12 rfl (lv_at hl 0 rfl) ?_
    refine lv_iconst (v := 1) hx hb dX11_findGiven_13 (by decide) ?_
    refine lv_iconst (v := 3) hx hb dX11_findGiven_14 (by decide) ?_
    refine lv_aload_n hx hb dX11_findGiven_15 rfl (lv_at hl 1 rfl) ?_
    refine va_get (D := (dC, dI)) (ci := 11) (v := .int (nI nh)) (C := RX11) (T := TX11) (N := 46) hx hb hts hi_X11 hown hK hP 0 rfl rfl 6 (by decide) (hts (.fieldLink RX11 106 "LeftQuillsModel" "hands" "I") (wmx 3 rfl)) (fun _ h9 => h9) rfl dX11_findGiven_16 ?_
    refine lv_imul hx hb dX11_findGiven_19 ?_
    refine lv_topi (fun z4 ez4 => ?_)
    obtain rfl : z4 = nI (3 * nh) := ez4.trans (pk_mul 3 nh)
    refine lv_ishl hx hb dX11_findGiven_20 ?_
    refine lv_topi (fun z5 ez5 => ?_)
    obtain rfl : z5 = nI n8 := ez5.trans es8
    refine lv_icmp_ge (tgt := 174) hx hb dX11_findGiven_21 (by decide) (fun c6 => ?_) (fun c6 => ?_)
    ·
      have c6 : n8 ≤ k12 := (nI_leI (a := n8) (b := k12) (by omega) (by omega)).mp c6
      omega
    ·
      have c6 : ¬ n8 ≤ k12 := fun h => c6 ((nI_leI (a := n8) (b := k12) (by omega) (by omega)).mpr h)
      refine lv_iconst (v := 0) hx hb dX11_findGiven_24 (by decide) ?_
      refine lv_istore_n (lv' := [(2, .int 0), (1, .int (nI k12)), (0, .ref h0)]) hx hb dX11_findGiven_25 rfl hl (by decide) rfl (fun ls hl => ?_)
      refine lv_iconst (v := 0) hx hb dX11_findGiven_26 (by decide) ?_
      refine lv_istore_n (lv' := [(3, .int 0), (2, .int 0), (1, .int (nI k12)), (0, .ref h0)]) hx hb dX11_findGiven_27 rfl hl (by decide) rfl (fun ls hl => ?_)
      refine lv_iconst (v := 1) hx hb dX11_findGiven_28 (by decide) ?_
      refine lv_istore (lv' := [(4, .int 1), (3, .int 0), (2, .int 0), (1, .int (nI k12)), (0, .ref h0)]) hx hb dX11_findGiven_29 hl (by decide) rfl (fun ls hl => ?_)
      refine lv_iconst (v := 0) hx hb dX11_findGiven_31 (by decide) ?_
      refine lv_istore (lv' := [(5, .int 0), (4, .int 1), (3, .int 0), (2, .int 0), (1, .int (nI k12)), (0, .ref h0)]) hx hb dX11_findGiven_32 hl (by decide) rfl (fun ls hl => ?_)
      refine (fun (K : ∀ (d34 : Nat) (k34 : Nat) (a34_2 : Int32) (a34_3 : Int32) (a34_4 : Nat) (H : Heap) (locs : List Loc) (ls : Array Slot), k34 + d34 = nh → a34_4 ≤ 1 → twI nq (fun j k => gdM lmB (wrF (fm3 j) (fm4 j) (fm5 j) (fm7 k) (fm8 k)) (fm9 k) (fm10 (8 + j)) (fm10 (16 + j)) 999) nh k12 k34 a34_4 a34_2 a34_3 → va_P (dC, dI) vwCl [(h0, .inr (11, [.int n0, .int n1, .int (nI nq), .ref m3, .ref m4, .ref m5, .int (nI nh), .ref m7, .ref m8, .ref m9, .ref m10, .int (nI sd), .ref m12, .int (nI tx), .int n14, .int (nI at9), .int n16, .int n17, .ref m18, .int (nI rq), .ref m20, .ref m21, .ref m22, .ref m23, .ref m24, .int (nI rh), .ref m26, .ref m27, .ref m28, .int (nI un), .ref m30, .int i12_h0_31, .int i12_h0_32, .ref m33, .int n34, .int n35, .ref m36, .int (nI wm), .ref m38, .ref m39, .ref m40, .int (nI bk), .ref m42, .ref m43, .ref m44, .ref m45])), (m3, .inl (cI, 8, .inl fm3)), (m4, .inl (cI, 8, .inl fm4)), (m5, .inl (cI, 8, .inl fm5)), (m7, .inl (cI, 4, .inl fm7)), (m8, .inl (cI, 4, .inl fm8)), (m9, .inl (cI, 4, .inl fm9)), (m10, .inl (cI, 34, .inl fm10))] H → va_D A [(h0, .inr (11, [.int n0, .int n1, .int (nI nq), .ref m3, .ref m4, .ref m5, .int (nI nh), .ref m7, .ref m8, .ref m9, .ref m10, .int (nI sd), .ref m12, .int (nI tx), .int n14, .int (nI at9), .int n16, .int n17, .ref m18, .int (nI rq), .ref m20, .ref m21, .ref m22, .ref m23, .ref m24, .int (nI rh), .ref m26, .ref m27, .ref m28, .int (nI un), .ref m30, .int i12_h0_31, .int i12_h0_32, .ref m33, .int n34, .int n35, .ref m36, .int (nI wm), .ref m38, .ref m39, .ref m40, .int (nI bk), .ref m42, .ref m43, .ref m44, .ref m45])), (m3, .inl (cI, 8, .inl fm3)), (m4, .inl (cI, 8, .inl fm4)), (m5, .inl (cI, 8, .inl fm5)), (m7, .inl (cI, 4, .inl fm7)), (m8, .inl (cI, 4, .inl fm8)), (m9, .inl (cI, 4, .inl fm9)), (m10, .inl (cI, 34, .inl fm10))] → va_S A s.heap H locs → lv_has ls 7 [(5, .int (nI k34)), (2, .int a34_2), (3, .int a34_3), (4, .int (nI a34_4)), (1, .int (nI k12)), (0, .ref h0)] → W p l e _ s m _ below meth c H locs _ _ _ (F0 m 34 ls [])) => K nh 0 0 0 1 _ _ _ (by omega) (by omega) tw_i0 hP hD hS (lv_sub hl [0, 3, 2, 1, 4, 5] rfl)) ?_
      intro d34
      induction d34 with
      | zero =>
        intro k34 a34_2 a34_3 a34_4 H locs ls hk34 hn34_4 hv34_0 hP hD hS hl
        refine lv_iload hx hb dX11_findGiven_34 (lv_at hl 0 rfl) ?_
        refine lv_aload_n hx hb dX11_findGiven_36 rfl (lv_at hl 5 rfl) ?_
        refine va_get (D := (dC, dI)) (ci := 11) (v := .int (nI nh)) (C := RX11) (T := TX11) (N := 46) hx hb hts hi_X11 hown hK hP 0 rfl rfl 6 (by decide) (hts (.fieldLink RX11 106 "LeftQuillsModel" "hands" "I") (wmx 3 rfl)) (fun _ h9 => h9) rfl dX11_findGiven_37 ?_
        refine lv_icmp_ge (tgt := 118) hx hb dX11_findGiven_40 (by decide) (fun c7 => ?_) (fun c7 => ?_)
        ·
          have c7 : nh ≤ k34 := (nI_leI (a := nh) (b := k34) (by omega) (by omega)).mp c7
          refine lv_aload_n hx hb dX11_findGiven_118 rfl (lv_at hl 5 rfl) ?_
          refine lv_iload hx hb dX11_findGiven_119 (lv_at hl 3 rfl) ?_
          refine lv_if_eq (tgt := 136) hx hb dX11_findGiven_121 (by decide) (fun c8 => ?_) (fun c8 => ?_)
          ·
            have c8 : a34_4 = 0 := (nI_eq (a := a34_4) (b := 0) (by omega) (by omega)).mp c8
            refine lv_aload_n hx hb dX11_findGiven_136 rfl (lv_at hl 5 rfl) ?_
            refine va_get (D := (dC, dI)) (ci := 11) (v := .int i12_h0_31) (C := RX11) (T := TX11) (N := 46) hx hb hts hi_X11 hown hK hP 0 rfl rfl 31 (by decide) (hts (.fieldLink RX11 269 "LeftQuillsModel" "given" "I") (wmx 1 rfl)) (fun _ h9 => h9) rfl dX11_findGiven_137 ?_
            refine va_put (D := (dC, dI)) (ci := 11) (v := .int i12_h0_31) (ty := .int) (C := RX11) (T := TX11) (N := 46) hx hb hts hi_X11 tyX11 tyX11_ok nmX11 hown hK hP hD hS 0 rfl rfl 31 (by decide) (hts (.fieldLink RX11 269 "LeftQuillsModel" "given" "I") (wmx 1 rfl)) (fun _ h9 => h9) rfl (by decide +kernel) rfl rfl (Nat.le_of_ble_eq_true rfl) dX11_findGiven_140 (fun H locs hP hD hS => ?_)
            have hP : va_P (dC, dI) vwCl [(h0, .inr (11, [.int n0, .int n1, .int (nI nq), .ref m3, .ref m4, .ref m5, .int (nI nh), .ref m7, .ref m8, .ref m9, .ref m10, .int (nI sd), .ref m12, .int (nI tx), .int n14, .int (nI at9), .int n16, .int n17, .ref m18, .int (nI rq), .ref m20, .ref m21, .ref m22, .ref m23, .ref m24, .int (nI rh), .ref m26, .ref m27, .ref m28, .int (nI un), .ref m30, .int i12_h0_31, .int i12_h0_32, .ref m33, .int n34, .int n35, .ref m36, .int (nI wm), .ref m38, .ref m39, .ref m40, .int (nI bk), .ref m42, .ref m43, .ref m44, .ref m45])), (m3, .inl (cI, 8, .inl fm3)), (m4, .inl (cI, 8, .inl fm4)), (m5, .inl (cI, 8, .inl fm5)), (m7, .inl (cI, 4, .inl fm7)), (m8, .inl (cI, 4, .inl fm8)), (m9, .inl (cI, 4, .inl fm9)), (m10, .inl (cI, 34, .inl fm10))] H := hP
            have hD : va_D A [(h0, .inr (11, [.int n0, .int n1, .int (nI nq), .ref m3, .ref m4, .ref m5, .int (nI nh), .ref m7, .ref m8, .ref m9, .ref m10, .int (nI sd), .ref m12, .int (nI tx), .int n14, .int (nI at9), .int n16, .int n17, .ref m18, .int (nI rq), .ref m20, .ref m21, .ref m22, .ref m23, .ref m24, .int (nI rh), .ref m26, .ref m27, .ref m28, .int (nI un), .ref m30, .int i12_h0_31, .int i12_h0_32, .ref m33, .int n34, .int n35, .ref m36, .int (nI wm), .ref m38, .ref m39, .ref m40, .int (nI bk), .ref m42, .ref m43, .ref m44, .ref m45])), (m3, .inl (cI, 8, .inl fm3)), (m4, .inl (cI, 8, .inl fm4)), (m5, .inl (cI, 8, .inl fm5)), (m7, .inl (cI, 4, .inl fm7)), (m8, .inl (cI, 4, .inl fm8)), (m9, .inl (cI, 4, .inl fm9)), (m10, .inl (cI, 34, .inl fm10))] := hD
            refine lv_aload_n hx hb dX11_findGiven_143 rfl (lv_at hl 5 rfl) ?_
            refine lv_iload hx hb dX11_findGiven_144 (lv_at hl 3 rfl) ?_
            refine lv_if_eq (tgt := 161) hx hb dX11_findGiven_146 (by decide) (fun c9 => ?_) (fun c9 => ?_)
            ·
              have c9 : a34_4 = 0 := (nI_eq (a := a34_4) (b := 0) (by omega) (by omega)).mp c9
              refine lv_aload_n hx hb dX11_findGiven_161 rfl (lv_at hl 5 rfl) ?_
              refine va_get (D := (dC, dI)) (ci := 11) (v := .int i12_h0_32) (C := RX11) (T := TX11) (N := 46) hx hb hts hi_X11 hown hK hP 0 rfl rfl 32 (by decide) (hts (.fieldLink RX11 272 "LeftQuillsModel" "givenMost" "I") (wmx 2 rfl)) (fun _ h9 => h9) rfl dX11_findGiven_162 ?_
              refine va_put (D := (dC, dI)) (ci := 11) (v := .int i12_h0_32) (ty := .int) (C := RX11) (T := TX11) (N := 46) hx hb hts hi_X11 tyX11 tyX11_ok nmX11 hown hK hP hD hS 0 rfl rfl 32 (by decide) (hts (.fieldLink RX11 272 "LeftQuillsModel" "givenMost" "I") (wmx 2 rfl)) (fun _ h9 => h9) rfl (by decide +kernel) rfl rfl (Nat.le_of_ble_eq_true rfl) dX11_findGiven_165 (fun H locs hP hD hS => ?_)
              have hP : va_P (dC, dI) vwCl [(h0, .inr (11, [.int n0, .int n1, .int (nI nq), .ref m3, .ref m4, .ref m5, .int (nI nh), .ref m7, .ref m8, .ref m9, .ref m10, .int (nI sd), .ref m12, .int (nI tx), .int n14, .int (nI at9), .int n16, .int n17, .ref m18, .int (nI rq), .ref m20, .ref m21, .ref m22, .ref m23, .ref m24, .int (nI rh), .ref m26, .ref m27, .ref m28, .int (nI un), .ref m30, .int i12_h0_31, .int i12_h0_32, .ref m33, .int n34, .int n35, .ref m36, .int (nI wm), .ref m38, .ref m39, .ref m40, .int (nI bk), .ref m42, .ref m43, .ref m44, .ref m45])), (m3, .inl (cI, 8, .inl fm3)), (m4, .inl (cI, 8, .inl fm4)), (m5, .inl (cI, 8, .inl fm5)), (m7, .inl (cI, 4, .inl fm7)), (m8, .inl (cI, 4, .inl fm8)), (m9, .inl (cI, 4, .inl fm9)), (m10, .inl (cI, 34, .inl fm10))] H := hP
              have hD : va_D A [(h0, .inr (11, [.int n0, .int n1, .int (nI nq), .ref m3, .ref m4, .ref m5, .int (nI nh), .ref m7, .ref m8, .ref m9, .ref m10, .int (nI sd), .ref m12, .int (nI tx), .int n14, .int (nI at9), .int n16, .int n17, .ref m18, .int (nI rq), .ref m20, .ref m21, .ref m22, .ref m23, .ref m24, .int (nI rh), .ref m26, .ref m27, .ref m28, .int (nI un), .ref m30, .int i12_h0_31, .int i12_h0_32, .ref m33, .int n34, .int n35, .ref m36, .int (nI wm), .ref m38, .ref m39, .ref m40, .int (nI bk), .ref m42, .ref m43, .ref m44, .ref m45])), (m3, .inl (cI, 8, .inl fm3)), (m4, .inl (cI, 8, .inl fm4)), (m5, .inl (cI, 8, .inl fm5)), (m7, .inl (cI, 4, .inl fm7)), (m8, .inl (cI, 4, .inl fm8)), (m9, .inl (cI, 4, .inl fm9)), (m10, .inl (cI, 34, .inl fm10))] := hD
              refine lv_iinc (v := nI (k12 + 1)) (lv' := [(1, .int (nI (k12 + 1))), (5, .int (nI k34)), (2, .int a34_2), (3, .int a34_3), (4, .int (nI a34_4)), (0, .ref h0)]) hx hb dX11_findGiven_168 hl (k := 4) rfl ((rfl : nI k12 + Int32.ofInt 1 = nI k12 + 1).trans (nI_add k12 1)) (by decide) rfl (fun ls hl => ?_)
              refine lv_goto (tgt := 12) hx hb dX11_findGiven_171 (by decide) ?_
              exact ih12 (k12 + 1) i12_h0_31 i12_h0_32 _ _ _ (by omega) (tw_of hv12_0 hv34_0 (by omega)) hP hD hS (lv_sub hl [0, 5] rfl)
            ·
              have c9 : ¬ a34_4 = 0 := fun h => c9 ((nI_eq (a := a34_4) (b := 0) (by omega) (by omega)).mpr h)
              omega
          ·
            have c8 : ¬ a34_4 = 0 := fun h => c8 ((nI_eq (a := a34_4) (b := 0) (by omega) (by omega)).mpr h)
            refine lv_iload_n hx hb dX11_findGiven_124 rfl (lv_at hl 2 rfl) ?_
            refine lv_aload_n hx hb dX11_findGiven_125 rfl (lv_at hl 5 rfl) ?_
            refine va_get (D := (dC, dI)) (ci := 11) (v := .int i12_h0_32) (C := RX11) (T := TX11) (N := 46) hx hb hts hi_X11 hown hK hP 0 rfl rfl 32 (by decide) (hts (.fieldLink RX11 272 "LeftQuillsModel" "givenMost" "I") (wmx 2 rfl)) (fun _ h9 => h9) rfl dX11_findGiven_126 ?_
            refine lv_icmp_le (tgt := 136) hx hb dX11_findGiven_129 (by decide) (fun c10 => ?_) (fun c10 => ?_)
            ·
              refine lv_aload_n hx hb dX11_findGiven_136 rfl (lv_at hl 5 rfl) ?_
              refine va_get (D := (dC, dI)) (ci := 11) (v := .int i12_h0_31) (C := RX11) (T := TX11) (N := 46) hx hb hts hi_X11 hown hK hP 0 rfl rfl 31 (by decide) (hts (.fieldLink RX11 269 "LeftQuillsModel" "given" "I") (wmx 1 rfl)) (fun _ h9 => h9) rfl dX11_findGiven_137 ?_
              refine va_put (D := (dC, dI)) (ci := 11) (v := .int i12_h0_31) (ty := .int) (C := RX11) (T := TX11) (N := 46) hx hb hts hi_X11 tyX11 tyX11_ok nmX11 hown hK hP hD hS 0 rfl rfl 31 (by decide) (hts (.fieldLink RX11 269 "LeftQuillsModel" "given" "I") (wmx 1 rfl)) (fun _ h9 => h9) rfl (by decide +kernel) rfl rfl (Nat.le_of_ble_eq_true rfl) dX11_findGiven_140 (fun H locs hP hD hS => ?_)
              have hP : va_P (dC, dI) vwCl [(h0, .inr (11, [.int n0, .int n1, .int (nI nq), .ref m3, .ref m4, .ref m5, .int (nI nh), .ref m7, .ref m8, .ref m9, .ref m10, .int (nI sd), .ref m12, .int (nI tx), .int n14, .int (nI at9), .int n16, .int n17, .ref m18, .int (nI rq), .ref m20, .ref m21, .ref m22, .ref m23, .ref m24, .int (nI rh), .ref m26, .ref m27, .ref m28, .int (nI un), .ref m30, .int i12_h0_31, .int i12_h0_32, .ref m33, .int n34, .int n35, .ref m36, .int (nI wm), .ref m38, .ref m39, .ref m40, .int (nI bk), .ref m42, .ref m43, .ref m44, .ref m45])), (m3, .inl (cI, 8, .inl fm3)), (m4, .inl (cI, 8, .inl fm4)), (m5, .inl (cI, 8, .inl fm5)), (m7, .inl (cI, 4, .inl fm7)), (m8, .inl (cI, 4, .inl fm8)), (m9, .inl (cI, 4, .inl fm9)), (m10, .inl (cI, 34, .inl fm10))] H := hP
              have hD : va_D A [(h0, .inr (11, [.int n0, .int n1, .int (nI nq), .ref m3, .ref m4, .ref m5, .int (nI nh), .ref m7, .ref m8, .ref m9, .ref m10, .int (nI sd), .ref m12, .int (nI tx), .int n14, .int (nI at9), .int n16, .int n17, .ref m18, .int (nI rq), .ref m20, .ref m21, .ref m22, .ref m23, .ref m24, .int (nI rh), .ref m26, .ref m27, .ref m28, .int (nI un), .ref m30, .int i12_h0_31, .int i12_h0_32, .ref m33, .int n34, .int n35, .ref m36, .int (nI wm), .ref m38, .ref m39, .ref m40, .int (nI bk), .ref m42, .ref m43, .ref m44, .ref m45])), (m3, .inl (cI, 8, .inl fm3)), (m4, .inl (cI, 8, .inl fm4)), (m5, .inl (cI, 8, .inl fm5)), (m7, .inl (cI, 4, .inl fm7)), (m8, .inl (cI, 4, .inl fm8)), (m9, .inl (cI, 4, .inl fm9)), (m10, .inl (cI, 34, .inl fm10))] := hD
              refine lv_aload_n hx hb dX11_findGiven_143 rfl (lv_at hl 5 rfl) ?_
              refine lv_iload hx hb dX11_findGiven_144 (lv_at hl 3 rfl) ?_
              refine lv_if_eq (tgt := 161) hx hb dX11_findGiven_146 (by decide) (fun c11 => ?_) (fun c11 => ?_)
              ·
                have c11 : a34_4 = 0 := (nI_eq (a := a34_4) (b := 0) (by omega) (by omega)).mp c11
                omega
              ·
                have c11 : ¬ a34_4 = 0 := fun h => c11 ((nI_eq (a := a34_4) (b := 0) (by omega) (by omega)).mpr h)
                refine lv_iload_n hx hb dX11_findGiven_149 rfl (lv_at hl 2 rfl) ?_
                refine lv_aload_n hx hb dX11_findGiven_150 rfl (lv_at hl 5 rfl) ?_
                refine va_get (D := (dC, dI)) (ci := 11) (v := .int i12_h0_32) (C := RX11) (T := TX11) (N := 46) hx hb hts hi_X11 hown hK hP 0 rfl rfl 32 (by decide) (hts (.fieldLink RX11 272 "LeftQuillsModel" "givenMost" "I") (wmx 2 rfl)) (fun _ h9 => h9) rfl dX11_findGiven_151 ?_
                refine lv_icmp_le (tgt := 161) hx hb dX11_findGiven_154 (by decide) (fun c12 => ?_) (fun c12 => ?_)
                rotate_left
                · exact absurd c10 c12
                refine lv_aload_n hx hb dX11_findGiven_161 rfl (lv_at hl 5 rfl) ?_
                refine va_get (D := (dC, dI)) (ci := 11) (v := .int i12_h0_32) (C := RX11) (T := TX11) (N := 46) hx hb hts hi_X11 hown hK hP 0 rfl rfl 32 (by decide) (hts (.fieldLink RX11 272 "LeftQuillsModel" "givenMost" "I") (wmx 2 rfl)) (fun _ h9 => h9) rfl dX11_findGiven_162 ?_
                refine va_put (D := (dC, dI)) (ci := 11) (v := .int i12_h0_32) (ty := .int) (C := RX11) (T := TX11) (N := 46) hx hb hts hi_X11 tyX11 tyX11_ok nmX11 hown hK hP hD hS 0 rfl rfl 32 (by decide) (hts (.fieldLink RX11 272 "LeftQuillsModel" "givenMost" "I") (wmx 2 rfl)) (fun _ h9 => h9) rfl (by decide +kernel) rfl rfl (Nat.le_of_ble_eq_true rfl) dX11_findGiven_165 (fun H locs hP hD hS => ?_)
                have hP : va_P (dC, dI) vwCl [(h0, .inr (11, [.int n0, .int n1, .int (nI nq), .ref m3, .ref m4, .ref m5, .int (nI nh), .ref m7, .ref m8, .ref m9, .ref m10, .int (nI sd), .ref m12, .int (nI tx), .int n14, .int (nI at9), .int n16, .int n17, .ref m18, .int (nI rq), .ref m20, .ref m21, .ref m22, .ref m23, .ref m24, .int (nI rh), .ref m26, .ref m27, .ref m28, .int (nI un), .ref m30, .int i12_h0_31, .int i12_h0_32, .ref m33, .int n34, .int n35, .ref m36, .int (nI wm), .ref m38, .ref m39, .ref m40, .int (nI bk), .ref m42, .ref m43, .ref m44, .ref m45])), (m3, .inl (cI, 8, .inl fm3)), (m4, .inl (cI, 8, .inl fm4)), (m5, .inl (cI, 8, .inl fm5)), (m7, .inl (cI, 4, .inl fm7)), (m8, .inl (cI, 4, .inl fm8)), (m9, .inl (cI, 4, .inl fm9)), (m10, .inl (cI, 34, .inl fm10))] H := hP
                have hD : va_D A [(h0, .inr (11, [.int n0, .int n1, .int (nI nq), .ref m3, .ref m4, .ref m5, .int (nI nh), .ref m7, .ref m8, .ref m9, .ref m10, .int (nI sd), .ref m12, .int (nI tx), .int n14, .int (nI at9), .int n16, .int n17, .ref m18, .int (nI rq), .ref m20, .ref m21, .ref m22, .ref m23, .ref m24, .int (nI rh), .ref m26, .ref m27, .ref m28, .int (nI un), .ref m30, .int i12_h0_31, .int i12_h0_32, .ref m33, .int n34, .int n35, .ref m36, .int (nI wm), .ref m38, .ref m39, .ref m40, .int (nI bk), .ref m42, .ref m43, .ref m44, .ref m45])), (m3, .inl (cI, 8, .inl fm3)), (m4, .inl (cI, 8, .inl fm4)), (m5, .inl (cI, 8, .inl fm5)), (m7, .inl (cI, 4, .inl fm7)), (m8, .inl (cI, 4, .inl fm8)), (m9, .inl (cI, 4, .inl fm9)), (m10, .inl (cI, 34, .inl fm10))] := hD
                refine lv_iinc (v := nI (k12 + 1)) (lv' := [(1, .int (nI (k12 + 1))), (5, .int (nI k34)), (2, .int a34_2), (3, .int a34_3), (4, .int (nI a34_4)), (0, .ref h0)]) hx hb dX11_findGiven_168 hl (k := 4) rfl ((rfl : nI k12 + Int32.ofInt 1 = nI k12 + 1).trans (nI_add k12 1)) (by decide) rfl (fun ls hl => ?_)
                refine lv_goto (tgt := 12) hx hb dX11_findGiven_171 (by decide) ?_
                exact ih12 (k12 + 1) i12_h0_31 i12_h0_32 _ _ _ (by omega) (tw_on (fun _ _ => gdM_le) (by omega) hv12_0 hv34_0 (by omega) (show k34 = nh by omega) (fa_len c10)) hP hD hS (lv_sub hl [0, 5] rfl)
            ·
              refine lv_iload_n hx hb dX11_findGiven_132 rfl (lv_at hl 4 rfl) ?_
              refine lv_goto (tgt := 140) hx hb dX11_findGiven_133 (by decide) ?_
              refine va_put (D := (dC, dI)) (ci := 11) (v := .int (nI k12)) (ty := .int) (C := RX11) (T := TX11) (N := 46) hx hb hts hi_X11 tyX11 tyX11_ok nmX11 hown hK hP hD hS 0 rfl rfl 31 (by decide) (hts (.fieldLink RX11 269 "LeftQuillsModel" "given" "I") (wmx 1 rfl)) (fun _ h9 => h9) rfl (by decide +kernel) rfl rfl (Nat.le_of_ble_eq_true rfl) dX11_findGiven_140 (fun H locs hP hD hS => ?_)
              have hP : va_P (dC, dI) vwCl [(h0, .inr (11, [.int n0, .int n1, .int (nI nq), .ref m3, .ref m4, .ref m5, .int (nI nh), .ref m7, .ref m8, .ref m9, .ref m10, .int (nI sd), .ref m12, .int (nI tx), .int n14, .int (nI at9), .int n16, .int n17, .ref m18, .int (nI rq), .ref m20, .ref m21, .ref m22, .ref m23, .ref m24, .int (nI rh), .ref m26, .ref m27, .ref m28, .int (nI un), .ref m30, .int (nI k12), .int i12_h0_32, .ref m33, .int n34, .int n35, .ref m36, .int (nI wm), .ref m38, .ref m39, .ref m40, .int (nI bk), .ref m42, .ref m43, .ref m44, .ref m45])), (m3, .inl (cI, 8, .inl fm3)), (m4, .inl (cI, 8, .inl fm4)), (m5, .inl (cI, 8, .inl fm5)), (m7, .inl (cI, 4, .inl fm7)), (m8, .inl (cI, 4, .inl fm8)), (m9, .inl (cI, 4, .inl fm9)), (m10, .inl (cI, 34, .inl fm10))] H := hP
              have hD : va_D A [(h0, .inr (11, [.int n0, .int n1, .int (nI nq), .ref m3, .ref m4, .ref m5, .int (nI nh), .ref m7, .ref m8, .ref m9, .ref m10, .int (nI sd), .ref m12, .int (nI tx), .int n14, .int (nI at9), .int n16, .int n17, .ref m18, .int (nI rq), .ref m20, .ref m21, .ref m22, .ref m23, .ref m24, .int (nI rh), .ref m26, .ref m27, .ref m28, .int (nI un), .ref m30, .int (nI k12), .int i12_h0_32, .ref m33, .int n34, .int n35, .ref m36, .int (nI wm), .ref m38, .ref m39, .ref m40, .int (nI bk), .ref m42, .ref m43, .ref m44, .ref m45])), (m3, .inl (cI, 8, .inl fm3)), (m4, .inl (cI, 8, .inl fm4)), (m5, .inl (cI, 8, .inl fm5)), (m7, .inl (cI, 4, .inl fm7)), (m8, .inl (cI, 4, .inl fm8)), (m9, .inl (cI, 4, .inl fm9)), (m10, .inl (cI, 34, .inl fm10))] := hD
              refine lv_aload_n hx hb dX11_findGiven_143 rfl (lv_at hl 5 rfl) ?_
              refine lv_iload hx hb dX11_findGiven_144 (lv_at hl 3 rfl) ?_
              refine lv_if_eq (tgt := 161) hx hb dX11_findGiven_146 (by decide) (fun c13 => ?_) (fun c13 => ?_)
              ·
                have c13 : a34_4 = 0 := (nI_eq (a := a34_4) (b := 0) (by omega) (by omega)).mp c13
                omega
              ·
                have c13 : ¬ a34_4 = 0 := fun h => c13 ((nI_eq (a := a34_4) (b := 0) (by omega) (by omega)).mpr h)
                refine lv_iload_n hx hb dX11_findGiven_149 rfl (lv_at hl 2 rfl) ?_
                refine lv_aload_n hx hb dX11_findGiven_150 rfl (lv_at hl 5 rfl) ?_
                refine va_get (D := (dC, dI)) (ci := 11) (v := .int i12_h0_32) (C := RX11) (T := TX11) (N := 46) hx hb hts hi_X11 hown hK hP 0 rfl rfl 32 (by decide) (hts (.fieldLink RX11 272 "LeftQuillsModel" "givenMost" "I") (wmx 2 rfl)) (fun _ h9 => h9) rfl dX11_findGiven_151 ?_
                refine lv_icmp_le (tgt := 161) hx hb dX11_findGiven_154 (by decide) (fun c14 => ?_) (fun c14 => ?_)
                · exact absurd c14 c10
                refine lv_iload_n hx hb dX11_findGiven_157 rfl (lv_at hl 2 rfl) ?_
                refine lv_goto (tgt := 165) hx hb dX11_findGiven_158 (by decide) ?_
                refine va_put (D := (dC, dI)) (ci := 11) (v := .int a34_3) (ty := .int) (C := RX11) (T := TX11) (N := 46) hx hb hts hi_X11 tyX11 tyX11_ok nmX11 hown hK hP hD hS 0 rfl rfl 32 (by decide) (hts (.fieldLink RX11 272 "LeftQuillsModel" "givenMost" "I") (wmx 2 rfl)) (fun _ h9 => h9) rfl (by decide +kernel) rfl rfl (Nat.le_of_ble_eq_true rfl) dX11_findGiven_165 (fun H locs hP hD hS => ?_)
                have hP : va_P (dC, dI) vwCl [(h0, .inr (11, [.int n0, .int n1, .int (nI nq), .ref m3, .ref m4, .ref m5, .int (nI nh), .ref m7, .ref m8, .ref m9, .ref m10, .int (nI sd), .ref m12, .int (nI tx), .int n14, .int (nI at9), .int n16, .int n17, .ref m18, .int (nI rq), .ref m20, .ref m21, .ref m22, .ref m23, .ref m24, .int (nI rh), .ref m26, .ref m27, .ref m28, .int (nI un), .ref m30, .int (nI k12), .int a34_3, .ref m33, .int n34, .int n35, .ref m36, .int (nI wm), .ref m38, .ref m39, .ref m40, .int (nI bk), .ref m42, .ref m43, .ref m44, .ref m45])), (m3, .inl (cI, 8, .inl fm3)), (m4, .inl (cI, 8, .inl fm4)), (m5, .inl (cI, 8, .inl fm5)), (m7, .inl (cI, 4, .inl fm7)), (m8, .inl (cI, 4, .inl fm8)), (m9, .inl (cI, 4, .inl fm9)), (m10, .inl (cI, 34, .inl fm10))] H := hP
                have hD : va_D A [(h0, .inr (11, [.int n0, .int n1, .int (nI nq), .ref m3, .ref m4, .ref m5, .int (nI nh), .ref m7, .ref m8, .ref m9, .ref m10, .int (nI sd), .ref m12, .int (nI tx), .int n14, .int (nI at9), .int n16, .int n17, .ref m18, .int (nI rq), .ref m20, .ref m21, .ref m22, .ref m23, .ref m24, .int (nI rh), .ref m26, .ref m27, .ref m28, .int (nI un), .ref m30, .int (nI k12), .int a34_3, .ref m33, .int n34, .int n35, .ref m36, .int (nI wm), .ref m38, .ref m39, .ref m40, .int (nI bk), .ref m42, .ref m43, .ref m44, .ref m45])), (m3, .inl (cI, 8, .inl fm3)), (m4, .inl (cI, 8, .inl fm4)), (m5, .inl (cI, 8, .inl fm5)), (m7, .inl (cI, 4, .inl fm7)), (m8, .inl (cI, 4, .inl fm8)), (m9, .inl (cI, 4, .inl fm9)), (m10, .inl (cI, 34, .inl fm10))] := hD
                refine lv_iinc (v := nI (k12 + 1)) (lv' := [(1, .int (nI (k12 + 1))), (5, .int (nI k34)), (2, .int a34_2), (3, .int a34_3), (4, .int (nI a34_4)), (0, .ref h0)]) hx hb dX11_findGiven_168 hl (k := 4) rfl ((rfl : nI k12 + Int32.ofInt 1 = nI k12 + 1).trans (nI_add k12 1)) (by decide) rfl (fun ls hl => ?_)
                refine lv_goto (tgt := 12) hx hb dX11_findGiven_171 (by decide) ?_
                exact ih12 (k12 + 1) (nI k12) a34_3 _ _ _ (by omega) (tw_oy (fun _ _ => gdM_le) (by omega) hv12_0 hv34_0 (by omega) (show k34 = nh by omega) (fa_nle c10)) hP hD hS (lv_sub hl [0, 5] rfl)
        ·
          have c7 : ¬ nh ≤ k34 := fun h => c7 ((nI_leI (a := nh) (b := k34) (by omega) (by omega)).mpr h)
          omega
      | succ d34 ih34 =>
        intro k34 a34_2 a34_3 a34_4 H locs ls hk34 hn34_4 hv34_0 hP hD hS hl
        refine lv_iload hx hb dX11_findGiven_34 (lv_at hl 0 rfl) ?_
        refine lv_aload_n hx hb dX11_findGiven_36 rfl (lv_at hl 5 rfl) ?_
        refine va_get (D := (dC, dI)) (ci := 11) (v := .int (nI nh)) (C := RX11) (T := TX11) (N := 46) hx hb hts hi_X11 hown hK hP 0 rfl rfl 6 (by decide) (hts (.fieldLink RX11 106 "LeftQuillsModel" "hands" "I") (wmx 3 rfl)) (fun _ h9 => h9) rfl dX11_findGiven_37 ?_
        refine lv_icmp_ge (tgt := 118) hx hb dX11_findGiven_40 (by decide) (fun c15 => ?_) (fun c15 => ?_)
        ·
          have c15 : nh ≤ k34 := (nI_leI (a := nh) (b := k34) (by omega) (by omega)).mp c15
          omega
        ·
          have c15 : ¬ nh ≤ k34 := fun h => c15 ((nI_leI (a := nh) (b := k34) (by omega) (by omega)).mpr h)
          refine lv_iload hx hb dX11_findGiven_43 (lv_at hl 3 rfl) ?_
          refine lv_if_eq (tgt := 118) hx hb dX11_findGiven_45 (by decide) (fun c16 => ?_) (fun c16 => ?_)
          ·
            have c16 : a34_4 = 0 := (nI_eq (a := a34_4) (b := 0) (by omega) (by omega)).mp c16
            refine lv_aload_n hx hb dX11_findGiven_118 rfl (lv_at hl 5 rfl) ?_
            refine lv_iload hx hb dX11_findGiven_119 (lv_at hl 3 rfl) ?_
            refine lv_if_eq (tgt := 136) hx hb dX11_findGiven_121 (by decide) (fun c17 => ?_) (fun c17 => ?_)
            ·
              have c17 : a34_4 = 0 := (nI_eq (a := a34_4) (b := 0) (by omega) (by omega)).mp c17
              refine lv_aload_n hx hb dX11_findGiven_136 rfl (lv_at hl 5 rfl) ?_
              refine va_get (D := (dC, dI)) (ci := 11) (v := .int i12_h0_31) (C := RX11) (T := TX11) (N := 46) hx hb hts hi_X11 hown hK hP 0 rfl rfl 31 (by decide) (hts (.fieldLink RX11 269 "LeftQuillsModel" "given" "I") (wmx 1 rfl)) (fun _ h9 => h9) rfl dX11_findGiven_137 ?_
              refine va_put (D := (dC, dI)) (ci := 11) (v := .int i12_h0_31) (ty := .int) (C := RX11) (T := TX11) (N := 46) hx hb hts hi_X11 tyX11 tyX11_ok nmX11 hown hK hP hD hS 0 rfl rfl 31 (by decide) (hts (.fieldLink RX11 269 "LeftQuillsModel" "given" "I") (wmx 1 rfl)) (fun _ h9 => h9) rfl (by decide +kernel) rfl rfl (Nat.le_of_ble_eq_true rfl) dX11_findGiven_140 (fun H locs hP hD hS => ?_)
              have hP : va_P (dC, dI) vwCl [(h0, .inr (11, [.int n0, .int n1, .int (nI nq), .ref m3, .ref m4, .ref m5, .int (nI nh), .ref m7, .ref m8, .ref m9, .ref m10, .int (nI sd), .ref m12, .int (nI tx), .int n14, .int (nI at9), .int n16, .int n17, .ref m18, .int (nI rq), .ref m20, .ref m21, .ref m22, .ref m23, .ref m24, .int (nI rh), .ref m26, .ref m27, .ref m28, .int (nI un), .ref m30, .int i12_h0_31, .int i12_h0_32, .ref m33, .int n34, .int n35, .ref m36, .int (nI wm), .ref m38, .ref m39, .ref m40, .int (nI bk), .ref m42, .ref m43, .ref m44, .ref m45])), (m3, .inl (cI, 8, .inl fm3)), (m4, .inl (cI, 8, .inl fm4)), (m5, .inl (cI, 8, .inl fm5)), (m7, .inl (cI, 4, .inl fm7)), (m8, .inl (cI, 4, .inl fm8)), (m9, .inl (cI, 4, .inl fm9)), (m10, .inl (cI, 34, .inl fm10))] H := hP
              have hD : va_D A [(h0, .inr (11, [.int n0, .int n1, .int (nI nq), .ref m3, .ref m4, .ref m5, .int (nI nh), .ref m7, .ref m8, .ref m9, .ref m10, .int (nI sd), .ref m12, .int (nI tx), .int n14, .int (nI at9), .int n16, .int n17, .ref m18, .int (nI rq), .ref m20, .ref m21, .ref m22, .ref m23, .ref m24, .int (nI rh), .ref m26, .ref m27, .ref m28, .int (nI un), .ref m30, .int i12_h0_31, .int i12_h0_32, .ref m33, .int n34, .int n35, .ref m36, .int (nI wm), .ref m38, .ref m39, .ref m40, .int (nI bk), .ref m42, .ref m43, .ref m44, .ref m45])), (m3, .inl (cI, 8, .inl fm3)), (m4, .inl (cI, 8, .inl fm4)), (m5, .inl (cI, 8, .inl fm5)), (m7, .inl (cI, 4, .inl fm7)), (m8, .inl (cI, 4, .inl fm8)), (m9, .inl (cI, 4, .inl fm9)), (m10, .inl (cI, 34, .inl fm10))] := hD
              refine lv_aload_n hx hb dX11_findGiven_143 rfl (lv_at hl 5 rfl) ?_
              refine lv_iload hx hb dX11_findGiven_144 (lv_at hl 3 rfl) ?_
              refine lv_if_eq (tgt := 161) hx hb dX11_findGiven_146 (by decide) (fun c18 => ?_) (fun c18 => ?_)
              ·
                have c18 : a34_4 = 0 := (nI_eq (a := a34_4) (b := 0) (by omega) (by omega)).mp c18
                refine lv_aload_n hx hb dX11_findGiven_161 rfl (lv_at hl 5 rfl) ?_
                refine va_get (D := (dC, dI)) (ci := 11) (v := .int i12_h0_32) (C := RX11) (T := TX11) (N := 46) hx hb hts hi_X11 hown hK hP 0 rfl rfl 32 (by decide) (hts (.fieldLink RX11 272 "LeftQuillsModel" "givenMost" "I") (wmx 2 rfl)) (fun _ h9 => h9) rfl dX11_findGiven_162 ?_
                refine va_put (D := (dC, dI)) (ci := 11) (v := .int i12_h0_32) (ty := .int) (C := RX11) (T := TX11) (N := 46) hx hb hts hi_X11 tyX11 tyX11_ok nmX11 hown hK hP hD hS 0 rfl rfl 32 (by decide) (hts (.fieldLink RX11 272 "LeftQuillsModel" "givenMost" "I") (wmx 2 rfl)) (fun _ h9 => h9) rfl (by decide +kernel) rfl rfl (Nat.le_of_ble_eq_true rfl) dX11_findGiven_165 (fun H locs hP hD hS => ?_)
                have hP : va_P (dC, dI) vwCl [(h0, .inr (11, [.int n0, .int n1, .int (nI nq), .ref m3, .ref m4, .ref m5, .int (nI nh), .ref m7, .ref m8, .ref m9, .ref m10, .int (nI sd), .ref m12, .int (nI tx), .int n14, .int (nI at9), .int n16, .int n17, .ref m18, .int (nI rq), .ref m20, .ref m21, .ref m22, .ref m23, .ref m24, .int (nI rh), .ref m26, .ref m27, .ref m28, .int (nI un), .ref m30, .int i12_h0_31, .int i12_h0_32, .ref m33, .int n34, .int n35, .ref m36, .int (nI wm), .ref m38, .ref m39, .ref m40, .int (nI bk), .ref m42, .ref m43, .ref m44, .ref m45])), (m3, .inl (cI, 8, .inl fm3)), (m4, .inl (cI, 8, .inl fm4)), (m5, .inl (cI, 8, .inl fm5)), (m7, .inl (cI, 4, .inl fm7)), (m8, .inl (cI, 4, .inl fm8)), (m9, .inl (cI, 4, .inl fm9)), (m10, .inl (cI, 34, .inl fm10))] H := hP
                have hD : va_D A [(h0, .inr (11, [.int n0, .int n1, .int (nI nq), .ref m3, .ref m4, .ref m5, .int (nI nh), .ref m7, .ref m8, .ref m9, .ref m10, .int (nI sd), .ref m12, .int (nI tx), .int n14, .int (nI at9), .int n16, .int n17, .ref m18, .int (nI rq), .ref m20, .ref m21, .ref m22, .ref m23, .ref m24, .int (nI rh), .ref m26, .ref m27, .ref m28, .int (nI un), .ref m30, .int i12_h0_31, .int i12_h0_32, .ref m33, .int n34, .int n35, .ref m36, .int (nI wm), .ref m38, .ref m39, .ref m40, .int (nI bk), .ref m42, .ref m43, .ref m44, .ref m45])), (m3, .inl (cI, 8, .inl fm3)), (m4, .inl (cI, 8, .inl fm4)), (m5, .inl (cI, 8, .inl fm5)), (m7, .inl (cI, 4, .inl fm7)), (m8, .inl (cI, 4, .inl fm8)), (m9, .inl (cI, 4, .inl fm9)), (m10, .inl (cI, 34, .inl fm10))] := hD
                refine lv_iinc (v := nI (k12 + 1)) (lv' := [(1, .int (nI (k12 + 1))), (5, .int (nI k34)), (2, .int a34_2), (3, .int a34_3), (4, .int (nI a34_4)), (0, .ref h0)]) hx hb dX11_findGiven_168 hl (k := 4) rfl ((rfl : nI k12 + Int32.ofInt 1 = nI k12 + 1).trans (nI_add k12 1)) (by decide) rfl (fun ls hl => ?_)
                refine lv_goto (tgt := 12) hx hb dX11_findGiven_171 (by decide) ?_
                exact ih12 (k12 + 1) i12_h0_31 i12_h0_32 _ _ _ (by omega) (tw_of hv12_0 hv34_0 (by omega)) hP hD hS (lv_sub hl [0, 5] rfl)
              ·
                have c18 : ¬ a34_4 = 0 := fun h => c18 ((nI_eq (a := a34_4) (b := 0) (by omega) (by omega)).mpr h)
                omega
            ·
              have c17 : ¬ a34_4 = 0 := fun h => c17 ((nI_eq (a := a34_4) (b := 0) (by omega) (by omega)).mpr h)
              omega
          ·
            have c16 : ¬ a34_4 = 0 := fun h => c16 ((nI_eq (a := a34_4) (b := 0) (by omega) (by omega)).mpr h)
            have hi48 := tw_i1 hv34_0 (by omega)
            obtain ⟨tt, ett⟩ : ∃ y : Nat, Hid (y = twT k34 (k12 / 8 ^ (nh - k34))) := ⟨_, Hid.mk rfl⟩
            have htt : a34_2 = nI tt := by rw [ett.out]; exact hi48.2.1
            subst htt
            refine lv_iload_n hx hb dX11_findGiven_48 rfl (lv_at hl 4 rfl) ?_
            refine lv_aload_n hx hb dX11_findGiven_49 rfl (lv_at hl 5 rfl) ?_
            refine va_get (D := (dC, dI)) (ci := 11) (v := .int (nI nh)) (C := RX11) (T := TX11) (N := 46) hx hb hts hi_X11 hown hK hP 0 rfl rfl 6 (by decide) (hts (.fieldLink RX11 106 "LeftQuillsModel" "hands" "I") (wmx 3 rfl)) (fun _ h9 => h9) rfl dX11_findGiven_50 ?_
            refine lv_iload hx hb dX11_findGiven_53 (lv_at hl 0 rfl) ?_
            have hPc := hP.sub (ws' := []) [] rfl
            refine va_calli (va_runS (As := [.int (nI k12), .int (nI nh), .int (nI k34)]) (rest := []) ⟨hx, hb, hml, hown, hts⟩ (c_X11_figureD l dC dI cI cZ cQ (nI k12) (nI nh) (nI k34) H.size ) (va_cwS 3 hts gX11_findGiven_X11_figure rfl rfl rfl (by decide +kernel) ⟨Nat.le_of_ble_eq_true rfl, Nat.le_of_ble_eq_true rfl⟩) ⟨fun a U g mk q => by obtain ⟨q0, q1, qP, qK⟩ := q; exact ⟨q0, q1, qP, va_K.moved (u := U) (U := U.calling g mk a) (Vm.Alike.refl U.vm) qK⟩, fun U hU hW => ⟨rfl, by rw [hU], by rw [hU]; exact hPc, va_K.moved hW.alike hK⟩⟩ rfl rfl hl.1 rfl (lv_room (Nat.le_of_ble_eq_true rfl)) dX11_findGiven_55 ⟨Nat.le_of_ble_eq_true rfl, Nat.le_of_ble_eq_true rfl⟩) hS (fun q _ h => False.elim h) (fun q h => False.elim h) (fun r19 u20 t H1 locs ht hvm hw21 hB hz1 hk1 hS => ?_)
            have hP := hP.kept (fun k q hk => hk1 q.1 (hP k q hk).lt (fun h => h))
            clear hz1 hk1 hPc
            generalize H1 = H at hP hS ht ⊢
            try dsimp only at hw21
            subst hw21
            refine lv_topi (fun z22 ez22 => ?_)
            obtain ⟨w23, hw23, ew23⟩ : ∃ y : Nat, y < 8 ∧ Hid (y = k12 / 8 ^ (nh - (k34 + 1)) % 8) := ⟨_, Nat.mod_lt _ (by decide), Hid.mk rfl⟩
            obtain rfl : z22 = nI w23 := by rw [ew23.out]; exact ez22.trans (fg_nat (by omega) (by omega) (by omega))
            refine lv_istore (lv' := [(6, .int (nI w23)), (5, .int (nI k34)), (2, .int (nI tt)), (3, .int a34_3), (4, .int (nI a34_4)), (1, .int (nI k12)), (0, .ref h0)]) hx hb dX11_findGiven_58 hl (by decide) rfl (fun ls hl => ?_)
            refine lv_iload hx hb dX11_findGiven_60 (lv_at hl 0 rfl) ?_
            refine lv_aload_n hx hb dX11_findGiven_62 rfl (lv_at hl 6 rfl) ?_
            refine va_get (D := (dC, dI)) (ci := 11) (v := .int (nI nq)) (C := RX11) (T := TX11) (N := 46) hx hb hts hi_X11 hown hK hP 0 rfl rfl 2 (by decide) (hts (.fieldLink RX11 99 "LeftQuillsModel" "quills" "I") (wmx 4 rfl)) (fun _ h9 => h9) rfl dX11_findGiven_63 ?_
            refine lv_icmp_ge (tgt := 82) hx hb dX11_findGiven_66 (by decide) (fun c24 => ?_) (fun c24 => ?_)
            ·
              have c24 : nq ≤ w23 := (nI_leI (a := nq) (b := w23) (by omega) (by omega)).mp c24
              refine lv_iconst (v := 0) hx hb dX11_findGiven_82 (by decide) ?_
              refine lv_istore (lv' := [(4, .int 0), (6, .int (nI w23)), (5, .int (nI k34)), (2, .int (nI tt)), (3, .int a34_3), (1, .int (nI k12)), (0, .ref h0)]) hx hb dX11_findGiven_83 hl (by decide) rfl (fun ls hl => ?_)
              refine lv_iload_n hx hb dX11_findGiven_85 rfl (lv_at hl 3 rfl) ?_
              refine lv_iconst (v := 1) hx hb dX11_findGiven_86 (by decide) ?_
              refine lv_iload hx hb dX11_findGiven_87 (lv_at hl 1 rfl) ?_
              refine lv_ishl hx hb dX11_findGiven_89 ?_
              refine lv_ior hx hb dX11_findGiven_90 ?_
              refine lv_istore_n (lv' := [(2, .int ((nI tt) ||| (1 <<< ((nI w23) &&& 31)))), (4, .int 0), (6, .int (nI w23)), (5, .int (nI k34)), (3, .int a34_3), (1, .int (nI k12)), (0, .ref h0)]) hx hb dX11_findGiven_91 rfl hl (by decide) rfl (fun ls hl => ?_)
              refine lv_iload_n hx hb dX11_findGiven_92 rfl (lv_at hl 4 rfl) ?_
              refine lv_iload hx hb dX11_findGiven_93 (lv_at hl 1 rfl) ?_
              refine lv_if_eq (tgt := 109) hx hb dX11_findGiven_95 (by decide) (fun c25 => ?_) (fun c25 => ?_)
              rotate_left
              · exact absurd c25 (by decide)
              clear c25
              refine lv_iconst (v := 0) hx hb dX11_findGiven_109 (by decide) ?_
              refine lv_iadd hx hb dX11_findGiven_110 ?_
              refine lv_istore_n (lv' := [(3, .int (a34_3 + 0)), (2, .int ((nI tt) ||| (1 <<< ((nI w23) &&& 31)))), (4, .int 0), (6, .int (nI w23)), (5, .int (nI k34)), (1, .int (nI k12)), (0, .ref h0)]) hx hb dX11_findGiven_111 rfl hl (by decide) rfl (fun ls hl => ?_)
              refine lv_iinc (v := nI (k34 + 1)) (lv' := [(5, .int (nI (k34 + 1))), (3, .int (a34_3 + 0)), (2, .int ((nI tt) ||| (1 <<< ((nI w23) &&& 31)))), (4, .int 0), (6, .int (nI w23)), (1, .int (nI k12)), (0, .ref h0)]) hx hb dX11_findGiven_112 hl (k := 4) rfl ((rfl : nI k34 + Int32.ofInt 1 = nI k34 + 1).trans (nI_add k34 1)) (by decide) rfl (fun ls hl => ?_)
              refine lv_goto (tgt := 34) hx hb dX11_findGiven_115 (by decide) ?_
              exact ih34 (k34 + 1) ((nI tt) ||| (1 <<< ((nI w23) &&& 31))) (a34_3 + 0) 0 _ _ _ (by omega) (by omega) (tw_in (by omega) ew23.out (Or.inl (by omega))) hP hD hS (lv_sub hl [0, 2, 1, 3, 5, 6] rfl)
            ·
              have c24 : ¬ nq ≤ w23 := fun h => c24 ((nI_leI (a := nq) (b := w23) (by omega) (by omega)).mpr h)
              refine lv_iload_n hx hb dX11_findGiven_69 rfl (lv_at hl 2 rfl) ?_
              refine lv_iload hx hb dX11_findGiven_70 (lv_at hl 0 rfl) ?_
              have hPc := hP.sub (ws' := []) [] rfl
              refine va_calli (va_runS (As := [.int (nI tt), .int (nI w23)]) (rest := []) ⟨hx, hb, hml, hown, hts⟩ (c_X11_has17 l dC dI cI cZ cQ tt w23 H.size (by rw [ett.out]; exact tw_T8) (by omega)) (va_cwS 2 hts gX11_findGiven_X11_has rfl rfl rfl (by decide +kernel) ⟨Nat.le_of_ble_eq_true rfl, Nat.le_of_ble_eq_true rfl⟩) ⟨fun a U g mk q => by obtain ⟨q0, q1, qP, qK⟩ := q; exact ⟨q0, q1, qP, va_K.moved (u := U) (U := U.calling g mk a) (Vm.Alike.refl U.vm) qK⟩, fun U hU hW => ⟨rfl, by rw [hU], by rw [hU]; exact hPc, va_K.moved hW.alike hK⟩⟩ rfl rfl hl.1 rfl (lv_room (Nat.le_of_ble_eq_true rfl)) dX11_findGiven_72 ⟨Nat.le_of_ble_eq_true rfl, Nat.le_of_ble_eq_true rfl⟩) hS (fun q _ h => False.elim h) (fun q h => False.elim h) (fun r26 u27 t H1 locs ht hvm hw28 hB hz1 hk1 hS => ?_)
              have hP := hP.kept (fun k q hk => hk1 q.1 (hP k q hk).lt (fun h => h))
              clear hz1 hk1 hPc
              generalize H1 = H at hP hS ht ⊢
              try dsimp only at hw28
              rcases hw28 with ⟨rfl, hw28⟩ | ⟨rfl, hw28⟩
              ·
                refine lv_if_ne (tgt := 82) hx hb dX11_findGiven_75 (by decide) (fun c29 => ?_) (fun c29 => ?_)
                rotate_left
                · exact absurd c29 (by decide)
                clear c29
                refine lv_iconst (v := 0) hx hb dX11_findGiven_82 (by decide) ?_
                refine lv_istore (lv' := [(4, .int 0), (6, .int (nI w23)), (5, .int (nI k34)), (2, .int (nI tt)), (3, .int a34_3), (1, .int (nI k12)), (0, .ref h0)]) hx hb dX11_findGiven_83 hl (by decide) rfl (fun ls hl => ?_)
                refine lv_iload_n hx hb dX11_findGiven_85 rfl (lv_at hl 3 rfl) ?_
                refine lv_iconst (v := 1) hx hb dX11_findGiven_86 (by decide) ?_
                refine lv_iload hx hb dX11_findGiven_87 (lv_at hl 1 rfl) ?_
                refine lv_ishl hx hb dX11_findGiven_89 ?_
                refine lv_ior hx hb dX11_findGiven_90 ?_
                refine lv_istore_n (lv' := [(2, .int ((nI tt) ||| (1 <<< ((nI w23) &&& 31)))), (4, .int 0), (6, .int (nI w23)), (5, .int (nI k34)), (3, .int a34_3), (1, .int (nI k12)), (0, .ref h0)]) hx hb dX11_findGiven_91 rfl hl (by decide) rfl (fun ls hl => ?_)
                refine lv_iload_n hx hb dX11_findGiven_92 rfl (lv_at hl 4 rfl) ?_
                refine lv_iload hx hb dX11_findGiven_93 (lv_at hl 1 rfl) ?_
                refine lv_if_eq (tgt := 109) hx hb dX11_findGiven_95 (by decide) (fun c30 => ?_) (fun c30 => ?_)
                rotate_left
                · exact absurd c30 (by decide)
                clear c30
                refine lv_iconst (v := 0) hx hb dX11_findGiven_109 (by decide) ?_
                refine lv_iadd hx hb dX11_findGiven_110 ?_
                refine lv_istore_n (lv' := [(3, .int (a34_3 + 0)), (2, .int ((nI tt) ||| (1 <<< ((nI w23) &&& 31)))), (4, .int 0), (6, .int (nI w23)), (5, .int (nI k34)), (1, .int (nI k12)), (0, .ref h0)]) hx hb dX11_findGiven_111 rfl hl (by decide) rfl (fun ls hl => ?_)
                refine lv_iinc (v := nI (k34 + 1)) (lv' := [(5, .int (nI (k34 + 1))), (3, .int (a34_3 + 0)), (2, .int ((nI tt) ||| (1 <<< ((nI w23) &&& 31)))), (4, .int 0), (6, .int (nI w23)), (1, .int (nI k12)), (0, .ref h0)]) hx hb dX11_findGiven_112 hl (k := 4) rfl ((rfl : nI k34 + Int32.ofInt 1 = nI k34 + 1).trans (nI_add k34 1)) (by decide) rfl (fun ls hl => ?_)
                refine lv_goto (tgt := 34) hx hb dX11_findGiven_115 (by decide) ?_
                exact ih34 (k34 + 1) ((nI tt) ||| (1 <<< ((nI w23) &&& 31))) (a34_3 + 0) 0 _ _ _ (by omega) (by omega) (tw_in (by omega) ew23.out (Or.inr (by rw [← ett.out]; exact hw28))) hP hD hS (lv_sub hl [0, 2, 1, 3, 5, 6] rfl)
              ·
                refine lv_if_ne (tgt := 82) hx hb dX11_findGiven_75 (by decide) (fun c31 => ?_) (fun c31 => ?_)
                · exact absurd c31 (by decide)
                clear c31
                refine lv_iconst (v := 1) hx hb dX11_findGiven_78 (by decide) ?_
                refine lv_goto (tgt := 83) hx hb dX11_findGiven_79 (by decide) ?_
                refine lv_istore (lv' := [(4, .int 1), (6, .int (nI w23)), (5, .int (nI k34)), (2, .int (nI tt)), (3, .int a34_3), (1, .int (nI k12)), (0, .ref h0)]) hx hb dX11_findGiven_83 hl (by decide) rfl (fun ls hl => ?_)
                refine lv_iload_n hx hb dX11_findGiven_85 rfl (lv_at hl 3 rfl) ?_
                refine lv_iconst (v := 1) hx hb dX11_findGiven_86 (by decide) ?_
                refine lv_iload hx hb dX11_findGiven_87 (lv_at hl 1 rfl) ?_
                refine lv_ishl hx hb dX11_findGiven_89 ?_
                refine lv_ior hx hb dX11_findGiven_90 ?_
                refine lv_istore_n (lv' := [(2, .int ((nI tt) ||| (1 <<< ((nI w23) &&& 31)))), (4, .int 1), (6, .int (nI w23)), (5, .int (nI k34)), (3, .int a34_3), (1, .int (nI k12)), (0, .ref h0)]) hx hb dX11_findGiven_91 rfl hl (by decide) rfl (fun ls hl => ?_)
                refine lv_iload_n hx hb dX11_findGiven_92 rfl (lv_at hl 4 rfl) ?_
                refine lv_iload hx hb dX11_findGiven_93 (lv_at hl 1 rfl) ?_
                refine lv_if_eq (tgt := 109) hx hb dX11_findGiven_95 (by decide) (fun c32 => ?_) (fun c32 => ?_)
                · exact absurd c32 (by decide)
                clear c32
                refine lv_aload_n hx hb dX11_findGiven_98 rfl (lv_at hl 6 rfl) ?_
                refine lv_iload hx hb dX11_findGiven_99 (lv_at hl 2 rfl) ?_
                refine lv_iload hx hb dX11_findGiven_101 (lv_at hl 3 rfl) ?_
                have hPc := hP.sub (ws' := [(h0, .inr (11, [.int n0, .int n1, .int (nI nq), .ref m3, .ref m4, .ref m5, .int (nI nh), .ref m7, .ref m8, .ref m9, .ref m10, .int (nI sd), .ref m12, .int (nI tx), .int n14, .int (nI at9), .int n16, .int n17, .ref m18, .int (nI rq), .ref m20, .ref m21, .ref m22, .ref m23, .ref m24, .int (nI rh), .ref m26, .ref m27, .ref m28, .int (nI un), .ref m30, .int i12_h0_31, .int i12_h0_32, .ref m33, .int n34, .int n35, .ref m36, .int (nI wm), .ref m38, .ref m39, .ref m40, .int (nI bk), .ref m42, .ref m43, .ref m44, .ref m45])), (m3, .inl (cI, 8, .inl fm3)), (m4, .inl (cI, 8, .inl fm4)), (m5, .inl (cI, 8, .inl fm5)), (m7, .inl (cI, 4, .inl fm7)), (m8, .inl (cI, 4, .inl fm8)), (m9, .inl (cI, 4, .inl fm9)), (m10, .inl (cI, 34, .inl fm10))]) [0, 1, 2, 3, 4, 5, 6, 7] rfl
                refine va_calli (va_runV (As := [.int (nI w23), .int (nI k34)]) (rest := [.int a34_3]) ⟨hx, hb, hml, hown, hts⟩ (c_X11_goodNowD l dC dI cI cZ cQ h0 m3 m4 m5 m7 m8 m9 m10 ([.int n0, .int n1, .int (nI nq), .ref m3, .ref m4, .ref m5, .int (nI nh), .ref m7, .ref m8, .ref m9, .ref m10, .int (nI sd), .ref m12, .int (nI tx), .int n14, .int (nI at9), .int n16, .int n17, .ref m18, .int (nI rq), .ref m20, .ref m21, .ref m22, .ref m23, .ref m24, .int (nI rh), .ref m26, .ref m27, .ref m28, .int (nI un), .ref m30, .int i12_h0_31, .int i12_h0_32, .ref m33, .int n34, .int n35, .ref m36, .int (nI wm), .ref m38, .ref m39, .ref m40, .int (nI bk), .ref m42, .ref m43, .ref m44, .ref m45]) fm3 fm4 fm5 fm7 fm8 fm9 fm10 w23 k34 nq H.size rfl rfl rfl rfl rfl rfl rfl (by omega) (by first | assumption | decide) (by omega) (by omega)) (cwV 2 hts gX11_findGiven_X11_goodNow rfl rfl rfl (by decide +kernel) ⟨Nat.le_of_ble_eq_true rfl, Nat.le_of_ble_eq_true rfl⟩) ⟨fun a U g mk q => by obtain ⟨q0, q1, qP, qK⟩ := q; exact ⟨q0, q1, qP, va_K.moved (u := U) (U := U.calling g mk a) (Vm.Alike.refl U.vm) qK⟩, va_recv hK hP (ci := 11) (q0 := 0) rfl rfl, fun U hU hW => ⟨rfl, by rw [hU], by rw [hU]; exact hPc, va_K.moved hW.alike hK⟩⟩ rfl rfl hl.1 rfl (lv_room (Nat.le_of_ble_eq_true rfl)) dX11_findGiven_103 ⟨Nat.le_of_ble_eq_true rfl, Nat.le_of_ble_eq_true rfl⟩) hS (fun q _ h => False.elim h) (fun q h => False.elim h) (fun r33 u34 t H1 locs ht hvm hw35 hB hz1 hk1 hS => ?_)
                have hP := hP.kept (fun k q hk => hk1 q.1 (hP k q hk).lt (fun h => h))
                clear hz1 hk1 hPc
                generalize H1 = H at hP hS ht ⊢
                try dsimp only at hw35
                obtain ⟨w36, hw36, ew36, rfl⟩ := nat_ix gdM_le hw35
                refine lv_goto (tgt := 110) hx hb dX11_findGiven_106 (by decide) ?_
                refine lv_iadd hx hb dX11_findGiven_110 ?_
                refine lv_istore_n (lv' := [(3, .int (a34_3 + (nI w36))), (2, .int ((nI tt) ||| (1 <<< ((nI w23) &&& 31)))), (4, .int 1), (6, .int (nI w23)), (5, .int (nI k34)), (1, .int (nI k12)), (0, .ref h0)]) hx hb dX11_findGiven_111 rfl hl (by decide) rfl (fun ls hl => ?_)
                refine lv_iinc (v := nI (k34 + 1)) (lv' := [(5, .int (nI (k34 + 1))), (3, .int (a34_3 + (nI w36))), (2, .int ((nI tt) ||| (1 <<< ((nI w23) &&& 31)))), (4, .int 1), (6, .int (nI w23)), (1, .int (nI k12)), (0, .ref h0)]) hx hb dX11_findGiven_112 hl (k := 4) rfl ((rfl : nI k34 + Int32.ofInt 1 = nI k34 + 1).trans (nI_add k34 1)) (by decide) rfl (fun ls hl => ?_)
                refine lv_goto (tgt := 34) hx hb dX11_findGiven_115 (by decide) ?_
                exact ih34 (k34 + 1) ((nI tt) ||| (1 <<< ((nI w23) &&& 31))) (a34_3 + (nI w36)) 1 _ _ _ (by omega) (by omega) (tw_iy (by omega) hi48 ew23.out (by omega) (by rw [← ett.out]; exact hw28) ew36.out) hP hD hS (lv_sub hl [0, 2, 1, 3, 5, 6] rfl)
set_option maxHeartbeats 4000000 in
set_option maxRecDepth 100000 in
theorem c_X11_toWhomD (l : Launch) (dC : Nat → ClassId) (dI : Nat → Nat → Nat) (cI cZ cQ : ClassId) (h0 : Nat) (n0 : Int32) (n1 : Int32) (nq : Nat) (m3 : Nat) (m4 : Nat) (m5 : Nat) (nh : Nat) (m7 : Nat) (m8 : Nat) (m9 : Nat) (m10 : Nat) (sd : Nat) (m12 : Nat) (tx : Nat) (n14 : Int32) (at9 : Nat) (n16 : Int32) (n17 : Int32) (m18 : Nat) (rq : Nat) (m20 : Nat) (m21 : Nat) (m22 : Nat) (m23 : Nat) (m24 : Nat) (rh : Nat) (m26 : Nat) (m27 : Nat) (m28 : Nat) (un : Nat) (m30 : Nat) (n31 : Int32) (n32 : Int32) (m33 : Nat) (n34 : Int32) (n35 : Int32) (m36 : Nat) (wm : Nat) (m38 : Nat) (m39 : Nat) (m40 : Nat) (bk : Nat) (m42 : Nat) (m43 : Nat) (m44 : Nat) (m45 : Nat) (fm3 : Nat → Int32) (fm4 : Nat → Int32) (fm5 : Nat → Int32) (fm7 : Nat → Int32) (fm8 : Nat → Int32) (fm9 : Nat → Int32) (fm10 : Nat → Int32) (q0 : Int32) (sz : Nat) (hnq : nq ≤ 8) (hci : cIn fm5 nq) (hnh : nh ≤ 4) : Met l yX11_toWhom wsX11_toWhom ({ frames := 6, cells := 0, slots := 0, locals := 183 }) (va_Pc [.ref h0, .int q0] (fun U => U.heap.size = sz ∧ va_P (dC, dI) vwCl [(h0, .inr (11, [.int n0, .int n1, .int (nI nq), .ref m3, .ref m4, .ref m5, .int (nI nh), .ref m7, .ref m8, .ref m9, .ref m10, .int (nI sd), .ref m12, .int (nI tx), .int n14, .int (nI at9), .int n16, .int n17, .ref m18, .int (nI rq), .ref m20, .ref m21, .ref m22, .ref m23, .ref m24, .int (nI rh), .ref m26, .ref m27, .ref m28, .int (nI un), .ref m30, .int n31, .int n32, .ref m33, .int n34, .int n35, .ref m36, .int (nI wm), .ref m38, .ref m39, .ref m40, .int (nI bk), .ref m42, .ref m43, .ref m44, .ref m45])), (m3, .inl (cI, 8, .inl fm3)), (m4, .inl (cI, 8, .inl fm4)), (m5, .inl (cI, 8, .inl fm5)), (m7, .inl (cI, 4, .inl fm7)), (m8, .inl (cI, 4, .inl fm8)), (m9, .inl (cI, 4, .inl fm9)), (m10, .inl (cI, 34, .inl fm10))] U.heap ∧ va_K (dC, dI) vwCl (tys0 cI cZ cQ) U ∧ va_D (fun _ => True) [(h0, .inr (11, [.int n0, .int n1, .int (nI nq), .ref m3, .ref m4, .ref m5, .int (nI nh), .ref m7, .ref m8, .ref m9, .ref m10, .int (nI sd), .ref m12, .int (nI tx), .int n14, .int (nI at9), .int n16, .int n17, .ref m18, .int (nI rq), .ref m20, .ref m21, .ref m22, .ref m23, .ref m24, .int (nI rh), .ref m26, .ref m27, .ref m28, .int (nI un), .ref m30, .int n31, .int n32, .ref m33, .int n34, .int n35, .ref m36, .int (nI wm), .ref m38, .ref m39, .ref m40, .int (nI bk), .ref m42, .ref m43, .ref m44, .ref m45])), (m3, .inl (cI, 8, .inl fm3)), (m4, .inl (cI, 8, .inl fm4)), (m5, .inl (cI, 8, .inl fm5)), (m7, .inl (cI, 4, .inl fm7)), (m8, .inl (cI, 4, .inl fm8)), (m9, .inl (cI, 4, .inl fm9)), (m10, .inl (cI, 34, .inl fm10))])) (va_Qi (fun (r : Int32) (u : Nat → Nat) => twO nq nh (fun j k => gdM lmB (wrF (fm3 j) (fm4 j) (fm5 j) (fm7 k) (fm8 k)) (fm9 k) (fm10 (8 + j)) (fm10 (16 + j)) 999) q0 r) (fun (_ : Nat → Nat) (t : State) => ∃ (ii0 ii1 : Int32) , va_P (dC, dI) vwCl [(h0, .inr (11, [.int n0, .int n1, .int (nI nq), .ref m3, .ref m4, .ref m5, .int (nI nh), .ref m7, .ref m8, .ref m9, .ref m10, .int (nI sd), .ref m12, .int (nI tx), .int n14, .int (nI at9), .int n16, .int n17, .ref m18, .int (nI rq), .ref m20, .ref m21, .ref m22, .ref m23, .ref m24, .int (nI rh), .ref m26, .ref m27, .ref m28, .int (nI un), .ref m30, .int ii0, .int ii1, .ref m33, .int n34, .int n35, .ref m36, .int (nI wm), .ref m38, .ref m39, .ref m40, .int (nI bk), .ref m42, .ref m43, .ref m44, .ref m45])), (m3, .inl (cI, 8, .inl fm3)), (m4, .inl (cI, 8, .inl fm4)), (m5, .inl (cI, 8, .inl fm5)), (m7, .inl (cI, 4, .inl fm7)), (m8, .inl (cI, 4, .inl fm8)), (m9, .inl (cI, 4, .inl fm9)), (m10, .inl (cI, 34, .inl fm10))] t.heap ∧ va_D (va_A [(h0, .inr (11, [.int n0, .int n1, .int (nI nq), .ref m3, .ref m4, .ref m5, .int (nI nh), .ref m7, .ref m8, .ref m9, .ref m10, .int (nI sd), .ref m12, .int (nI tx), .int n14, .int (nI at9), .int n16, .int n17, .ref m18, .int (nI rq), .ref m20, .ref m21, .ref m22, .ref m23, .ref m24, .int (nI rh), .ref m26, .ref m27, .ref m28, .int (nI un), .ref m30, .int n31, .int n32, .ref m33, .int n34, .int n35, .ref m36, .int (nI wm), .ref m38, .ref m39, .ref m40, .int (nI bk), .ref m42, .ref m43, .ref m44, .ref m45])), (m3, .inl (cI, 8, .inl fm3)), (m4, .inl (cI, 8, .inl fm4)), (m5, .inl (cI, 8, .inl fm5)), (m7, .inl (cI, 4, .inl fm7)), (m8, .inl (cI, 4, .inl fm8)), (m9, .inl (cI, 4, .inl fm9)), (m10, .inl (cI, 34, .inl fm10))] sz) [(h0, .inr (11, [.int n0, .int n1, .int (nI nq), .ref m3, .ref m4, .ref m5, .int (nI nh), .ref m7, .ref m8, .ref m9, .ref m10, .int (nI sd), .ref m12, .int (nI tx), .int n14, .int (nI at9), .int n16, .int n17, .ref m18, .int (nI rq), .ref m20, .ref m21, .ref m22, .ref m23, .ref m24, .int (nI rh), .ref m26, .ref m27, .ref m28, .int (nI un), .ref m30, .int ii0, .int ii1, .ref m33, .int n34, .int n35, .ref m36, .int (nI wm), .ref m38, .ref m39, .ref m40, .int (nI bk), .ref m42, .ref m43, .ref m44, .ref m45])), (m3, .inl (cI, 8, .inl fm3)), (m4, .inl (cI, 8, .inl fm4)), (m5, .inl (cI, 8, .inl fm5)), (m7, .inl (cI, 4, .inl fm7)), (m8, .inl (cI, 4, .inl fm8)), (m9, .inl (cI, 4, .inl fm9)), (m10, .inl (cI, 34, .inl fm10))]) (va_A [(h0, .inr (11, [.int n0, .int n1, .int (nI nq), .ref m3, .ref m4, .ref m5, .int (nI nh), .ref m7, .ref m8, .ref m9, .ref m10, .int (nI sd), .ref m12, .int (nI tx), .int n14, .int (nI at9), .int n16, .int n17, .ref m18, .int (nI rq), .ref m20, .ref m21, .ref m22, .ref m23, .ref m24, .int (nI rh), .ref m26, .ref m27, .ref m28, .int (nI un), .ref m30, .int n31, .int n32, .ref m33, .int n34, .int n35, .ref m36, .int (nI wm), .ref m38, .ref m39, .ref m40, .int (nI bk), .ref m42, .ref m43, .ref m44, .ref m45])), (m3, .inl (cI, 8, .inl fm3)), (m4, .inl (cI, 8, .inl fm4)), (m5, .inl (cI, 8, .inl fm5)), (m7, .inl (cI, 4, .inl fm7)), (m8, .inl (cI, 4, .inl fm8)), (m9, .inl (cI, 4, .inl fm9)), (m10, .inl (cI, 34, .inl fm10))] sz)) 0 0 (va_A [(h0, .inr (11, [.int n0, .int n1, .int (nI nq), .ref m3, .ref m4, .ref m5, .int (nI nh), .ref m7, .ref m8, .ref m9, .ref m10, .int (nI sd), .ref m12, .int (nI tx), .int n14, .int (nI at9), .int n16, .int n17, .ref m18, .int (nI rq), .ref m20, .ref m21, .ref m22, .ref m23, .ref m24, .int (nI rh), .ref m26, .ref m27, .ref m28, .int (nI un), .ref m30, .int n31, .int n32, .ref m33, .int n34, .int n35, .ref m36, .int (nI wm), .ref m38, .ref m39, .ref m40, .int (nI bk), .ref m42, .ref m43, .ref m44, .ref m45])), (m3, .inl (cI, 8, .inl fm3)), (m4, .inl (cI, 8, .inl fm4)), (m5, .inl (cI, 8, .inl fm5)), (m7, .inl (cI, 4, .inl fm7)), (m8, .inl (cI, 4, .inl fm8)), (m9, .inl (cI, 4, .inl fm9)), (m10, .inl (cI, 34, .inl fm10))] sz) := by
  refine Met.ofW (cc := cX11_toWhom) (maxL := 2) (ret := (some .int)) (by decide) rfl ?_
  intro p e s m args below meth c s₁ B hml hv
  obtain ⟨rfl, hsz, hP, hK, hD0⟩ := hv
  have hx := B.exec
  have hb := B.bytes
  have hr := B.returns
  have hts := atoms_spec (ws := wsX11_toWhom) B.pre
  have hown : s.vm.findClass RX11 = some m.cls := findClass_of_methodNamed B.named
  have hlocks := B.notSynchronized
  have hi_X11 : ∀ w ∈ u_ws RX11 TX11 46, w ∈ wsX11_toWhom := fun _ h => List.mem_cons_of_mem _ (List.mem_append_right _ (h))
  subst hsz
  have hD := hD0.self (sz := s.heap.size)
  generalize hAe : va_A [(h0, .inr (11, [.int n0, .int n1, .int (nI nq), .ref m3, .ref m4, .ref m5, .int (nI nh), .ref m7, .ref m8, .ref m9, .ref m10, .int (nI sd), .ref m12, .int (nI tx), .int n14, .int (nI at9), .int n16, .int n17, .ref m18, .int (nI rq), .ref m20, .ref m21, .ref m22, .ref m23, .ref m24, .int (nI rh), .ref m26, .ref m27, .ref m28, .int (nI un), .ref m30, .int n31, .int n32, .ref m33, .int n34, .int n35, .ref m36, .int (nI wm), .ref m38, .ref m39, .ref m40, .int (nI bk), .ref m42, .ref m43, .ref m44, .ref m45])), (m3, .inl (cI, 8, .inl fm3)), (m4, .inl (cI, 8, .inl fm4)), (m5, .inl (cI, 8, .inl fm5)), (m7, .inl (cI, 4, .inl fm7)), (m8, .inl (cI, 4, .inl fm8)), (m9, .inl (cI, 4, .inl fm9)), (m10, .inl (cI, 34, .inl fm10))] s.heap.size = A at hD ⊢
  have hA : ∀ q : Nat, s.heap.size ≤ q → A q := fun q h => by rw [← hAe]; exact Or.inr h
  have hS : va_S A s.heap s.heap [] := va_S.rf
  have hl := lv_entry ([.ref h0, .int q0]) (n := 2) (Nat.le_of_ble_eq_true rfl)
  rw [lg_entry_eq]
  generalize (lg_sl ([.ref h0, .int q0]) ++ List.replicate (2 - (lg_sl ([.ref h0, .int q0])).length) Slot.unset).toArray = ls at hl ⊢
  have hl : lv_has ls 2 [(0, .ref h0), (1, .int q0)] := hl
  refine lv_iload_n hx hb dX11_toWhom_0 rfl (lv_at hl 1 rfl) ?_
  refine lv_iconst (v := (-1)) hx hb dX11_toWhom_1 (by decide) ?_
  refine lv_icmp_eq (tgt := 16) hx hb dX11_toWhom_2 (by decide) (fun c1 => ?_) (fun c1 => ?_)
  ·
    refine lv_aload_n hx hb dX11_toWhom_16 rfl (lv_at hl 0 rfl) ?_
    refine va_get (D := (dC, dI)) (ci := 11) (v := .int (nI nq)) (C := RX11) (T := TX11) (N := 46) hx hb hts hi_X11 hown hK hP 0 rfl rfl 2 (by decide) (hts (.fieldLink RX11 99 "LeftQuillsModel" "quills" "I") (wmx 2 rfl)) (fun _ h9 => h9) rfl dX11_toWhom_17 ?_
    refine lv_aload_n hx hb dX11_toWhom_20 rfl (lv_at hl 0 rfl) ?_
    refine va_get (D := (dC, dI)) (ci := 11) (v := .int (nI nh)) (C := RX11) (T := TX11) (N := 46) hx hb hts hi_X11 hown hK hP 0 rfl rfl 6 (by decide) (hts (.fieldLink RX11 106 "LeftQuillsModel" "hands" "I") (wmx 3 rfl)) (fun _ h9 => h9) rfl dX11_toWhom_21 ?_
    refine lv_icmp_ge (tgt := 29) hx hb dX11_toWhom_24 (by decide) (fun c2 => ?_) (fun c2 => ?_)
    ·
      have c2 : nh ≤ nq := (nI_leI (a := nh) (b := nq) (by omega) (by omega)).mp c2
      refine lv_aload_n hx hb dX11_toWhom_29 rfl (lv_at hl 0 rfl) ?_
      have hPc := hP.sub (ws' := [(h0, .inr (11, [.int n0, .int n1, .int (nI nq), .ref m3, .ref m4, .ref m5, .int (nI nh), .ref m7, .ref m8, .ref m9, .ref m10, .int (nI sd), .ref m12, .int (nI tx), .int n14, .int (nI at9), .int n16, .int n17, .ref m18, .int (nI rq), .ref m20, .ref m21, .ref m22, .ref m23, .ref m24, .int (nI rh), .ref m26, .ref m27, .ref m28, .int (nI un), .ref m30, .int n31, .int n32, .ref m33, .int n34, .int n35, .ref m36, .int (nI wm), .ref m38, .ref m39, .ref m40, .int (nI bk), .ref m42, .ref m43, .ref m44, .ref m45])), (m3, .inl (cI, 8, .inl fm3)), (m4, .inl (cI, 8, .inl fm4)), (m5, .inl (cI, 8, .inl fm5)), (m7, .inl (cI, 4, .inl fm7)), (m8, .inl (cI, 4, .inl fm8)), (m9, .inl (cI, 4, .inl fm9)), (m10, .inl (cI, 34, .inl fm10))]) [0, 1, 2, 3, 4, 5, 6, 7] rfl
      have hDc := hD.sub (ws' := [(h0, .inr (11, [.int n0, .int n1, .int (nI nq), .ref m3, .ref m4, .ref m5, .int (nI nh), .ref m7, .ref m8, .ref m9, .ref m10, .int (nI sd), .ref m12, .int (nI tx), .int n14, .int (nI at9), .int n16, .int n17, .ref m18, .int (nI rq), .ref m20, .ref m21, .ref m22, .ref m23, .ref m24, .int (nI rh), .ref m26, .ref m27, .ref m28, .int (nI un), .ref m30, .int n31, .int n32, .ref m33, .int n34, .int n35, .ref m36, .int (nI wm), .ref m38, .ref m39, .ref m40, .int (nI bk), .ref m42, .ref m43, .ref m44, .ref m45])), (m3, .inl (cI, 8, .inl fm3)), (m4, .inl (cI, 8, .inl fm4)), (m5, .inl (cI, 8, .inl fm5)), (m7, .inl (cI, 4, .inl fm7)), (m8, .inl (cI, 4, .inl fm8)), (m9, .inl (cI, 4, .inl fm9)), (m10, .inl (cI, 34, .inl fm10))]) [0, 1, 2, 3, 4, 5, 6, 7] (by decide) rfl
      have hFc := va_free (wc := [(h0, .inr (11, [.int n0, .int n1, .int (nI nq), .ref m3, .ref m4, .ref m5, .int (nI nh), .ref m7, .ref m8, .ref m9, .ref m10, .int (nI sd), .ref m12, .int (nI tx), .int n14, .int (nI at9), .int n16, .int n17, .ref m18, .int (nI rq), .ref m20, .ref m21, .ref m22, .ref m23, .ref m24, .int (nI rh), .ref m26, .ref m27, .ref m28, .int (nI un), .ref m30, .int n31, .int n32, .ref m33, .int n34, .int n35, .ref m36, .int (nI wm), .ref m38, .ref m39, .ref m40, .int (nI bk), .ref m42, .ref m43, .ref m44, .ref m45])), (m3, .inl (cI, 8, .inl fm3)), (m4, .inl (cI, 8, .inl fm4)), (m5, .inl (cI, 8, .inl fm5)), (m7, .inl (cI, 4, .inl fm7)), (m8, .inl (cI, 4, .inl fm8)), (m9, .inl (cI, 4, .inl fm9)), (m10, .inl (cI, 34, .inl fm10))]) hD hS hA [0, 1, 2, 3, 4, 5, 6, 7] rfl
      refine va_callv (va_runV (As := []) (rest := []) ⟨hx, hb, hml, hown, hts⟩ (c_X11_findGivenD l dC dI cI cZ cQ h0 n0 n1 nq m3 m4 m5 nh m7 m8 m9 m10 sd m12 tx n14 at9 n16 n17 m18 rq m20 m21 m22 m23 m24 rh m26 m27 m28 un m30 n31 n32 m33 n34 n35 m36 wm m38 m39 m40 bk m42 m43 m44 m45 fm3 fm4 fm5 fm7 fm8 fm9 fm10 s.heap.size (by omega) (by first | assumption | decide) (by omega)) (cwV 0 hts gX11_toWhom_X11_findGiven rfl rfl rfl (by decide +kernel) ⟨Nat.le_of_ble_eq_true rfl, Nat.le_of_ble_eq_true rfl⟩) ⟨fun a U g mk q => by obtain ⟨q0, q1, qP, qK, qD⟩ := q; exact ⟨q0, q1, qP, va_K.moved (u := U) (U := U.calling g mk a) (Vm.Alike.refl U.vm) qK, qD⟩, va_recv hK hP (ci := 11) (q0 := 0) rfl rfl, fun U hU hW => ⟨rfl, by rw [hU], by rw [hU]; exact hPc, va_K.moved hW.alike hK, hDc.weaken (fun _ _ _ _ => trivial)⟩⟩ rfl rfl hl.1 rfl (lv_room (Nat.le_of_ble_eq_true rfl)) dX11_toWhom_30 ⟨Nat.le_of_ble_eq_true rfl, Nat.le_of_ble_eq_true rfl⟩) hS (fun q _ h => hFc q h) hFc (fun u4 t H1 locs ht hvm hw5 hB hz1 hk1 hS => ?_)
      obtain ⟨i6, i7, he8, hP1, hD1⟩ := hB
      rw [ht] at hP1
      obtain ⟨hP, hD⟩ := va_join (wr := []) (w1 := [(h0, .inr (11, [.int n0, .int n1, .int (nI nq), .ref m3, .ref m4, .ref m5, .int (nI nh), .ref m7, .ref m8, .ref m9, .ref m10, .int (nI sd), .ref m12, .int (nI tx), .int n14, .int (nI at9), .int n16, .int n17, .ref m18, .int (nI rq), .ref m20, .ref m21, .ref m22, .ref m23, .ref m24, .int (nI rh), .ref m26, .ref m27, .ref m28, .int (nI un), .ref m30, .int i6, .int i7, .ref m33, .int n34, .int n35, .ref m36, .int (nI wm), .ref m38, .ref m39, .ref m40, .int (nI bk), .ref m42, .ref m43, .ref m44, .ref m45])), (m3, .inl (cI, 8, .inl fm3)), (m4, .inl (cI, 8, .inl fm4)), (m5, .inl (cI, 8, .inl fm5)), (m7, .inl (cI, 4, .inl fm7)), (m8, .inl (cI, 4, .inl fm8)), (m9, .inl (cI, 4, .inl fm9)), (m10, .inl (cI, 34, .inl fm10))]) hP hD [0, 1, 2, 3, 4, 5, 6, 7] [] rfl rfl (by decide +kernel) (by decide +kernel) hk1 hFc hP1 hD1
      clear hP1 hD1
      clear hz1 hk1 hPc hDc hFc
      generalize H1 = H at hP hS ht ⊢
      have hP : va_P (dC, dI) vwCl [(h0, .inr (11, [.int n0, .int n1, .int (nI nq), .ref m3, .ref m4, .ref m5, .int (nI nh), .ref m7, .ref m8, .ref m9, .ref m10, .int (nI sd), .ref m12, .int (nI tx), .int n14, .int (nI at9), .int n16, .int n17, .ref m18, .int (nI rq), .ref m20, .ref m21, .ref m22, .ref m23, .ref m24, .int (nI rh), .ref m26, .ref m27, .ref m28, .int (nI un), .ref m30, .int i6, .int i7, .ref m33, .int n34, .int n35, .ref m36, .int (nI wm), .ref m38, .ref m39, .ref m40, .int (nI bk), .ref m42, .ref m43, .ref m44, .ref m45])), (m3, .inl (cI, 8, .inl fm3)), (m4, .inl (cI, 8, .inl fm4)), (m5, .inl (cI, 8, .inl fm5)), (m7, .inl (cI, 4, .inl fm7)), (m8, .inl (cI, 4, .inl fm8)), (m9, .inl (cI, 4, .inl fm9)), (m10, .inl (cI, 34, .inl fm10))] H := hP
      have hD : va_D A [(h0, .inr (11, [.int n0, .int n1, .int (nI nq), .ref m3, .ref m4, .ref m5, .int (nI nh), .ref m7, .ref m8, .ref m9, .ref m10, .int (nI sd), .ref m12, .int (nI tx), .int n14, .int (nI at9), .int n16, .int n17, .ref m18, .int (nI rq), .ref m20, .ref m21, .ref m22, .ref m23, .ref m24, .int (nI rh), .ref m26, .ref m27, .ref m28, .int (nI un), .ref m30, .int i6, .int i7, .ref m33, .int n34, .int n35, .ref m36, .int (nI wm), .ref m38, .ref m39, .ref m40, .int (nI bk), .ref m42, .ref m43, .ref m44, .ref m45])), (m3, .inl (cI, 8, .inl fm3)), (m4, .inl (cI, 8, .inl fm4)), (m5, .inl (cI, 8, .inl fm5)), (m7, .inl (cI, 4, .inl fm7)), (m8, .inl (cI, 4, .inl fm8)), (m9, .inl (cI, 4, .inl fm9)), (m10, .inl (cI, 34, .inl fm10))] := hD
      try dsimp only at hw5
      refine lv_iload_n hx hb dX11_toWhom_33 rfl (lv_at hl 1 rfl) ?_
      refine lv_iconst (v := (-1)) hx hb dX11_toWhom_34 (by decide) ?_
      refine lv_icmp_ne (tgt := 45) hx hb dX11_toWhom_35 (by decide) (fun c9 => ?_) (fun c9 => ?_)
      · exact absurd c1 c9
      refine lv_aload_n hx hb dX11_toWhom_38 rfl (lv_at hl 0 rfl) ?_
      refine va_get (D := (dC, dI)) (ci := 11) (v := .int i7) (C := RX11) (T := TX11) (N := 46) hx hb hts hi_X11 hown hK hP 0 rfl rfl 32 (by decide) (hts (.fieldLink RX11 272 "LeftQuillsModel" "givenMost" "I") (wmx 4 rfl)) (fun _ h9 => h9) rfl dX11_toWhom_39 ?_
      refine lv_goto (tgt := 57) hx hb dX11_toWhom_42 (by decide) ?_
      have hP9 := hP.sub (ws' := [(h0, .inr (11, [.int n0, .int n1, .int (nI nq), .ref m3, .ref m4, .ref m5, .int (nI nh), .ref m7, .ref m8, .ref m9, .ref m10, .int (nI sd), .ref m12, .int (nI tx), .int n14, .int (nI at9), .int n16, .int n17, .ref m18, .int (nI rq), .ref m20, .ref m21, .ref m22, .ref m23, .ref m24, .int (nI rh), .ref m26, .ref m27, .ref m28, .int (nI un), .ref m30, .int i6, .int i7, .ref m33, .int n34, .int n35, .ref m36, .int (nI wm), .ref m38, .ref m39, .ref m40, .int (nI bk), .ref m42, .ref m43, .ref m44, .ref m45])), (m3, .inl (cI, 8, .inl fm3)), (m4, .inl (cI, 8, .inl fm4)), (m5, .inl (cI, 8, .inl fm5)), (m7, .inl (cI, 4, .inl fm7)), (m8, .inl (cI, 4, .inl fm8)), (m9, .inl (cI, 4, .inl fm9)), (m10, .inl (cI, 34, .inl fm10))]) [0, 1, 2, 3, 4, 5, 6, 7] rfl
      have hD9 := hD.sub (ws' := [(h0, .inr (11, [.int n0, .int n1, .int (nI nq), .ref m3, .ref m4, .ref m5, .int (nI nh), .ref m7, .ref m8, .ref m9, .ref m10, .int (nI sd), .ref m12, .int (nI tx), .int n14, .int (nI at9), .int n16, .int n17, .ref m18, .int (nI rq), .ref m20, .ref m21, .ref m22, .ref m23, .ref m24, .int (nI rh), .ref m26, .ref m27, .ref m28, .int (nI un), .ref m30, .int i6, .int i7, .ref m33, .int n34, .int n35, .ref m36, .int (nI wm), .ref m38, .ref m39, .ref m40, .int (nI bk), .ref m42, .ref m43, .ref m44, .ref m45])), (m3, .inl (cI, 8, .inl fm3)), (m4, .inl (cI, 8, .inl fm4)), (m5, .inl (cI, 8, .inl fm5)), (m7, .inl (cI, 4, .inl fm7)), (m8, .inl (cI, 4, .inl fm8)), (m9, .inl (cI, 4, .inl fm9)), (m10, .inl (cI, 34, .inl fm10))]) [0, 1, 2, 3, 4, 5, 6, 7] (by decide +kernel) rfl
      exact W.iret (v := i7) hx hb hr (fun t ht hW => ⟨⟨i7, (fun _ => 0), rfl, (two_n c1 (by omega) he8), ⟨i6, i7, by rw [ht]; exact hP9, hD9⟩⟩, hS.F ht⟩) hS.2.2 dX11_toWhom_57
    ·
      have c2 : ¬ nh ≤ nq := fun h => c2 ((nI_leI (a := nh) (b := nq) (by omega) (by omega)).mpr h)
      refine lv_iconst (v := (-1)) hx hb dX11_toWhom_27 (by decide) ?_
      have hP9 := hP.sub (ws' := [(h0, .inr (11, [.int n0, .int n1, .int (nI nq), .ref m3, .ref m4, .ref m5, .int (nI nh), .ref m7, .ref m8, .ref m9, .ref m10, .int (nI sd), .ref m12, .int (nI tx), .int n14, .int (nI at9), .int n16, .int n17, .ref m18, .int (nI rq), .ref m20, .ref m21, .ref m22, .ref m23, .ref m24, .int (nI rh), .ref m26, .ref m27, .ref m28, .int (nI un), .ref m30, .int n31, .int n32, .ref m33, .int n34, .int n35, .ref m36, .int (nI wm), .ref m38, .ref m39, .ref m40, .int (nI bk), .ref m42, .ref m43, .ref m44, .ref m45])), (m3, .inl (cI, 8, .inl fm3)), (m4, .inl (cI, 8, .inl fm4)), (m5, .inl (cI, 8, .inl fm5)), (m7, .inl (cI, 4, .inl fm7)), (m8, .inl (cI, 4, .inl fm8)), (m9, .inl (cI, 4, .inl fm9)), (m10, .inl (cI, 34, .inl fm10))]) [0, 1, 2, 3, 4, 5, 6, 7] rfl
      have hD9 := hD.sub (ws' := [(h0, .inr (11, [.int n0, .int n1, .int (nI nq), .ref m3, .ref m4, .ref m5, .int (nI nh), .ref m7, .ref m8, .ref m9, .ref m10, .int (nI sd), .ref m12, .int (nI tx), .int n14, .int (nI at9), .int n16, .int n17, .ref m18, .int (nI rq), .ref m20, .ref m21, .ref m22, .ref m23, .ref m24, .int (nI rh), .ref m26, .ref m27, .ref m28, .int (nI un), .ref m30, .int n31, .int n32, .ref m33, .int n34, .int n35, .ref m36, .int (nI wm), .ref m38, .ref m39, .ref m40, .int (nI bk), .ref m42, .ref m43, .ref m44, .ref m45])), (m3, .inl (cI, 8, .inl fm3)), (m4, .inl (cI, 8, .inl fm4)), (m5, .inl (cI, 8, .inl fm5)), (m7, .inl (cI, 4, .inl fm7)), (m8, .inl (cI, 4, .inl fm8)), (m9, .inl (cI, 4, .inl fm9)), (m10, .inl (cI, 34, .inl fm10))]) [0, 1, 2, 3, 4, 5, 6, 7] (by decide +kernel) rfl
      exact W.iret (v := (-1)) hx hb hr (fun t ht hW => ⟨⟨(-1), (fun _ => 0), rfl, (two_f (Or.inl c1) (by omega)), ⟨n31, n32, by rw [ht]; exact hP9, hD9⟩⟩, hS.F ht⟩) hS.2.2 dX11_toWhom_28
  ·
    refine lv_aload_n hx hb dX11_toWhom_5 rfl (lv_at hl 0 rfl) ?_
    refine lv_iload_n hx hb dX11_toWhom_6 rfl (lv_at hl 1 rfl) ?_
    have hPc := hP.sub (ws' := [(h0, .inr (11, [.int n0, .int n1, .int (nI nq), .ref m3, .ref m4, .ref m5, .int (nI nh), .ref m7, .ref m8, .ref m9, .ref m10, .int (nI sd), .ref m12, .int (nI tx), .int n14, .int (nI at9), .int n16, .int n17, .ref m18, .int (nI rq), .ref m20, .ref m21, .ref m22, .ref m23, .ref m24, .int (nI rh), .ref m26, .ref m27, .ref m28, .int (nI un), .ref m30, .int n31, .int n32, .ref m33, .int n34, .int n35, .ref m36, .int (nI wm), .ref m38, .ref m39, .ref m40, .int (nI bk), .ref m42, .ref m43, .ref m44, .ref m45]))]) [0] rfl
    refine va_calli (va_runV (As := [.int q0]) (rest := []) ⟨hx, hb, hml, hown, hts⟩ (c_X11_isHand l dC dI cI cZ cQ h0 (nI nh) ([.int n0, .int n1, .int (nI nq), .ref m3, .ref m4, .ref m5, .int (nI nh), .ref m7, .ref m8, .ref m9, .ref m10, .int (nI sd), .ref m12, .int (nI tx), .int n14, .int (nI at9), .int n16, .int n17, .ref m18, .int (nI rq), .ref m20, .ref m21, .ref m22, .ref m23, .ref m24, .int (nI rh), .ref m26, .ref m27, .ref m28, .int (nI un), .ref m30, .int n31, .int n32, .ref m33, .int n34, .int n35, .ref m36, .int (nI wm), .ref m38, .ref m39, .ref m40, .int (nI bk), .ref m42, .ref m43, .ref m44, .ref m45]) q0 s.heap.size rfl (nI_pos' (n := nh) (by omega))) (cwV 1 hts gX11_toWhom_X11_isHand rfl rfl rfl (by decide +kernel) ⟨Nat.le_of_ble_eq_true rfl, Nat.le_of_ble_eq_true rfl⟩) ⟨fun a U g mk q => by obtain ⟨q0, q1, qP, qK⟩ := q; exact ⟨q0, q1, qP, va_K.moved (u := U) (U := U.calling g mk a) (Vm.Alike.refl U.vm) qK⟩, va_recv hK hP (ci := 11) (q0 := 0) rfl rfl, fun U hU hW => ⟨rfl, by rw [hU], by rw [hU]; exact hPc, va_K.moved hW.alike hK⟩⟩ rfl rfl hl.1 rfl (lv_room (Nat.le_of_ble_eq_true rfl)) dX11_toWhom_7 ⟨Nat.le_of_ble_eq_true rfl, Nat.le_of_ble_eq_true rfl⟩) hS (fun q _ h => False.elim h) (fun q h => False.elim h) (fun r10 u11 t H1 locs ht hvm hw12 hB hz1 hk1 hS => ?_)
    have hP := hP.kept (fun k q hk => hk1 q.1 (hP k q hk).lt (fun h => h))
    clear hz1 hk1 hPc
    generalize H1 = H at hP hS ht ⊢
    try dsimp only at hw12
    rcases hw12 with ⟨rfl, hw12⟩ | ⟨rfl, hw12⟩
    ·
      obtain ⟨j13, hj13, rfl⟩ := x_ix hw12 (by omega)
      refine lv_if_ne (tgt := 16) hx hb dX11_toWhom_10 (by decide) (fun c14 => ?_) (fun c14 => ?_)
      rotate_left
      · exact absurd c14 (by decide)
      clear c14
      refine lv_aload_n hx hb dX11_toWhom_16 rfl (lv_at hl 0 rfl) ?_
      refine va_get (D := (dC, dI)) (ci := 11) (v := .int (nI nq)) (C := RX11) (T := TX11) (N := 46) hx hb hts hi_X11 hown hK hP 0 rfl rfl 2 (by decide) (hts (.fieldLink RX11 99 "LeftQuillsModel" "quills" "I") (wmx 2 rfl)) (fun _ h9 => h9) rfl dX11_toWhom_17 ?_
      refine lv_aload_n hx hb dX11_toWhom_20 rfl (lv_at hl 0 rfl) ?_
      refine va_get (D := (dC, dI)) (ci := 11) (v := .int (nI nh)) (C := RX11) (T := TX11) (N := 46) hx hb hts hi_X11 hown hK hP 0 rfl rfl 6 (by decide) (hts (.fieldLink RX11 106 "LeftQuillsModel" "hands" "I") (wmx 3 rfl)) (fun _ h9 => h9) rfl dX11_toWhom_21 ?_
      refine lv_icmp_ge (tgt := 29) hx hb dX11_toWhom_24 (by decide) (fun c15 => ?_) (fun c15 => ?_)
      ·
        have c15 : nh ≤ nq := (nI_leI (a := nh) (b := nq) (by omega) (by omega)).mp c15
        refine lv_aload_n hx hb dX11_toWhom_29 rfl (lv_at hl 0 rfl) ?_
        have hPc := hP.sub (ws' := [(h0, .inr (11, [.int n0, .int n1, .int (nI nq), .ref m3, .ref m4, .ref m5, .int (nI nh), .ref m7, .ref m8, .ref m9, .ref m10, .int (nI sd), .ref m12, .int (nI tx), .int n14, .int (nI at9), .int n16, .int n17, .ref m18, .int (nI rq), .ref m20, .ref m21, .ref m22, .ref m23, .ref m24, .int (nI rh), .ref m26, .ref m27, .ref m28, .int (nI un), .ref m30, .int n31, .int n32, .ref m33, .int n34, .int n35, .ref m36, .int (nI wm), .ref m38, .ref m39, .ref m40, .int (nI bk), .ref m42, .ref m43, .ref m44, .ref m45])), (m3, .inl (cI, 8, .inl fm3)), (m4, .inl (cI, 8, .inl fm4)), (m5, .inl (cI, 8, .inl fm5)), (m7, .inl (cI, 4, .inl fm7)), (m8, .inl (cI, 4, .inl fm8)), (m9, .inl (cI, 4, .inl fm9)), (m10, .inl (cI, 34, .inl fm10))]) [0, 1, 2, 3, 4, 5, 6, 7] rfl
        have hDc := hD.sub (ws' := [(h0, .inr (11, [.int n0, .int n1, .int (nI nq), .ref m3, .ref m4, .ref m5, .int (nI nh), .ref m7, .ref m8, .ref m9, .ref m10, .int (nI sd), .ref m12, .int (nI tx), .int n14, .int (nI at9), .int n16, .int n17, .ref m18, .int (nI rq), .ref m20, .ref m21, .ref m22, .ref m23, .ref m24, .int (nI rh), .ref m26, .ref m27, .ref m28, .int (nI un), .ref m30, .int n31, .int n32, .ref m33, .int n34, .int n35, .ref m36, .int (nI wm), .ref m38, .ref m39, .ref m40, .int (nI bk), .ref m42, .ref m43, .ref m44, .ref m45])), (m3, .inl (cI, 8, .inl fm3)), (m4, .inl (cI, 8, .inl fm4)), (m5, .inl (cI, 8, .inl fm5)), (m7, .inl (cI, 4, .inl fm7)), (m8, .inl (cI, 4, .inl fm8)), (m9, .inl (cI, 4, .inl fm9)), (m10, .inl (cI, 34, .inl fm10))]) [0, 1, 2, 3, 4, 5, 6, 7] (by decide) rfl
        have hFc := va_free (wc := [(h0, .inr (11, [.int n0, .int n1, .int (nI nq), .ref m3, .ref m4, .ref m5, .int (nI nh), .ref m7, .ref m8, .ref m9, .ref m10, .int (nI sd), .ref m12, .int (nI tx), .int n14, .int (nI at9), .int n16, .int n17, .ref m18, .int (nI rq), .ref m20, .ref m21, .ref m22, .ref m23, .ref m24, .int (nI rh), .ref m26, .ref m27, .ref m28, .int (nI un), .ref m30, .int n31, .int n32, .ref m33, .int n34, .int n35, .ref m36, .int (nI wm), .ref m38, .ref m39, .ref m40, .int (nI bk), .ref m42, .ref m43, .ref m44, .ref m45])), (m3, .inl (cI, 8, .inl fm3)), (m4, .inl (cI, 8, .inl fm4)), (m5, .inl (cI, 8, .inl fm5)), (m7, .inl (cI, 4, .inl fm7)), (m8, .inl (cI, 4, .inl fm8)), (m9, .inl (cI, 4, .inl fm9)), (m10, .inl (cI, 34, .inl fm10))]) hD hS hA [0, 1, 2, 3, 4, 5, 6, 7] rfl
        refine va_callv (va_runV (As := []) (rest := []) ⟨hx, hb, hml, hown, hts⟩ (c_X11_findGivenD l dC dI cI cZ cQ h0 n0 n1 nq m3 m4 m5 nh m7 m8 m9 m10 sd m12 tx n14 at9 n16 n17 m18 rq m20 m21 m22 m23 m24 rh m26 m27 m28 un m30 n31 n32 m33 n34 n35 m36 wm m38 m39 m40 bk m42 m43 m44 m45 fm3 fm4 fm5 fm7 fm8 fm9 fm10 H.size (by omega) (by first | assumption | decide) (by omega)) (cwV 0 hts gX11_toWhom_X11_findGiven rfl rfl rfl (by decide +kernel) ⟨Nat.le_of_ble_eq_true rfl, Nat.le_of_ble_eq_true rfl⟩) ⟨fun a U g mk q => by obtain ⟨q0, q1, qP, qK, qD⟩ := q; exact ⟨q0, q1, qP, va_K.moved (u := U) (U := U.calling g mk a) (Vm.Alike.refl U.vm) qK, qD⟩, va_recv hK hP (ci := 11) (q0 := 0) rfl rfl, fun U hU hW => ⟨rfl, by rw [hU], by rw [hU]; exact hPc, va_K.moved hW.alike hK, hDc.weaken (fun _ _ _ _ => trivial)⟩⟩ rfl rfl hl.1 rfl (lv_room (Nat.le_of_ble_eq_true rfl)) dX11_toWhom_30 ⟨Nat.le_of_ble_eq_true rfl, Nat.le_of_ble_eq_true rfl⟩) hS (fun q _ h => hFc q h) hFc (fun u17 t H1 locs ht hvm hw18 hB hz1 hk1 hS => ?_)
        obtain ⟨i19, i20, he21, hP1, hD1⟩ := hB
        rw [ht] at hP1
        obtain ⟨hP, hD⟩ := va_join (wr := []) (w1 := [(h0, .inr (11, [.int n0, .int n1, .int (nI nq), .ref m3, .ref m4, .ref m5, .int (nI nh), .ref m7, .ref m8, .ref m9, .ref m10, .int (nI sd), .ref m12, .int (nI tx), .int n14, .int (nI at9), .int n16, .int n17, .ref m18, .int (nI rq), .ref m20, .ref m21, .ref m22, .ref m23, .ref m24, .int (nI rh), .ref m26, .ref m27, .ref m28, .int (nI un), .ref m30, .int i19, .int i20, .ref m33, .int n34, .int n35, .ref m36, .int (nI wm), .ref m38, .ref m39, .ref m40, .int (nI bk), .ref m42, .ref m43, .ref m44, .ref m45])), (m3, .inl (cI, 8, .inl fm3)), (m4, .inl (cI, 8, .inl fm4)), (m5, .inl (cI, 8, .inl fm5)), (m7, .inl (cI, 4, .inl fm7)), (m8, .inl (cI, 4, .inl fm8)), (m9, .inl (cI, 4, .inl fm9)), (m10, .inl (cI, 34, .inl fm10))]) hP hD [0, 1, 2, 3, 4, 5, 6, 7] [] rfl rfl (by decide +kernel) (by decide +kernel) hk1 hFc hP1 hD1
        clear hP1 hD1
        clear hz1 hk1 hPc hDc hFc
        generalize H1 = H at hP hS ht ⊢
        have hP : va_P (dC, dI) vwCl [(h0, .inr (11, [.int n0, .int n1, .int (nI nq), .ref m3, .ref m4, .ref m5, .int (nI nh), .ref m7, .ref m8, .ref m9, .ref m10, .int (nI sd), .ref m12, .int (nI tx), .int n14, .int (nI at9), .int n16, .int n17, .ref m18, .int (nI rq), .ref m20, .ref m21, .ref m22, .ref m23, .ref m24, .int (nI rh), .ref m26, .ref m27, .ref m28, .int (nI un), .ref m30, .int i19, .int i20, .ref m33, .int n34, .int n35, .ref m36, .int (nI wm), .ref m38, .ref m39, .ref m40, .int (nI bk), .ref m42, .ref m43, .ref m44, .ref m45])), (m3, .inl (cI, 8, .inl fm3)), (m4, .inl (cI, 8, .inl fm4)), (m5, .inl (cI, 8, .inl fm5)), (m7, .inl (cI, 4, .inl fm7)), (m8, .inl (cI, 4, .inl fm8)), (m9, .inl (cI, 4, .inl fm9)), (m10, .inl (cI, 34, .inl fm10))] H := hP
        have hD : va_D A [(h0, .inr (11, [.int n0, .int n1, .int (nI nq), .ref m3, .ref m4, .ref m5, .int (nI nh), .ref m7, .ref m8, .ref m9, .ref m10, .int (nI sd), .ref m12, .int (nI tx), .int n14, .int (nI at9), .int n16, .int n17, .ref m18, .int (nI rq), .ref m20, .ref m21, .ref m22, .ref m23, .ref m24, .int (nI rh), .ref m26, .ref m27, .ref m28, .int (nI un), .ref m30, .int i19, .int i20, .ref m33, .int n34, .int n35, .ref m36, .int (nI wm), .ref m38, .ref m39, .ref m40, .int (nI bk), .ref m42, .ref m43, .ref m44, .ref m45])), (m3, .inl (cI, 8, .inl fm3)), (m4, .inl (cI, 8, .inl fm4)), (m5, .inl (cI, 8, .inl fm5)), (m7, .inl (cI, 4, .inl fm7)), (m8, .inl (cI, 4, .inl fm8)), (m9, .inl (cI, 4, .inl fm9)), (m10, .inl (cI, 34, .inl fm10))] := hD
        try dsimp only at hw18
        refine lv_iload_n hx hb dX11_toWhom_33 rfl (lv_at hl 1 rfl) ?_
        refine lv_iconst (v := (-1)) hx hb dX11_toWhom_34 (by decide) ?_
        refine lv_icmp_ne (tgt := 45) hx hb dX11_toWhom_35 (by decide) (fun c22 => ?_) (fun c22 => ?_)
        rotate_left
        · exact absurd (congrArg Int32.toInt c22) (by rw [nI_toInt (by omega), show (-1 : Int32).toInt = -1 from by decide]; omega)
        refine lv_aload_n hx hb dX11_toWhom_45 rfl (lv_at hl 0 rfl) ?_
        refine va_get (D := (dC, dI)) (ci := 11) (v := .int i19) (C := RX11) (T := TX11) (N := 46) hx hb hts hi_X11 hown hK hP 0 rfl rfl 31 (by decide) (hts (.fieldLink RX11 269 "LeftQuillsModel" "given" "I") (wmx 5 rfl)) (fun _ h9 => h9) rfl dX11_toWhom_46 ?_
        refine lv_aload_n hx hb dX11_toWhom_49 rfl (lv_at hl 0 rfl) ?_
        refine va_get (D := (dC, dI)) (ci := 11) (v := .int (nI nh)) (C := RX11) (T := TX11) (N := 46) hx hb hts hi_X11 hown hK hP 0 rfl rfl 6 (by decide) (hts (.fieldLink RX11 106 "LeftQuillsModel" "hands" "I") (wmx 3 rfl)) (fun _ h9 => h9) rfl dX11_toWhom_50 ?_
        refine lv_iload_n hx hb dX11_toWhom_53 rfl (lv_at hl 1 rfl) ?_
        have hPc := hP.sub (ws' := []) [] rfl
        refine va_calli (va_runS (As := [.int i19, .int (nI nh), .int (nI j13)]) (rest := []) ⟨hx, hb, hml, hown, hts⟩ (c_X11_figureD l dC dI cI cZ cQ i19 (nI nh) (nI j13) H.size ) (va_cwS 3 hts gX11_toWhom_X11_figure rfl rfl rfl (by decide +kernel) ⟨Nat.le_of_ble_eq_true rfl, Nat.le_of_ble_eq_true rfl⟩) ⟨fun a U g mk q => by obtain ⟨q0, q1, qP, qK⟩ := q; exact ⟨q0, q1, qP, va_K.moved (u := U) (U := U.calling g mk a) (Vm.Alike.refl U.vm) qK⟩, fun U hU hW => ⟨rfl, by rw [hU], by rw [hU]; exact hPc, va_K.moved hW.alike hK⟩⟩ rfl rfl hl.1 rfl (lv_room (Nat.le_of_ble_eq_true rfl)) dX11_toWhom_54 ⟨Nat.le_of_ble_eq_true rfl, Nat.le_of_ble_eq_true rfl⟩) hS (fun q _ h => False.elim h) (fun q h => False.elim h) (fun r23 u24 t H1 locs ht hvm hw25 hB hz1 hk1 hS => ?_)
        have hP := hP.kept (fun k q hk => hk1 q.1 (hP k q hk).lt (fun h => h))
        clear hz1 hk1 hPc
        generalize H1 = H at hP hS ht ⊢
        try dsimp only at hw25
        subst hw25
        have hP9 := hP.sub (ws' := [(h0, .inr (11, [.int n0, .int n1, .int (nI nq), .ref m3, .ref m4, .ref m5, .int (nI nh), .ref m7, .ref m8, .ref m9, .ref m10, .int (nI sd), .ref m12, .int (nI tx), .int n14, .int (nI at9), .int n16, .int n17, .ref m18, .int (nI rq), .ref m20, .ref m21, .ref m22, .ref m23, .ref m24, .int (nI rh), .ref m26, .ref m27, .ref m28, .int (nI un), .ref m30, .int i19, .int i20, .ref m33, .int n34, .int n35, .ref m36, .int (nI wm), .ref m38, .ref m39, .ref m40, .int (nI bk), .ref m42, .ref m43, .ref m44, .ref m45])), (m3, .inl (cI, 8, .inl fm3)), (m4, .inl (cI, 8, .inl fm4)), (m5, .inl (cI, 8, .inl fm5)), (m7, .inl (cI, 4, .inl fm7)), (m8, .inl (cI, 4, .inl fm8)), (m9, .inl (cI, 4, .inl fm9)), (m10, .inl (cI, 34, .inl fm10))]) [0, 1, 2, 3, 4, 5, 6, 7] rfl
        have hD9 := hD.sub (ws' := [(h0, .inr (11, [.int n0, .int n1, .int (nI nq), .ref m3, .ref m4, .ref m5, .int (nI nh), .ref m7, .ref m8, .ref m9, .ref m10, .int (nI sd), .ref m12, .int (nI tx), .int n14, .int (nI at9), .int n16, .int n17, .ref m18, .int (nI rq), .ref m20, .ref m21, .ref m22, .ref m23, .ref m24, .int (nI rh), .ref m26, .ref m27, .ref m28, .int (nI un), .ref m30, .int i19, .int i20, .ref m33, .int n34, .int n35, .ref m36, .int (nI wm), .ref m38, .ref m39, .ref m40, .int (nI bk), .ref m42, .ref m43, .ref m44, .ref m45])), (m3, .inl (cI, 8, .inl fm3)), (m4, .inl (cI, 8, .inl fm4)), (m5, .inl (cI, 8, .inl fm5)), (m7, .inl (cI, 4, .inl fm7)), (m8, .inl (cI, 4, .inl fm8)), (m9, .inl (cI, 4, .inl fm9)), (m10, .inl (cI, 34, .inl fm10))]) [0, 1, 2, 3, 4, 5, 6, 7] (by decide +kernel) rfl
        exact W.iret (v := fgF i19 (nI nh) (nI j13)) hx hb hr (fun t ht hW => ⟨⟨fgF i19 (nI nh) (nI j13), (fun _ => 0), rfl, (two_y hw12 (by omega) (by omega) he21 (fun K hK h9 => by rw [h9]; exact fg_D (tw_31 hnh hK) (by omega) (by omega))), ⟨i19, i20, by rw [ht]; exact hP9, hD9⟩⟩, hS.F ht⟩) hS.2.2 dX11_toWhom_57
      ·
        have c15 : ¬ nh ≤ nq := fun h => c15 ((nI_leI (a := nh) (b := nq) (by omega) (by omega)).mpr h)
        refine lv_iconst (v := (-1)) hx hb dX11_toWhom_27 (by decide) ?_
        have hP9 := hP.sub (ws' := [(h0, .inr (11, [.int n0, .int n1, .int (nI nq), .ref m3, .ref m4, .ref m5, .int (nI nh), .ref m7, .ref m8, .ref m9, .ref m10, .int (nI sd), .ref m12, .int (nI tx), .int n14, .int (nI at9), .int n16, .int n17, .ref m18, .int (nI rq), .ref m20, .ref m21, .ref m22, .ref m23, .ref m24, .int (nI rh), .ref m26, .ref m27, .ref m28, .int (nI un), .ref m30, .int n31, .int n32, .ref m33, .int n34, .int n35, .ref m36, .int (nI wm), .ref m38, .ref m39, .ref m40, .int (nI bk), .ref m42, .ref m43, .ref m44, .ref m45])), (m3, .inl (cI, 8, .inl fm3)), (m4, .inl (cI, 8, .inl fm4)), (m5, .inl (cI, 8, .inl fm5)), (m7, .inl (cI, 4, .inl fm7)), (m8, .inl (cI, 4, .inl fm8)), (m9, .inl (cI, 4, .inl fm9)), (m10, .inl (cI, 34, .inl fm10))]) [0, 1, 2, 3, 4, 5, 6, 7] rfl
        have hD9 := hD.sub (ws' := [(h0, .inr (11, [.int n0, .int n1, .int (nI nq), .ref m3, .ref m4, .ref m5, .int (nI nh), .ref m7, .ref m8, .ref m9, .ref m10, .int (nI sd), .ref m12, .int (nI tx), .int n14, .int (nI at9), .int n16, .int n17, .ref m18, .int (nI rq), .ref m20, .ref m21, .ref m22, .ref m23, .ref m24, .int (nI rh), .ref m26, .ref m27, .ref m28, .int (nI un), .ref m30, .int n31, .int n32, .ref m33, .int n34, .int n35, .ref m36, .int (nI wm), .ref m38, .ref m39, .ref m40, .int (nI bk), .ref m42, .ref m43, .ref m44, .ref m45])), (m3, .inl (cI, 8, .inl fm3)), (m4, .inl (cI, 8, .inl fm4)), (m5, .inl (cI, 8, .inl fm5)), (m7, .inl (cI, 4, .inl fm7)), (m8, .inl (cI, 4, .inl fm8)), (m9, .inl (cI, 4, .inl fm9)), (m10, .inl (cI, 34, .inl fm10))]) [0, 1, 2, 3, 4, 5, 6, 7] (by decide +kernel) rfl
        exact W.iret (v := (-1)) hx hb hr (fun t ht hW => ⟨⟨(-1), (fun _ => 0), rfl, (two_f (Or.inr hw12) (by omega)), ⟨n31, n32, by rw [ht]; exact hP9, hD9⟩⟩, hS.F ht⟩) hS.2.2 dX11_toWhom_28
    ·
      refine lv_if_ne (tgt := 16) hx hb dX11_toWhom_10 (by decide) (fun c26 => ?_) (fun c26 => ?_)
      · exact absurd c26 (by decide)
      clear c26
      refine lv_ldc (v := (-1000000001)) hx hb hown (hts (.constant RX11 188 (-1000000001)) (wmx 1 rfl)) dX11_toWhom_13 ?_
      have hP9 := hP.sub (ws' := [(h0, .inr (11, [.int n0, .int n1, .int (nI nq), .ref m3, .ref m4, .ref m5, .int (nI nh), .ref m7, .ref m8, .ref m9, .ref m10, .int (nI sd), .ref m12, .int (nI tx), .int n14, .int (nI at9), .int n16, .int n17, .ref m18, .int (nI rq), .ref m20, .ref m21, .ref m22, .ref m23, .ref m24, .int (nI rh), .ref m26, .ref m27, .ref m28, .int (nI un), .ref m30, .int n31, .int n32, .ref m33, .int n34, .int n35, .ref m36, .int (nI wm), .ref m38, .ref m39, .ref m40, .int (nI bk), .ref m42, .ref m43, .ref m44, .ref m45])), (m3, .inl (cI, 8, .inl fm3)), (m4, .inl (cI, 8, .inl fm4)), (m5, .inl (cI, 8, .inl fm5)), (m7, .inl (cI, 4, .inl fm7)), (m8, .inl (cI, 4, .inl fm8)), (m9, .inl (cI, 4, .inl fm9)), (m10, .inl (cI, 34, .inl fm10))]) [0, 1, 2, 3, 4, 5, 6, 7] rfl
      have hD9 := hD.sub (ws' := [(h0, .inr (11, [.int n0, .int n1, .int (nI nq), .ref m3, .ref m4, .ref m5, .int (nI nh), .ref m7, .ref m8, .ref m9, .ref m10, .int (nI sd), .ref m12, .int (nI tx), .int n14, .int (nI at9), .int n16, .int n17, .ref m18, .int (nI rq), .ref m20, .ref m21, .ref m22, .ref m23, .ref m24, .int (nI rh), .ref m26, .ref m27, .ref m28, .int (nI un), .ref m30, .int n31, .int n32, .ref m33, .int n34, .int n35, .ref m36, .int (nI wm), .ref m38, .ref m39, .ref m40, .int (nI bk), .ref m42, .ref m43, .ref m44, .ref m45])), (m3, .inl (cI, 8, .inl fm3)), (m4, .inl (cI, 8, .inl fm4)), (m5, .inl (cI, 8, .inl fm5)), (m7, .inl (cI, 4, .inl fm7)), (m8, .inl (cI, 4, .inl fm8)), (m9, .inl (cI, 4, .inl fm9)), (m10, .inl (cI, 34, .inl fm10))]) [0, 1, 2, 3, 4, 5, 6, 7] (by decide +kernel) rfl
      exact W.iret (v := (-1000000001)) hx hb hr (fun t ht hW => ⟨⟨(-1000000001), (fun _ => 0), rfl, (two_u c1 hw12), ⟨n31, n32, by rw [ht]; exact hP9, hD9⟩⟩, hS.F ht⟩) hS.2.2 dX11_toWhom_15
