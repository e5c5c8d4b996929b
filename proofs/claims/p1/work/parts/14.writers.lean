set_option maxHeartbeats 4000000 in
set_option maxRecDepth 100000 in
theorem c_X10_feed (l : Launch) (dC : Nat → ClassId) (dI : Nat → Nat → Nat) (cI cZ cQ : ClassId) (h0 : Nat) (x0 : Nat) (x4 : Nat) (x5 : Nat) (x6 : Nat) (x7 : Nat) (x8 : Nat) (x9 : Nat) (x10 : Nat) (x11 : Nat) (x12 : Nat) (x13 : Nat) (a0 : Int32) (sz : Nat)  : Met l yX10_feed wsX10_feed ({ frames := 1, cells := 0, slots := 0, locals := 62 }) (va_Pc [.ref h0, .int a0] (fun U => U.heap.size = sz ∧ va_P (dC, dI) vwCl [(h0, .inr (10, [.ref x0, .int 0, .int (-1), .int 0, .ref x4, .ref x5, .ref x6, .ref x7, .ref x8, .ref x9, .ref x10, .ref x11, .ref x12, .ref x13])), (x0, .inl (cI, 220, .inl (fun _ => 0)))] U.heap ∧ va_K (dC, dI) vwCl (tys0 cI cZ cQ) U ∧ va_D (fun _ => True) [(h0, .inr (10, [.ref x0, .int 0, .int (-1), .int 0, .ref x4, .ref x5, .ref x6, .ref x7, .ref x8, .ref x9, .ref x10, .ref x11, .ref x12, .ref x13])), (x0, .inl (cI, 220, .inl (fun _ => 0)))])) (va_Qi (fun (r : Int32) (u : Nat → Nat) => r = if 0 ≤ a0 ∧ a0 ≤ 255 then 1 else (-1000000002)) (fun (_ : Nat → Nat) (_ : State) => True) (va_A [(h0, .inr (10, [.ref x0, .int 0, .int (-1), .int 0, .ref x4, .ref x5, .ref x6, .ref x7, .ref x8, .ref x9, .ref x10, .ref x11, .ref x12, .ref x13])), (x0, .inl (cI, 220, .inl (fun _ => 0)))] sz)) 0 0 (va_A [(h0, .inr (10, [.ref x0, .int 0, .int (-1), .int 0, .ref x4, .ref x5, .ref x6, .ref x7, .ref x8, .ref x9, .ref x10, .ref x11, .ref x12, .ref x13])), (x0, .inl (cI, 220, .inl (fun _ => 0)))] sz) := by
  refine Met.ofW (cc := cX10_feed) (maxL := 2) (ret := (some .int)) (by decide) rfl ?_
  intro p e s m args below meth c s₁ B hml hv
  obtain ⟨rfl, hsz, hP, hK, hD0⟩ := hv
  have hx := B.exec
  have hb := B.bytes
  have hr := B.returns
  have hts := atoms_spec (ws := wsX10_feed) B.pre
  have hown : s.vm.findClass RX10 = some m.cls := findClass_of_methodNamed B.named
  have hlocks := B.notSynchronized
  have hi_X10 : ∀ w ∈ u_ws RX10 TX10 14, w ∈ wsX10_feed := by decide +kernel
  subst hsz
  have hD := hD0.self (sz := s.heap.size)
  generalize hAe : va_A [(h0, .inr (10, [.ref x0, .int 0, .int (-1), .int 0, .ref x4, .ref x5, .ref x6, .ref x7, .ref x8, .ref x9, .ref x10, .ref x11, .ref x12, .ref x13])), (x0, .inl (cI, 220, .inl (fun _ => 0)))] s.heap.size = A at hD ⊢
  have hA : ∀ q : Nat, s.heap.size ≤ q → A q := fun q h => by rw [← hAe]; exact Or.inr h
  have hS : va_S A s.heap s.heap [] := va_S.rf
  have hl := lv_entry ([.ref h0, .int a0]) (n := 2) (Nat.le_of_ble_eq_true rfl)
  rw [lg_entry_eq]
  generalize (lg_sl ([.ref h0, .int a0]) ++ List.replicate (2 - (lg_sl ([.ref h0, .int a0])).length) Slot.unset).toArray = ls at hl ⊢
  have hl : lv_has ls 2 [(0, .ref h0), (1, .int a0)] := hl
  refine lv_iload_n hx hb dX10_feed_0 rfl (lv_at hl 1 rfl) ?_
  refine lv_iconst (v := 0) hx hb dX10_feed_1 (by decide) ?_
  refine lv_sipush (v := 255) hx hb dX10_feed_2 (by decide) ?_
  have hPc := hP.sub (ws' := []) [] rfl
  refine va_calli (va_runS (As := [.int a0, .int 0, .int 255]) (rest := []) ⟨hx, hb, hml, hown, hts⟩ (c_X10_within l dC dI cI cZ cQ a0 0 255 s.heap.size ) (va_cwS 3 hts gX10_feed_X10_within rfl rfl rfl (by decide +kernel) ⟨Nat.le_of_ble_eq_true rfl, Nat.le_of_ble_eq_true rfl⟩) ⟨fun a U g mk q => by obtain ⟨q0, q1, qP, qK⟩ := q; exact ⟨q0, q1, qP, va_K.moved (u := U) (U := U.calling g mk a) (Vm.Alike.refl U.vm) qK⟩, fun U hU hW => ⟨rfl, by rw [hU], by rw [hU]; exact hPc, va_K.moved hW.alike hK⟩⟩ rfl rfl hl.1 rfl (lv_room (Nat.le_of_ble_eq_true rfl)) dX10_feed_5 ⟨Nat.le_of_ble_eq_true rfl, Nat.le_of_ble_eq_true rfl⟩) hS (fun q _ h => False.elim h) (fun q h => False.elim h) (fun r1 u2 t H1 locs ht hvm hw3 hB hz1 hk1 hS => ?_)
  have hP := hP.kept (fun k q hk => hk1 q.1 (hP k q hk).lt (fun h => h))
  clear hz1 hk1 hPc
  generalize H1 = H at hP hS ht ⊢
  try dsimp only at hw3
  rcases hw3 with ⟨rfl, hw3⟩ | ⟨rfl, hw3⟩
  ·
    refine lv_if_ne (tgt := 14) hx hb dX10_feed_8 (by decide) (fun c4 => ?_) (fun c4 => ?_)
    rotate_left
    · exact absurd c4 (by decide)
    clear c4
    refine lv_aload_n hx hb dX10_feed_14 rfl (lv_at hl 0 rfl) ?_
    refine va_get (D := (dC, dI)) (ci := 10) (v := .int 0) (C := RX10) (T := TX10) (N := 14) hx hb hts hi_X10 hown hK hP 0 rfl rfl 1 (by decide) (hts (.fieldLink RX10 13 "LeftQuills" "textLength" "I") (by decide +kernel)) (fun _ h9 => h9) rfl dX10_feed_15 ?_
    refine lv_sipush (v := 220) hx hb dX10_feed_18 (by decide) ?_
    refine lv_icmp_lt (tgt := 27) hx hb dX10_feed_21 (by decide) (fun c5 => ?_) (fun c5 => ?_)
    rotate_left
    · exact absurd c5 (by decide)
    clear c5
    refine lv_aload_n hx hb dX10_feed_27 rfl (lv_at hl 0 rfl) ?_
    refine va_get (D := (dC, dI)) (ci := 10) (v := .ref x0) (C := RX10) (T := TX10) (N := 14) hx hb hts hi_X10 hown hK hP 0 rfl rfl 0 (by decide) (hts (.fieldLink RX10 9 "LeftQuills" "text" "[I") (by decide +kernel)) (fun _ h9 => h9) rfl dX10_feed_28 ?_
    refine lv_aload_n hx hb dX10_feed_31 rfl (lv_at hl 0 rfl) ?_
    refine va_get (D := (dC, dI)) (ci := 10) (v := .int 0) (C := RX10) (T := TX10) (N := 14) hx hb hts hi_X10 hown hK hP 0 rfl rfl 1 (by decide) (hts (.fieldLink RX10 13 "LeftQuills" "textLength" "I") (by decide +kernel)) (fun _ h9 => h9) rfl dX10_feed_32 ?_
    refine lv_iload_n hx hb dX10_feed_35 rfl (lv_at hl 1 rfl) ?_
    refine va_iast hx hb hK hP hD hS 1 0 rfl rfl (vp_in_iff.mpr ⟨by decide, by decide⟩) dX10_feed_36 (fun H locs hP hD hS => ?_)
    generalize hgf6 : upd _ _ _ = f6 at hP hD
    have hP : va_P (dC, dI) vwCl [(h0, .inr (10, [.ref x0, .int 0, .int (-1), .int 0, .ref x4, .ref x5, .ref x6, .ref x7, .ref x8, .ref x9, .ref x10, .ref x11, .ref x12, .ref x13])), (x0, .inl (cI, 220, .inl f6))] H := hP
    have hD : va_D A [(h0, .inr (10, [.ref x0, .int 0, .int (-1), .int 0, .ref x4, .ref x5, .ref x6, .ref x7, .ref x8, .ref x9, .ref x10, .ref x11, .ref x12, .ref x13])), (x0, .inl (cI, 220, .inl f6))] := hD
    refine lv_aload_n hx hb dX10_feed_37 rfl (lv_at hl 0 rfl) ?_
    refine lv_dup hx hb dX10_feed_38 rfl ?_
    refine va_get (D := (dC, dI)) (ci := 10) (v := .int 0) (C := RX10) (T := TX10) (N := 14) hx hb hts hi_X10 hown hK hP 0 rfl rfl 1 (by decide) (hts (.fieldLink RX10 13 "LeftQuills" "textLength" "I") (by decide +kernel)) (fun _ h9 => h9) rfl dX10_feed_39 ?_
    refine lv_iconst (v := 1) hx hb dX10_feed_42 (by decide) ?_
    refine lv_iadd hx hb dX10_feed_43 ?_
    refine lv_topi (fun z7 ez7 => ?_)
    obtain rfl : z7 = 1 := ez7.trans (by decide)
    refine va_put (D := (dC, dI)) (ci := 10) (v := .int 1) (ty := .int) (C := RX10) (T := TX10) (N := 14) hx hb hts hi_X10 tyX10 tyX10_ok nmX10 hown hK hP hD hS 0 rfl rfl 1 (by decide) (hts (.fieldLink RX10 13 "LeftQuills" "textLength" "I") (by decide +kernel)) (fun _ h9 => h9) rfl (by decide +kernel) rfl rfl (Nat.le_of_ble_eq_true rfl) dX10_feed_44 (fun H locs hP hD hS => ?_)
    have hP : va_P (dC, dI) vwCl [(h0, .inr (10, [.ref x0, .int 1, .int (-1), .int 0, .ref x4, .ref x5, .ref x6, .ref x7, .ref x8, .ref x9, .ref x10, .ref x11, .ref x12, .ref x13])), (x0, .inl (cI, 220, .inl f6))] H := hP
    have hD : va_D A [(h0, .inr (10, [.ref x0, .int 1, .int (-1), .int 0, .ref x4, .ref x5, .ref x6, .ref x7, .ref x8, .ref x9, .ref x10, .ref x11, .ref x12, .ref x13])), (x0, .inl (cI, 220, .inl f6))] := hD
    refine lv_aload_n hx hb dX10_feed_47 rfl (lv_at hl 0 rfl) ?_
    refine va_get (D := (dC, dI)) (ci := 10) (v := .int 1) (C := RX10) (T := TX10) (N := 14) hx hb hts hi_X10 hown hK hP 0 rfl rfl 1 (by decide) (hts (.fieldLink RX10 13 "LeftQuills" "textLength" "I") (by decide +kernel)) (fun _ h9 => h9) rfl dX10_feed_48 ?_
    exact W.iret (v := 1) hx hb hr (fun t ht hW => ⟨⟨1, (fun _ => 0), rfl, (if_pos hw3).symm, trivial⟩, hS.F ht⟩) hS.2.2 dX10_feed_51
  ·
    refine lv_if_ne (tgt := 14) hx hb dX10_feed_8 (by decide) (fun c8 => ?_) (fun c8 => ?_)
    · exact absurd c8 (by decide)
    clear c8
    refine lv_ldc (v := (-1000000002)) hx hb hown (hts (.constant RX10 103 (-1000000002)) (by decide +kernel)) dX10_feed_11 ?_
    exact W.iret (v := (-1000000002)) hx hb hr (fun t ht hW => ⟨⟨(-1000000002), (fun _ => 0), rfl, (if_neg hw3).symm, trivial⟩, hS.F ht⟩) hS.2.2 dX10_feed_13
set_option maxHeartbeats 4000000 in
set_option maxRecDepth 100000 in
theorem c_X10_seed (l : Launch) (dC : Nat → ClassId) (dI : Nat → Nat → Nat) (cI cZ cQ : ClassId) (h0 : Nat) (x0 : Nat) (x4 : Nat) (x5 : Nat) (x6 : Nat) (x7 : Nat) (x8 : Nat) (x9 : Nat) (x10 : Nat) (x11 : Nat) (x12 : Nat) (x13 : Nat) (a0 : Int32) (sz : Nat)  : Met l yX10_seed wsX10_seed ({ frames := 0, cells := 0, slots := 0, locals := 40 }) (va_Pc [.ref h0, .int a0] (fun U => U.heap.size = sz ∧ va_P (dC, dI) vwCl [(h0, .inr (10, [.ref x0, .int 0, .int (-1), .int 0, .ref x4, .ref x5, .ref x6, .ref x7, .ref x8, .ref x9, .ref x10, .ref x11, .ref x12, .ref x13]))] U.heap ∧ va_K (dC, dI) vwCl (tys0 cI cZ cQ) U ∧ va_D (fun _ => True) [(h0, .inr (10, [.ref x0, .int 0, .int (-1), .int 0, .ref x4, .ref x5, .ref x6, .ref x7, .ref x8, .ref x9, .ref x10, .ref x11, .ref x12, .ref x13]))])) (va_Qi (fun (r : Int32) (u : Nat → Nat) => r = if 0 ≤ a0 then 0 else (-1000000002)) (fun (_ : Nat → Nat) (_ : State) => True) (va_A [(h0, .inr (10, [.ref x0, .int 0, .int (-1), .int 0, .ref x4, .ref x5, .ref x6, .ref x7, .ref x8, .ref x9, .ref x10, .ref x11, .ref x12, .ref x13]))] sz)) 0 0 (va_A [(h0, .inr (10, [.ref x0, .int 0, .int (-1), .int 0, .ref x4, .ref x5, .ref x6, .ref x7, .ref x8, .ref x9, .ref x10, .ref x11, .ref x12, .ref x13]))] sz) := by
  refine Met.ofW (cc := cX10_seed) (maxL := 3) (ret := (some .int)) (by decide) rfl ?_
  intro p e s m args below meth c s₁ B hml hv
  obtain ⟨rfl, hsz, hP, hK, hD0⟩ := hv
  have hx := B.exec
  have hb := B.bytes
  have hr := B.returns
  have hts := atoms_spec (ws := wsX10_seed) B.pre
  have hown : s.vm.findClass RX10 = some m.cls := findClass_of_methodNamed B.named
  have hlocks := B.notSynchronized
  have hi_X10 : ∀ w ∈ u_ws RX10 TX10 14, w ∈ wsX10_seed := by decide +kernel
  subst hsz
  have hD := hD0.self (sz := s.heap.size)
  generalize hAe : va_A [(h0, .inr (10, [.ref x0, .int 0, .int (-1), .int 0, .ref x4, .ref x5, .ref x6, .ref x7, .ref x8, .ref x9, .ref x10, .ref x11, .ref x12, .ref x13]))] s.heap.size = A at hD ⊢
  have hA : ∀ q : Nat, s.heap.size ≤ q → A q := fun q h => by rw [← hAe]; exact Or.inr h
  have hS : va_S A s.heap s.heap [] := va_S.rf
  have hl := lv_entry ([.ref h0, .int a0]) (n := 3) (Nat.le_of_ble_eq_true rfl)
  rw [lg_entry_eq]
  generalize (lg_sl ([.ref h0, .int a0]) ++ List.replicate (3 - (lg_sl ([.ref h0, .int a0])).length) Slot.unset).toArray = ls at hl ⊢
  have hl : lv_has ls 3 [(0, .ref h0), (1, .int a0)] := hl
  refine lv_iload_n hx hb dX10_seed_0 rfl (lv_at hl 1 rfl) ?_
  refine lv_if_ge (tgt := 7) hx hb dX10_seed_1 (by decide) (fun c1 => ?_) (fun c1 => ?_)
  ·
    refine lv_aload_n hx hb dX10_seed_7 rfl (lv_at hl 0 rfl) ?_
    refine va_get (D := (dC, dI)) (ci := 10) (v := .int 0) (C := RX10) (T := TX10) (N := 14) hx hb hts hi_X10 hown hK hP 0 rfl rfl 3 (by decide) (hts (.fieldLink RX10 20 "LeftQuills" "seed" "I") (by decide +kernel)) (fun _ h9 => h9) rfl dX10_seed_8 ?_
    refine lv_istore_n (lv' := [(2, .int 0), (0, .ref h0), (1, .int a0)]) hx hb dX10_seed_11 rfl hl (by decide) rfl (fun ls hl => ?_)
    refine lv_aload_n hx hb dX10_seed_12 rfl (lv_at hl 1 rfl) ?_
    refine lv_iload_n hx hb dX10_seed_13 rfl (lv_at hl 2 rfl) ?_
    refine va_put (D := (dC, dI)) (ci := 10) (v := .int a0) (ty := .int) (C := RX10) (T := TX10) (N := 14) hx hb hts hi_X10 tyX10 tyX10_ok nmX10 hown hK hP hD hS 0 rfl rfl 3 (by decide) (hts (.fieldLink RX10 20 "LeftQuills" "seed" "I") (by decide +kernel)) (fun _ h9 => h9) rfl (by decide +kernel) rfl rfl (Nat.le_of_ble_eq_true rfl) dX10_seed_14 (fun H locs hP hD hS => ?_)
    have hP : va_P (dC, dI) vwCl [(h0, .inr (10, [.ref x0, .int 0, .int (-1), .int a0, .ref x4, .ref x5, .ref x6, .ref x7, .ref x8, .ref x9, .ref x10, .ref x11, .ref x12, .ref x13]))] H := hP
    have hD : va_D A [(h0, .inr (10, [.ref x0, .int 0, .int (-1), .int a0, .ref x4, .ref x5, .ref x6, .ref x7, .ref x8, .ref x9, .ref x10, .ref x11, .ref x12, .ref x13]))] := hD
    refine lv_iload_n hx hb dX10_seed_17 rfl (lv_at hl 0 rfl) ?_
    exact W.iret (v := 0) hx hb hr (fun t ht hW => ⟨⟨0, (fun _ => 0), rfl, (if_pos c1).symm, trivial⟩, hS.F ht⟩) hS.2.2 dX10_seed_18
  ·
    refine lv_ldc (v := (-1000000002)) hx hb hown (hts (.constant RX10 103 (-1000000002)) (by decide +kernel)) dX10_seed_4 ?_
    exact W.iret (v := (-1000000002)) hx hb hr (fun t ht hW => ⟨⟨(-1000000002), (fun _ => 0), rfl, (if_neg c1).symm, trivial⟩, hS.F ht⟩) hS.2.2 dX10_seed_6
set_option maxHeartbeats 4000000 in
set_option maxRecDepth 100000 in
theorem c_X10_tear (l : Launch) (dC : Nat → ClassId) (dI : Nat → Nat → Nat) (cI cZ cQ : ClassId) (h0 : Nat) (x0 : Nat) (x4 : Nat) (x5 : Nat) (x6 : Nat) (x7 : Nat) (x8 : Nat) (x9 : Nat) (x10 : Nat) (x11 : Nat) (x12 : Nat) (x13 : Nat) (e1 : Nat) (e2 : Nat) (e3 : Nat) (e4 : Nat) (k1 : Nat) (k2 : Nat) (sz : Nat)  : Met l yX10_tear wsX10_tear ({ frames := 0, cells := 0, slots := 0, locals := 40 }) (va_Pc [.ref h0] (fun U => U.heap.size = sz ∧ va_P (dC, dI) vwCl [(h0, .inr (10, [.ref x0, .int 0, .int (-1), .int 0, .ref x4, .ref x5, .ref x6, .ref x7, .ref x8, .ref x9, .ref x10, .ref x11, .ref x12, .ref x13])), (x12, .inr (2, [.int 0, .ref e1, .ref e2, .ref e3, .ref e4])), (x13, .inr (0, [.int 0, .ref k1, .ref k2]))] U.heap ∧ va_K (dC, dI) vwCl (tys0 cI cZ cQ) U ∧ va_D (fun _ => True) [(h0, .inr (10, [.ref x0, .int 0, .int (-1), .int 0, .ref x4, .ref x5, .ref x6, .ref x7, .ref x8, .ref x9, .ref x10, .ref x11, .ref x12, .ref x13])), (x12, .inr (2, [.int 0, .ref e1, .ref e2, .ref e3, .ref e4])), (x13, .inr (0, [.int 0, .ref k1, .ref k2]))])) (va_Qi (fun (r : Int32) (u : Nat → Nat) => r = 0) (fun (_ : Nat → Nat) (_ : State) => True) (va_A [(h0, .inr (10, [.ref x0, .int 0, .int (-1), .int 0, .ref x4, .ref x5, .ref x6, .ref x7, .ref x8, .ref x9, .ref x10, .ref x11, .ref x12, .ref x13])), (x12, .inr (2, [.int 0, .ref e1, .ref e2, .ref e3, .ref e4])), (x13, .inr (0, [.int 0, .ref k1, .ref k2]))] sz)) 0 0 (va_A [(h0, .inr (10, [.ref x0, .int 0, .int (-1), .int 0, .ref x4, .ref x5, .ref x6, .ref x7, .ref x8, .ref x9, .ref x10, .ref x11, .ref x12, .ref x13])), (x12, .inr (2, [.int 0, .ref e1, .ref e2, .ref e3, .ref e4])), (x13, .inr (0, [.int 0, .ref k1, .ref k2]))] sz) := by
  refine Met.ofW (cc := cX10_tear) (maxL := 2) (ret := (some .int)) (by decide) rfl ?_
  intro p e s m args below meth c s₁ B hml hv
  obtain ⟨rfl, hsz, hP, hK, hD0⟩ := hv
  have hx := B.exec
  have hb := B.bytes
  have hr := B.returns
  have hts := atoms_spec (ws := wsX10_tear) B.pre
  have hown : s.vm.findClass RX10 = some m.cls := findClass_of_methodNamed B.named
  have hlocks := B.notSynchronized
  have hi_X0 : ∀ w ∈ u_ws RX0 TX0 3, w ∈ wsX10_tear := by decide +kernel
  have hi_X10 : ∀ w ∈ u_ws RX10 TX10 14, w ∈ wsX10_tear := by decide +kernel
  have hi_X2 : ∀ w ∈ u_ws RX2 TX2 5, w ∈ wsX10_tear := by decide +kernel
  subst hsz
  have hD := hD0.self (sz := s.heap.size)
  generalize hAe : va_A [(h0, .inr (10, [.ref x0, .int 0, .int (-1), .int 0, .ref x4, .ref x5, .ref x6, .ref x7, .ref x8, .ref x9, .ref x10, .ref x11, .ref x12, .ref x13])), (x12, .inr (2, [.int 0, .ref e1, .ref e2, .ref e3, .ref e4])), (x13, .inr (0, [.int 0, .ref k1, .ref k2]))] s.heap.size = A at hD ⊢
  have hA : ∀ q : Nat, s.heap.size ≤ q → A q := fun q h => by rw [← hAe]; exact Or.inr h
  have hS : va_S A s.heap s.heap [] := va_S.rf
  have hl := lv_entry ([.ref h0]) (n := 2) (Nat.le_of_ble_eq_true rfl)
  rw [lg_entry_eq]
  generalize (lg_sl ([.ref h0]) ++ List.replicate (2 - (lg_sl ([.ref h0])).length) Slot.unset).toArray = ls at hl ⊢
  have hl : lv_has ls 2 [(0, .ref h0)] := hl
  refine lv_aload_n hx hb dX10_tear_0 rfl (lv_at hl 0 rfl) ?_
  refine va_get (D := (dC, dI)) (ci := 10) (v := .ref x12) (C := RX10) (T := TX10) (N := 14) hx hb hts hi_X10 hown hK hP 0 rfl rfl 12 (by decide) (hts (.fieldLink RX10 88 "LeftQuills" "evidence" "LLeftQuills$Evidence;") (by decide +kernel)) (fun _ h9 => h9) rfl dX10_tear_1 ?_
  refine va_get (D := (dC, dI)) (ci := 2) (v := .int 0) (C := RX2) (T := TX2) (N := 5) hx hb hts hi_X2 hown hK hP 1 rfl rfl 0 (by decide) (hts (.fieldLink RX10 123 "LeftQuills$Evidence" "count" "I") (by decide +kernel)) (fun _ h9 => h9) rfl dX10_tear_4 ?_
  refine lv_aload_n hx hb dX10_tear_7 rfl (lv_at hl 0 rfl) ?_
  refine va_get (D := (dC, dI)) (ci := 10) (v := .ref x13) (C := RX10) (T := TX10) (N := 14) hx hb hts hi_X10 hown hK hP 0 rfl rfl 13 (by decide) (hts (.fieldLink RX10 95 "LeftQuills" "book" "LLeftQuills$Book;") (by decide +kernel)) (fun _ h9 => h9) rfl dX10_tear_8 ?_
  refine va_get (D := (dC, dI)) (ci := 0) (v := .int 0) (C := RX0) (T := TX0) (N := 3) hx hb hts hi_X0 hown hK hP 2 rfl rfl 0 (by decide) (hts (.fieldLink RX10 126 "LeftQuills$Book" "count" "I") (by decide +kernel)) (fun _ h9 => h9) rfl dX10_tear_11 ?_
  refine lv_iadd hx hb dX10_tear_14 ?_
  refine lv_topi (fun z1 ez1 => ?_)
  obtain rfl : z1 = 0 := ez1.trans (by decide)
  refine lv_istore_n (lv' := [(1, .int 0), (0, .ref h0)]) hx hb dX10_tear_15 rfl hl (by decide) rfl (fun ls hl => ?_)
  refine lv_aload_n hx hb dX10_tear_16 rfl (lv_at hl 1 rfl) ?_
  refine va_get (D := (dC, dI)) (ci := 10) (v := .ref x12) (C := RX10) (T := TX10) (N := 14) hx hb hts hi_X10 hown hK hP 0 rfl rfl 12 (by decide) (hts (.fieldLink RX10 88 "LeftQuills" "evidence" "LLeftQuills$Evidence;") (by decide +kernel)) (fun _ h9 => h9) rfl dX10_tear_17 ?_
  refine lv_iconst (v := 0) hx hb dX10_tear_20 (by decide) ?_
  refine va_put (D := (dC, dI)) (ci := 2) (v := .int 0) (ty := .int) (C := RX2) (T := TX2) (N := 5) hx hb hts hi_X2 tyX2 tyX2_ok nmX2 hown hK hP hD hS 1 rfl rfl 0 (by decide) (hts (.fieldLink RX10 123 "LeftQuills$Evidence" "count" "I") (by decide +kernel)) (fun _ h9 => h9) rfl (by decide +kernel) rfl rfl (Nat.le_of_ble_eq_true rfl) dX10_tear_21 (fun H locs hP hD hS => ?_)
  have hP : va_P (dC, dI) vwCl [(h0, .inr (10, [.ref x0, .int 0, .int (-1), .int 0, .ref x4, .ref x5, .ref x6, .ref x7, .ref x8, .ref x9, .ref x10, .ref x11, .ref x12, .ref x13])), (x12, .inr (2, [.int 0, .ref e1, .ref e2, .ref e3, .ref e4])), (x13, .inr (0, [.int 0, .ref k1, .ref k2]))] H := hP
  have hD : va_D A [(h0, .inr (10, [.ref x0, .int 0, .int (-1), .int 0, .ref x4, .ref x5, .ref x6, .ref x7, .ref x8, .ref x9, .ref x10, .ref x11, .ref x12, .ref x13])), (x12, .inr (2, [.int 0, .ref e1, .ref e2, .ref e3, .ref e4])), (x13, .inr (0, [.int 0, .ref k1, .ref k2]))] := hD
  refine lv_aload_n hx hb dX10_tear_24 rfl (lv_at hl 1 rfl) ?_
  refine va_get (D := (dC, dI)) (ci := 10) (v := .ref x13) (C := RX10) (T := TX10) (N := 14) hx hb hts hi_X10 hown hK hP 0 rfl rfl 13 (by decide) (hts (.fieldLink RX10 95 "LeftQuills" "book" "LLeftQuills$Book;") (by decide +kernel)) (fun _ h9 => h9) rfl dX10_tear_25 ?_
  refine lv_iconst (v := 0) hx hb dX10_tear_28 (by decide) ?_
  refine va_put (D := (dC, dI)) (ci := 0) (v := .int 0) (ty := .int) (C := RX0) (T := TX0) (N := 3) hx hb hts hi_X0 tyX0 tyX0_ok nmX0 hown hK hP hD hS 2 rfl rfl 0 (by decide) (hts (.fieldLink RX10 126 "LeftQuills$Book" "count" "I") (by decide +kernel)) (fun _ h9 => h9) rfl (by decide +kernel) rfl rfl (Nat.le_of_ble_eq_true rfl) dX10_tear_29 (fun H locs hP hD hS => ?_)
  have hP : va_P (dC, dI) vwCl [(h0, .inr (10, [.ref x0, .int 0, .int (-1), .int 0, .ref x4, .ref x5, .ref x6, .ref x7, .ref x8, .ref x9, .ref x10, .ref x11, .ref x12, .ref x13])), (x12, .inr (2, [.int 0, .ref e1, .ref e2, .ref e3, .ref e4])), (x13, .inr (0, [.int 0, .ref k1, .ref k2]))] H := hP
  have hD : va_D A [(h0, .inr (10, [.ref x0, .int 0, .int (-1), .int 0, .ref x4, .ref x5, .ref x6, .ref x7, .ref x8, .ref x9, .ref x10, .ref x11, .ref x12, .ref x13])), (x12, .inr (2, [.int 0, .ref e1, .ref e2, .ref e3, .ref e4])), (x13, .inr (0, [.int 0, .ref k1, .ref k2]))] := hD
  refine lv_iload_n hx hb dX10_tear_32 rfl (lv_at hl 0 rfl) ?_
  exact W.iret (v := 0) hx hb hr (fun t ht hW => ⟨⟨0, (fun _ => 0), rfl, by first | trivial | rfl | (simp_all; done), trivial⟩, hS.F ht⟩) hS.2.2 dX10_tear_33
set_option maxHeartbeats 4000000 in
set_option maxRecDepth 100000 in
theorem c_X3_forget (l : Launch) (dC : Nat → ClassId) (dI : Nat → Nat → Nat) (cI cZ cQ : ClassId) (h0 : Nat) (q0 : Nat) (sz : Nat)  : Met l yX3_forget wsX3_forget ({ frames := 0, cells := 0, slots := 0, locals := 40 }) (va_Pc [.ref h0] (fun U => U.heap.size = sz ∧ va_P (dC, dI) vwCl [(h0, .inr (3, [.ref q0, .int 0, .int 0]))] U.heap ∧ va_K (dC, dI) vwCl (tys0 cI cZ cQ) U ∧ va_D (fun _ => True) [(h0, .inr (3, [.ref q0, .int 0, .int 0]))])) (va_Qv (fun (u : Nat → Nat) => True) (fun (_ : Nat → Nat) (_ : State) => True) (va_A [(h0, .inr (3, [.ref q0, .int 0, .int 0]))] sz)) 0 0 (va_A [(h0, .inr (3, [.ref q0, .int 0, .int 0]))] sz) := by
  refine Met.ofW (cc := cX3_forget) (maxL := 1) (ret := none) (by decide) rfl ?_
  intro p e s m args below meth c s₁ B hml hv
  obtain ⟨rfl, hsz, hP, hK, hD0⟩ := hv
  have hx := B.exec
  have hb := B.bytes
  have hr := B.returns
  have hts := atoms_spec (ws := wsX3_forget) B.pre
  have hown : s.vm.findClass RX3 = some m.cls := findClass_of_methodNamed B.named
  have hlocks := B.notSynchronized
  have hi_X3 : ∀ w ∈ u_ws RX3 TX3 3, w ∈ wsX3_forget := by decide +kernel
  subst hsz
  have hD := hD0.self (sz := s.heap.size)
  generalize hAe : va_A [(h0, .inr (3, [.ref q0, .int 0, .int 0]))] s.heap.size = A at hD ⊢
  have hA : ∀ q : Nat, s.heap.size ≤ q → A q := fun q h => by rw [← hAe]; exact Or.inr h
  have hS : va_S A s.heap s.heap [] := va_S.rf
  have hl := lv_entry ([.ref h0]) (n := 1) (Nat.le_of_ble_eq_true rfl)
  rw [lg_entry_eq]
  generalize (lg_sl ([.ref h0]) ++ List.replicate (1 - (lg_sl ([.ref h0])).length) Slot.unset).toArray = ls at hl ⊢
  have hl : lv_has ls 1 [(0, .ref h0)] := hl
  refine lv_aload_n hx hb dX3_forget_0 rfl (lv_at hl 0 rfl) ?_
  refine lv_iconst (v := 0) hx hb dX3_forget_1 (by decide) ?_
  refine va_put (D := (dC, dI)) (ci := 3) (v := .int 0) (ty := .int) (C := RX3) (T := TX3) (N := 3) hx hb hts hi_X3 tyX3 tyX3_ok nmX3 hown hK hP hD hS 0 rfl rfl 2 (by decide) (hts (.fieldLink RX3 19 "LeftQuills$History" "count" "I") (by decide +kernel)) (fun _ h9 => h9) rfl (by decide +kernel) rfl rfl (Nat.le_of_ble_eq_true rfl) dX3_forget_2 (fun H locs hP hD hS => ?_)
  have hP : va_P (dC, dI) vwCl [(h0, .inr (3, [.ref q0, .int 0, .int 0]))] H := hP
  have hD : va_D A [(h0, .inr (3, [.ref q0, .int 0, .int 0]))] := hD
  exact W.vret hx hb hr (fun t ht hW => ⟨⟨(fun _ => 0), rfl, by first | trivial | rfl | (simp_all; done), trivial⟩, hS.F ht⟩) hS.2.2 dX3_forget_5
set_option maxHeartbeats 4000000 in
set_option maxRecDepth 100000 in
theorem c_X4_forget (l : Launch) (dC : Nat → ClassId) (dI : Nat → Nat → Nat) (cI cZ cQ : ClassId) (h0 : Nat) (i0 : Nat) (i1 : Nat) (i2 : Nat) (sz : Nat)  : Met l yX4_forget wsX4_forget ({ frames := 0, cells := 0, slots := 0, locals := 40 }) (va_Pc [.ref h0] (fun U => U.heap.size = sz ∧ va_P (dC, dI) vwCl [(h0, .inr (4, [.ref i0, .ref i1, .ref i2])), (i2, .inl (cZ, 2, .inl (fun _ => 0)))] U.heap ∧ va_K (dC, dI) vwCl (tys0 cI cZ cQ) U ∧ va_D (fun _ => True) [(h0, .inr (4, [.ref i0, .ref i1, .ref i2])), (i2, .inl (cZ, 2, .inl (fun _ => 0)))])) (va_Qv (fun (u : Nat → Nat) => True) (fun (_ : Nat → Nat) (_ : State) => True) (va_A [(h0, .inr (4, [.ref i0, .ref i1, .ref i2])), (i2, .inl (cZ, 2, .inl (fun _ => 0)))] sz)) 0 0 (va_A [(h0, .inr (4, [.ref i0, .ref i1, .ref i2])), (i2, .inl (cZ, 2, .inl (fun _ => 0)))] sz) := by
  refine Met.ofW (cc := cX4_forget) (maxL := 2) (ret := none) (by decide) rfl ?_
  intro p e s m args below meth c s₁ B hml hv
  obtain ⟨rfl, hsz, hP, hK, hD0⟩ := hv
  have hx := B.exec
  have hb := B.bytes
  have hr := B.returns
  have hts := atoms_spec (ws := wsX4_forget) B.pre
  have hown : s.vm.findClass RX4 = some m.cls := findClass_of_methodNamed B.named
  have hlocks := B.notSynchronized
  have hi_X4 : ∀ w ∈ u_ws RX4 TX4 3, w ∈ wsX4_forget := by decide +kernel
  subst hsz
  have hD := hD0.self (sz := s.heap.size)
  generalize hAe : va_A [(h0, .inr (4, [.ref i0, .ref i1, .ref i2])), (i2, .inl (cZ, 2, .inl (fun _ => 0)))] s.heap.size = A at hD ⊢
  have hA : ∀ q : Nat, s.heap.size ≤ q → A q := fun q h => by rw [← hAe]; exact Or.inr h
  have hS : va_S A s.heap s.heap [] := va_S.rf
  have hl := lv_entry ([.ref h0]) (n := 2) (Nat.le_of_ble_eq_true rfl)
  rw [lg_entry_eq]
  generalize (lg_sl ([.ref h0]) ++ List.replicate (2 - (lg_sl ([.ref h0])).length) Slot.unset).toArray = ls at hl ⊢
  have hl : lv_has ls 2 [(0, .ref h0)] := hl
  refine lv_iconst (v := 0) hx hb dX4_forget_0 (by decide) ?_
  refine lv_istore_n (lv' := [(1, .int 0), (0, .ref h0)]) hx hb dX4_forget_1 rfl hl (by decide) rfl (fun ls hl => ?_)
  refine lv_iload_n hx hb dX4_forget_2 rfl (lv_at hl 0 rfl) ?_
  refine lv_iconst (v := 2) hx hb dX4_forget_3 (by decide) ?_
  refine lv_icmp_ge (tgt := 20) hx hb dX4_forget_4 (by decide) (fun c1 => ?_) (fun c1 => ?_)
  · exact absurd c1 (by decide)
  clear c1
  refine lv_aload_n hx hb dX4_forget_7 rfl (lv_at hl 1 rfl) ?_
  refine va_get (D := (dC, dI)) (ci := 4) (v := .ref i2) (C := RX4) (T := TX4) (N := 3) hx hb hts hi_X4 hown hK hP 0 rfl rfl 2 (by decide) (hts (.fieldLink RX4 19 "LeftQuills$Images" "kept" "[Z") (by decide +kernel)) (fun _ h9 => h9) rfl dX4_forget_8 ?_
  refine lv_iload_n hx hb dX4_forget_11 rfl (lv_at hl 0 rfl) ?_
  refine lv_iconst (v := 0) hx hb dX4_forget_12 (by decide) ?_
  refine va_zast hx hb hK hP hD hS 1 1 rfl rfl (vp_in_iff.mpr ⟨by decide, by decide⟩) dX4_forget_13 (fun H locs hP hD hS => ?_)
  rw [x_updz0] at hP hD
  have hP : va_P (dC, dI) vwCl [(h0, .inr (4, [.ref i0, .ref i1, .ref i2])), (i2, .inl (cZ, 2, .inl (fun _ => 0)))] H := hP
  have hD : va_D A [(h0, .inr (4, [.ref i0, .ref i1, .ref i2])), (i2, .inl (cZ, 2, .inl (fun _ => 0)))] := hD
  refine lv_iinc (v := 1) (lv' := [(1, .int 1), (0, .ref h0)]) hx hb dX4_forget_14 hl (k := 0) rfl (by decide) (by decide) rfl (fun ls hl => ?_)
  refine lv_goto (tgt := 2) hx hb dX4_forget_17 (by decide) ?_
  refine lv_iload_n hx hb dX4_forget_2 rfl (lv_at hl 0 rfl) ?_
  refine lv_iconst (v := 2) hx hb dX4_forget_3 (by decide) ?_
  refine lv_icmp_ge (tgt := 20) hx hb dX4_forget_4 (by decide) (fun c3 => ?_) (fun c3 => ?_)
  · exact absurd c3 (by decide)
  clear c3
  refine lv_aload_n hx hb dX4_forget_7 rfl (lv_at hl 1 rfl) ?_
  refine va_get (D := (dC, dI)) (ci := 4) (v := .ref i2) (C := RX4) (T := TX4) (N := 3) hx hb hts hi_X4 hown hK hP 0 rfl rfl 2 (by decide) (hts (.fieldLink RX4 19 "LeftQuills$Images" "kept" "[Z") (by decide +kernel)) (fun _ h9 => h9) rfl dX4_forget_8 ?_
  refine lv_iload_n hx hb dX4_forget_11 rfl (lv_at hl 0 rfl) ?_
  refine lv_iconst (v := 0) hx hb dX4_forget_12 (by decide) ?_
  refine va_zast hx hb hK hP hD hS 1 1 rfl rfl (vp_in_iff.mpr ⟨by decide, by decide⟩) dX4_forget_13 (fun H locs hP hD hS => ?_)
  rw [x_updz0] at hP hD
  have hP : va_P (dC, dI) vwCl [(h0, .inr (4, [.ref i0, .ref i1, .ref i2])), (i2, .inl (cZ, 2, .inl (fun _ => 0)))] H := hP
  have hD : va_D A [(h0, .inr (4, [.ref i0, .ref i1, .ref i2])), (i2, .inl (cZ, 2, .inl (fun _ => 0)))] := hD
  refine lv_iinc (v := 2) (lv' := [(1, .int 2), (0, .ref h0)]) hx hb dX4_forget_14 hl (k := 0) rfl (by decide) (by decide) rfl (fun ls hl => ?_)
  refine lv_goto (tgt := 2) hx hb dX4_forget_17 (by decide) ?_
  refine lv_iload_n hx hb dX4_forget_2 rfl (lv_at hl 0 rfl) ?_
  refine lv_iconst (v := 2) hx hb dX4_forget_3 (by decide) ?_
  refine lv_icmp_ge (tgt := 20) hx hb dX4_forget_4 (by decide) (fun c5 => ?_) (fun c5 => ?_)
  rotate_left
  · exact absurd c5 (by decide)
  clear c5
  exact W.vret hx hb hr (fun t ht hW => ⟨⟨(fun _ => 0), rfl, by first | trivial | rfl | (simp_all; done), trivial⟩, hS.F ht⟩) hS.2.2 dX4_forget_20
set_option maxHeartbeats 4000000 in
set_option maxRecDepth 100000 in
theorem c_X1_copyFrom (l : Launch) (dC : Nat → ClassId) (dI : Nat → Nat → Nat) (cI cZ cQ : ClassId) (h0 : Nat) (hq : Nat) (ho : Nat) (hp : Nat) (a2 : Nat) (a3 : Nat) (a4 : Nat) (a5 : Nat) (a6 : Nat) (b2 : Nat) (b3 : Nat) (b4 : Nat) (b5 : Nat) (b6 : Nat) (sz : Nat)  : Met l yX1_copyFrom wsX1_copyFrom ({ frames := 1, cells := 0, slots := 0, locals := 40 }) (va_Pc [.ref h0, .ref hq] (fun U => U.heap.size = sz ∧ va_P (dC, dI) vwCl [(h0, .inr (1, [.int 0, .int 0, .ref a2, .ref a3, .ref a4, .ref a5, .ref a6, .ref ho])), (a2, .inl (cI, 8, .inl (fun _ => 0))), (a3, .inl (cI, 8, .inl (fun _ => 0))), (a4, .inl (cI, 8, .inl (fun _ => 0))), (a5, .inl (cI, 4, .inl (fun _ => 0))), (a6, .inl (cI, 4, .inl (fun _ => 0))), (hq, .inr (1, [.int 0, .int 0, .ref b2, .ref b3, .ref b4, .ref b5, .ref b6, .ref hp])), (b2, .inl (cI, 8, .inl (fun _ => 0))), (b3, .inl (cI, 8, .inl (fun _ => 0))), (b4, .inl (cI, 8, .inl (fun _ => 0))), (b5, .inl (cI, 4, .inl (fun _ => 0))), (b6, .inl (cI, 4, .inl (fun _ => 0)))] U.heap ∧ va_K (dC, dI) vwCl (tys0 cI cZ cQ) U ∧ va_D (fun _ => True) [(h0, .inr (1, [.int 0, .int 0, .ref a2, .ref a3, .ref a4, .ref a5, .ref a6, .ref ho])), (a2, .inl (cI, 8, .inl (fun _ => 0))), (a3, .inl (cI, 8, .inl (fun _ => 0))), (a4, .inl (cI, 8, .inl (fun _ => 0))), (a5, .inl (cI, 4, .inl (fun _ => 0))), (a6, .inl (cI, 4, .inl (fun _ => 0))), (hq, .inr (1, [.int 0, .int 0, .ref b2, .ref b3, .ref b4, .ref b5, .ref b6, .ref hp])), (b2, .inl (cI, 8, .inl (fun _ => 0))), (b3, .inl (cI, 8, .inl (fun _ => 0))), (b4, .inl (cI, 8, .inl (fun _ => 0))), (b5, .inl (cI, 4, .inl (fun _ => 0))), (b6, .inl (cI, 4, .inl (fun _ => 0)))])) (va_Qv (fun (u : Nat → Nat) => True) (fun (_ : Nat → Nat) (_ : State) => True) (va_A [(h0, .inr (1, [.int 0, .int 0, .ref a2, .ref a3, .ref a4, .ref a5, .ref a6, .ref ho])), (a2, .inl (cI, 8, .inl (fun _ => 0))), (a3, .inl (cI, 8, .inl (fun _ => 0))), (a4, .inl (cI, 8, .inl (fun _ => 0))), (a5, .inl (cI, 4, .inl (fun _ => 0))), (a6, .inl (cI, 4, .inl (fun _ => 0))), (hq, .inr (1, [.int 0, .int 0, .ref b2, .ref b3, .ref b4, .ref b5, .ref b6, .ref hp])), (b2, .inl (cI, 8, .inl (fun _ => 0))), (b3, .inl (cI, 8, .inl (fun _ => 0))), (b4, .inl (cI, 8, .inl (fun _ => 0))), (b5, .inl (cI, 4, .inl (fun _ => 0))), (b6, .inl (cI, 4, .inl (fun _ => 0)))] sz)) 0 0 (va_A [(h0, .inr (1, [.int 0, .int 0, .ref a2, .ref a3, .ref a4, .ref a5, .ref a6, .ref ho])), (a2, .inl (cI, 8, .inl (fun _ => 0))), (a3, .inl (cI, 8, .inl (fun _ => 0))), (a4, .inl (cI, 8, .inl (fun _ => 0))), (a5, .inl (cI, 4, .inl (fun _ => 0))), (a6, .inl (cI, 4, .inl (fun _ => 0))), (hq, .inr (1, [.int 0, .int 0, .ref b2, .ref b3, .ref b4, .ref b5, .ref b6, .ref hp])), (b2, .inl (cI, 8, .inl (fun _ => 0))), (b3, .inl (cI, 8, .inl (fun _ => 0))), (b4, .inl (cI, 8, .inl (fun _ => 0))), (b5, .inl (cI, 4, .inl (fun _ => 0))), (b6, .inl (cI, 4, .inl (fun _ => 0)))] sz) := by
  refine Met.ofW (cc := cX1_copyFrom) (maxL := 2) (ret := none) (by decide) rfl ?_
  intro p e s m args below meth c s₁ B hml hv
  obtain ⟨rfl, hsz, hP, hK, hD0⟩ := hv
  have hx := B.exec
  have hb := B.bytes
  have hr := B.returns
  have hts := atoms_spec (ws := wsX1_copyFrom) B.pre
  have hown : s.vm.findClass RX1 = some m.cls := findClass_of_methodNamed B.named
  have hlocks := B.notSynchronized
  have hi_X1 : ∀ w ∈ u_ws RX1 TX1 8, w ∈ wsX1_copyFrom := by decide +kernel
  subst hsz
  have hD := hD0.self (sz := s.heap.size)
  generalize hAe : va_A [(h0, .inr (1, [.int 0, .int 0, .ref a2, .ref a3, .ref a4, .ref a5, .ref a6, .ref ho])), (a2, .inl (cI, 8, .inl (fun _ => 0))), (a3, .inl (cI, 8, .inl (fun _ => 0))), (a4, .inl (cI, 8, .inl (fun _ => 0))), (a5, .inl (cI, 4, .inl (fun _ => 0))), (a6, .inl (cI, 4, .inl (fun _ => 0))), (hq, .inr (1, [.int 0, .int 0, .ref b2, .ref b3, .ref b4, .ref b5, .ref b6, .ref hp])), (b2, .inl (cI, 8, .inl (fun _ => 0))), (b3, .inl (cI, 8, .inl (fun _ => 0))), (b4, .inl (cI, 8, .inl (fun _ => 0))), (b5, .inl (cI, 4, .inl (fun _ => 0))), (b6, .inl (cI, 4, .inl (fun _ => 0)))] s.heap.size = A at hD ⊢
  have hA : ∀ q : Nat, s.heap.size ≤ q → A q := fun q h => by rw [← hAe]; exact Or.inr h
  have hS : va_S A s.heap s.heap [] := va_S.rf
  have hl := lv_entry ([.ref h0, .ref hq]) (n := 2) (Nat.le_of_ble_eq_true rfl)
  rw [lg_entry_eq]
  generalize (lg_sl ([.ref h0, .ref hq]) ++ List.replicate (2 - (lg_sl ([.ref h0, .ref hq])).length) Slot.unset).toArray = ls at hl ⊢
  have hl : lv_has ls 2 [(0, .ref h0), (1, .ref hq)] := hl
  refine lv_aload_n hx hb dX1_copyFrom_0 rfl (lv_at hl 0 rfl) ?_
  refine lv_aload_n hx hb dX1_copyFrom_1 rfl (lv_at hl 1 rfl) ?_
  refine va_get (D := (dC, dI)) (ci := 1) (v := .int 0) (C := RX1) (T := TX1) (N := 8) hx hb hts hi_X1 hown hK hP 6 rfl rfl 0 (by decide) (hts (.fieldLink RX1 9 "LeftQuills$Desk" "minutes" "I") (by decide +kernel)) (fun _ h9 => h9) rfl dX1_copyFrom_2 ?_
  refine va_put (D := (dC, dI)) (ci := 1) (v := .int 0) (ty := .int) (C := RX1) (T := TX1) (N := 8) hx hb hts hi_X1 tyX1 tyX1_ok nmX1 hown hK hP hD hS 0 rfl rfl 0 (by decide) (hts (.fieldLink RX1 9 "LeftQuills$Desk" "minutes" "I") (by decide +kernel)) (fun _ h9 => h9) rfl (by decide +kernel) rfl rfl (Nat.le_of_ble_eq_true rfl) dX1_copyFrom_5 (fun H locs hP hD hS => ?_)
  have hP : va_P (dC, dI) vwCl [(h0, .inr (1, [.int 0, .int 0, .ref a2, .ref a3, .ref a4, .ref a5, .ref a6, .ref ho])), (a2, .inl (cI, 8, .inl (fun _ => 0))), (a3, .inl (cI, 8, .inl (fun _ => 0))), (a4, .inl (cI, 8, .inl (fun _ => 0))), (a5, .inl (cI, 4, .inl (fun _ => 0))), (a6, .inl (cI, 4, .inl (fun _ => 0))), (hq, .inr (1, [.int 0, .int 0, .ref b2, .ref b3, .ref b4, .ref b5, .ref b6, .ref hp])), (b2, .inl (cI, 8, .inl (fun _ => 0))), (b3, .inl (cI, 8, .inl (fun _ => 0))), (b4, .inl (cI, 8, .inl (fun _ => 0))), (b5, .inl (cI, 4, .inl (fun _ => 0))), (b6, .inl (cI, 4, .inl (fun _ => 0)))] H := hP
  have hD : va_D A [(h0, .inr (1, [.int 0, .int 0, .ref a2, .ref a3, .ref a4, .ref a5, .ref a6, .ref ho])), (a2, .inl (cI, 8, .inl (fun _ => 0))), (a3, .inl (cI, 8, .inl (fun _ => 0))), (a4, .inl (cI, 8, .inl (fun _ => 0))), (a5, .inl (cI, 4, .inl (fun _ => 0))), (a6, .inl (cI, 4, .inl (fun _ => 0))), (hq, .inr (1, [.int 0, .int 0, .ref b2, .ref b3, .ref b4, .ref b5, .ref b6, .ref hp])), (b2, .inl (cI, 8, .inl (fun _ => 0))), (b3, .inl (cI, 8, .inl (fun _ => 0))), (b4, .inl (cI, 8, .inl (fun _ => 0))), (b5, .inl (cI, 4, .inl (fun _ => 0))), (b6, .inl (cI, 4, .inl (fun _ => 0)))] := hD
  refine lv_aload_n hx hb dX1_copyFrom_8 rfl (lv_at hl 0 rfl) ?_
  refine lv_aload_n hx hb dX1_copyFrom_9 rfl (lv_at hl 1 rfl) ?_
  refine va_get (D := (dC, dI)) (ci := 1) (v := .int 0) (C := RX1) (T := TX1) (N := 8) hx hb hts hi_X1 hown hK hP 6 rfl rfl 1 (by decide) (hts (.fieldLink RX1 15 "LeftQuills$Desk" "cuts" "I") (by decide +kernel)) (fun _ h9 => h9) rfl dX1_copyFrom_10 ?_
  refine va_put (D := (dC, dI)) (ci := 1) (v := .int 0) (ty := .int) (C := RX1) (T := TX1) (N := 8) hx hb hts hi_X1 tyX1 tyX1_ok nmX1 hown hK hP hD hS 0 rfl rfl 1 (by decide) (hts (.fieldLink RX1 15 "LeftQuills$Desk" "cuts" "I") (by decide +kernel)) (fun _ h9 => h9) rfl (by decide +kernel) rfl rfl (Nat.le_of_ble_eq_true rfl) dX1_copyFrom_13 (fun H locs hP hD hS => ?_)
  have hP : va_P (dC, dI) vwCl [(h0, .inr (1, [.int 0, .int 0, .ref a2, .ref a3, .ref a4, .ref a5, .ref a6, .ref ho])), (a2, .inl (cI, 8, .inl (fun _ => 0))), (a3, .inl (cI, 8, .inl (fun _ => 0))), (a4, .inl (cI, 8, .inl (fun _ => 0))), (a5, .inl (cI, 4, .inl (fun _ => 0))), (a6, .inl (cI, 4, .inl (fun _ => 0))), (hq, .inr (1, [.int 0, .int 0, .ref b2, .ref b3, .ref b4, .ref b5, .ref b6, .ref hp])), (b2, .inl (cI, 8, .inl (fun _ => 0))), (b3, .inl (cI, 8, .inl (fun _ => 0))), (b4, .inl (cI, 8, .inl (fun _ => 0))), (b5, .inl (cI, 4, .inl (fun _ => 0))), (b6, .inl (cI, 4, .inl (fun _ => 0)))] H := hP
  have hD : va_D A [(h0, .inr (1, [.int 0, .int 0, .ref a2, .ref a3, .ref a4, .ref a5, .ref a6, .ref ho])), (a2, .inl (cI, 8, .inl (fun _ => 0))), (a3, .inl (cI, 8, .inl (fun _ => 0))), (a4, .inl (cI, 8, .inl (fun _ => 0))), (a5, .inl (cI, 4, .inl (fun _ => 0))), (a6, .inl (cI, 4, .inl (fun _ => 0))), (hq, .inr (1, [.int 0, .int 0, .ref b2, .ref b3, .ref b4, .ref b5, .ref b6, .ref hp])), (b2, .inl (cI, 8, .inl (fun _ => 0))), (b3, .inl (cI, 8, .inl (fun _ => 0))), (b4, .inl (cI, 8, .inl (fun _ => 0))), (b5, .inl (cI, 4, .inl (fun _ => 0))), (b6, .inl (cI, 4, .inl (fun _ => 0)))] := hD
  refine lv_aload_n hx hb dX1_copyFrom_16 rfl (lv_at hl 1 rfl) ?_
  refine va_get (D := (dC, dI)) (ci := 1) (v := .ref b2) (C := RX1) (T := TX1) (N := 8) hx hb hts hi_X1 hown hK hP 6 rfl rfl 2 (by decide) (hts (.fieldLink RX1 18 "LeftQuills$Desk" "length" "[I") (by decide +kernel)) (fun _ h9 => h9) rfl dX1_copyFrom_17 ?_
  refine lv_iconst (v := 0) hx hb dX1_copyFrom_20 (by decide) ?_
  refine lv_aload_n hx hb dX1_copyFrom_21 rfl (lv_at hl 0 rfl) ?_
  refine va_get (D := (dC, dI)) (ci := 1) (v := .ref a2) (C := RX1) (T := TX1) (N := 8) hx hb hts hi_X1 hown hK hP 0 rfl rfl 2 (by decide) (hts (.fieldLink RX1 18 "LeftQuills$Desk" "length" "[I") (by decide +kernel)) (fun _ h9 => h9) rfl dX1_copyFrom_22 ?_
  refine lv_iconst (v := 0) hx hb dX1_copyFrom_25 (by decide) ?_
  refine lv_bipush (v := 8) hx hb dX1_copyFrom_26 (by decide) ?_
  refine va_copyi hx hb (hml.trans hl.1.symm) hown (hts (.methodLink RX1 46 arraycopyName) (by decide +kernel)) (hts (.native arraycopyName) (by decide +kernel)) (hts (.static arraycopyName) (by decide +kernel)) (hts (.initialized "java/lang/System") (by decide +kernel)) hK hP hD hS 7 1 0 0 rfl rfl rfl rfl rfl (by decide) (by decide) (by decide) (by decide) (by decide) (fun _ _ => rfl) (Nat.le_of_ble_eq_true rfl) (Nat.le_of_ble_eq_true rfl) dX1_copyFrom_28 (fun H locs hP hD hS => ?_)
  generalize hgf1 : va_cpy _ _ _ _ _ = f1 at hP hD
  have hP : va_P (dC, dI) vwCl [(h0, .inr (1, [.int 0, .int 0, .ref a2, .ref a3, .ref a4, .ref a5, .ref a6, .ref ho])), (a2, .inl (cI, 8, .inl f1)), (a3, .inl (cI, 8, .inl (fun _ => 0))), (a4, .inl (cI, 8, .inl (fun _ => 0))), (a5, .inl (cI, 4, .inl (fun _ => 0))), (a6, .inl (cI, 4, .inl (fun _ => 0))), (hq, .inr (1, [.int 0, .int 0, .ref b2, .ref b3, .ref b4, .ref b5, .ref b6, .ref hp])), (b2, .inl (cI, 8, .inl (fun _ => 0))), (b3, .inl (cI, 8, .inl (fun _ => 0))), (b4, .inl (cI, 8, .inl (fun _ => 0))), (b5, .inl (cI, 4, .inl (fun _ => 0))), (b6, .inl (cI, 4, .inl (fun _ => 0)))] H := hP
  have hD : va_D A [(h0, .inr (1, [.int 0, .int 0, .ref a2, .ref a3, .ref a4, .ref a5, .ref a6, .ref ho])), (a2, .inl (cI, 8, .inl f1)), (a3, .inl (cI, 8, .inl (fun _ => 0))), (a4, .inl (cI, 8, .inl (fun _ => 0))), (a5, .inl (cI, 4, .inl (fun _ => 0))), (a6, .inl (cI, 4, .inl (fun _ => 0))), (hq, .inr (1, [.int 0, .int 0, .ref b2, .ref b3, .ref b4, .ref b5, .ref b6, .ref hp])), (b2, .inl (cI, 8, .inl (fun _ => 0))), (b3, .inl (cI, 8, .inl (fun _ => 0))), (b4, .inl (cI, 8, .inl (fun _ => 0))), (b5, .inl (cI, 4, .inl (fun _ => 0))), (b6, .inl (cI, 4, .inl (fun _ => 0)))] := hD
  refine lv_aload_n hx hb dX1_copyFrom_31 rfl (lv_at hl 1 rfl) ?_
  refine va_get (D := (dC, dI)) (ci := 1) (v := .ref b3) (C := RX1) (T := TX1) (N := 8) hx hb hts hi_X1 hown hK hP 6 rfl rfl 3 (by decide) (hts (.fieldLink RX1 22 "LeftQuills$Desk" "nib" "[I") (by decide +kernel)) (fun _ h9 => h9) rfl dX1_copyFrom_32 ?_
  refine lv_iconst (v := 0) hx hb dX1_copyFrom_35 (by decide) ?_
  refine lv_aload_n hx hb dX1_copyFrom_36 rfl (lv_at hl 0 rfl) ?_
  refine va_get (D := (dC, dI)) (ci := 1) (v := .ref a3) (C := RX1) (T := TX1) (N := 8) hx hb hts hi_X1 hown hK hP 0 rfl rfl 3 (by decide) (hts (.fieldLink RX1 22 "LeftQuills$Desk" "nib" "[I") (by decide +kernel)) (fun _ h9 => h9) rfl dX1_copyFrom_37 ?_
  refine lv_iconst (v := 0) hx hb dX1_copyFrom_40 (by decide) ?_
  refine lv_bipush (v := 8) hx hb dX1_copyFrom_41 (by decide) ?_
  refine va_copyi hx hb (hml.trans hl.1.symm) hown (hts (.methodLink RX1 46 arraycopyName) (by decide +kernel)) (hts (.native arraycopyName) (by decide +kernel)) (hts (.static arraycopyName) (by decide +kernel)) (hts (.initialized "java/lang/System") (by decide +kernel)) hK hP hD hS 8 2 0 0 rfl rfl rfl rfl rfl (by decide) (by decide) (by decide) (by decide) (by decide) (fun _ _ => rfl) (Nat.le_of_ble_eq_true rfl) (Nat.le_of_ble_eq_true rfl) dX1_copyFrom_43 (fun H locs hP hD hS => ?_)
  generalize hgf2 : va_cpy _ _ _ _ _ = f2 at hP hD
  have hP : va_P (dC, dI) vwCl [(h0, .inr (1, [.int 0, .int 0, .ref a2, .ref a3, .ref a4, .ref a5, .ref a6, .ref ho])), (a2, .inl (cI, 8, .inl f1)), (a3, .inl (cI, 8, .inl f2)), (a4, .inl (cI, 8, .inl (fun _ => 0))), (a5, .inl (cI, 4, .inl (fun _ => 0))), (a6, .inl (cI, 4, .inl (fun _ => 0))), (hq, .inr (1, [.int 0, .int 0, .ref b2, .ref b3, .ref b4, .ref b5, .ref b6, .ref hp])), (b2, .inl (cI, 8, .inl (fun _ => 0))), (b3, .inl (cI, 8, .inl (fun _ => 0))), (b4, .inl (cI, 8, .inl (fun _ => 0))), (b5, .inl (cI, 4, .inl (fun _ => 0))), (b6, .inl (cI, 4, .inl (fun _ => 0)))] H := hP
  have hD : va_D A [(h0, .inr (1, [.int 0, .int 0, .ref a2, .ref a3, .ref a4, .ref a5, .ref a6, .ref ho])), (a2, .inl (cI, 8, .inl f1)), (a3, .inl (cI, 8, .inl f2)), (a4, .inl (cI, 8, .inl (fun _ => 0))), (a5, .inl (cI, 4, .inl (fun _ => 0))), (a6, .inl (cI, 4, .inl (fun _ => 0))), (hq, .inr (1, [.int 0, .int 0, .ref b2, .ref b3, .ref b4, .ref b5, .ref b6, .ref hp])), (b2, .inl (cI, 8, .inl (fun _ => 0))), (b3, .inl (cI, 8, .inl (fun _ => 0))), (b4, .inl (cI, 8, .inl (fun _ => 0))), (b5, .inl (cI, 4, .inl (fun _ => 0))), (b6, .inl (cI, 4, .inl (fun _ => 0)))] := hD
  refine lv_aload_n hx hb dX1_copyFrom_46 rfl (lv_at hl 1 rfl) ?_
  refine va_get (D := (dC, dI)) (ci := 1) (v := .ref b4) (C := RX1) (T := TX1) (N := 8) hx hb hts hi_X1 hown hK hP 6 rfl rfl 4 (by decide) (hts (.fieldLink RX1 25 "LeftQuills$Desk" "softness" "[I") (by decide +kernel)) (fun _ h9 => h9) rfl dX1_copyFrom_47 ?_
  refine lv_iconst (v := 0) hx hb dX1_copyFrom_50 (by decide) ?_
  refine lv_aload_n hx hb dX1_copyFrom_51 rfl (lv_at hl 0 rfl) ?_
  refine va_get (D := (dC, dI)) (ci := 1) (v := .ref a4) (C := RX1) (T := TX1) (N := 8) hx hb hts hi_X1 hown hK hP 0 rfl rfl 4 (by decide) (hts (.fieldLink RX1 25 "LeftQuills$Desk" "softness" "[I") (by decide +kernel)) (fun _ h9 => h9) rfl dX1_copyFrom_52 ?_
  refine lv_iconst (v := 0) hx hb dX1_copyFrom_55 (by decide) ?_
  refine lv_bipush (v := 8) hx hb dX1_copyFrom_56 (by decide) ?_
  refine va_copyi hx hb (hml.trans hl.1.symm) hown (hts (.methodLink RX1 46 arraycopyName) (by decide +kernel)) (hts (.native arraycopyName) (by decide +kernel)) (hts (.static arraycopyName) (by decide +kernel)) (hts (.initialized "java/lang/System") (by decide +kernel)) hK hP hD hS 9 3 0 0 rfl rfl rfl rfl rfl (by decide) (by decide) (by decide) (by decide) (by decide) (fun _ _ => rfl) (Nat.le_of_ble_eq_true rfl) (Nat.le_of_ble_eq_true rfl) dX1_copyFrom_58 (fun H locs hP hD hS => ?_)
  generalize hgf3 : va_cpy _ _ _ _ _ = f3 at hP hD
  have hP : va_P (dC, dI) vwCl [(h0, .inr (1, [.int 0, .int 0, .ref a2, .ref a3, .ref a4, .ref a5, .ref a6, .ref ho])), (a2, .inl (cI, 8, .inl f1)), (a3, .inl (cI, 8, .inl f2)), (a4, .inl (cI, 8, .inl f3)), (a5, .inl (cI, 4, .inl (fun _ => 0))), (a6, .inl (cI, 4, .inl (fun _ => 0))), (hq, .inr (1, [.int 0, .int 0, .ref b2, .ref b3, .ref b4, .ref b5, .ref b6, .ref hp])), (b2, .inl (cI, 8, .inl (fun _ => 0))), (b3, .inl (cI, 8, .inl (fun _ => 0))), (b4, .inl (cI, 8, .inl (fun _ => 0))), (b5, .inl (cI, 4, .inl (fun _ => 0))), (b6, .inl (cI, 4, .inl (fun _ => 0)))] H := hP
  have hD : va_D A [(h0, .inr (1, [.int 0, .int 0, .ref a2, .ref a3, .ref a4, .ref a5, .ref a6, .ref ho])), (a2, .inl (cI, 8, .inl f1)), (a3, .inl (cI, 8, .inl f2)), (a4, .inl (cI, 8, .inl f3)), (a5, .inl (cI, 4, .inl (fun _ => 0))), (a6, .inl (cI, 4, .inl (fun _ => 0))), (hq, .inr (1, [.int 0, .int 0, .ref b2, .ref b3, .ref b4, .ref b5, .ref b6, .ref hp])), (b2, .inl (cI, 8, .inl (fun _ => 0))), (b3, .inl (cI, 8, .inl (fun _ => 0))), (b4, .inl (cI, 8, .inl (fun _ => 0))), (b5, .inl (cI, 4, .inl (fun _ => 0))), (b6, .inl (cI, 4, .inl (fun _ => 0)))] := hD
  refine lv_aload_n hx hb dX1_copyFrom_61 rfl (lv_at hl 1 rfl) ?_
  refine va_get (D := (dC, dI)) (ci := 1) (v := .ref b5) (C := RX1) (T := TX1) (N := 8) hx hb hts hi_X1 hown hK hP 6 rfl rfl 5 (by decide) (hts (.fieldLink RX1 28 "LeftQuills$Desk" "pages" "[I") (by decide +kernel)) (fun _ h9 => h9) rfl dX1_copyFrom_62 ?_
  refine lv_iconst (v := 0) hx hb dX1_copyFrom_65 (by decide) ?_
  refine lv_aload_n hx hb dX1_copyFrom_66 rfl (lv_at hl 0 rfl) ?_
  refine va_get (D := (dC, dI)) (ci := 1) (v := .ref a5) (C := RX1) (T := TX1) (N := 8) hx hb hts hi_X1 hown hK hP 0 rfl rfl 5 (by decide) (hts (.fieldLink RX1 28 "LeftQuills$Desk" "pages" "[I") (by decide +kernel)) (fun _ h9 => h9) rfl dX1_copyFrom_67 ?_
  refine lv_iconst (v := 0) hx hb dX1_copyFrom_70 (by decide) ?_
  refine lv_iconst (v := 4) hx hb dX1_copyFrom_71 (by decide) ?_
  refine va_copyi hx hb (hml.trans hl.1.symm) hown (hts (.methodLink RX1 46 arraycopyName) (by decide +kernel)) (hts (.native arraycopyName) (by decide +kernel)) (hts (.static arraycopyName) (by decide +kernel)) (hts (.initialized "java/lang/System") (by decide +kernel)) hK hP hD hS 10 4 0 0 rfl rfl rfl rfl rfl (by decide) (by decide) (by decide) (by decide) (by decide) (fun _ _ => rfl) (Nat.le_of_ble_eq_true rfl) (Nat.le_of_ble_eq_true rfl) dX1_copyFrom_72 (fun H locs hP hD hS => ?_)
  generalize hgf4 : va_cpy _ _ _ _ _ = f4 at hP hD
  have hP : va_P (dC, dI) vwCl [(h0, .inr (1, [.int 0, .int 0, .ref a2, .ref a3, .ref a4, .ref a5, .ref a6, .ref ho])), (a2, .inl (cI, 8, .inl f1)), (a3, .inl (cI, 8, .inl f2)), (a4, .inl (cI, 8, .inl f3)), (a5, .inl (cI, 4, .inl f4)), (a6, .inl (cI, 4, .inl (fun _ => 0))), (hq, .inr (1, [.int 0, .int 0, .ref b2, .ref b3, .ref b4, .ref b5, .ref b6, .ref hp])), (b2, .inl (cI, 8, .inl (fun _ => 0))), (b3, .inl (cI, 8, .inl (fun _ => 0))), (b4, .inl (cI, 8, .inl (fun _ => 0))), (b5, .inl (cI, 4, .inl (fun _ => 0))), (b6, .inl (cI, 4, .inl (fun _ => 0)))] H := hP
  have hD : va_D A [(h0, .inr (1, [.int 0, .int 0, .ref a2, .ref a3, .ref a4, .ref a5, .ref a6, .ref ho])), (a2, .inl (cI, 8, .inl f1)), (a3, .inl (cI, 8, .inl f2)), (a4, .inl (cI, 8, .inl f3)), (a5, .inl (cI, 4, .inl f4)), (a6, .inl (cI, 4, .inl (fun _ => 0))), (hq, .inr (1, [.int 0, .int 0, .ref b2, .ref b3, .ref b4, .ref b5, .ref b6, .ref hp])), (b2, .inl (cI, 8, .inl (fun _ => 0))), (b3, .inl (cI, 8, .inl (fun _ => 0))), (b4, .inl (cI, 8, .inl (fun _ => 0))), (b5, .inl (cI, 4, .inl (fun _ => 0))), (b6, .inl (cI, 4, .inl (fun _ => 0)))] := hD
  refine lv_aload_n hx hb dX1_copyFrom_75 rfl (lv_at hl 1 rfl) ?_
  refine va_get (D := (dC, dI)) (ci := 1) (v := .ref b6) (C := RX1) (T := TX1) (N := 8) hx hb hts hi_X1 hown hK hP 6 rfl rfl 6 (by decide) (hts (.fieldLink RX1 31 "LeftQuills$Desk" "good" "[I") (by decide +kernel)) (fun _ h9 => h9) rfl dX1_copyFrom_76 ?_
  refine lv_iconst (v := 0) hx hb dX1_copyFrom_79 (by decide) ?_
  refine lv_aload_n hx hb dX1_copyFrom_80 rfl (lv_at hl 0 rfl) ?_
  refine va_get (D := (dC, dI)) (ci := 1) (v := .ref a6) (C := RX1) (T := TX1) (N := 8) hx hb hts hi_X1 hown hK hP 0 rfl rfl 6 (by decide) (hts (.fieldLink RX1 31 "LeftQuills$Desk" "good" "[I") (by decide +kernel)) (fun _ h9 => h9) rfl dX1_copyFrom_81 ?_
  refine lv_iconst (v := 0) hx hb dX1_copyFrom_84 (by decide) ?_
  refine lv_iconst (v := 4) hx hb dX1_copyFrom_85 (by decide) ?_
  refine va_copyi hx hb (hml.trans hl.1.symm) hown (hts (.methodLink RX1 46 arraycopyName) (by decide +kernel)) (hts (.native arraycopyName) (by decide +kernel)) (hts (.static arraycopyName) (by decide +kernel)) (hts (.initialized "java/lang/System") (by decide +kernel)) hK hP hD hS 11 5 0 0 rfl rfl rfl rfl rfl (by decide) (by decide) (by decide) (by decide) (by decide) (fun _ _ => rfl) (Nat.le_of_ble_eq_true rfl) (Nat.le_of_ble_eq_true rfl) dX1_copyFrom_86 (fun H locs hP hD hS => ?_)
  generalize hgf5 : va_cpy _ _ _ _ _ = f5 at hP hD
  have hP : va_P (dC, dI) vwCl [(h0, .inr (1, [.int 0, .int 0, .ref a2, .ref a3, .ref a4, .ref a5, .ref a6, .ref ho])), (a2, .inl (cI, 8, .inl f1)), (a3, .inl (cI, 8, .inl f2)), (a4, .inl (cI, 8, .inl f3)), (a5, .inl (cI, 4, .inl f4)), (a6, .inl (cI, 4, .inl f5)), (hq, .inr (1, [.int 0, .int 0, .ref b2, .ref b3, .ref b4, .ref b5, .ref b6, .ref hp])), (b2, .inl (cI, 8, .inl (fun _ => 0))), (b3, .inl (cI, 8, .inl (fun _ => 0))), (b4, .inl (cI, 8, .inl (fun _ => 0))), (b5, .inl (cI, 4, .inl (fun _ => 0))), (b6, .inl (cI, 4, .inl (fun _ => 0)))] H := hP
  have hD : va_D A [(h0, .inr (1, [.int 0, .int 0, .ref a2, .ref a3, .ref a4, .ref a5, .ref a6, .ref ho])), (a2, .inl (cI, 8, .inl f1)), (a3, .inl (cI, 8, .inl f2)), (a4, .inl (cI, 8, .inl f3)), (a5, .inl (cI, 4, .inl f4)), (a6, .inl (cI, 4, .inl f5)), (hq, .inr (1, [.int 0, .int 0, .ref b2, .ref b3, .ref b4, .ref b5, .ref b6, .ref hp])), (b2, .inl (cI, 8, .inl (fun _ => 0))), (b3, .inl (cI, 8, .inl (fun _ => 0))), (b4, .inl (cI, 8, .inl (fun _ => 0))), (b5, .inl (cI, 4, .inl (fun _ => 0))), (b6, .inl (cI, 4, .inl (fun _ => 0)))] := hD
  exact W.vret hx hb hr (fun t ht hW => ⟨⟨(fun _ => 0), rfl, by first | trivial | rfl | (simp_all; done), trivial⟩, hS.F ht⟩) hS.2.2 dX1_copyFrom_89
set_option maxHeartbeats 4000000 in
set_option maxRecDepth 100000 in
theorem c_X10_keep (l : Launch) (dC : Nat → ClassId) (dI : Nat → Nat → Nat) (cI cZ cQ : ClassId) (h0 : Nat) (x0 : Nat) (x4 : Nat) (x5 : Nat) (x6 : Nat) (x7 : Nat) (x8 : Nat) (x9 : Nat) (x10 : Nat) (x11 : Nat) (x12 : Nat) (x13 : Nat) (a0 : Int32) (i0 : Nat) (i1 : Nat) (i2 : Nat) (d0 : Nat) (d1 : Nat) (q0 : Nat) (s2 : Nat) (s3 : Nat) (s4 : Nat) (s5 : Nat) (s6 : Nat) (t2 : Nat) (t3 : Nat) (t4 : Nat) (t5 : Nat) (t6 : Nat) (v2 : Nat) (v3 : Nat) (v4 : Nat) (v5 : Nat) (v6 : Nat) (sz : Nat)  : Met l yX10_keep wsX10_keep ({ frames := 2, cells := 0, slots := 0, locals := 62 }) (va_Pc [.ref h0, .int a0] (fun U => U.heap.size = sz ∧ va_P (dC, dI) vwCl [(h0, .inr (10, [.ref x0, .int 0, .int (-1), .int 0, .ref x4, .ref x5, .ref x6, .ref x7, .ref x8, .ref x9, .ref x10, .ref x11, .ref x12, .ref x13])), (x8, .inr (4, [.ref i0, .ref i1, .ref i2])), (i0, .inl (cQ, 2, .inr (.inr (.inr (.inr (va_up (va_up (fun _ => none) (0 : Int32).toNatClampNeg (some d0)) (1 : Int32).toNatClampNeg (some d1))))))), (i1, .inl (cI, 2, .inl (fun _ => 0))), (i2, .inl (cZ, 2, .inl (fun _ => 0))), (x6, .inr (1, [.int 0, .int 0, .ref s2, .ref s3, .ref s4, .ref s5, .ref s6, .ref x4])), (s2, .inl (cI, 8, .inl (fun _ => 0))), (s3, .inl (cI, 8, .inl (fun _ => 0))), (s4, .inl (cI, 8, .inl (fun _ => 0))), (s5, .inl (cI, 4, .inl (fun _ => 0))), (s6, .inl (cI, 4, .inl (fun _ => 0))), (d0, .inr (1, [.int 0, .int 0, .ref t2, .ref t3, .ref t4, .ref t5, .ref t6, .ref x4])), (t2, .inl (cI, 8, .inl (fun _ => 0))), (t3, .inl (cI, 8, .inl (fun _ => 0))), (t4, .inl (cI, 8, .inl (fun _ => 0))), (t5, .inl (cI, 4, .inl (fun _ => 0))), (t6, .inl (cI, 4, .inl (fun _ => 0))), (d1, .inr (1, [.int 0, .int 0, .ref v2, .ref v3, .ref v4, .ref v5, .ref v6, .ref x4])), (v2, .inl (cI, 8, .inl (fun _ => 0))), (v3, .inl (cI, 8, .inl (fun _ => 0))), (v4, .inl (cI, 8, .inl (fun _ => 0))), (v5, .inl (cI, 4, .inl (fun _ => 0))), (v6, .inl (cI, 4, .inl (fun _ => 0))), (x7, .inr (3, [.ref q0, .int 0, .int 0]))] U.heap ∧ va_K (dC, dI) vwCl (tys0 cI cZ cQ) U ∧ va_D (fun _ => True) [(h0, .inr (10, [.ref x0, .int 0, .int (-1), .int 0, .ref x4, .ref x5, .ref x6, .ref x7, .ref x8, .ref x9, .ref x10, .ref x11, .ref x12, .ref x13])), (x8, .inr (4, [.ref i0, .ref i1, .ref i2])), (i0, .inl (cQ, 2, .inr (.inr (.inr (.inr (va_up (va_up (fun _ => none) (0 : Int32).toNatClampNeg (some d0)) (1 : Int32).toNatClampNeg (some d1))))))), (i1, .inl (cI, 2, .inl (fun _ => 0))), (i2, .inl (cZ, 2, .inl (fun _ => 0))), (x6, .inr (1, [.int 0, .int 0, .ref s2, .ref s3, .ref s4, .ref s5, .ref s6, .ref x4])), (s2, .inl (cI, 8, .inl (fun _ => 0))), (s3, .inl (cI, 8, .inl (fun _ => 0))), (s4, .inl (cI, 8, .inl (fun _ => 0))), (s5, .inl (cI, 4, .inl (fun _ => 0))), (s6, .inl (cI, 4, .inl (fun _ => 0))), (d0, .inr (1, [.int 0, .int 0, .ref t2, .ref t3, .ref t4, .ref t5, .ref t6, .ref x4])), (t2, .inl (cI, 8, .inl (fun _ => 0))), (t3, .inl (cI, 8, .inl (fun _ => 0))), (t4, .inl (cI, 8, .inl (fun _ => 0))), (t5, .inl (cI, 4, .inl (fun _ => 0))), (t6, .inl (cI, 4, .inl (fun _ => 0))), (d1, .inr (1, [.int 0, .int 0, .ref v2, .ref v3, .ref v4, .ref v5, .ref v6, .ref x4])), (v2, .inl (cI, 8, .inl (fun _ => 0))), (v3, .inl (cI, 8, .inl (fun _ => 0))), (v4, .inl (cI, 8, .inl (fun _ => 0))), (v5, .inl (cI, 4, .inl (fun _ => 0))), (v6, .inl (cI, 4, .inl (fun _ => 0))), (x7, .inr (3, [.ref q0, .int 0, .int 0]))])) (va_Qi (fun (r : Int32) (u : Nat → Nat) => r = if 0 ≤ a0 ∧ a0 ≤ 1 then 1 else (-1000000001)) (fun (_ : Nat → Nat) (_ : State) => True) (va_A [(h0, .inr (10, [.ref x0, .int 0, .int (-1), .int 0, .ref x4, .ref x5, .ref x6, .ref x7, .ref x8, .ref x9, .ref x10, .ref x11, .ref x12, .ref x13])), (x8, .inr (4, [.ref i0, .ref i1, .ref i2])), (i0, .inl (cQ, 2, .inr (.inr (.inr (.inr (va_up (va_up (fun _ => none) (0 : Int32).toNatClampNeg (some d0)) (1 : Int32).toNatClampNeg (some d1))))))), (i1, .inl (cI, 2, .inl (fun _ => 0))), (i2, .inl (cZ, 2, .inl (fun _ => 0))), (x6, .inr (1, [.int 0, .int 0, .ref s2, .ref s3, .ref s4, .ref s5, .ref s6, .ref x4])), (s2, .inl (cI, 8, .inl (fun _ => 0))), (s3, .inl (cI, 8, .inl (fun _ => 0))), (s4, .inl (cI, 8, .inl (fun _ => 0))), (s5, .inl (cI, 4, .inl (fun _ => 0))), (s6, .inl (cI, 4, .inl (fun _ => 0))), (d0, .inr (1, [.int 0, .int 0, .ref t2, .ref t3, .ref t4, .ref t5, .ref t6, .ref x4])), (t2, .inl (cI, 8, .inl (fun _ => 0))), (t3, .inl (cI, 8, .inl (fun _ => 0))), (t4, .inl (cI, 8, .inl (fun _ => 0))), (t5, .inl (cI, 4, .inl (fun _ => 0))), (t6, .inl (cI, 4, .inl (fun _ => 0))), (d1, .inr (1, [.int 0, .int 0, .ref v2, .ref v3, .ref v4, .ref v5, .ref v6, .ref x4])), (v2, .inl (cI, 8, .inl (fun _ => 0))), (v3, .inl (cI, 8, .inl (fun _ => 0))), (v4, .inl (cI, 8, .inl (fun _ => 0))), (v5, .inl (cI, 4, .inl (fun _ => 0))), (v6, .inl (cI, 4, .inl (fun _ => 0))), (x7, .inr (3, [.ref q0, .int 0, .int 0]))] sz)) 0 0 (va_A [(h0, .inr (10, [.ref x0, .int 0, .int (-1), .int 0, .ref x4, .ref x5, .ref x6, .ref x7, .ref x8, .ref x9, .ref x10, .ref x11, .ref x12, .ref x13])), (x8, .inr (4, [.ref i0, .ref i1, .ref i2])), (i0, .inl (cQ, 2, .inr (.inr (.inr (.inr (va_up (va_up (fun _ => none) (0 : Int32).toNatClampNeg (some d0)) (1 : Int32).toNatClampNeg (some d1))))))), (i1, .inl (cI, 2, .inl (fun _ => 0))), (i2, .inl (cZ, 2, .inl (fun _ => 0))), (x6, .inr (1, [.int 0, .int 0, .ref s2, .ref s3, .ref s4, .ref s5, .ref s6, .ref x4])), (s2, .inl (cI, 8, .inl (fun _ => 0))), (s3, .inl (cI, 8, .inl (fun _ => 0))), (s4, .inl (cI, 8, .inl (fun _ => 0))), (s5, .inl (cI, 4, .inl (fun _ => 0))), (s6, .inl (cI, 4, .inl (fun _ => 0))), (d0, .inr (1, [.int 0, .int 0, .ref t2, .ref t3, .ref t4, .ref t5, .ref t6, .ref x4])), (t2, .inl (cI, 8, .inl (fun _ => 0))), (t3, .inl (cI, 8, .inl (fun _ => 0))), (t4, .inl (cI, 8, .inl (fun _ => 0))), (t5, .inl (cI, 4, .inl (fun _ => 0))), (t6, .inl (cI, 4, .inl (fun _ => 0))), (d1, .inr (1, [.int 0, .int 0, .ref v2, .ref v3, .ref v4, .ref v5, .ref v6, .ref x4])), (v2, .inl (cI, 8, .inl (fun _ => 0))), (v3, .inl (cI, 8, .inl (fun _ => 0))), (v4, .inl (cI, 8, .inl (fun _ => 0))), (v5, .inl (cI, 4, .inl (fun _ => 0))), (v6, .inl (cI, 4, .inl (fun _ => 0))), (x7, .inr (3, [.ref q0, .int 0, .int 0]))] sz) := by
  refine Met.ofW (cc := cX10_keep) (maxL := 2) (ret := (some .int)) (by decide) rfl ?_
  intro p e s m args below meth c s₁ B hml hv
  obtain ⟨rfl, hsz, hP, hK, hD0⟩ := hv
  have hx := B.exec
  have hb := B.bytes
  have hr := B.returns
  have hts := atoms_spec (ws := wsX10_keep) B.pre
  have hown : s.vm.findClass RX10 = some m.cls := findClass_of_methodNamed B.named
  have hlocks := B.notSynchronized
  have hi_X10 : ∀ w ∈ u_ws RX10 TX10 14, w ∈ wsX10_keep := by decide +kernel
  have hi_X4 : ∀ w ∈ u_ws RX4 TX4 3, w ∈ wsX10_keep := by decide +kernel
  subst hsz
  have hD := hD0.self (sz := s.heap.size)
  generalize hAe : va_A [(h0, .inr (10, [.ref x0, .int 0, .int (-1), .int 0, .ref x4, .ref x5, .ref x6, .ref x7, .ref x8, .ref x9, .ref x10, .ref x11, .ref x12, .ref x13])), (x8, .inr (4, [.ref i0, .ref i1, .ref i2])), (i0, .inl (cQ, 2, .inr (.inr (.inr (.inr (va_up (va_up (fun _ => none) (0 : Int32).toNatClampNeg (some d0)) (1 : Int32).toNatClampNeg (some d1))))))), (i1, .inl (cI, 2, .inl (fun _ => 0))), (i2, .inl (cZ, 2, .inl (fun _ => 0))), (x6, .inr (1, [.int 0, .int 0, .ref s2, .ref s3, .ref s4, .ref s5, .ref s6, .ref x4])), (s2, .inl (cI, 8, .inl (fun _ => 0))), (s3, .inl (cI, 8, .inl (fun _ => 0))), (s4, .inl (cI, 8, .inl (fun _ => 0))), (s5, .inl (cI, 4, .inl (fun _ => 0))), (s6, .inl (cI, 4, .inl (fun _ => 0))), (d0, .inr (1, [.int 0, .int 0, .ref t2, .ref t3, .ref t4, .ref t5, .ref t6, .ref x4])), (t2, .inl (cI, 8, .inl (fun _ => 0))), (t3, .inl (cI, 8, .inl (fun _ => 0))), (t4, .inl (cI, 8, .inl (fun _ => 0))), (t5, .inl (cI, 4, .inl (fun _ => 0))), (t6, .inl (cI, 4, .inl (fun _ => 0))), (d1, .inr (1, [.int 0, .int 0, .ref v2, .ref v3, .ref v4, .ref v5, .ref v6, .ref x4])), (v2, .inl (cI, 8, .inl (fun _ => 0))), (v3, .inl (cI, 8, .inl (fun _ => 0))), (v4, .inl (cI, 8, .inl (fun _ => 0))), (v5, .inl (cI, 4, .inl (fun _ => 0))), (v6, .inl (cI, 4, .inl (fun _ => 0))), (x7, .inr (3, [.ref q0, .int 0, .int 0]))] s.heap.size = A at hD ⊢
  have hA : ∀ q : Nat, s.heap.size ≤ q → A q := fun q h => by rw [← hAe]; exact Or.inr h
  have hS : va_S A s.heap s.heap [] := va_S.rf
  have hl := lv_entry ([.ref h0, .int a0]) (n := 2) (Nat.le_of_ble_eq_true rfl)
  rw [lg_entry_eq]
  generalize (lg_sl ([.ref h0, .int a0]) ++ List.replicate (2 - (lg_sl ([.ref h0, .int a0])).length) Slot.unset).toArray = ls at hl ⊢
  have hl : lv_has ls 2 [(0, .ref h0), (1, .int a0)] := hl
  refine lv_iload_n hx hb dX10_keep_0 rfl (lv_at hl 1 rfl) ?_
  refine lv_iconst (v := 0) hx hb dX10_keep_1 (by decide) ?_
  refine lv_iconst (v := 1) hx hb dX10_keep_2 (by decide) ?_
  have hPc := hP.sub (ws' := []) [] rfl
  refine va_calli (va_runS (As := [.int a0, .int 0, .int 1]) (rest := []) ⟨hx, hb, hml, hown, hts⟩ (c_X10_within l dC dI cI cZ cQ a0 0 1 s.heap.size ) (va_cwS 3 hts gX10_keep_X10_within rfl rfl rfl (by decide +kernel) ⟨Nat.le_of_ble_eq_true rfl, Nat.le_of_ble_eq_true rfl⟩) ⟨fun a U g mk q => by obtain ⟨q0, q1, qP, qK⟩ := q; exact ⟨q0, q1, qP, va_K.moved (u := U) (U := U.calling g mk a) (Vm.Alike.refl U.vm) qK⟩, fun U hU hW => ⟨rfl, by rw [hU], by rw [hU]; exact hPc, va_K.moved hW.alike hK⟩⟩ rfl rfl hl.1 rfl (lv_room (Nat.le_of_ble_eq_true rfl)) dX10_keep_3 ⟨Nat.le_of_ble_eq_true rfl, Nat.le_of_ble_eq_true rfl⟩) hS (fun q _ h => False.elim h) (fun q h => False.elim h) (fun r1 u2 t H1 locs ht hvm hw3 hB hz1 hk1 hS => ?_)
  have hP := hP.kept (fun k q hk => hk1 q.1 (hP k q hk).lt (fun h => h))
  clear hz1 hk1 hPc
  generalize H1 = H at hP hS ht ⊢
  try dsimp only at hw3
  rcases hw3 with ⟨rfl, hw3⟩ | ⟨rfl, hw3⟩
  ·
    rcases x_01 hw3 with rfl | rfl
    ·
      refine lv_if_ne (tgt := 12) hx hb dX10_keep_6 (by decide) (fun c5 => ?_) (fun c5 => ?_)
      rotate_left
      · exact absurd c5 (by decide)
      clear c5
      refine lv_aload_n hx hb dX10_keep_12 rfl (lv_at hl 0 rfl) ?_
      refine va_get (D := (dC, dI)) (ci := 10) (v := .ref x8) (C := RX10) (T := TX10) (N := 14) hx hb hts hi_X10 hown hK hP 0 rfl rfl 8 (by decide) (hts (.fieldLink RX10 56 "LeftQuills" "images" "LLeftQuills$Images;") (by decide +kernel)) (fun _ h9 => h9) rfl dX10_keep_13 ?_
      refine va_get (D := (dC, dI)) (ci := 4) (v := .ref i0) (C := RX4) (T := TX4) (N := 3) hx hb hts hi_X4 hown hK hP 1 rfl rfl 0 (by decide) (hts (.fieldLink RX10 291 "LeftQuills$Images" "desks" "[LLeftQuills$Desk;") (by decide +kernel)) (fun _ h9 => h9) rfl dX10_keep_16 ?_
      refine lv_iload_n hx hb dX10_keep_19 rfl (lv_at hl 1 rfl) ?_
      refine va_aldq hx hb hK hP 2 2 rfl rfl (vp_in_iff.mpr ⟨by decide, by decide⟩) dX10_keep_20 ?_
      refine W.eq (g2 := F0 m 21 ls [.ref d0]) rfl ?_
      refine lv_aload_n hx hb dX10_keep_21 rfl (lv_at hl 0 rfl) ?_
      refine va_get (D := (dC, dI)) (ci := 10) (v := .ref x6) (C := RX10) (T := TX10) (N := 14) hx hb hts hi_X10 hown hK hP 0 rfl rfl 6 (by decide) (hts (.fieldLink RX10 42 "LeftQuills" "desk" "LLeftQuills$Desk;") (by decide +kernel)) (fun _ h9 => h9) rfl dX10_keep_22 ?_
      have hPc := hP.sub (ws' := [(d0, .inr (1, [.int 0, .int 0, .ref t2, .ref t3, .ref t4, .ref t5, .ref t6, .ref x4])), (t2, .inl (cI, 8, .inl (fun _ => 0))), (t3, .inl (cI, 8, .inl (fun _ => 0))), (t4, .inl (cI, 8, .inl (fun _ => 0))), (t5, .inl (cI, 4, .inl (fun _ => 0))), (t6, .inl (cI, 4, .inl (fun _ => 0))), (x6, .inr (1, [.int 0, .int 0, .ref s2, .ref s3, .ref s4, .ref s5, .ref s6, .ref x4])), (s2, .inl (cI, 8, .inl (fun _ => 0))), (s3, .inl (cI, 8, .inl (fun _ => 0))), (s4, .inl (cI, 8, .inl (fun _ => 0))), (s5, .inl (cI, 4, .inl (fun _ => 0))), (s6, .inl (cI, 4, .inl (fun _ => 0)))]) [11, 12, 13, 14, 15, 16, 5, 6, 7, 8, 9, 10] rfl
      have hDc := hD.sub (ws' := [(d0, .inr (1, [.int 0, .int 0, .ref t2, .ref t3, .ref t4, .ref t5, .ref t6, .ref x4])), (t2, .inl (cI, 8, .inl (fun _ => 0))), (t3, .inl (cI, 8, .inl (fun _ => 0))), (t4, .inl (cI, 8, .inl (fun _ => 0))), (t5, .inl (cI, 4, .inl (fun _ => 0))), (t6, .inl (cI, 4, .inl (fun _ => 0))), (x6, .inr (1, [.int 0, .int 0, .ref s2, .ref s3, .ref s4, .ref s5, .ref s6, .ref x4])), (s2, .inl (cI, 8, .inl (fun _ => 0))), (s3, .inl (cI, 8, .inl (fun _ => 0))), (s4, .inl (cI, 8, .inl (fun _ => 0))), (s5, .inl (cI, 4, .inl (fun _ => 0))), (s6, .inl (cI, 4, .inl (fun _ => 0)))]) [11, 12, 13, 14, 15, 16, 5, 6, 7, 8, 9, 10] (by decide) rfl
      have hFc := va_free (wc := [(d0, .inr (1, [.int 0, .int 0, .ref t2, .ref t3, .ref t4, .ref t5, .ref t6, .ref x4])), (t2, .inl (cI, 8, .inl (fun _ => 0))), (t3, .inl (cI, 8, .inl (fun _ => 0))), (t4, .inl (cI, 8, .inl (fun _ => 0))), (t5, .inl (cI, 4, .inl (fun _ => 0))), (t6, .inl (cI, 4, .inl (fun _ => 0))), (x6, .inr (1, [.int 0, .int 0, .ref s2, .ref s3, .ref s4, .ref s5, .ref s6, .ref x4])), (s2, .inl (cI, 8, .inl (fun _ => 0))), (s3, .inl (cI, 8, .inl (fun _ => 0))), (s4, .inl (cI, 8, .inl (fun _ => 0))), (s5, .inl (cI, 4, .inl (fun _ => 0))), (s6, .inl (cI, 4, .inl (fun _ => 0)))]) hD hS hA [11, 12, 13, 14, 15, 16, 5, 6, 7, 8, 9, 10] rfl
      refine va_callv (va_runV (As := [.ref x6]) (rest := []) ⟨hx, hb, hml, hown, hts⟩ (c_X1_copyFrom l dC dI cI cZ cQ d0 x6 x4 x4 t2 t3 t4 t5 t6 s2 s3 s4 s5 s6 H.size ) (cwV 1 hts gX10_keep_X1_copyFrom rfl rfl rfl (by decide +kernel) ⟨Nat.le_of_ble_eq_true rfl, Nat.le_of_ble_eq_true rfl⟩) ⟨fun a U g mk q => by obtain ⟨q0, q1, qP, qK, qD⟩ := q; exact ⟨q0, q1, qP, va_K.moved (u := U) (U := U.calling g mk a) (Vm.Alike.refl U.vm) qK, qD⟩, va_recv hK hP (ci := 1) (q0 := 11) rfl rfl, fun U hU hW => ⟨rfl, by rw [hU], by rw [hU]; exact hPc, va_K.moved hW.alike hK, hDc.weaken (fun _ _ _ _ => trivial)⟩⟩ rfl rfl hl.1 rfl (lv_room (Nat.le_of_ble_eq_true rfl)) dX10_keep_25 ⟨Nat.le_of_ble_eq_true rfl, Nat.le_of_ble_eq_true rfl⟩) hS (fun q _ h => hFc q h) hFc (fun u7 t H1 locs ht hvm hw8 hB hz1 hk1 hS => ?_)
      obtain ⟨hP, hD⟩ := xjoin0 (wr := [(h0, .inr (10, [.ref x0, .int 0, .int (-1), .int 0, .ref x4, .ref x5, .ref x6, .ref x7, .ref x8, .ref x9, .ref x10, .ref x11, .ref x12, .ref x13])), (x8, .inr (4, [.ref i0, .ref i1, .ref i2])), (i0, .inl (cQ, 2, .inr (.inr (.inr (.inr (va_up (va_up (fun _ => none) (0 : Int32).toNatClampNeg (some d0)) (1 : Int32).toNatClampNeg (some d1))))))), (i1, .inl (cI, 2, .inl (fun _ => 0))), (i2, .inl (cZ, 2, .inl (fun _ => 0))), (d1, .inr (1, [.int 0, .int 0, .ref v2, .ref v3, .ref v4, .ref v5, .ref v6, .ref x4])), (v2, .inl (cI, 8, .inl (fun _ => 0))), (v3, .inl (cI, 8, .inl (fun _ => 0))), (v4, .inl (cI, 8, .inl (fun _ => 0))), (v5, .inl (cI, 4, .inl (fun _ => 0))), (v6, .inl (cI, 4, .inl (fun _ => 0))), (x7, .inr (3, [.ref q0, .int 0, .int 0]))]) hP hD [11, 12, 13, 14, 15, 16, 5, 6, 7, 8, 9, 10] [0, 1, 2, 3, 4, 17, 18, 19, 20, 21, 22, 23] rfl rfl (by decide) (by decide) hk1 hFc
      clear hz1 hk1 hPc hDc hFc
      generalize H1 = H at hP hS ht ⊢
      have hP : va_P (dC, dI) vwCl [(h0, .inr (10, [.ref x0, .int 0, .int (-1), .int 0, .ref x4, .ref x5, .ref x6, .ref x7, .ref x8, .ref x9, .ref x10, .ref x11, .ref x12, .ref x13])), (x8, .inr (4, [.ref i0, .ref i1, .ref i2])), (i0, .inl (cQ, 2, .inr (.inr (.inr (.inr (va_up (va_up (fun _ => none) (0 : Int32).toNatClampNeg (some d0)) (1 : Int32).toNatClampNeg (some d1))))))), (i1, .inl (cI, 2, .inl (fun _ => 0))), (i2, .inl (cZ, 2, .inl (fun _ => 0))), (d1, .inr (1, [.int 0, .int 0, .ref v2, .ref v3, .ref v4, .ref v5, .ref v6, .ref x4])), (v2, .inl (cI, 8, .inl (fun _ => 0))), (v3, .inl (cI, 8, .inl (fun _ => 0))), (v4, .inl (cI, 8, .inl (fun _ => 0))), (v5, .inl (cI, 4, .inl (fun _ => 0))), (v6, .inl (cI, 4, .inl (fun _ => 0))), (x7, .inr (3, [.ref q0, .int 0, .int 0]))] H := hP
      have hD : va_D A [(h0, .inr (10, [.ref x0, .int 0, .int (-1), .int 0, .ref x4, .ref x5, .ref x6, .ref x7, .ref x8, .ref x9, .ref x10, .ref x11, .ref x12, .ref x13])), (x8, .inr (4, [.ref i0, .ref i1, .ref i2])), (i0, .inl (cQ, 2, .inr (.inr (.inr (.inr (va_up (va_up (fun _ => none) (0 : Int32).toNatClampNeg (some d0)) (1 : Int32).toNatClampNeg (some d1))))))), (i1, .inl (cI, 2, .inl (fun _ => 0))), (i2, .inl (cZ, 2, .inl (fun _ => 0))), (d1, .inr (1, [.int 0, .int 0, .ref v2, .ref v3, .ref v4, .ref v5, .ref v6, .ref x4])), (v2, .inl (cI, 8, .inl (fun _ => 0))), (v3, .inl (cI, 8, .inl (fun _ => 0))), (v4, .inl (cI, 8, .inl (fun _ => 0))), (v5, .inl (cI, 4, .inl (fun _ => 0))), (v6, .inl (cI, 4, .inl (fun _ => 0))), (x7, .inr (3, [.ref q0, .int 0, .int 0]))] := hD
      try dsimp only at hw8
      refine lv_aload_n hx hb dX10_keep_28 rfl (lv_at hl 0 rfl) ?_
      refine va_get (D := (dC, dI)) (ci := 10) (v := .ref x8) (C := RX10) (T := TX10) (N := 14) hx hb hts hi_X10 hown hK hP 0 rfl rfl 8 (by decide) (hts (.fieldLink RX10 56 "LeftQuills" "images" "LLeftQuills$Images;") (by decide +kernel)) (fun _ h9 => h9) rfl dX10_keep_29 ?_
      refine va_get (D := (dC, dI)) (ci := 4) (v := .ref i1) (C := RX4) (T := TX4) (N := 3) hx hb hts hi_X4 hown hK hP 1 rfl rfl 1 (by decide) (hts (.fieldLink RX10 297 "LeftQuills$Images" "seeds" "[I") (by decide +kernel)) (fun _ h9 => h9) rfl dX10_keep_32 ?_
      refine lv_iload_n hx hb dX10_keep_35 rfl (lv_at hl 1 rfl) ?_
      refine lv_aload_n hx hb dX10_keep_36 rfl (lv_at hl 0 rfl) ?_
      refine va_get (D := (dC, dI)) (ci := 10) (v := .int 0) (C := RX10) (T := TX10) (N := 14) hx hb hts hi_X10 hown hK hP 0 rfl rfl 3 (by decide) (hts (.fieldLink RX10 20 "LeftQuills" "seed" "I") (by decide +kernel)) (fun _ h9 => h9) rfl dX10_keep_37 ?_
      refine va_iast hx hb hK hP hD hS 3 0 rfl rfl (vp_in_iff.mpr ⟨by decide, by decide⟩) dX10_keep_40 (fun H locs hP hD hS => ?_)
      rw [x_upd0] at hP hD
      have hP : va_P (dC, dI) vwCl [(h0, .inr (10, [.ref x0, .int 0, .int (-1), .int 0, .ref x4, .ref x5, .ref x6, .ref x7, .ref x8, .ref x9, .ref x10, .ref x11, .ref x12, .ref x13])), (x8, .inr (4, [.ref i0, .ref i1, .ref i2])), (i0, .inl (cQ, 2, .inr (.inr (.inr (.inr (va_up (va_up (fun _ => none) (0 : Int32).toNatClampNeg (some d0)) (1 : Int32).toNatClampNeg (some d1))))))), (i1, .inl (cI, 2, .inl (fun _ => 0))), (i2, .inl (cZ, 2, .inl (fun _ => 0))), (d1, .inr (1, [.int 0, .int 0, .ref v2, .ref v3, .ref v4, .ref v5, .ref v6, .ref x4])), (v2, .inl (cI, 8, .inl (fun _ => 0))), (v3, .inl (cI, 8, .inl (fun _ => 0))), (v4, .inl (cI, 8, .inl (fun _ => 0))), (v5, .inl (cI, 4, .inl (fun _ => 0))), (v6, .inl (cI, 4, .inl (fun _ => 0))), (x7, .inr (3, [.ref q0, .int 0, .int 0]))] H := hP
      have hD : va_D A [(h0, .inr (10, [.ref x0, .int 0, .int (-1), .int 0, .ref x4, .ref x5, .ref x6, .ref x7, .ref x8, .ref x9, .ref x10, .ref x11, .ref x12, .ref x13])), (x8, .inr (4, [.ref i0, .ref i1, .ref i2])), (i0, .inl (cQ, 2, .inr (.inr (.inr (.inr (va_up (va_up (fun _ => none) (0 : Int32).toNatClampNeg (some d0)) (1 : Int32).toNatClampNeg (some d1))))))), (i1, .inl (cI, 2, .inl (fun _ => 0))), (i2, .inl (cZ, 2, .inl (fun _ => 0))), (d1, .inr (1, [.int 0, .int 0, .ref v2, .ref v3, .ref v4, .ref v5, .ref v6, .ref x4])), (v2, .inl (cI, 8, .inl (fun _ => 0))), (v3, .inl (cI, 8, .inl (fun _ => 0))), (v4, .inl (cI, 8, .inl (fun _ => 0))), (v5, .inl (cI, 4, .inl (fun _ => 0))), (v6, .inl (cI, 4, .inl (fun _ => 0))), (x7, .inr (3, [.ref q0, .int 0, .int 0]))] := hD
      refine lv_aload_n hx hb dX10_keep_41 rfl (lv_at hl 0 rfl) ?_
      refine va_get (D := (dC, dI)) (ci := 10) (v := .ref x8) (C := RX10) (T := TX10) (N := 14) hx hb hts hi_X10 hown hK hP 0 rfl rfl 8 (by decide) (hts (.fieldLink RX10 56 "LeftQuills" "images" "LLeftQuills$Images;") (by decide +kernel)) (fun _ h9 => h9) rfl dX10_keep_42 ?_
      refine va_get (D := (dC, dI)) (ci := 4) (v := .ref i2) (C := RX4) (T := TX4) (N := 3) hx hb hts hi_X4 hown hK hP 1 rfl rfl 2 (by decide) (hts (.fieldLink RX10 300 "LeftQuills$Images" "kept" "[Z") (by decide +kernel)) (fun _ h9 => h9) rfl dX10_keep_45 ?_
      refine lv_iload_n hx hb dX10_keep_48 rfl (lv_at hl 1 rfl) ?_
      refine lv_iconst (v := 1) hx hb dX10_keep_49 (by decide) ?_
      refine va_zast hx hb hK hP hD hS 4 1 rfl rfl (vp_in_iff.mpr ⟨by decide, by decide⟩) dX10_keep_50 (fun H locs hP hD hS => ?_)
      generalize hgf10 : upd _ _ _ = f10 at hP hD
      have hP : va_P (dC, dI) vwCl [(h0, .inr (10, [.ref x0, .int 0, .int (-1), .int 0, .ref x4, .ref x5, .ref x6, .ref x7, .ref x8, .ref x9, .ref x10, .ref x11, .ref x12, .ref x13])), (x8, .inr (4, [.ref i0, .ref i1, .ref i2])), (i0, .inl (cQ, 2, .inr (.inr (.inr (.inr (va_up (va_up (fun _ => none) (0 : Int32).toNatClampNeg (some d0)) (1 : Int32).toNatClampNeg (some d1))))))), (i1, .inl (cI, 2, .inl (fun _ => 0))), (i2, .inl (cZ, 2, .inl f10)), (d1, .inr (1, [.int 0, .int 0, .ref v2, .ref v3, .ref v4, .ref v5, .ref v6, .ref x4])), (v2, .inl (cI, 8, .inl (fun _ => 0))), (v3, .inl (cI, 8, .inl (fun _ => 0))), (v4, .inl (cI, 8, .inl (fun _ => 0))), (v5, .inl (cI, 4, .inl (fun _ => 0))), (v6, .inl (cI, 4, .inl (fun _ => 0))), (x7, .inr (3, [.ref q0, .int 0, .int 0]))] H := hP
      have hD : va_D A [(h0, .inr (10, [.ref x0, .int 0, .int (-1), .int 0, .ref x4, .ref x5, .ref x6, .ref x7, .ref x8, .ref x9, .ref x10, .ref x11, .ref x12, .ref x13])), (x8, .inr (4, [.ref i0, .ref i1, .ref i2])), (i0, .inl (cQ, 2, .inr (.inr (.inr (.inr (va_up (va_up (fun _ => none) (0 : Int32).toNatClampNeg (some d0)) (1 : Int32).toNatClampNeg (some d1))))))), (i1, .inl (cI, 2, .inl (fun _ => 0))), (i2, .inl (cZ, 2, .inl f10)), (d1, .inr (1, [.int 0, .int 0, .ref v2, .ref v3, .ref v4, .ref v5, .ref v6, .ref x4])), (v2, .inl (cI, 8, .inl (fun _ => 0))), (v3, .inl (cI, 8, .inl (fun _ => 0))), (v4, .inl (cI, 8, .inl (fun _ => 0))), (v5, .inl (cI, 4, .inl (fun _ => 0))), (v6, .inl (cI, 4, .inl (fun _ => 0))), (x7, .inr (3, [.ref q0, .int 0, .int 0]))] := hD
      refine lv_aload_n hx hb dX10_keep_51 rfl (lv_at hl 0 rfl) ?_
      refine va_get (D := (dC, dI)) (ci := 10) (v := .ref x7) (C := RX10) (T := TX10) (N := 14) hx hb hts hi_X10 hown hK hP 0 rfl rfl 7 (by decide) (hts (.fieldLink RX10 49 "LeftQuills" "history" "LLeftQuills$History;") (by decide +kernel)) (fun _ h9 => h9) rfl dX10_keep_52 ?_
      have hPc := hP.sub (ws' := [(x7, .inr (3, [.ref q0, .int 0, .int 0]))]) [11] rfl
      have hDc := hD.sub (ws' := [(x7, .inr (3, [.ref q0, .int 0, .int 0]))]) [11] (by decide) rfl
      have hFc := va_free (wc := [(x7, .inr (3, [.ref q0, .int 0, .int 0]))]) hD hS hA [11] rfl
      refine va_callv (va_runV (As := []) (rest := []) ⟨hx, hb, hml, hown, hts⟩ (c_X3_forget l dC dI cI cZ cQ x7 q0 H.size ) (cwV 0 hts gX10_keep_X3_forget rfl rfl rfl (by decide +kernel) ⟨Nat.le_of_ble_eq_true rfl, Nat.le_of_ble_eq_true rfl⟩) ⟨fun a U g mk q => by obtain ⟨q0, q1, qP, qK, qD⟩ := q; exact ⟨q0, q1, qP, va_K.moved (u := U) (U := U.calling g mk a) (Vm.Alike.refl U.vm) qK, qD⟩, va_recv hK hP (ci := 3) (q0 := 11) rfl rfl, fun U hU hW => ⟨rfl, by rw [hU], by rw [hU]; exact hPc, va_K.moved hW.alike hK, hDc.weaken (fun _ _ _ _ => trivial)⟩⟩ rfl rfl hl.1 rfl (lv_room (Nat.le_of_ble_eq_true rfl)) dX10_keep_55 ⟨Nat.le_of_ble_eq_true rfl, Nat.le_of_ble_eq_true rfl⟩) hS (fun q _ h => hFc q h) hFc (fun u12 t H1 locs ht hvm hw13 hB hz1 hk1 hS => ?_)
      obtain ⟨hP, hD⟩ := xjoin0 (wr := [(h0, .inr (10, [.ref x0, .int 0, .int (-1), .int 0, .ref x4, .ref x5, .ref x6, .ref x7, .ref x8, .ref x9, .ref x10, .ref x11, .ref x12, .ref x13])), (x8, .inr (4, [.ref i0, .ref i1, .ref i2])), (i0, .inl (cQ, 2, .inr (.inr (.inr (.inr (va_up (va_up (fun _ => none) (0 : Int32).toNatClampNeg (some d0)) (1 : Int32).toNatClampNeg (some d1))))))), (i1, .inl (cI, 2, .inl (fun _ => 0))), (i2, .inl (cZ, 2, .inl f10)), (d1, .inr (1, [.int 0, .int 0, .ref v2, .ref v3, .ref v4, .ref v5, .ref v6, .ref x4])), (v2, .inl (cI, 8, .inl (fun _ => 0))), (v3, .inl (cI, 8, .inl (fun _ => 0))), (v4, .inl (cI, 8, .inl (fun _ => 0))), (v5, .inl (cI, 4, .inl (fun _ => 0))), (v6, .inl (cI, 4, .inl (fun _ => 0)))]) hP hD [11] [0, 1, 2, 3, 4, 5, 6, 7, 8, 9, 10] rfl rfl (by decide) (by decide) hk1 hFc
      clear hz1 hk1 hPc hDc hFc
      generalize H1 = H at hP hS ht ⊢
      have hP : va_P (dC, dI) vwCl [(h0, .inr (10, [.ref x0, .int 0, .int (-1), .int 0, .ref x4, .ref x5, .ref x6, .ref x7, .ref x8, .ref x9, .ref x10, .ref x11, .ref x12, .ref x13])), (x8, .inr (4, [.ref i0, .ref i1, .ref i2])), (i0, .inl (cQ, 2, .inr (.inr (.inr (.inr (va_up (va_up (fun _ => none) (0 : Int32).toNatClampNeg (some d0)) (1 : Int32).toNatClampNeg (some d1))))))), (i1, .inl (cI, 2, .inl (fun _ => 0))), (i2, .inl (cZ, 2, .inl f10)), (d1, .inr (1, [.int 0, .int 0, .ref v2, .ref v3, .ref v4, .ref v5, .ref v6, .ref x4])), (v2, .inl (cI, 8, .inl (fun _ => 0))), (v3, .inl (cI, 8, .inl (fun _ => 0))), (v4, .inl (cI, 8, .inl (fun _ => 0))), (v5, .inl (cI, 4, .inl (fun _ => 0))), (v6, .inl (cI, 4, .inl (fun _ => 0)))] H := hP
      have hD : va_D A [(h0, .inr (10, [.ref x0, .int 0, .int (-1), .int 0, .ref x4, .ref x5, .ref x6, .ref x7, .ref x8, .ref x9, .ref x10, .ref x11, .ref x12, .ref x13])), (x8, .inr (4, [.ref i0, .ref i1, .ref i2])), (i0, .inl (cQ, 2, .inr (.inr (.inr (.inr (va_up (va_up (fun _ => none) (0 : Int32).toNatClampNeg (some d0)) (1 : Int32).toNatClampNeg (some d1))))))), (i1, .inl (cI, 2, .inl (fun _ => 0))), (i2, .inl (cZ, 2, .inl f10)), (d1, .inr (1, [.int 0, .int 0, .ref v2, .ref v3, .ref v4, .ref v5, .ref v6, .ref x4])), (v2, .inl (cI, 8, .inl (fun _ => 0))), (v3, .inl (cI, 8, .inl (fun _ => 0))), (v4, .inl (cI, 8, .inl (fun _ => 0))), (v5, .inl (cI, 4, .inl (fun _ => 0))), (v6, .inl (cI, 4, .inl (fun _ => 0)))] := hD
      try dsimp only at hw13
      refine lv_iconst (v := 1) hx hb dX10_keep_58 (by decide) ?_
      exact W.iret (v := 1) hx hb hr (fun t ht hW => ⟨⟨1, (fun _ => 0), rfl, (if_pos hw3).symm, trivial⟩, hS.F ht⟩) hS.2.2 dX10_keep_59
    ·
      refine lv_if_ne (tgt := 12) hx hb dX10_keep_6 (by decide) (fun c14 => ?_) (fun c14 => ?_)
      rotate_left
      · exact absurd c14 (by decide)
      clear c14
      refine lv_aload_n hx hb dX10_keep_12 rfl (lv_at hl 0 rfl) ?_
      refine va_get (D := (dC, dI)) (ci := 10) (v := .ref x8) (C := RX10) (T := TX10) (N := 14) hx hb hts hi_X10 hown hK hP 0 rfl rfl 8 (by decide) (hts (.fieldLink RX10 56 "LeftQuills" "images" "LLeftQuills$Images;") (by decide +kernel)) (fun _ h9 => h9) rfl dX10_keep_13 ?_
      refine va_get (D := (dC, dI)) (ci := 4) (v := .ref i0) (C := RX4) (T := TX4) (N := 3) hx hb hts hi_X4 hown hK hP 1 rfl rfl 0 (by decide) (hts (.fieldLink RX10 291 "LeftQuills$Images" "desks" "[LLeftQuills$Desk;") (by decide +kernel)) (fun _ h9 => h9) rfl dX10_keep_16 ?_
      refine lv_iload_n hx hb dX10_keep_19 rfl (lv_at hl 1 rfl) ?_
      refine va_aldq hx hb hK hP 2 2 rfl rfl (vp_in_iff.mpr ⟨by decide, by decide⟩) dX10_keep_20 ?_
      refine W.eq (g2 := F0 m 21 ls [.ref d1]) rfl ?_
      refine lv_aload_n hx hb dX10_keep_21 rfl (lv_at hl 0 rfl) ?_
      refine va_get (D := (dC, dI)) (ci := 10) (v := .ref x6) (C := RX10) (T := TX10) (N := 14) hx hb hts hi_X10 hown hK hP 0 rfl rfl 6 (by decide) (hts (.fieldLink RX10 42 "LeftQuills" "desk" "LLeftQuills$Desk;") (by decide +kernel)) (fun _ h9 => h9) rfl dX10_keep_22 ?_
      have hPc := hP.sub (ws' := [(d1, .inr (1, [.int 0, .int 0, .ref v2, .ref v3, .ref v4, .ref v5, .ref v6, .ref x4])), (v2, .inl (cI, 8, .inl (fun _ => 0))), (v3, .inl (cI, 8, .inl (fun _ => 0))), (v4, .inl (cI, 8, .inl (fun _ => 0))), (v5, .inl (cI, 4, .inl (fun _ => 0))), (v6, .inl (cI, 4, .inl (fun _ => 0))), (x6, .inr (1, [.int 0, .int 0, .ref s2, .ref s3, .ref s4, .ref s5, .ref s6, .ref x4])), (s2, .inl (cI, 8, .inl (fun _ => 0))), (s3, .inl (cI, 8, .inl (fun _ => 0))), (s4, .inl (cI, 8, .inl (fun _ => 0))), (s5, .inl (cI, 4, .inl (fun _ => 0))), (s6, .inl (cI, 4, .inl (fun _ => 0)))]) [17, 18, 19, 20, 21, 22, 5, 6, 7, 8, 9, 10] rfl
      have hDc := hD.sub (ws' := [(d1, .inr (1, [.int 0, .int 0, .ref v2, .ref v3, .ref v4, .ref v5, .ref v6, .ref x4])), (v2, .inl (cI, 8, .inl (fun _ => 0))), (v3, .inl (cI, 8, .inl (fun _ => 0))), (v4, .inl (cI, 8, .inl (fun _ => 0))), (v5, .inl (cI, 4, .inl (fun _ => 0))), (v6, .inl (cI, 4, .inl (fun _ => 0))), (x6, .inr (1, [.int 0, .int 0, .ref s2, .ref s3, .ref s4, .ref s5, .ref s6, .ref x4])), (s2, .inl (cI, 8, .inl (fun _ => 0))), (s3, .inl (cI, 8, .inl (fun _ => 0))), (s4, .inl (cI, 8, .inl (fun _ => 0))), (s5, .inl (cI, 4, .inl (fun _ => 0))), (s6, .inl (cI, 4, .inl (fun _ => 0)))]) [17, 18, 19, 20, 21, 22, 5, 6, 7, 8, 9, 10] (by decide) rfl
      have hFc := va_free (wc := [(d1, .inr (1, [.int 0, .int 0, .ref v2, .ref v3, .ref v4, .ref v5, .ref v6, .ref x4])), (v2, .inl (cI, 8, .inl (fun _ => 0))), (v3, .inl (cI, 8, .inl (fun _ => 0))), (v4, .inl (cI, 8, .inl (fun _ => 0))), (v5, .inl (cI, 4, .inl (fun _ => 0))), (v6, .inl (cI, 4, .inl (fun _ => 0))), (x6, .inr (1, [.int 0, .int 0, .ref s2, .ref s3, .ref s4, .ref s5, .ref s6, .ref x4])), (s2, .inl (cI, 8, .inl (fun _ => 0))), (s3, .inl (cI, 8, .inl (fun _ => 0))), (s4, .inl (cI, 8, .inl (fun _ => 0))), (s5, .inl (cI, 4, .inl (fun _ => 0))), (s6, .inl (cI, 4, .inl (fun _ => 0)))]) hD hS hA [17, 18, 19, 20, 21, 22, 5, 6, 7, 8, 9, 10] rfl
      refine va_callv (va_runV (As := [.ref x6]) (rest := []) ⟨hx, hb, hml, hown, hts⟩ (c_X1_copyFrom l dC dI cI cZ cQ d1 x6 x4 x4 v2 v3 v4 v5 v6 s2 s3 s4 s5 s6 H.size ) (cwV 1 hts gX10_keep_X1_copyFrom rfl rfl rfl (by decide +kernel) ⟨Nat.le_of_ble_eq_true rfl, Nat.le_of_ble_eq_true rfl⟩) ⟨fun a U g mk q => by obtain ⟨q0, q1, qP, qK, qD⟩ := q; exact ⟨q0, q1, qP, va_K.moved (u := U) (U := U.calling g mk a) (Vm.Alike.refl U.vm) qK, qD⟩, va_recv hK hP (ci := 1) (q0 := 17) rfl rfl, fun U hU hW => ⟨rfl, by rw [hU], by rw [hU]; exact hPc, va_K.moved hW.alike hK, hDc.weaken (fun _ _ _ _ => trivial)⟩⟩ rfl rfl hl.1 rfl (lv_room (Nat.le_of_ble_eq_true rfl)) dX10_keep_25 ⟨Nat.le_of_ble_eq_true rfl, Nat.le_of_ble_eq_true rfl⟩) hS (fun q _ h => hFc q h) hFc (fun u16 t H1 locs ht hvm hw17 hB hz1 hk1 hS => ?_)
      obtain ⟨hP, hD⟩ := xjoin0 (wr := [(h0, .inr (10, [.ref x0, .int 0, .int (-1), .int 0, .ref x4, .ref x5, .ref x6, .ref x7, .ref x8, .ref x9, .ref x10, .ref x11, .ref x12, .ref x13])), (x8, .inr (4, [.ref i0, .ref i1, .ref i2])), (i0, .inl (cQ, 2, .inr (.inr (.inr (.inr (va_up (va_up (fun _ => none) (0 : Int32).toNatClampNeg (some d0)) (1 : Int32).toNatClampNeg (some d1))))))), (i1, .inl (cI, 2, .inl (fun _ => 0))), (i2, .inl (cZ, 2, .inl (fun _ => 0))), (d0, .inr (1, [.int 0, .int 0, .ref t2, .ref t3, .ref t4, .ref t5, .ref t6, .ref x4])), (t2, .inl (cI, 8, .inl (fun _ => 0))), (t3, .inl (cI, 8, .inl (fun _ => 0))), (t4, .inl (cI, 8, .inl (fun _ => 0))), (t5, .inl (cI, 4, .inl (fun _ => 0))), (t6, .inl (cI, 4, .inl (fun _ => 0))), (x7, .inr (3, [.ref q0, .int 0, .int 0]))]) hP hD [17, 18, 19, 20, 21, 22, 5, 6, 7, 8, 9, 10] [0, 1, 2, 3, 4, 11, 12, 13, 14, 15, 16, 23] rfl rfl (by decide) (by decide) hk1 hFc
      clear hz1 hk1 hPc hDc hFc
      generalize H1 = H at hP hS ht ⊢
      have hP : va_P (dC, dI) vwCl [(h0, .inr (10, [.ref x0, .int 0, .int (-1), .int 0, .ref x4, .ref x5, .ref x6, .ref x7, .ref x8, .ref x9, .ref x10, .ref x11, .ref x12, .ref x13])), (x8, .inr (4, [.ref i0, .ref i1, .ref i2])), (i0, .inl (cQ, 2, .inr (.inr (.inr (.inr (va_up (va_up (fun _ => none) (0 : Int32).toNatClampNeg (some d0)) (1 : Int32).toNatClampNeg (some d1))))))), (i1, .inl (cI, 2, .inl (fun _ => 0))), (i2, .inl (cZ, 2, .inl (fun _ => 0))), (d0, .inr (1, [.int 0, .int 0, .ref t2, .ref t3, .ref t4, .ref t5, .ref t6, .ref x4])), (t2, .inl (cI, 8, .inl (fun _ => 0))), (t3, .inl (cI, 8, .inl (fun _ => 0))), (t4, .inl (cI, 8, .inl (fun _ => 0))), (t5, .inl (cI, 4, .inl (fun _ => 0))), (t6, .inl (cI, 4, .inl (fun _ => 0))), (x7, .inr (3, [.ref q0, .int 0, .int 0]))] H := hP
      have hD : va_D A [(h0, .inr (10, [.ref x0, .int 0, .int (-1), .int 0, .ref x4, .ref x5, .ref x6, .ref x7, .ref x8, .ref x9, .ref x10, .ref x11, .ref x12, .ref x13])), (x8, .inr (4, [.ref i0, .ref i1, .ref i2])), (i0, .inl (cQ, 2, .inr (.inr (.inr (.inr (va_up (va_up (fun _ => none) (0 : Int32).toNatClampNeg (some d0)) (1 : Int32).toNatClampNeg (some d1))))))), (i1, .inl (cI, 2, .inl (fun _ => 0))), (i2, .inl (cZ, 2, .inl (fun _ => 0))), (d0, .inr (1, [.int 0, .int 0, .ref t2, .ref t3, .ref t4, .ref t5, .ref t6, .ref x4])), (t2, .inl (cI, 8, .inl (fun _ => 0))), (t3, .inl (cI, 8, .inl (fun _ => 0))), (t4, .inl (cI, 8, .inl (fun _ => 0))), (t5, .inl (cI, 4, .inl (fun _ => 0))), (t6, .inl (cI, 4, .inl (fun _ => 0))), (x7, .inr (3, [.ref q0, .int 0, .int 0]))] := hD
      try dsimp only at hw17
      refine lv_aload_n hx hb dX10_keep_28 rfl (lv_at hl 0 rfl) ?_
      refine va_get (D := (dC, dI)) (ci := 10) (v := .ref x8) (C := RX10) (T := TX10) (N := 14) hx hb hts hi_X10 hown hK hP 0 rfl rfl 8 (by decide) (hts (.fieldLink RX10 56 "LeftQuills" "images" "LLeftQuills$Images;") (by decide +kernel)) (fun _ h9 => h9) rfl dX10_keep_29 ?_
      refine va_get (D := (dC, dI)) (ci := 4) (v := .ref i1) (C := RX4) (T := TX4) (N := 3) hx hb hts hi_X4 hown hK hP 1 rfl rfl 1 (by decide) (hts (.fieldLink RX10 297 "LeftQuills$Images" "seeds" "[I") (by decide +kernel)) (fun _ h9 => h9) rfl dX10_keep_32 ?_
      refine lv_iload_n hx hb dX10_keep_35 rfl (lv_at hl 1 rfl) ?_
      refine lv_aload_n hx hb dX10_keep_36 rfl (lv_at hl 0 rfl) ?_
      refine va_get (D := (dC, dI)) (ci := 10) (v := .int 0) (C := RX10) (T := TX10) (N := 14) hx hb hts hi_X10 hown hK hP 0 rfl rfl 3 (by decide) (hts (.fieldLink RX10 20 "LeftQuills" "seed" "I") (by decide +kernel)) (fun _ h9 => h9) rfl dX10_keep_37 ?_
      refine va_iast hx hb hK hP hD hS 3 0 rfl rfl (vp_in_iff.mpr ⟨by decide, by decide⟩) dX10_keep_40 (fun H locs hP hD hS => ?_)
      rw [x_upd0] at hP hD
      have hP : va_P (dC, dI) vwCl [(h0, .inr (10, [.ref x0, .int 0, .int (-1), .int 0, .ref x4, .ref x5, .ref x6, .ref x7, .ref x8, .ref x9, .ref x10, .ref x11, .ref x12, .ref x13])), (x8, .inr (4, [.ref i0, .ref i1, .ref i2])), (i0, .inl (cQ, 2, .inr (.inr (.inr (.inr (va_up (va_up (fun _ => none) (0 : Int32).toNatClampNeg (some d0)) (1 : Int32).toNatClampNeg (some d1))))))), (i1, .inl (cI, 2, .inl (fun _ => 0))), (i2, .inl (cZ, 2, .inl (fun _ => 0))), (d0, .inr (1, [.int 0, .int 0, .ref t2, .ref t3, .ref t4, .ref t5, .ref t6, .ref x4])), (t2, .inl (cI, 8, .inl (fun _ => 0))), (t3, .inl (cI, 8, .inl (fun _ => 0))), (t4, .inl (cI, 8, .inl (fun _ => 0))), (t5, .inl (cI, 4, .inl (fun _ => 0))), (t6, .inl (cI, 4, .inl (fun _ => 0))), (x7, .inr (3, [.ref q0, .int 0, .int 0]))] H := hP
      have hD : va_D A [(h0, .inr (10, [.ref x0, .int 0, .int (-1), .int 0, .ref x4, .ref x5, .ref x6, .ref x7, .ref x8, .ref x9, .ref x10, .ref x11, .ref x12, .ref x13])), (x8, .inr (4, [.ref i0, .ref i1, .ref i2])), (i0, .inl (cQ, 2, .inr (.inr (.inr (.inr (va_up (va_up (fun _ => none) (0 : Int32).toNatClampNeg (some d0)) (1 : Int32).toNatClampNeg (some d1))))))), (i1, .inl (cI, 2, .inl (fun _ => 0))), (i2, .inl (cZ, 2, .inl (fun _ => 0))), (d0, .inr (1, [.int 0, .int 0, .ref t2, .ref t3, .ref t4, .ref t5, .ref t6, .ref x4])), (t2, .inl (cI, 8, .inl (fun _ => 0))), (t3, .inl (cI, 8, .inl (fun _ => 0))), (t4, .inl (cI, 8, .inl (fun _ => 0))), (t5, .inl (cI, 4, .inl (fun _ => 0))), (t6, .inl (cI, 4, .inl (fun _ => 0))), (x7, .inr (3, [.ref q0, .int 0, .int 0]))] := hD
      refine lv_aload_n hx hb dX10_keep_41 rfl (lv_at hl 0 rfl) ?_
      refine va_get (D := (dC, dI)) (ci := 10) (v := .ref x8) (C := RX10) (T := TX10) (N := 14) hx hb hts hi_X10 hown hK hP 0 rfl rfl 8 (by decide) (hts (.fieldLink RX10 56 "LeftQuills" "images" "LLeftQuills$Images;") (by decide +kernel)) (fun _ h9 => h9) rfl dX10_keep_42 ?_
      refine va_get (D := (dC, dI)) (ci := 4) (v := .ref i2) (C := RX4) (T := TX4) (N := 3) hx hb hts hi_X4 hown hK hP 1 rfl rfl 2 (by decide) (hts (.fieldLink RX10 300 "LeftQuills$Images" "kept" "[Z") (by decide +kernel)) (fun _ h9 => h9) rfl dX10_keep_45 ?_
      refine lv_iload_n hx hb dX10_keep_48 rfl (lv_at hl 1 rfl) ?_
      refine lv_iconst (v := 1) hx hb dX10_keep_49 (by decide) ?_
      refine va_zast hx hb hK hP hD hS 4 1 rfl rfl (vp_in_iff.mpr ⟨by decide, by decide⟩) dX10_keep_50 (fun H locs hP hD hS => ?_)
      generalize hgf19 : upd _ _ _ = f19 at hP hD
      have hP : va_P (dC, dI) vwCl [(h0, .inr (10, [.ref x0, .int 0, .int (-1), .int 0, .ref x4, .ref x5, .ref x6, .ref x7, .ref x8, .ref x9, .ref x10, .ref x11, .ref x12, .ref x13])), (x8, .inr (4, [.ref i0, .ref i1, .ref i2])), (i0, .inl (cQ, 2, .inr (.inr (.inr (.inr (va_up (va_up (fun _ => none) (0 : Int32).toNatClampNeg (some d0)) (1 : Int32).toNatClampNeg (some d1))))))), (i1, .inl (cI, 2, .inl (fun _ => 0))), (i2, .inl (cZ, 2, .inl f19)), (d0, .inr (1, [.int 0, .int 0, .ref t2, .ref t3, .ref t4, .ref t5, .ref t6, .ref x4])), (t2, .inl (cI, 8, .inl (fun _ => 0))), (t3, .inl (cI, 8, .inl (fun _ => 0))), (t4, .inl (cI, 8, .inl (fun _ => 0))), (t5, .inl (cI, 4, .inl (fun _ => 0))), (t6, .inl (cI, 4, .inl (fun _ => 0))), (x7, .inr (3, [.ref q0, .int 0, .int 0]))] H := hP
      have hD : va_D A [(h0, .inr (10, [.ref x0, .int 0, .int (-1), .int 0, .ref x4, .ref x5, .ref x6, .ref x7, .ref x8, .ref x9, .ref x10, .ref x11, .ref x12, .ref x13])), (x8, .inr (4, [.ref i0, .ref i1, .ref i2])), (i0, .inl (cQ, 2, .inr (.inr (.inr (.inr (va_up (va_up (fun _ => none) (0 : Int32).toNatClampNeg (some d0)) (1 : Int32).toNatClampNeg (some d1))))))), (i1, .inl (cI, 2, .inl (fun _ => 0))), (i2, .inl (cZ, 2, .inl f19)), (d0, .inr (1, [.int 0, .int 0, .ref t2, .ref t3, .ref t4, .ref t5, .ref t6, .ref x4])), (t2, .inl (cI, 8, .inl (fun _ => 0))), (t3, .inl (cI, 8, .inl (fun _ => 0))), (t4, .inl (cI, 8, .inl (fun _ => 0))), (t5, .inl (cI, 4, .inl (fun _ => 0))), (t6, .inl (cI, 4, .inl (fun _ => 0))), (x7, .inr (3, [.ref q0, .int 0, .int 0]))] := hD
      refine lv_aload_n hx hb dX10_keep_51 rfl (lv_at hl 0 rfl) ?_
      refine va_get (D := (dC, dI)) (ci := 10) (v := .ref x7) (C := RX10) (T := TX10) (N := 14) hx hb hts hi_X10 hown hK hP 0 rfl rfl 7 (by decide) (hts (.fieldLink RX10 49 "LeftQuills" "history" "LLeftQuills$History;") (by decide +kernel)) (fun _ h9 => h9) rfl dX10_keep_52 ?_
      have hPc := hP.sub (ws' := [(x7, .inr (3, [.ref q0, .int 0, .int 0]))]) [11] rfl
      have hDc := hD.sub (ws' := [(x7, .inr (3, [.ref q0, .int 0, .int 0]))]) [11] (by decide) rfl
      have hFc := va_free (wc := [(x7, .inr (3, [.ref q0, .int 0, .int 0]))]) hD hS hA [11] rfl
      refine va_callv (va_runV (As := []) (rest := []) ⟨hx, hb, hml, hown, hts⟩ (c_X3_forget l dC dI cI cZ cQ x7 q0 H.size ) (cwV 0 hts gX10_keep_X3_forget rfl rfl rfl (by decide +kernel) ⟨Nat.le_of_ble_eq_true rfl, Nat.le_of_ble_eq_true rfl⟩) ⟨fun a U g mk q => by obtain ⟨q0, q1, qP, qK, qD⟩ := q; exact ⟨q0, q1, qP, va_K.moved (u := U) (U := U.calling g mk a) (Vm.Alike.refl U.vm) qK, qD⟩, va_recv hK hP (ci := 3) (q0 := 11) rfl rfl, fun U hU hW => ⟨rfl, by rw [hU], by rw [hU]; exact hPc, va_K.moved hW.alike hK, hDc.weaken (fun _ _ _ _ => trivial)⟩⟩ rfl rfl hl.1 rfl (lv_room (Nat.le_of_ble_eq_true rfl)) dX10_keep_55 ⟨Nat.le_of_ble_eq_true rfl, Nat.le_of_ble_eq_true rfl⟩) hS (fun q _ h => hFc q h) hFc (fun u21 t H1 locs ht hvm hw22 hB hz1 hk1 hS => ?_)
      obtain ⟨hP, hD⟩ := xjoin0 (wr := [(h0, .inr (10, [.ref x0, .int 0, .int (-1), .int 0, .ref x4, .ref x5, .ref x6, .ref x7, .ref x8, .ref x9, .ref x10, .ref x11, .ref x12, .ref x13])), (x8, .inr (4, [.ref i0, .ref i1, .ref i2])), (i0, .inl (cQ, 2, .inr (.inr (.inr (.inr (va_up (va_up (fun _ => none) (0 : Int32).toNatClampNeg (some d0)) (1 : Int32).toNatClampNeg (some d1))))))), (i1, .inl (cI, 2, .inl (fun _ => 0))), (i2, .inl (cZ, 2, .inl f19)), (d0, .inr (1, [.int 0, .int 0, .ref t2, .ref t3, .ref t4, .ref t5, .ref t6, .ref x4])), (t2, .inl (cI, 8, .inl (fun _ => 0))), (t3, .inl (cI, 8, .inl (fun _ => 0))), (t4, .inl (cI, 8, .inl (fun _ => 0))), (t5, .inl (cI, 4, .inl (fun _ => 0))), (t6, .inl (cI, 4, .inl (fun _ => 0)))]) hP hD [11] [0, 1, 2, 3, 4, 5, 6, 7, 8, 9, 10] rfl rfl (by decide) (by decide) hk1 hFc
      clear hz1 hk1 hPc hDc hFc
      generalize H1 = H at hP hS ht ⊢
      have hP : va_P (dC, dI) vwCl [(h0, .inr (10, [.ref x0, .int 0, .int (-1), .int 0, .ref x4, .ref x5, .ref x6, .ref x7, .ref x8, .ref x9, .ref x10, .ref x11, .ref x12, .ref x13])), (x8, .inr (4, [.ref i0, .ref i1, .ref i2])), (i0, .inl (cQ, 2, .inr (.inr (.inr (.inr (va_up (va_up (fun _ => none) (0 : Int32).toNatClampNeg (some d0)) (1 : Int32).toNatClampNeg (some d1))))))), (i1, .inl (cI, 2, .inl (fun _ => 0))), (i2, .inl (cZ, 2, .inl f19)), (d0, .inr (1, [.int 0, .int 0, .ref t2, .ref t3, .ref t4, .ref t5, .ref t6, .ref x4])), (t2, .inl (cI, 8, .inl (fun _ => 0))), (t3, .inl (cI, 8, .inl (fun _ => 0))), (t4, .inl (cI, 8, .inl (fun _ => 0))), (t5, .inl (cI, 4, .inl (fun _ => 0))), (t6, .inl (cI, 4, .inl (fun _ => 0)))] H := hP
      have hD : va_D A [(h0, .inr (10, [.ref x0, .int 0, .int (-1), .int 0, .ref x4, .ref x5, .ref x6, .ref x7, .ref x8, .ref x9, .ref x10, .ref x11, .ref x12, .ref x13])), (x8, .inr (4, [.ref i0, .ref i1, .ref i2])), (i0, .inl (cQ, 2, .inr (.inr (.inr (.inr (va_up (va_up (fun _ => none) (0 : Int32).toNatClampNeg (some d0)) (1 : Int32).toNatClampNeg (some d1))))))), (i1, .inl (cI, 2, .inl (fun _ => 0))), (i2, .inl (cZ, 2, .inl f19)), (d0, .inr (1, [.int 0, .int 0, .ref t2, .ref t3, .ref t4, .ref t5, .ref t6, .ref x4])), (t2, .inl (cI, 8, .inl (fun _ => 0))), (t3, .inl (cI, 8, .inl (fun _ => 0))), (t4, .inl (cI, 8, .inl (fun _ => 0))), (t5, .inl (cI, 4, .inl (fun _ => 0))), (t6, .inl (cI, 4, .inl (fun _ => 0)))] := hD
      try dsimp only at hw22
      refine lv_iconst (v := 1) hx hb dX10_keep_58 (by decide) ?_
      exact W.iret (v := 1) hx hb hr (fun t ht hW => ⟨⟨1, (fun _ => 0), rfl, (if_pos hw3).symm, trivial⟩, hS.F ht⟩) hS.2.2 dX10_keep_59
  ·
    refine lv_if_ne (tgt := 12) hx hb dX10_keep_6 (by decide) (fun c23 => ?_) (fun c23 => ?_)
    · exact absurd c23 (by decide)
    clear c23
    refine lv_ldc (v := (-1000000001)) hx hb hown (hts (.constant RX10 160 (-1000000001)) (by decide +kernel)) dX10_keep_9 ?_
    exact W.iret (v := (-1000000001)) hx hb hr (fun t ht hW => ⟨⟨(-1000000001), (fun _ => 0), rfl, (if_neg hw3).symm, trivial⟩, hS.F ht⟩) hS.2.2 dX10_keep_11
set_option maxHeartbeats 4000000 in
set_option maxRecDepth 100000 in
theorem c_X8_keepIfBetter (l : Launch) (dC : Nat → ClassId) (dI : Nat → Nat → Nat) (cI cZ cQ : ClassId) (h0 : Nat) (b1 : Nat) (ho : Nat) (htr : Nat) (b4 : Nat) (b5 : Nat) (sz : Nat)  : Met l yX8_keepIfBetter wsX8_keepIfBetter ({ frames := 1, cells := 0, slots := 0, locals := 40 }) (va_Pc [.ref h0, .int 0] (fun U => U.heap.size = sz ∧ va_P (dC, dI) vwCl [(h0, .inr (8, [.int (-1), .ref b1, .ref ho, .ref htr, .ref b4, .ref b5])), (b1, .inl (cI, 4, .inl (fun _ => 0))), (b4, .inl (cI, 4, .inl (fun _ => 0)))] U.heap ∧ va_K (dC, dI) vwCl (tys0 cI cZ cQ) U ∧ va_D (fun _ => True) [(h0, .inr (8, [.int (-1), .ref b1, .ref ho, .ref htr, .ref b4, .ref b5])), (b1, .inl (cI, 4, .inl (fun _ => 0))), (b4, .inl (cI, 4, .inl (fun _ => 0)))])) (va_Qv (fun (u : Nat → Nat) => True) (fun (u : Nat → Nat) (t : State) => va_P (dC, dI) vwCl [(h0, .inr (8, [.int 0, .ref b1, .ref ho, .ref htr, .ref b4, .ref b5]))] t.heap ∧ va_D (va_A [(h0, .inr (8, [.int (-1), .ref b1, .ref ho, .ref htr, .ref b4, .ref b5])), (b1, .inl (cI, 4, .inl (fun _ => 0))), (b4, .inl (cI, 4, .inl (fun _ => 0)))] sz) [(h0, .inr (8, [.int 0, .ref b1, .ref ho, .ref htr, .ref b4, .ref b5]))]) (va_A [(h0, .inr (8, [.int (-1), .ref b1, .ref ho, .ref htr, .ref b4, .ref b5])), (b1, .inl (cI, 4, .inl (fun _ => 0))), (b4, .inl (cI, 4, .inl (fun _ => 0)))] sz)) 0 0 (va_A [(h0, .inr (8, [.int (-1), .ref b1, .ref ho, .ref htr, .ref b4, .ref b5])), (b1, .inl (cI, 4, .inl (fun _ => 0))), (b4, .inl (cI, 4, .inl (fun _ => 0)))] sz) := by
  refine Met.ofW (cc := cX8_keepIfBetter) (maxL := 2) (ret := none) (by decide) rfl ?_
  intro p e s m args below meth c s₁ B hml hv
  obtain ⟨rfl, hsz, hP, hK, hD0⟩ := hv
  have hx := B.exec
  have hb := B.bytes
  have hr := B.returns
  have hts := atoms_spec (ws := wsX8_keepIfBetter) B.pre
  have hown : s.vm.findClass RX8 = some m.cls := findClass_of_methodNamed B.named
  have hlocks := B.notSynchronized
  have hi_X8 : ∀ w ∈ u_ws RX8 TX8 6, w ∈ wsX8_keepIfBetter := by decide +kernel
  subst hsz
  have hD := hD0.self (sz := s.heap.size)
  generalize hAe : va_A [(h0, .inr (8, [.int (-1), .ref b1, .ref ho, .ref htr, .ref b4, .ref b5])), (b1, .inl (cI, 4, .inl (fun _ => 0))), (b4, .inl (cI, 4, .inl (fun _ => 0)))] s.heap.size = A at hD ⊢
  have hA : ∀ q : Nat, s.heap.size ≤ q → A q := fun q h => by rw [← hAe]; exact Or.inr h
  have hS : va_S A s.heap s.heap [] := va_S.rf
  have hl := lv_entry ([.ref h0, .int 0]) (n := 2) (Nat.le_of_ble_eq_true rfl)
  rw [lg_entry_eq]
  generalize (lg_sl ([.ref h0, .int 0]) ++ List.replicate (2 - (lg_sl ([.ref h0, .int 0])).length) Slot.unset).toArray = ls at hl ⊢
  have hl : lv_has ls 2 [(0, .ref h0), (1, .int 0)] := hl
  refine lv_iload_n hx hb dX8_keepIfBetter_0 rfl (lv_at hl 1 rfl) ?_
  refine lv_aload_n hx hb dX8_keepIfBetter_1 rfl (lv_at hl 0 rfl) ?_
  refine va_get (D := (dC, dI)) (ci := 8) (v := .int (-1)) (C := RX8) (T := TX8) (N := 6) hx hb hts hi_X8 hown hK hP 0 rfl rfl 0 (by decide) (hts (.fieldLink RX8 9 "LeftQuills$Sharing" "best" "I") (by decide +kernel)) (fun _ h9 => h9) rfl dX8_keepIfBetter_2 ?_
  refine lv_icmp_le (tgt := 27) hx hb dX8_keepIfBetter_5 (by decide) (fun c1 => ?_) (fun c1 => ?_)
  · exact absurd c1 (by decide)
  clear c1
  refine lv_aload_n hx hb dX8_keepIfBetter_8 rfl (lv_at hl 0 rfl) ?_
  refine lv_iload_n hx hb dX8_keepIfBetter_9 rfl (lv_at hl 1 rfl) ?_
  refine va_put (D := (dC, dI)) (ci := 8) (v := .int 0) (ty := .int) (C := RX8) (T := TX8) (N := 6) hx hb hts hi_X8 tyX8 tyX8_ok nmX8 hown hK hP hD hS 0 rfl rfl 0 (by decide) (hts (.fieldLink RX8 9 "LeftQuills$Sharing" "best" "I") (by decide +kernel)) (fun _ h9 => h9) rfl (by decide +kernel) rfl rfl (Nat.le_of_ble_eq_true rfl) dX8_keepIfBetter_10 (fun H locs hP hD hS => ?_)
  have hP : va_P (dC, dI) vwCl [(h0, .inr (8, [.int 0, .ref b1, .ref ho, .ref htr, .ref b4, .ref b5])), (b1, .inl (cI, 4, .inl (fun _ => 0))), (b4, .inl (cI, 4, .inl (fun _ => 0)))] H := hP
  have hD : va_D A [(h0, .inr (8, [.int 0, .ref b1, .ref ho, .ref htr, .ref b4, .ref b5])), (b1, .inl (cI, 4, .inl (fun _ => 0))), (b4, .inl (cI, 4, .inl (fun _ => 0)))] := hD
  refine lv_aload_n hx hb dX8_keepIfBetter_13 rfl (lv_at hl 0 rfl) ?_
  refine va_get (D := (dC, dI)) (ci := 8) (v := .ref b4) (C := RX8) (T := TX8) (N := 6) hx hb hts hi_X8 hown hK hP 0 rfl rfl 4 (by decide) (hts (.fieldLink RX8 19 "LeftQuills$Sharing" "quillOf" "[I") (by decide +kernel)) (fun _ h9 => h9) rfl dX8_keepIfBetter_14 ?_
  refine lv_iconst (v := 0) hx hb dX8_keepIfBetter_17 (by decide) ?_
  refine lv_aload_n hx hb dX8_keepIfBetter_18 rfl (lv_at hl 0 rfl) ?_
  refine va_get (D := (dC, dI)) (ci := 8) (v := .ref b1) (C := RX8) (T := TX8) (N := 6) hx hb hts hi_X8 hown hK hP 0 rfl rfl 1 (by decide) (hts (.fieldLink RX8 15 "LeftQuills$Sharing" "bestQuill" "[I") (by decide +kernel)) (fun _ h9 => h9) rfl dX8_keepIfBetter_19 ?_
  refine lv_iconst (v := 0) hx hb dX8_keepIfBetter_22 (by decide) ?_
  refine lv_iconst (v := 4) hx hb dX8_keepIfBetter_23 (by decide) ?_
  refine va_copyi hx hb (hml.trans hl.1.symm) hown (hts (.methodLink RX8 59 arraycopyName) (by decide +kernel)) (hts (.native arraycopyName) (by decide +kernel)) (hts (.static arraycopyName) (by decide +kernel)) (hts (.initialized "java/lang/System") (by decide +kernel)) hK hP hD hS 2 1 0 0 rfl rfl rfl rfl rfl (by decide) (by decide) (by decide) (by decide) (by decide) (fun _ _ => rfl) (Nat.le_of_ble_eq_true rfl) (Nat.le_of_ble_eq_true rfl) dX8_keepIfBetter_24 (fun H locs hP hD hS => ?_)
  generalize hgf2 : va_cpy _ _ _ _ _ = f2 at hP hD
  have hP : va_P (dC, dI) vwCl [(h0, .inr (8, [.int 0, .ref b1, .ref ho, .ref htr, .ref b4, .ref b5])), (b1, .inl (cI, 4, .inl f2)), (b4, .inl (cI, 4, .inl (fun _ => 0)))] H := hP
  have hD : va_D A [(h0, .inr (8, [.int 0, .ref b1, .ref ho, .ref htr, .ref b4, .ref b5])), (b1, .inl (cI, 4, .inl f2)), (b4, .inl (cI, 4, .inl (fun _ => 0)))] := hD
  have hP9 := hP.sub (ws' := [(h0, .inr (8, [.int 0, .ref b1, .ref ho, .ref htr, .ref b4, .ref b5]))]) [0] rfl
  have hD9 := hD.sub (ws' := [(h0, .inr (8, [.int 0, .ref b1, .ref ho, .ref htr, .ref b4, .ref b5]))]) [0] (by decide) rfl
  exact W.vret hx hb hr (fun t ht hW => ⟨⟨(vn []), rfl, by first | trivial | rfl | (simp_all; done), ⟨by rw [ht]; exact hP9, hD9⟩⟩, hS.F ht⟩) hS.2.2 dX8_keepIfBetter_27
set_option maxHeartbeats 4000000 in
set_option maxRecDepth 100000 in
theorem c_X8_giveFrom (l : Launch) (dC : Nat → ClassId) (dI : Nat → Nat → Nat) (cI cZ cQ : ClassId) (h0 : Nat) (b1 : Nat) (ho : Nat) (htr : Nat) (b4 : Nat) (b5 : Nat) (f_ho : List Value) (sz : Nat) (e_ho_3 : f_ho[3]? = some (.int 0)) (e_ho_4 : f_ho[4]? = some (.int 0)) : Met l yX8_giveFrom wsX8_giveFrom ({ frames := 2, cells := 0, slots := 0, locals := 61 }) (va_Pc [.ref h0, .int 0, .int 0, .int 0] (fun U => U.heap.size = sz ∧ va_P (dC, dI) vwCl [(h0, .inr (8, [.int (-1), .ref b1, .ref ho, .ref htr, .ref b4, .ref b5])), (ho, .inr (5, f_ho)), (b1, .inl (cI, 4, .inl (fun _ => 0))), (b4, .inl (cI, 4, .inl (fun _ => 0)))] U.heap ∧ va_K (dC, dI) vwCl (tys0 cI cZ cQ) U ∧ va_D (fun _ => True) [(h0, .inr (8, [.int (-1), .ref b1, .ref ho, .ref htr, .ref b4, .ref b5])), (ho, .inr (5, f_ho)), (b1, .inl (cI, 4, .inl (fun _ => 0))), (b4, .inl (cI, 4, .inl (fun _ => 0)))])) (va_Qv (fun (u : Nat → Nat) => True) (fun (u : Nat → Nat) (t : State) => va_P (dC, dI) vwCl [(h0, .inr (8, [.int 0, .ref b1, .ref ho, .ref htr, .ref b4, .ref b5]))] t.heap ∧ va_D (va_A [(h0, .inr (8, [.int (-1), .ref b1, .ref ho, .ref htr, .ref b4, .ref b5])), (ho, .inr (5, f_ho)), (b1, .inl (cI, 4, .inl (fun _ => 0))), (b4, .inl (cI, 4, .inl (fun _ => 0)))] sz) [(h0, .inr (8, [.int 0, .ref b1, .ref ho, .ref htr, .ref b4, .ref b5]))]) (va_A [(h0, .inr (8, [.int (-1), .ref b1, .ref ho, .ref htr, .ref b4, .ref b5])), (ho, .inr (5, f_ho)), (b1, .inl (cI, 4, .inl (fun _ => 0))), (b4, .inl (cI, 4, .inl (fun _ => 0)))] sz)) 0 0 (va_A [(h0, .inr (8, [.int (-1), .ref b1, .ref ho, .ref htr, .ref b4, .ref b5])), (ho, .inr (5, f_ho)), (b1, .inl (cI, 4, .inl (fun _ => 0))), (b4, .inl (cI, 4, .inl (fun _ => 0)))] sz) := by
  refine Met.ofW (cc := cX8_giveFrom) (maxL := 5) (ret := none) (by decide) rfl ?_
  intro p e s m args below meth c s₁ B hml hv
  obtain ⟨rfl, hsz, hP, hK, hD0⟩ := hv
  have hx := B.exec
  have hb := B.bytes
  have hr := B.returns
  have hts := atoms_spec (ws := wsX8_giveFrom) B.pre
  have hown : s.vm.findClass RX8 = some m.cls := findClass_of_methodNamed B.named
  have hlocks := B.notSynchronized
  have hi_X5 : ∀ w ∈ u_ws RX5 TX5 13, w ∈ wsX8_giveFrom := by decide +kernel
  have hi_X8 : ∀ w ∈ u_ws RX8 TX8 6, w ∈ wsX8_giveFrom := by decide +kernel
  subst hsz
  have hD := hD0.self (sz := s.heap.size)
  generalize hAe : va_A [(h0, .inr (8, [.int (-1), .ref b1, .ref ho, .ref htr, .ref b4, .ref b5])), (ho, .inr (5, f_ho)), (b1, .inl (cI, 4, .inl (fun _ => 0))), (b4, .inl (cI, 4, .inl (fun _ => 0)))] s.heap.size = A at hD ⊢
  have hA : ∀ q : Nat, s.heap.size ≤ q → A q := fun q h => by rw [← hAe]; exact Or.inr h
  have hS : va_S A s.heap s.heap [] := va_S.rf
  have hl := lv_entry ([.ref h0, .int 0, .int 0, .int 0]) (n := 5) (Nat.le_of_ble_eq_true rfl)
  rw [lg_entry_eq]
  generalize (lg_sl ([.ref h0, .int 0, .int 0, .int 0]) ++ List.replicate (5 - (lg_sl ([.ref h0, .int 0, .int 0, .int 0])).length) Slot.unset).toArray = ls at hl ⊢
  have hl : lv_has ls 5 [(0, .ref h0), (1, .int 0), (2, .int 0), (3, .int 0)] := hl
  refine lv_iload_n hx hb dX8_giveFrom_0 rfl (lv_at hl 1 rfl) ?_
  refine lv_aload_n hx hb dX8_giveFrom_1 rfl (lv_at hl 0 rfl) ?_
  refine va_get (D := (dC, dI)) (ci := 8) (v := .ref ho) (C := RX8) (T := TX8) (N := 6) hx hb hts hi_X8 hown hK hP 0 rfl rfl 2 (by decide) (hts (.fieldLink RX8 25 "LeftQuills$Sharing" "office" "LLeftQuills$Office;") (by decide +kernel)) (fun _ h9 => h9) rfl dX8_giveFrom_2 ?_
  refine va_get (D := (dC, dI)) (ci := 5) (v := .int 0) (C := RX5) (T := TX5) (N := 13) hx hb hts hi_X5 hown hK hP 1 rfl rfl 4 (by decide) (hts (.fieldLink RX8 33 "LeftQuills$Office" "hands" "I") (by decide +kernel)) (fun _ h9 => h9) e_ho_4 dX8_giveFrom_5 ?_
  refine lv_icmp_ge (tgt := 16) hx hb dX8_giveFrom_8 (by decide) (fun c1 => ?_) (fun c1 => ?_)
  rotate_left
  · exact absurd c1 (by decide)
  clear c1
  refine lv_aload_n hx hb dX8_giveFrom_16 rfl (lv_at hl 0 rfl) ?_
  refine lv_iload_n hx hb dX8_giveFrom_17 rfl (lv_at hl 3 rfl) ?_
  have hPc := hP.sub (ws' := [(h0, .inr (8, [.int (-1), .ref b1, .ref ho, .ref htr, .ref b4, .ref b5])), (b1, .inl (cI, 4, .inl (fun _ => 0))), (b4, .inl (cI, 4, .inl (fun _ => 0)))]) [0, 2, 3] rfl
  have hDc := hD.sub (ws' := [(h0, .inr (8, [.int (-1), .ref b1, .ref ho, .ref htr, .ref b4, .ref b5])), (b1, .inl (cI, 4, .inl (fun _ => 0))), (b4, .inl (cI, 4, .inl (fun _ => 0)))]) [0, 2, 3] (by decide) rfl
  have hFc := va_free (wc := [(h0, .inr (8, [.int (-1), .ref b1, .ref ho, .ref htr, .ref b4, .ref b5])), (b1, .inl (cI, 4, .inl (fun _ => 0))), (b4, .inl (cI, 4, .inl (fun _ => 0)))]) hD hS hA [0, 2, 3] rfl
  refine va_callv (va_runV (As := [.int 0]) (rest := []) ⟨hx, hb, hml, hown, hts⟩ (c_X8_keepIfBetter l dC dI cI cZ cQ h0 b1 ho htr b4 b5 s.heap.size ) (cwV 1 hts gX8_giveFrom_X8_keepIfBetter rfl rfl rfl (by decide +kernel) ⟨Nat.le_of_ble_eq_true rfl, Nat.le_of_ble_eq_true rfl⟩) ⟨fun a U g mk q => by obtain ⟨q0, q1, qP, qK, qD⟩ := q; exact ⟨q0, q1, qP, va_K.moved (u := U) (U := U.calling g mk a) (Vm.Alike.refl U.vm) qK, qD⟩, va_recv hK hP (ci := 8) (q0 := 0) rfl rfl, fun U hU hW => ⟨rfl, by rw [hU], by rw [hU]; exact hPc, va_K.moved hW.alike hK, hDc.weaken (fun _ _ _ _ => trivial)⟩⟩ rfl rfl hl.1 rfl (lv_room (Nat.le_of_ble_eq_true rfl)) dX8_giveFrom_18 ⟨Nat.le_of_ble_eq_true rfl, Nat.le_of_ble_eq_true rfl⟩) hS (fun q _ h => hFc q h) hFc (fun u3 t H1 locs ht hvm hw4 hB hz1 hk1 hS => ?_)
  obtain ⟨hP1, hD1⟩ := hB
  rw [ht] at hP1
  obtain ⟨hP, hD⟩ := va_join (wr := [(ho, .inr (5, f_ho))]) (w1 := [(h0, .inr (8, [.int 0, .ref b1, .ref ho, .ref htr, .ref b4, .ref b5]))]) hP hD [0, 2, 3] [1] rfl rfl (by decide) (by decide) hk1 hFc hP1 hD1
  clear hP1 hD1
  clear hz1 hk1 hPc hDc hFc
  generalize H1 = H at hP hS ht ⊢
  have hP : va_P (dC, dI) vwCl [(ho, .inr (5, f_ho)), (h0, .inr (8, [.int 0, .ref b1, .ref ho, .ref htr, .ref b4, .ref b5]))] H := hP
  have hD : va_D A [(ho, .inr (5, f_ho)), (h0, .inr (8, [.int 0, .ref b1, .ref ho, .ref htr, .ref b4, .ref b5]))] := hD
  try dsimp only at hw4
  have hP9 := hP.sub (ws' := [(h0, .inr (8, [.int 0, .ref b1, .ref ho, .ref htr, .ref b4, .ref b5]))]) [1] rfl
  have hD9 := hD.sub (ws' := [(h0, .inr (8, [.int 0, .ref b1, .ref ho, .ref htr, .ref b4, .ref b5]))]) [1] (by decide) rfl
  exact W.vret hx hb hr (fun t ht hW => ⟨⟨(vn []), rfl, by first | trivial | rfl | (simp_all; done), ⟨by rw [ht]; exact hP9, hD9⟩⟩, hS.F ht⟩) hS.2.2 dX8_giveFrom_21
set_option maxHeartbeats 4000000 in
set_option maxRecDepth 100000 in
theorem c_X8_find (l : Launch) (dC : Nat → ClassId) (dI : Nat → Nat → Nat) (cI cZ cQ : ClassId) (h0 : Nat) (b1 : Nat) (ho : Nat) (htr : Nat) (b4 : Nat) (b5 : Nat) (f_ho : List Value) (sz : Nat) (e_ho_3 : f_ho[3]? = some (.int 0)) (e_ho_4 : f_ho[4]? = some (.int 0)) : Met l yX8_find wsX8_find ({ frames := 3, cells := 0, slots := 0, locals := 85 }) (va_Pc [.ref h0] (fun U => U.heap.size = sz ∧ va_P (dC, dI) vwCl [(h0, .inr (8, [.int (-1), .ref b1, .ref ho, .ref htr, .ref b4, .ref b5])), (ho, .inr (5, f_ho)), (b1, .inl (cI, 4, .inl (fun _ => 0))), (b4, .inl (cI, 4, .inl (fun _ => 0)))] U.heap ∧ va_K (dC, dI) vwCl (tys0 cI cZ cQ) U ∧ va_D (fun _ => True) [(h0, .inr (8, [.int (-1), .ref b1, .ref ho, .ref htr, .ref b4, .ref b5])), (ho, .inr (5, f_ho)), (b1, .inl (cI, 4, .inl (fun _ => 0))), (b4, .inl (cI, 4, .inl (fun _ => 0)))])) (va_Qv (fun (u : Nat → Nat) => True) (fun (u : Nat → Nat) (t : State) => va_P (dC, dI) vwCl [(h0, .inr (8, [.int 0, .ref b1, .ref ho, .ref htr, .ref b4, .ref b5]))] t.heap ∧ va_D (va_A [(h0, .inr (8, [.int (-1), .ref b1, .ref ho, .ref htr, .ref b4, .ref b5])), (ho, .inr (5, f_ho)), (b1, .inl (cI, 4, .inl (fun _ => 0))), (b4, .inl (cI, 4, .inl (fun _ => 0)))] sz) [(h0, .inr (8, [.int 0, .ref b1, .ref ho, .ref htr, .ref b4, .ref b5]))]) (va_A [(h0, .inr (8, [.int (-1), .ref b1, .ref ho, .ref htr, .ref b4, .ref b5])), (ho, .inr (5, f_ho)), (b1, .inl (cI, 4, .inl (fun _ => 0))), (b4, .inl (cI, 4, .inl (fun _ => 0)))] sz)) 0 0 (va_A [(h0, .inr (8, [.int (-1), .ref b1, .ref ho, .ref htr, .ref b4, .ref b5])), (ho, .inr (5, f_ho)), (b1, .inl (cI, 4, .inl (fun _ => 0))), (b4, .inl (cI, 4, .inl (fun _ => 0)))] sz) := by
  refine Met.ofW (cc := cX8_find) (maxL := 3) (ret := none) (by decide) rfl ?_
  intro p e s m args below meth c s₁ B hml hv
  obtain ⟨rfl, hsz, hP, hK, hD0⟩ := hv
  have hx := B.exec
  have hb := B.bytes
  have hr := B.returns
  have hts := atoms_spec (ws := wsX8_find) B.pre
  have hown : s.vm.findClass RX8 = some m.cls := findClass_of_methodNamed B.named
  have hlocks := B.notSynchronized
  have hi_X5 : ∀ w ∈ u_ws RX5 TX5 13, w ∈ wsX8_find := by decide +kernel
  have hi_X8 : ∀ w ∈ u_ws RX8 TX8 6, w ∈ wsX8_find := by decide +kernel
  subst hsz
  have hD := hD0.self (sz := s.heap.size)
  generalize hAe : va_A [(h0, .inr (8, [.int (-1), .ref b1, .ref ho, .ref htr, .ref b4, .ref b5])), (ho, .inr (5, f_ho)), (b1, .inl (cI, 4, .inl (fun _ => 0))), (b4, .inl (cI, 4, .inl (fun _ => 0)))] s.heap.size = A at hD ⊢
  have hA : ∀ q : Nat, s.heap.size ≤ q → A q := fun q h => by rw [← hAe]; exact Or.inr h
  have hS : va_S A s.heap s.heap [] := va_S.rf
  have hl := lv_entry ([.ref h0]) (n := 3) (Nat.le_of_ble_eq_true rfl)
  rw [lg_entry_eq]
  generalize (lg_sl ([.ref h0]) ++ List.replicate (3 - (lg_sl ([.ref h0])).length) Slot.unset).toArray = ls at hl ⊢
  have hl : lv_has ls 3 [(0, .ref h0)] := hl
  refine lv_iconst (v := 0) hx hb dX8_find_0 (by decide) ?_
  refine lv_istore_n (lv' := [(1, .int 0), (0, .ref h0)]) hx hb dX8_find_1 rfl hl (by decide) rfl (fun ls hl => ?_)
  refine lv_iload_n hx hb dX8_find_2 rfl (lv_at hl 0 rfl) ?_
  refine lv_aload_n hx hb dX8_find_3 rfl (lv_at hl 1 rfl) ?_
  refine va_get (D := (dC, dI)) (ci := 8) (v := .ref ho) (C := RX8) (T := TX8) (N := 6) hx hb hts hi_X8 hown hK hP 0 rfl rfl 2 (by decide) (hts (.fieldLink RX8 25 "LeftQuills$Sharing" "office" "LLeftQuills$Office;") (by decide +kernel)) (fun _ h9 => h9) rfl dX8_find_4 ?_
  refine va_get (D := (dC, dI)) (ci := 5) (v := .int 0) (C := RX5) (T := TX5) (N := 13) hx hb hts hi_X5 hown hK hP 1 rfl rfl 4 (by decide) (hts (.fieldLink RX8 33 "LeftQuills$Office" "hands" "I") (by decide +kernel)) (fun _ h9 => h9) e_ho_4 dX8_find_7 ?_
  refine lv_icmp_ge (tgt := 58) hx hb dX8_find_10 (by decide) (fun c1 => ?_) (fun c1 => ?_)
  rotate_left
  · exact absurd c1 (by decide)
  clear c1
  refine lv_aload_n hx hb dX8_find_58 rfl (lv_at hl 1 rfl) ?_
  refine lv_iconst (v := (-1)) hx hb dX8_find_59 (by decide) ?_
  refine va_put (D := (dC, dI)) (ci := 8) (v := .int (-1)) (ty := .int) (C := RX8) (T := TX8) (N := 6) hx hb hts hi_X8 tyX8 tyX8_ok nmX8 hown hK hP hD hS 0 rfl rfl 0 (by decide) (hts (.fieldLink RX8 9 "LeftQuills$Sharing" "best" "I") (by decide +kernel)) (fun _ h9 => h9) rfl (by decide +kernel) rfl rfl (Nat.le_of_ble_eq_true rfl) dX8_find_60 (fun H locs hP hD hS => ?_)
  have hP : va_P (dC, dI) vwCl [(h0, .inr (8, [.int (-1), .ref b1, .ref ho, .ref htr, .ref b4, .ref b5])), (ho, .inr (5, f_ho)), (b1, .inl (cI, 4, .inl (fun _ => 0))), (b4, .inl (cI, 4, .inl (fun _ => 0)))] H := hP
  have hD : va_D A [(h0, .inr (8, [.int (-1), .ref b1, .ref ho, .ref htr, .ref b4, .ref b5])), (ho, .inr (5, f_ho)), (b1, .inl (cI, 4, .inl (fun _ => 0))), (b4, .inl (cI, 4, .inl (fun _ => 0)))] := hD
  refine lv_aload_n hx hb dX8_find_63 rfl (lv_at hl 1 rfl) ?_
  refine lv_iconst (v := 0) hx hb dX8_find_64 (by decide) ?_
  refine lv_iconst (v := 0) hx hb dX8_find_65 (by decide) ?_
  refine lv_iconst (v := 0) hx hb dX8_find_66 (by decide) ?_
  have hPc := hP.sub (ws' := [(h0, .inr (8, [.int (-1), .ref b1, .ref ho, .ref htr, .ref b4, .ref b5])), (ho, .inr (5, f_ho)), (b1, .inl (cI, 4, .inl (fun _ => 0))), (b4, .inl (cI, 4, .inl (fun _ => 0)))]) [0, 1, 2, 3] rfl
  have hDc := hD.sub (ws' := [(h0, .inr (8, [.int (-1), .ref b1, .ref ho, .ref htr, .ref b4, .ref b5])), (ho, .inr (5, f_ho)), (b1, .inl (cI, 4, .inl (fun _ => 0))), (b4, .inl (cI, 4, .inl (fun _ => 0)))]) [0, 1, 2, 3] (by decide) rfl
  have hFc := va_free (wc := [(h0, .inr (8, [.int (-1), .ref b1, .ref ho, .ref htr, .ref b4, .ref b5])), (ho, .inr (5, f_ho)), (b1, .inl (cI, 4, .inl (fun _ => 0))), (b4, .inl (cI, 4, .inl (fun _ => 0)))]) hD hS hA [0, 1, 2, 3] rfl
  refine va_callv (va_runV (As := [.int 0, .int 0, .int 0]) (rest := []) ⟨hx, hb, hml, hown, hts⟩ (c_X8_giveFrom l dC dI cI cZ cQ h0 b1 ho htr b4 b5 f_ho H.size e_ho_3 e_ho_4) (cwV 3 hts gX8_find_X8_giveFrom rfl rfl rfl (by decide +kernel) ⟨Nat.le_of_ble_eq_true rfl, Nat.le_of_ble_eq_true rfl⟩) ⟨fun a U g mk q => by obtain ⟨q0, q1, qP, qK, qD⟩ := q; exact ⟨q0, q1, qP, va_K.moved (u := U) (U := U.calling g mk a) (Vm.Alike.refl U.vm) qK, qD⟩, va_recv hK hP (ci := 8) (q0 := 0) rfl rfl, fun U hU hW => ⟨rfl, by rw [hU], by rw [hU]; exact hPc, va_K.moved hW.alike hK, hDc.weaken (fun _ _ _ _ => trivial)⟩⟩ rfl rfl hl.1 rfl (lv_room (Nat.le_of_ble_eq_true rfl)) dX8_find_67 ⟨Nat.le_of_ble_eq_true rfl, Nat.le_of_ble_eq_true rfl⟩) hS (fun q _ h => hFc q h) hFc (fun u3 t H1 locs ht hvm hw4 hB hz1 hk1 hS => ?_)
  obtain ⟨hP1, hD1⟩ := hB
  rw [ht] at hP1
  obtain ⟨hP, hD⟩ := va_join (wr := []) (w1 := [(h0, .inr (8, [.int 0, .ref b1, .ref ho, .ref htr, .ref b4, .ref b5]))]) hP hD [0, 1, 2, 3] [] rfl rfl (by decide) (by decide) hk1 hFc hP1 hD1
  clear hP1 hD1
  clear hz1 hk1 hPc hDc hFc
  generalize H1 = H at hP hS ht ⊢
  have hP : va_P (dC, dI) vwCl [(h0, .inr (8, [.int 0, .ref b1, .ref ho, .ref htr, .ref b4, .ref b5]))] H := hP
  have hD : va_D A [(h0, .inr (8, [.int 0, .ref b1, .ref ho, .ref htr, .ref b4, .ref b5]))] := hD
  try dsimp only at hw4
  have hP9 := hP.sub (ws' := [(h0, .inr (8, [.int 0, .ref b1, .ref ho, .ref htr, .ref b4, .ref b5]))]) [0] rfl
  have hD9 := hD.sub (ws' := [(h0, .inr (8, [.int 0, .ref b1, .ref ho, .ref htr, .ref b4, .ref b5]))]) [0] (by decide) rfl
  exact W.vret hx hb hr (fun t ht hW => ⟨⟨(vn []), rfl, by first | trivial | rfl | (simp_all; done), ⟨by rw [ht]; exact hP9, hD9⟩⟩, hS.F ht⟩) hS.2.2 dX8_find_70
set_option maxHeartbeats 4000000 in
set_option maxRecDepth 100000 in
theorem c_X10_toWhom (l : Launch) (dC : Nat → ClassId) (dI : Nat → Nat → Nat) (cI cZ cQ : ClassId) (h0 : Nat) (x0 : Nat) (x4 : Nat) (x5 : Nat) (x6 : Nat) (x7 : Nat) (x8 : Nat) (x9 : Nat) (x10 : Nat) (x11 : Nat) (x12 : Nat) (x13 : Nat) (a0 : Int32) (b1 : Nat) (b4 : Nat) (b5 : Nat) (f_ho : List Value) (sz : Nat) (e_ho_3 : f_ho[3]? = some (.int 0)) (e_ho_4 : f_ho[4]? = some (.int 0)) : Met l yX10_toWhom wsX10_toWhom ({ frames := 4, cells := 0, slots := 0, locals := 107 }) (va_Pc [.ref h0, .int a0] (fun U => U.heap.size = sz ∧ va_P (dC, dI) vwCl [(h0, .inr (10, [.ref x0, .int 0, .int (-1), .int 0, .ref x4, .ref x5, .ref x6, .ref x7, .ref x8, .ref x9, .ref x10, .ref x11, .ref x12, .ref x13])), (x4, .inr (5, f_ho)), (x10, .inr (8, [.int (-1), .ref b1, .ref x4, .ref x9, .ref b4, .ref b5])), (b1, .inl (cI, 4, .inl (fun _ => 0))), (b4, .inl (cI, 4, .inl (fun _ => 0)))] U.heap ∧ va_K (dC, dI) vwCl (tys0 cI cZ cQ) U ∧ va_D (fun _ => True) [(h0, .inr (10, [.ref x0, .int 0, .int (-1), .int 0, .ref x4, .ref x5, .ref x6, .ref x7, .ref x8, .ref x9, .ref x10, .ref x11, .ref x12, .ref x13])), (x4, .inr (5, f_ho)), (x10, .inr (8, [.int (-1), .ref b1, .ref x4, .ref x9, .ref b4, .ref b5])), (b1, .inl (cI, 4, .inl (fun _ => 0))), (b4, .inl (cI, 4, .inl (fun _ => 0)))])) (va_Qi (fun (r : Int32) (u : Nat → Nat) => r = if a0 = (-1) then 0 else (-1000000001)) (fun (_ : Nat → Nat) (_ : State) => True) (va_A [(h0, .inr (10, [.ref x0, .int 0, .int (-1), .int 0, .ref x4, .ref x5, .ref x6, .ref x7, .ref x8, .ref x9, .ref x10, .ref x11, .ref x12, .ref x13])), (x4, .inr (5, f_ho)), (x10, .inr (8, [.int (-1), .ref b1, .ref x4, .ref x9, .ref b4, .ref b5])), (b1, .inl (cI, 4, .inl (fun _ => 0))), (b4, .inl (cI, 4, .inl (fun _ => 0)))] sz)) 0 0 (va_A [(h0, .inr (10, [.ref x0, .int 0, .int (-1), .int 0, .ref x4, .ref x5, .ref x6, .ref x7, .ref x8, .ref x9, .ref x10, .ref x11, .ref x12, .ref x13])), (x4, .inr (5, f_ho)), (x10, .inr (8, [.int (-1), .ref b1, .ref x4, .ref x9, .ref b4, .ref b5])), (b1, .inl (cI, 4, .inl (fun _ => 0))), (b4, .inl (cI, 4, .inl (fun _ => 0)))] sz) := by
  refine Met.ofW (cc := cX10_toWhom) (maxL := 2) (ret := (some .int)) (by decide) rfl ?_
  intro p e s m args below meth c s₁ B hml hv
  obtain ⟨rfl, hsz, hP, hK, hD0⟩ := hv
  have hx := B.exec
  have hb := B.bytes
  have hr := B.returns
  have hts := atoms_spec (ws := wsX10_toWhom) B.pre
  have hown : s.vm.findClass RX10 = some m.cls := findClass_of_methodNamed B.named
  have hlocks := B.notSynchronized
  have hi_X10 : ∀ w ∈ u_ws RX10 TX10 14, w ∈ wsX10_toWhom := by decide +kernel
  have hi_X5 : ∀ w ∈ u_ws RX5 TX5 13, w ∈ wsX10_toWhom := by decide +kernel
  have hi_X8 : ∀ w ∈ u_ws RX8 TX8 6, w ∈ wsX10_toWhom := by decide +kernel
  subst hsz
  have hD := hD0.self (sz := s.heap.size)
  generalize hAe : va_A [(h0, .inr (10, [.ref x0, .int 0, .int (-1), .int 0, .ref x4, .ref x5, .ref x6, .ref x7, .ref x8, .ref x9, .ref x10, .ref x11, .ref x12, .ref x13])), (x4, .inr (5, f_ho)), (x10, .inr (8, [.int (-1), .ref b1, .ref x4, .ref x9, .ref b4, .ref b5])), (b1, .inl (cI, 4, .inl (fun _ => 0))), (b4, .inl (cI, 4, .inl (fun _ => 0)))] s.heap.size = A at hD ⊢
  have hA : ∀ q : Nat, s.heap.size ≤ q → A q := fun q h => by rw [← hAe]; exact Or.inr h
  have hS : va_S A s.heap s.heap [] := va_S.rf
  have hl := lv_entry ([.ref h0, .int a0]) (n := 2) (Nat.le_of_ble_eq_true rfl)
  rw [lg_entry_eq]
  generalize (lg_sl ([.ref h0, .int a0]) ++ List.replicate (2 - (lg_sl ([.ref h0, .int a0])).length) Slot.unset).toArray = ls at hl ⊢
  have hl : lv_has ls 2 [(0, .ref h0), (1, .int a0)] := hl
  refine lv_iload_n hx hb dX10_toWhom_0 rfl (lv_at hl 1 rfl) ?_
  refine lv_iconst (v := (-1)) hx hb dX10_toWhom_1 (by decide) ?_
  refine lv_icmp_eq (tgt := 16) hx hb dX10_toWhom_2 (by decide) (fun c1 => ?_) (fun c1 => ?_)
  ·
    refine lv_aload_n hx hb dX10_toWhom_16 rfl (lv_at hl 0 rfl) ?_
    refine va_get (D := (dC, dI)) (ci := 10) (v := .ref x4) (C := RX10) (T := TX10) (N := 14) hx hb hts hi_X10 hown hK hP 0 rfl rfl 4 (by decide) (hts (.fieldLink RX10 26 "LeftQuills" "office" "LLeftQuills$Office;") (by decide +kernel)) (fun _ h9 => h9) rfl dX10_toWhom_17 ?_
    refine va_get (D := (dC, dI)) (ci := 5) (v := .int 0) (C := RX5) (T := TX5) (N := 13) hx hb hts hi_X5 hown hK hP 1 rfl rfl 3 (by decide) (hts (.fieldLink RX10 127 "LeftQuills$Office" "quills" "I") (by decide +kernel)) (fun _ h9 => h9) e_ho_3 dX10_toWhom_20 ?_
    refine lv_aload_n hx hb dX10_toWhom_23 rfl (lv_at hl 0 rfl) ?_
    refine va_get (D := (dC, dI)) (ci := 10) (v := .ref x4) (C := RX10) (T := TX10) (N := 14) hx hb hts hi_X10 hown hK hP 0 rfl rfl 4 (by decide) (hts (.fieldLink RX10 26 "LeftQuills" "office" "LLeftQuills$Office;") (by decide +kernel)) (fun _ h9 => h9) rfl dX10_toWhom_24 ?_
    refine va_get (D := (dC, dI)) (ci := 5) (v := .int 0) (C := RX5) (T := TX5) (N := 13) hx hb hts hi_X5 hown hK hP 1 rfl rfl 4 (by decide) (hts (.fieldLink RX10 136 "LeftQuills$Office" "hands" "I") (by decide +kernel)) (fun _ h9 => h9) e_ho_4 dX10_toWhom_27 ?_
    refine lv_icmp_ge (tgt := 35) hx hb dX10_toWhom_30 (by decide) (fun c2 => ?_) (fun c2 => ?_)
    rotate_left
    · exact absurd c2 (by decide)
    clear c2
    refine lv_aload_n hx hb dX10_toWhom_35 rfl (lv_at hl 0 rfl) ?_
    refine va_get (D := (dC, dI)) (ci := 10) (v := .ref x10) (C := RX10) (T := TX10) (N := 14) hx hb hts hi_X10 hown hK hP 0 rfl rfl 10 (by decide) (hts (.fieldLink RX10 74 "LeftQuills" "sharing" "LLeftQuills$Sharing;") (by decide +kernel)) (fun _ h9 => h9) rfl dX10_toWhom_36 ?_
    have hPc := hP.sub (ws' := [(x10, .inr (8, [.int (-1), .ref b1, .ref x4, .ref x9, .ref b4, .ref b5])), (x4, .inr (5, f_ho)), (b1, .inl (cI, 4, .inl (fun _ => 0))), (b4, .inl (cI, 4, .inl (fun _ => 0)))]) [2, 1, 3, 4] rfl
    have hDc := hD.sub (ws' := [(x10, .inr (8, [.int (-1), .ref b1, .ref x4, .ref x9, .ref b4, .ref b5])), (x4, .inr (5, f_ho)), (b1, .inl (cI, 4, .inl (fun _ => 0))), (b4, .inl (cI, 4, .inl (fun _ => 0)))]) [2, 1, 3, 4] (by decide) rfl
    have hFc := va_free (wc := [(x10, .inr (8, [.int (-1), .ref b1, .ref x4, .ref x9, .ref b4, .ref b5])), (x4, .inr (5, f_ho)), (b1, .inl (cI, 4, .inl (fun _ => 0))), (b4, .inl (cI, 4, .inl (fun _ => 0)))]) hD hS hA [2, 1, 3, 4] rfl
    refine va_callv (va_runV (As := []) (rest := []) ⟨hx, hb, hml, hown, hts⟩ (c_X8_find l dC dI cI cZ cQ x10 b1 x4 x9 b4 b5 f_ho s.heap.size e_ho_3 e_ho_4) (cwV 0 hts gX10_toWhom_X8_find rfl rfl rfl (by decide +kernel) ⟨Nat.le_of_ble_eq_true rfl, Nat.le_of_ble_eq_true rfl⟩) ⟨fun a U g mk q => by obtain ⟨q0, q1, qP, qK, qD⟩ := q; exact ⟨q0, q1, qP, va_K.moved (u := U) (U := U.calling g mk a) (Vm.Alike.refl U.vm) qK, qD⟩, va_recv hK hP (ci := 8) (q0 := 2) rfl rfl, fun U hU hW => ⟨rfl, by rw [hU], by rw [hU]; exact hPc, va_K.moved hW.alike hK, hDc.weaken (fun _ _ _ _ => trivial)⟩⟩ rfl rfl hl.1 rfl (lv_room (Nat.le_of_ble_eq_true rfl)) dX10_toWhom_39 ⟨Nat.le_of_ble_eq_true rfl, Nat.le_of_ble_eq_true rfl⟩) hS (fun q _ h => hFc q h) hFc (fun u4 t H1 locs ht hvm hw5 hB hz1 hk1 hS => ?_)
    obtain ⟨hP1, hD1⟩ := hB
    rw [ht] at hP1
    obtain ⟨hP, hD⟩ := va_join (wr := [(h0, .inr (10, [.ref x0, .int 0, .int (-1), .int 0, .ref x4, .ref x5, .ref x6, .ref x7, .ref x8, .ref x9, .ref x10, .ref x11, .ref x12, .ref x13]))]) (w1 := [(x10, .inr (8, [.int 0, .ref b1, .ref x4, .ref x9, .ref b4, .ref b5]))]) hP hD [2, 1, 3, 4] [0] rfl rfl (by decide) (by decide) hk1 hFc hP1 hD1
    clear hP1 hD1
    clear hz1 hk1 hPc hDc hFc
    generalize H1 = H at hP hS ht ⊢
    have hP : va_P (dC, dI) vwCl [(h0, .inr (10, [.ref x0, .int 0, .int (-1), .int 0, .ref x4, .ref x5, .ref x6, .ref x7, .ref x8, .ref x9, .ref x10, .ref x11, .ref x12, .ref x13])), (x10, .inr (8, [.int 0, .ref b1, .ref x4, .ref x9, .ref b4, .ref b5]))] H := hP
    have hD : va_D A [(h0, .inr (10, [.ref x0, .int 0, .int (-1), .int 0, .ref x4, .ref x5, .ref x6, .ref x7, .ref x8, .ref x9, .ref x10, .ref x11, .ref x12, .ref x13])), (x10, .inr (8, [.int 0, .ref b1, .ref x4, .ref x9, .ref b4, .ref b5]))] := hD
    try dsimp only at hw5
    refine lv_iload_n hx hb dX10_toWhom_42 rfl (lv_at hl 1 rfl) ?_
    refine lv_iconst (v := (-1)) hx hb dX10_toWhom_43 (by decide) ?_
    refine lv_icmp_ne (tgt := 57) hx hb dX10_toWhom_44 (by decide) (fun c6 => ?_) (fun c6 => ?_)
    · exact absurd c1 c6
    refine lv_aload_n hx hb dX10_toWhom_47 rfl (lv_at hl 0 rfl) ?_
    refine va_get (D := (dC, dI)) (ci := 10) (v := .ref x10) (C := RX10) (T := TX10) (N := 14) hx hb hts hi_X10 hown hK hP 0 rfl rfl 10 (by decide) (hts (.fieldLink RX10 74 "LeftQuills" "sharing" "LLeftQuills$Sharing;") (by decide +kernel)) (fun _ h9 => h9) rfl dX10_toWhom_48 ?_
    refine va_get (D := (dC, dI)) (ci := 8) (v := .int 0) (C := RX8) (T := TX8) (N := 6) hx hb hts hi_X8 hown hK hP 1 rfl rfl 0 (by decide) (hts (.fieldLink RX10 244 "LeftQuills$Sharing" "best" "I") (by decide +kernel)) (fun _ h9 => h9) rfl dX10_toWhom_51 ?_
    refine lv_goto (tgt := 66) hx hb dX10_toWhom_54 (by decide) ?_
    exact W.iret (v := 0) hx hb hr (fun t ht hW => ⟨⟨0, (fun _ => 0), rfl, (if_pos c1).symm, trivial⟩, hS.F ht⟩) hS.2.2 dX10_toWhom_66
  ·
    refine lv_aload_n hx hb dX10_toWhom_5 rfl (lv_at hl 0 rfl) ?_
    refine lv_iload_n hx hb dX10_toWhom_6 rfl (lv_at hl 1 rfl) ?_
    have hPc := hP.sub (ws' := [(h0, .inr (10, [.ref x0, .int 0, .int (-1), .int 0, .ref x4, .ref x5, .ref x6, .ref x7, .ref x8, .ref x9, .ref x10, .ref x11, .ref x12, .ref x13])), (x4, .inr (5, f_ho))]) [0, 1] rfl
    refine va_calli (va_runV (As := [.int a0]) (rest := []) ⟨hx, hb, hml, hown, hts⟩ (c_X10_isHand l dC dI cI cZ cQ h0 x4 ([.ref x0, .int 0, .int (-1), .int 0, .ref x4, .ref x5, .ref x6, .ref x7, .ref x8, .ref x9, .ref x10, .ref x11, .ref x12, .ref x13]) f_ho a0 0 s.heap.size rfl e_ho_4) (cwV 1 hts gX10_toWhom_X10_isHand rfl rfl rfl (by decide +kernel) ⟨Nat.le_of_ble_eq_true rfl, Nat.le_of_ble_eq_true rfl⟩) ⟨fun a U g mk q => by obtain ⟨q0, q1, qP, qK⟩ := q; exact ⟨q0, q1, qP, va_K.moved (u := U) (U := U.calling g mk a) (Vm.Alike.refl U.vm) qK⟩, va_recv hK hP (ci := 10) (q0 := 0) rfl rfl, fun U hU hW => ⟨rfl, by rw [hU], by rw [hU]; exact hPc, va_K.moved hW.alike hK⟩⟩ rfl rfl hl.1 rfl (lv_room (Nat.le_of_ble_eq_true rfl)) dX10_toWhom_7 ⟨Nat.le_of_ble_eq_true rfl, Nat.le_of_ble_eq_true rfl⟩) hS (fun q _ h => False.elim h) (fun q h => False.elim h) (fun r7 u8 t H1 locs ht hvm hw9 hB hz1 hk1 hS => ?_)
    have hP := hP.kept (fun k q hk => hk1 q.1 (hP k q hk).lt (fun h => h))
    clear hz1 hk1 hPc
    generalize H1 = H at hP hS ht ⊢
    try dsimp only at hw9
    obtain rfl : r7 = 0 := x_no hw9
    refine lv_if_ne (tgt := 16) hx hb dX10_toWhom_10 (by decide) (fun c10 => ?_) (fun c10 => ?_)
    · exact absurd c10 (by decide)
    clear c10
    refine lv_ldc (v := (-1000000001)) hx hb hown (hts (.constant RX10 160 (-1000000001)) (by decide +kernel)) dX10_toWhom_13 ?_
    exact W.iret (v := (-1000000001)) hx hb hr (fun t ht hW => ⟨⟨(-1000000001), (fun _ => 0), rfl, (if_neg c1).symm, trivial⟩, hS.F ht⟩) hS.2.2 dX10_toWhom_15
