set_option maxHeartbeats 4000000 in
set_option maxRecDepth 100000 in
theorem c_X11_feed (l : Launch) (dC : Nat → ClassId) (dI : Nat → Nat → Nat) (cI cZ cQ : ClassId) (h0 : Nat) (m3 : Nat) (m4 : Nat) (m5 : Nat) (m7 : Nat) (m8 : Nat) (m9 : Nat) (m10 : Nat) (m12 : Nat) (m18 : Nat) (m20 : Nat) (m21 : Nat) (m22 : Nat) (m23 : Nat) (m24 : Nat) (m26 : Nat) (m27 : Nat) (m28 : Nat) (m30 : Nat) (m33 : Nat) (m36 : Nat) (m38 : Nat) (m39 : Nat) (m40 : Nat) (m42 : Nat) (m43 : Nat) (m44 : Nat) (m45 : Nat) (a0 : Int32) (sz : Nat)  : Met l yX11_feed wsX11_feed ({ frames := 1, cells := 0, slots := 0, locals := 65 }) (va_Pc [.ref h0, .int a0] (fun U => U.heap.size = sz ∧ va_P (dC, dI) vwCl [(h0, .inr (11, [.int 0, .int 0, .int 0, .ref m3, .ref m4, .ref m5, .int 0, .ref m7, .ref m8, .ref m9, .ref m10, .int 0, .ref m12, .int 0, .int (-1), .int 0, .int 0, .int 0, .ref m18, .int 0, .ref m20, .ref m21, .ref m22, .ref m23, .ref m24, .int 0, .ref m26, .ref m27, .ref m28, .int 0, .ref m30, .int 0, .int 0, .ref m33, .int 0, .int 0, .ref m36, .int 0, .ref m38, .ref m39, .ref m40, .int 0, .ref m42, .ref m43, .ref m44, .ref m45])), (m12, .inl (cI, 220, .inl (fun _ => 0)))] U.heap ∧ va_K (dC, dI) vwCl (tys0 cI cZ cQ) U ∧ va_D (fun _ => True) [(h0, .inr (11, [.int 0, .int 0, .int 0, .ref m3, .ref m4, .ref m5, .int 0, .ref m7, .ref m8, .ref m9, .ref m10, .int 0, .ref m12, .int 0, .int (-1), .int 0, .int 0, .int 0, .ref m18, .int 0, .ref m20, .ref m21, .ref m22, .ref m23, .ref m24, .int 0, .ref m26, .ref m27, .ref m28, .int 0, .ref m30, .int 0, .int 0, .ref m33, .int 0, .int 0, .ref m36, .int 0, .ref m38, .ref m39, .ref m40, .int 0, .ref m42, .ref m43, .ref m44, .ref m45])), (m12, .inl (cI, 220, .inl (fun _ => 0)))])) (va_Qi (fun (r : Int32) (u : Nat → Nat) => r = if 0 ≤ a0 ∧ a0 ≤ 255 then 1 else (-1000000002)) (fun (_ : Nat → Nat) (_ : State) => True) (va_A [(h0, .inr (11, [.int 0, .int 0, .int 0, .ref m3, .ref m4, .ref m5, .int 0, .ref m7, .ref m8, .ref m9, .ref m10, .int 0, .ref m12, .int 0, .int (-1), .int 0, .int 0, .int 0, .ref m18, .int 0, .ref m20, .ref m21, .ref m22, .ref m23, .ref m24, .int 0, .ref m26, .ref m27, .ref m28, .int 0, .ref m30, .int 0, .int 0, .ref m33, .int 0, .int 0, .ref m36, .int 0, .ref m38, .ref m39, .ref m40, .int 0, .ref m42, .ref m43, .ref m44, .ref m45])), (m12, .inl (cI, 220, .inl (fun _ => 0)))] sz)) 0 0 (va_A [(h0, .inr (11, [.int 0, .int 0, .int 0, .ref m3, .ref m4, .ref m5, .int 0, .ref m7, .ref m8, .ref m9, .ref m10, .int 0, .ref m12, .int 0, .int (-1), .int 0, .int 0, .int 0, .ref m18, .int 0, .ref m20, .ref m21, .ref m22, .ref m23, .ref m24, .int 0, .ref m26, .ref m27, .ref m28, .int 0, .ref m30, .int 0, .int 0, .ref m33, .int 0, .int 0, .ref m36, .int 0, .ref m38, .ref m39, .ref m40, .int 0, .ref m42, .ref m43, .ref m44, .ref m45])), (m12, .inl (cI, 220, .inl (fun _ => 0)))] sz) := by
  refine Met.ofW (cc := cX11_feed) (maxL := 2) (ret := (some .int)) (by decide) rfl ?_
  intro p e s m args below meth c s₁ B hml hv
  obtain ⟨rfl, hsz, hP, hK, hD0⟩ := hv
  have hx := B.exec
  have hb := B.bytes
  have hr := B.returns
  have hts := atoms_spec (ws := wsX11_feed) B.pre
  have hown : s.vm.findClass RX11 = some m.cls := findClass_of_methodNamed B.named
  have hlocks := B.notSynchronized
  have hi_X11 : ∀ w ∈ u_ws RX11 TX11 46, w ∈ wsX11_feed := by decide +kernel
  subst hsz
  have hD := hD0.self (sz := s.heap.size)
  generalize hAe : va_A [(h0, .inr (11, [.int 0, .int 0, .int 0, .ref m3, .ref m4, .ref m5, .int 0, .ref m7, .ref m8, .ref m9, .ref m10, .int 0, .ref m12, .int 0, .int (-1), .int 0, .int 0, .int 0, .ref m18, .int 0, .ref m20, .ref m21, .ref m22, .ref m23, .ref m24, .int 0, .ref m26, .ref m27, .ref m28, .int 0, .ref m30, .int 0, .int 0, .ref m33, .int 0, .int 0, .ref m36, .int 0, .ref m38, .ref m39, .ref m40, .int 0, .ref m42, .ref m43, .ref m44, .ref m45])), (m12, .inl (cI, 220, .inl (fun _ => 0)))] s.heap.size = A at hD ⊢
  have hA : ∀ q : Nat, s.heap.size ≤ q → A q := fun q h => by rw [← hAe]; exact Or.inr h
  have hS : va_S A s.heap s.heap [] := va_S.rf
  have hl := lv_entry ([.ref h0, .int a0]) (n := 2) (Nat.le_of_ble_eq_true rfl)
  rw [lg_entry_eq]
  generalize (lg_sl ([.ref h0, .int a0]) ++ List.replicate (2 - (lg_sl ([.ref h0, .int a0])).length) Slot.unset).toArray = ls at hl ⊢
  have hl : lv_has ls 2 [(0, .ref h0), (1, .int a0)] := hl
  refine lv_iload_n hx hb dX11_feed_0 rfl (lv_at hl 1 rfl) ?_
  refine lv_i2l hx hb dX11_feed_1 rfl ?_
  refine lv_lconst (v := 0) hx hb dX11_feed_2 (by decide) ?_
  refine lv_topl (fun z1 ez1 => ?_)
  obtain rfl : z1 = (0 : Int32).toInt64 := ez1.trans (by decide)
  refine lv_ldc2 (v := 255) hx hb hown (hts (.constantLong RX11 109 255) (by decide +kernel)) dX11_feed_3 ?_
  refine lv_topl (fun z2 ez2 => ?_)
  obtain rfl : z2 = (255 : Int32).toInt64 := ez2.trans (by decide)
  have hPc := hP.sub (ws' := []) [] rfl
  refine va_calli (va_runS (As := [.long a0.toInt64, .long ((0 : Int32).toInt64), .long ((255 : Int32).toInt64)]) (rest := []) ⟨hx, hb, hml, hown, hts⟩ (c_X11_in l dC dI cI cZ cQ a0 0 255 s.heap.size ) (va_cwS 3 hts gX11_feed_X11_in rfl rfl rfl (by decide +kernel) ⟨Nat.le_of_ble_eq_true rfl, Nat.le_of_ble_eq_true rfl⟩) ⟨fun a U g mk q => by obtain ⟨q0, q1, qP, qK⟩ := q; exact ⟨q0, q1, qP, va_K.moved (u := U) (U := U.calling g mk a) (Vm.Alike.refl U.vm) qK⟩, fun U hU hW => ⟨rfl, by rw [hU], by rw [hU]; exact hPc, va_K.moved hW.alike hK⟩⟩ rfl rfl hl.1 rfl (lv_room (Nat.le_of_ble_eq_true rfl)) dX11_feed_6 ⟨Nat.le_of_ble_eq_true rfl, Nat.le_of_ble_eq_true rfl⟩) hS (fun q _ h => False.elim h) (fun q h => False.elim h) (fun r3 u4 t H1 locs ht hvm hw5 hB hz1 hk1 hS => ?_)
  have hP := hP.kept (fun k q hk => hk1 q.1 (hP k q hk).lt (fun h => h))
  clear hz1 hk1 hPc
  generalize H1 = H at hP hS ht ⊢
  try dsimp only at hw5
  rcases hw5 with ⟨rfl, hw5⟩ | ⟨rfl, hw5⟩
  ·
    refine lv_if_ne (tgt := 15) hx hb dX11_feed_9 (by decide) (fun c6 => ?_) (fun c6 => ?_)
    rotate_left
    · exact absurd c6 (by decide)
    clear c6
    refine lv_aload_n hx hb dX11_feed_15 rfl (lv_at hl 0 rfl) ?_
    refine va_get (D := (dC, dI)) (ci := 11) (v := .int 0) (C := RX11) (T := TX11) (N := 46) hx hb hts hi_X11 hown hK hP 0 rfl rfl 13 (by decide) (hts (.fieldLink RX11 112 "LeftQuillsModel" "texted" "I") (by decide +kernel)) (fun _ h9 => h9) rfl dX11_feed_16 ?_
    refine lv_sipush (v := 220) hx hb dX11_feed_19 (by decide) ?_
    refine lv_icmp_ne (tgt := 28) hx hb dX11_feed_22 (by decide) (fun c7 => ?_) (fun c7 => ?_)
    rotate_left
    · exact absurd c7 (by decide)
    clear c7
    refine lv_aload_n hx hb dX11_feed_28 rfl (lv_at hl 0 rfl) ?_
    refine va_get (D := (dC, dI)) (ci := 11) (v := .ref m12) (C := RX11) (T := TX11) (N := 46) hx hb hts hi_X11 hown hK hP 0 rfl rfl 12 (by decide) (hts (.fieldLink RX11 31 "LeftQuillsModel" "text" "[I") (by decide +kernel)) (fun _ h9 => h9) rfl dX11_feed_29 ?_
    refine lv_aload_n hx hb dX11_feed_32 rfl (lv_at hl 0 rfl) ?_
    refine va_get (D := (dC, dI)) (ci := 11) (v := .int 0) (C := RX11) (T := TX11) (N := 46) hx hb hts hi_X11 hown hK hP 0 rfl rfl 13 (by decide) (hts (.fieldLink RX11 112 "LeftQuillsModel" "texted" "I") (by decide +kernel)) (fun _ h9 => h9) rfl dX11_feed_33 ?_
    refine lv_iload_n hx hb dX11_feed_36 rfl (lv_at hl 1 rfl) ?_
    refine va_iast hx hb hK hP hD hS 1 0 rfl rfl (vp_in_iff.mpr ⟨by decide, by decide⟩) dX11_feed_37 (fun H locs hP hD hS => ?_)
    generalize hgf8 : upd _ _ _ = f8 at hP hD
    have hP : va_P (dC, dI) vwCl [(h0, .inr (11, [.int 0, .int 0, .int 0, .ref m3, .ref m4, .ref m5, .int 0, .ref m7, .ref m8, .ref m9, .ref m10, .int 0, .ref m12, .int 0, .int (-1), .int 0, .int 0, .int 0, .ref m18, .int 0, .ref m20, .ref m21, .ref m22, .ref m23, .ref m24, .int 0, .ref m26, .ref m27, .ref m28, .int 0, .ref m30, .int 0, .int 0, .ref m33, .int 0, .int 0, .ref m36, .int 0, .ref m38, .ref m39, .ref m40, .int 0, .ref m42, .ref m43, .ref m44, .ref m45])), (m12, .inl (cI, 220, .inl f8))] H := hP
    have hD : va_D A [(h0, .inr (11, [.int 0, .int 0, .int 0, .ref m3, .ref m4, .ref m5, .int 0, .ref m7, .ref m8, .ref m9, .ref m10, .int 0, .ref m12, .int 0, .int (-1), .int 0, .int 0, .int 0, .ref m18, .int 0, .ref m20, .ref m21, .ref m22, .ref m23, .ref m24, .int 0, .ref m26, .ref m27, .ref m28, .int 0, .ref m30, .int 0, .int 0, .ref m33, .int 0, .int 0, .ref m36, .int 0, .ref m38, .ref m39, .ref m40, .int 0, .ref m42, .ref m43, .ref m44, .ref m45])), (m12, .inl (cI, 220, .inl f8))] := hD
    refine lv_aload_n hx hb dX11_feed_38 rfl (lv_at hl 0 rfl) ?_
    refine lv_dup hx hb dX11_feed_39 rfl ?_
    refine va_get (D := (dC, dI)) (ci := 11) (v := .int 0) (C := RX11) (T := TX11) (N := 46) hx hb hts hi_X11 hown hK hP 0 rfl rfl 13 (by decide) (hts (.fieldLink RX11 112 "LeftQuillsModel" "texted" "I") (by decide +kernel)) (fun _ h9 => h9) rfl dX11_feed_40 ?_
    refine lv_iconst (v := 1) hx hb dX11_feed_43 (by decide) ?_
    refine lv_iadd hx hb dX11_feed_44 ?_
    refine lv_topi (fun z9 ez9 => ?_)
    obtain rfl : z9 = 1 := ez9.trans (by decide)
    refine va_put (D := (dC, dI)) (ci := 11) (v := .int 1) (ty := .int) (C := RX11) (T := TX11) (N := 46) hx hb hts hi_X11 tyX11 tyX11_ok nmX11 hown hK hP hD hS 0 rfl rfl 13 (by decide) (hts (.fieldLink RX11 112 "LeftQuillsModel" "texted" "I") (by decide +kernel)) (fun _ h9 => h9) rfl (by decide +kernel) rfl rfl (Nat.le_of_ble_eq_true rfl) dX11_feed_45 (fun H locs hP hD hS => ?_)
    have hP : va_P (dC, dI) vwCl [(h0, .inr (11, [.int 0, .int 0, .int 0, .ref m3, .ref m4, .ref m5, .int 0, .ref m7, .ref m8, .ref m9, .ref m10, .int 0, .ref m12, .int 1, .int (-1), .int 0, .int 0, .int 0, .ref m18, .int 0, .ref m20, .ref m21, .ref m22, .ref m23, .ref m24, .int 0, .ref m26, .ref m27, .ref m28, .int 0, .ref m30, .int 0, .int 0, .ref m33, .int 0, .int 0, .ref m36, .int 0, .ref m38, .ref m39, .ref m40, .int 0, .ref m42, .ref m43, .ref m44, .ref m45])), (m12, .inl (cI, 220, .inl f8))] H := hP
    have hD : va_D A [(h0, .inr (11, [.int 0, .int 0, .int 0, .ref m3, .ref m4, .ref m5, .int 0, .ref m7, .ref m8, .ref m9, .ref m10, .int 0, .ref m12, .int 1, .int (-1), .int 0, .int 0, .int 0, .ref m18, .int 0, .ref m20, .ref m21, .ref m22, .ref m23, .ref m24, .int 0, .ref m26, .ref m27, .ref m28, .int 0, .ref m30, .int 0, .int 0, .ref m33, .int 0, .int 0, .ref m36, .int 0, .ref m38, .ref m39, .ref m40, .int 0, .ref m42, .ref m43, .ref m44, .ref m45])), (m12, .inl (cI, 220, .inl f8))] := hD
    refine lv_aload_n hx hb dX11_feed_48 rfl (lv_at hl 0 rfl) ?_
    refine va_get (D := (dC, dI)) (ci := 11) (v := .int 1) (C := RX11) (T := TX11) (N := 46) hx hb hts hi_X11 hown hK hP 0 rfl rfl 13 (by decide) (hts (.fieldLink RX11 112 "LeftQuillsModel" "texted" "I") (by decide +kernel)) (fun _ h9 => h9) rfl dX11_feed_49 ?_
    exact W.iret (v := 1) hx hb hr (fun t ht hW => ⟨⟨1, (fun _ => 0), rfl, (if_pos hw5).symm, trivial⟩, hS.F ht⟩) hS.2.2 dX11_feed_52
  ·
    refine lv_if_ne (tgt := 15) hx hb dX11_feed_9 (by decide) (fun c10 => ?_) (fun c10 => ?_)
    · exact absurd c10 (by decide)
    clear c10
    refine lv_ldc (v := (-1000000002)) hx hb hown (hts (.constant RX11 111 (-1000000002)) (by decide +kernel)) dX11_feed_12 ?_
    exact W.iret (v := (-1000000002)) hx hb hr (fun t ht hW => ⟨⟨(-1000000002), (fun _ => 0), rfl, (if_neg hw5).symm, trivial⟩, hS.F ht⟩) hS.2.2 dX11_feed_14
set_option maxHeartbeats 4000000 in
set_option maxRecDepth 100000 in
theorem c_X11_seed (l : Launch) (dC : Nat → ClassId) (dI : Nat → Nat → Nat) (cI cZ cQ : ClassId) (h0 : Nat) (m3 : Nat) (m4 : Nat) (m5 : Nat) (m7 : Nat) (m8 : Nat) (m9 : Nat) (m10 : Nat) (m12 : Nat) (m18 : Nat) (m20 : Nat) (m21 : Nat) (m22 : Nat) (m23 : Nat) (m24 : Nat) (m26 : Nat) (m27 : Nat) (m28 : Nat) (m30 : Nat) (m33 : Nat) (m36 : Nat) (m38 : Nat) (m39 : Nat) (m40 : Nat) (m42 : Nat) (m43 : Nat) (m44 : Nat) (m45 : Nat) (a0 : Int32) (sz : Nat)  : Met l yX11_seed wsX11_seed ({ frames := 0, cells := 0, slots := 0, locals := 40 }) (va_Pc [.ref h0, .int a0] (fun U => U.heap.size = sz ∧ va_P (dC, dI) vwCl [(h0, .inr (11, [.int 0, .int 0, .int 0, .ref m3, .ref m4, .ref m5, .int 0, .ref m7, .ref m8, .ref m9, .ref m10, .int 0, .ref m12, .int 0, .int (-1), .int 0, .int 0, .int 0, .ref m18, .int 0, .ref m20, .ref m21, .ref m22, .ref m23, .ref m24, .int 0, .ref m26, .ref m27, .ref m28, .int 0, .ref m30, .int 0, .int 0, .ref m33, .int 0, .int 0, .ref m36, .int 0, .ref m38, .ref m39, .ref m40, .int 0, .ref m42, .ref m43, .ref m44, .ref m45]))] U.heap ∧ va_K (dC, dI) vwCl (tys0 cI cZ cQ) U ∧ va_D (fun _ => True) [(h0, .inr (11, [.int 0, .int 0, .int 0, .ref m3, .ref m4, .ref m5, .int 0, .ref m7, .ref m8, .ref m9, .ref m10, .int 0, .ref m12, .int 0, .int (-1), .int 0, .int 0, .int 0, .ref m18, .int 0, .ref m20, .ref m21, .ref m22, .ref m23, .ref m24, .int 0, .ref m26, .ref m27, .ref m28, .int 0, .ref m30, .int 0, .int 0, .ref m33, .int 0, .int 0, .ref m36, .int 0, .ref m38, .ref m39, .ref m40, .int 0, .ref m42, .ref m43, .ref m44, .ref m45]))])) (va_Qi (fun (r : Int32) (u : Nat → Nat) => r = if 0 ≤ a0 then 0 else (-1000000002)) (fun (_ : Nat → Nat) (_ : State) => True) (va_A [(h0, .inr (11, [.int 0, .int 0, .int 0, .ref m3, .ref m4, .ref m5, .int 0, .ref m7, .ref m8, .ref m9, .ref m10, .int 0, .ref m12, .int 0, .int (-1), .int 0, .int 0, .int 0, .ref m18, .int 0, .ref m20, .ref m21, .ref m22, .ref m23, .ref m24, .int 0, .ref m26, .ref m27, .ref m28, .int 0, .ref m30, .int 0, .int 0, .ref m33, .int 0, .int 0, .ref m36, .int 0, .ref m38, .ref m39, .ref m40, .int 0, .ref m42, .ref m43, .ref m44, .ref m45]))] sz)) 0 0 (va_A [(h0, .inr (11, [.int 0, .int 0, .int 0, .ref m3, .ref m4, .ref m5, .int 0, .ref m7, .ref m8, .ref m9, .ref m10, .int 0, .ref m12, .int 0, .int (-1), .int 0, .int 0, .int 0, .ref m18, .int 0, .ref m20, .ref m21, .ref m22, .ref m23, .ref m24, .int 0, .ref m26, .ref m27, .ref m28, .int 0, .ref m30, .int 0, .int 0, .ref m33, .int 0, .int 0, .ref m36, .int 0, .ref m38, .ref m39, .ref m40, .int 0, .ref m42, .ref m43, .ref m44, .ref m45]))] sz) := by
  refine Met.ofW (cc := cX11_seed) (maxL := 3) (ret := (some .int)) (by decide) rfl ?_
  intro p e s m args below meth c s₁ B hml hv
  obtain ⟨rfl, hsz, hP, hK, hD0⟩ := hv
  have hx := B.exec
  have hb := B.bytes
  have hr := B.returns
  have hts := atoms_spec (ws := wsX11_seed) B.pre
  have hown : s.vm.findClass RX11 = some m.cls := findClass_of_methodNamed B.named
  have hlocks := B.notSynchronized
  have hi_X11 : ∀ w ∈ u_ws RX11 TX11 46, w ∈ wsX11_seed := by decide +kernel
  subst hsz
  have hD := hD0.self (sz := s.heap.size)
  generalize hAe : va_A [(h0, .inr (11, [.int 0, .int 0, .int 0, .ref m3, .ref m4, .ref m5, .int 0, .ref m7, .ref m8, .ref m9, .ref m10, .int 0, .ref m12, .int 0, .int (-1), .int 0, .int 0, .int 0, .ref m18, .int 0, .ref m20, .ref m21, .ref m22, .ref m23, .ref m24, .int 0, .ref m26, .ref m27, .ref m28, .int 0, .ref m30, .int 0, .int 0, .ref m33, .int 0, .int 0, .ref m36, .int 0, .ref m38, .ref m39, .ref m40, .int 0, .ref m42, .ref m43, .ref m44, .ref m45]))] s.heap.size = A at hD ⊢
  have hA : ∀ q : Nat, s.heap.size ≤ q → A q := fun q h => by rw [← hAe]; exact Or.inr h
  have hS : va_S A s.heap s.heap [] := va_S.rf
  have hl := lv_entry ([.ref h0, .int a0]) (n := 3) (Nat.le_of_ble_eq_true rfl)
  rw [lg_entry_eq]
  generalize (lg_sl ([.ref h0, .int a0]) ++ List.replicate (3 - (lg_sl ([.ref h0, .int a0])).length) Slot.unset).toArray = ls at hl ⊢
  have hl : lv_has ls 3 [(0, .ref h0), (1, .int a0)] := hl
  refine lv_iload_n hx hb dX11_seed_0 rfl (lv_at hl 1 rfl) ?_
  refine lv_if_ge (tgt := 7) hx hb dX11_seed_1 (by decide) (fun c1 => ?_) (fun c1 => ?_)
  ·
    refine lv_aload_n hx hb dX11_seed_7 rfl (lv_at hl 0 rfl) ?_
    refine va_get (D := (dC, dI)) (ci := 11) (v := .int 0) (C := RX11) (T := TX11) (N := 46) hx hb hts hi_X11 hown hK hP 0 rfl rfl 11 (by decide) (hts (.fieldLink RX11 241 "LeftQuillsModel" "seed" "I") (by decide +kernel)) (fun _ h9 => h9) rfl dX11_seed_8 ?_
    refine lv_istore_n (lv' := [(2, .int 0), (0, .ref h0), (1, .int a0)]) hx hb dX11_seed_11 rfl hl (by decide) rfl (fun ls hl => ?_)
    refine lv_aload_n hx hb dX11_seed_12 rfl (lv_at hl 1 rfl) ?_
    refine lv_iload_n hx hb dX11_seed_13 rfl (lv_at hl 2 rfl) ?_
    refine va_put (D := (dC, dI)) (ci := 11) (v := .int a0) (ty := .int) (C := RX11) (T := TX11) (N := 46) hx hb hts hi_X11 tyX11 tyX11_ok nmX11 hown hK hP hD hS 0 rfl rfl 11 (by decide) (hts (.fieldLink RX11 241 "LeftQuillsModel" "seed" "I") (by decide +kernel)) (fun _ h9 => h9) rfl (by decide +kernel) rfl rfl (Nat.le_of_ble_eq_true rfl) dX11_seed_14 (fun H locs hP hD hS => ?_)
    have hP : va_P (dC, dI) vwCl [(h0, .inr (11, [.int 0, .int 0, .int 0, .ref m3, .ref m4, .ref m5, .int 0, .ref m7, .ref m8, .ref m9, .ref m10, .int a0, .ref m12, .int 0, .int (-1), .int 0, .int 0, .int 0, .ref m18, .int 0, .ref m20, .ref m21, .ref m22, .ref m23, .ref m24, .int 0, .ref m26, .ref m27, .ref m28, .int 0, .ref m30, .int 0, .int 0, .ref m33, .int 0, .int 0, .ref m36, .int 0, .ref m38, .ref m39, .ref m40, .int 0, .ref m42, .ref m43, .ref m44, .ref m45]))] H := hP
    have hD : va_D A [(h0, .inr (11, [.int 0, .int 0, .int 0, .ref m3, .ref m4, .ref m5, .int 0, .ref m7, .ref m8, .ref m9, .ref m10, .int a0, .ref m12, .int 0, .int (-1), .int 0, .int 0, .int 0, .ref m18, .int 0, .ref m20, .ref m21, .ref m22, .ref m23, .ref m24, .int 0, .ref m26, .ref m27, .ref m28, .int 0, .ref m30, .int 0, .int 0, .ref m33, .int 0, .int 0, .ref m36, .int 0, .ref m38, .ref m39, .ref m40, .int 0, .ref m42, .ref m43, .ref m44, .ref m45]))] := hD
    refine lv_iload_n hx hb dX11_seed_17 rfl (lv_at hl 0 rfl) ?_
    exact W.iret (v := 0) hx hb hr (fun t ht hW => ⟨⟨0, (fun _ => 0), rfl, (if_pos c1).symm, trivial⟩, hS.F ht⟩) hS.2.2 dX11_seed_18
  ·
    refine lv_ldc (v := (-1000000002)) hx hb hown (hts (.constant RX11 111 (-1000000002)) (by decide +kernel)) dX11_seed_4 ?_
    exact W.iret (v := (-1000000002)) hx hb hr (fun t ht hW => ⟨⟨(-1000000002), (fun _ => 0), rfl, (if_neg c1).symm, trivial⟩, hS.F ht⟩) hS.2.2 dX11_seed_6
set_option maxHeartbeats 4000000 in
set_option maxRecDepth 100000 in
theorem c_X11_tear (l : Launch) (dC : Nat → ClassId) (dI : Nat → Nat → Nat) (cI cZ cQ : ClassId) (h0 : Nat) (m3 : Nat) (m4 : Nat) (m5 : Nat) (m7 : Nat) (m8 : Nat) (m9 : Nat) (m10 : Nat) (m12 : Nat) (m18 : Nat) (m20 : Nat) (m21 : Nat) (m22 : Nat) (m23 : Nat) (m24 : Nat) (m26 : Nat) (m27 : Nat) (m28 : Nat) (m30 : Nat) (m33 : Nat) (m36 : Nat) (m38 : Nat) (m39 : Nat) (m40 : Nat) (m42 : Nat) (m43 : Nat) (m44 : Nat) (m45 : Nat) (sz : Nat)  : Met l yX11_tear wsX11_tear ({ frames := 0, cells := 0, slots := 0, locals := 40 }) (va_Pc [.ref h0] (fun U => U.heap.size = sz ∧ va_P (dC, dI) vwCl [(h0, .inr (11, [.int 0, .int 0, .int 0, .ref m3, .ref m4, .ref m5, .int 0, .ref m7, .ref m8, .ref m9, .ref m10, .int 0, .ref m12, .int 0, .int (-1), .int 0, .int 0, .int 0, .ref m18, .int 0, .ref m20, .ref m21, .ref m22, .ref m23, .ref m24, .int 0, .ref m26, .ref m27, .ref m28, .int 0, .ref m30, .int 0, .int 0, .ref m33, .int 0, .int 0, .ref m36, .int 0, .ref m38, .ref m39, .ref m40, .int 0, .ref m42, .ref m43, .ref m44, .ref m45]))] U.heap ∧ va_K (dC, dI) vwCl (tys0 cI cZ cQ) U ∧ va_D (fun _ => True) [(h0, .inr (11, [.int 0, .int 0, .int 0, .ref m3, .ref m4, .ref m5, .int 0, .ref m7, .ref m8, .ref m9, .ref m10, .int 0, .ref m12, .int 0, .int (-1), .int 0, .int 0, .int 0, .ref m18, .int 0, .ref m20, .ref m21, .ref m22, .ref m23, .ref m24, .int 0, .ref m26, .ref m27, .ref m28, .int 0, .ref m30, .int 0, .int 0, .ref m33, .int 0, .int 0, .ref m36, .int 0, .ref m38, .ref m39, .ref m40, .int 0, .ref m42, .ref m43, .ref m44, .ref m45]))])) (va_Qi (fun (r : Int32) (u : Nat → Nat) => r = 0) (fun (_ : Nat → Nat) (_ : State) => True) (va_A [(h0, .inr (11, [.int 0, .int 0, .int 0, .ref m3, .ref m4, .ref m5, .int 0, .ref m7, .ref m8, .ref m9, .ref m10, .int 0, .ref m12, .int 0, .int (-1), .int 0, .int 0, .int 0, .ref m18, .int 0, .ref m20, .ref m21, .ref m22, .ref m23, .ref m24, .int 0, .ref m26, .ref m27, .ref m28, .int 0, .ref m30, .int 0, .int 0, .ref m33, .int 0, .int 0, .ref m36, .int 0, .ref m38, .ref m39, .ref m40, .int 0, .ref m42, .ref m43, .ref m44, .ref m45]))] sz)) 0 0 (va_A [(h0, .inr (11, [.int 0, .int 0, .int 0, .ref m3, .ref m4, .ref m5, .int 0, .ref m7, .ref m8, .ref m9, .ref m10, .int 0, .ref m12, .int 0, .int (-1), .int 0, .int 0, .int 0, .ref m18, .int 0, .ref m20, .ref m21, .ref m22, .ref m23, .ref m24, .int 0, .ref m26, .ref m27, .ref m28, .int 0, .ref m30, .int 0, .int 0, .ref m33, .int 0, .int 0, .ref m36, .int 0, .ref m38, .ref m39, .ref m40, .int 0, .ref m42, .ref m43, .ref m44, .ref m45]))] sz) := by
  refine Met.ofW (cc := cX11_tear) (maxL := 2) (ret := (some .int)) (by decide) rfl ?_
  intro p e s m args below meth c s₁ B hml hv
  obtain ⟨rfl, hsz, hP, hK, hD0⟩ := hv
  have hx := B.exec
  have hb := B.bytes
  have hr := B.returns
  have hts := atoms_spec (ws := wsX11_tear) B.pre
  have hown : s.vm.findClass RX11 = some m.cls := findClass_of_methodNamed B.named
  have hlocks := B.notSynchronized
  have hi_X11 : ∀ w ∈ u_ws RX11 TX11 46, w ∈ wsX11_tear := by decide +kernel
  subst hsz
  have hD := hD0.self (sz := s.heap.size)
  generalize hAe : va_A [(h0, .inr (11, [.int 0, .int 0, .int 0, .ref m3, .ref m4, .ref m5, .int 0, .ref m7, .ref m8, .ref m9, .ref m10, .int 0, .ref m12, .int 0, .int (-1), .int 0, .int 0, .int 0, .ref m18, .int 0, .ref m20, .ref m21, .ref m22, .ref m23, .ref m24, .int 0, .ref m26, .ref m27, .ref m28, .int 0, .ref m30, .int 0, .int 0, .ref m33, .int 0, .int 0, .ref m36, .int 0, .ref m38, .ref m39, .ref m40, .int 0, .ref m42, .ref m43, .ref m44, .ref m45]))] s.heap.size = A at hD ⊢
  have hA : ∀ q : Nat, s.heap.size ≤ q → A q := fun q h => by rw [← hAe]; exact Or.inr h
  have hS : va_S A s.heap s.heap [] := va_S.rf
  have hl := lv_entry ([.ref h0]) (n := 2) (Nat.le_of_ble_eq_true rfl)
  rw [lg_entry_eq]
  generalize (lg_sl ([.ref h0]) ++ List.replicate (2 - (lg_sl ([.ref h0])).length) Slot.unset).toArray = ls at hl ⊢
  have hl : lv_has ls 2 [(0, .ref h0)] := hl
  refine lv_aload_n hx hb dX11_tear_0 rfl (lv_at hl 0 rfl) ?_
  refine va_get (D := (dC, dI)) (ci := 11) (v := .int 0) (C := RX11) (T := TX11) (N := 46) hx hb hts hi_X11 hown hK hP 0 rfl rfl 37 (by decide) (hts (.fieldLink RX11 168 "LeftQuillsModel" "wornMany" "I") (by decide +kernel)) (fun _ h9 => h9) rfl dX11_tear_1 ?_
  refine lv_aload_n hx hb dX11_tear_4 rfl (lv_at hl 0 rfl) ?_
  refine va_get (D := (dC, dI)) (ci := 11) (v := .int 0) (C := RX11) (T := TX11) (N := 46) hx hb hts hi_X11 hown hK hP 0 rfl rfl 41 (by decide) (hts (.fieldLink RX11 171 "LeftQuillsModel" "booked" "I") (by decide +kernel)) (fun _ h9 => h9) rfl dX11_tear_5 ?_
  refine lv_iadd hx hb dX11_tear_8 ?_
  refine lv_topi (fun z1 ez1 => ?_)
  obtain rfl : z1 = 0 := ez1.trans (by decide)
  refine lv_istore_n (lv' := [(1, .int 0), (0, .ref h0)]) hx hb dX11_tear_9 rfl hl (by decide) rfl (fun ls hl => ?_)
  refine lv_aload_n hx hb dX11_tear_10 rfl (lv_at hl 1 rfl) ?_
  refine lv_iconst (v := 0) hx hb dX11_tear_11 (by decide) ?_
  refine va_put (D := (dC, dI)) (ci := 11) (v := .int 0) (ty := .int) (C := RX11) (T := TX11) (N := 46) hx hb hts hi_X11 tyX11 tyX11_ok nmX11 hown hK hP hD hS 0 rfl rfl 37 (by decide) (hts (.fieldLink RX11 168 "LeftQuillsModel" "wornMany" "I") (by decide +kernel)) (fun _ h9 => h9) rfl (by decide +kernel) rfl rfl (Nat.le_of_ble_eq_true rfl) dX11_tear_12 (fun H locs hP hD hS => ?_)
  have hP : va_P (dC, dI) vwCl [(h0, .inr (11, [.int 0, .int 0, .int 0, .ref m3, .ref m4, .ref m5, .int 0, .ref m7, .ref m8, .ref m9, .ref m10, .int 0, .ref m12, .int 0, .int (-1), .int 0, .int 0, .int 0, .ref m18, .int 0, .ref m20, .ref m21, .ref m22, .ref m23, .ref m24, .int 0, .ref m26, .ref m27, .ref m28, .int 0, .ref m30, .int 0, .int 0, .ref m33, .int 0, .int 0, .ref m36, .int 0, .ref m38, .ref m39, .ref m40, .int 0, .ref m42, .ref m43, .ref m44, .ref m45]))] H := hP
  have hD : va_D A [(h0, .inr (11, [.int 0, .int 0, .int 0, .ref m3, .ref m4, .ref m5, .int 0, .ref m7, .ref m8, .ref m9, .ref m10, .int 0, .ref m12, .int 0, .int (-1), .int 0, .int 0, .int 0, .ref m18, .int 0, .ref m20, .ref m21, .ref m22, .ref m23, .ref m24, .int 0, .ref m26, .ref m27, .ref m28, .int 0, .ref m30, .int 0, .int 0, .ref m33, .int 0, .int 0, .ref m36, .int 0, .ref m38, .ref m39, .ref m40, .int 0, .ref m42, .ref m43, .ref m44, .ref m45]))] := hD
  refine lv_aload_n hx hb dX11_tear_15 rfl (lv_at hl 1 rfl) ?_
  refine lv_iconst (v := 0) hx hb dX11_tear_16 (by decide) ?_
  refine va_put (D := (dC, dI)) (ci := 11) (v := .int 0) (ty := .int) (C := RX11) (T := TX11) (N := 46) hx hb hts hi_X11 tyX11 tyX11_ok nmX11 hown hK hP hD hS 0 rfl rfl 41 (by decide) (hts (.fieldLink RX11 171 "LeftQuillsModel" "booked" "I") (by decide +kernel)) (fun _ h9 => h9) rfl (by decide +kernel) rfl rfl (Nat.le_of_ble_eq_true rfl) dX11_tear_17 (fun H locs hP hD hS => ?_)
  have hP : va_P (dC, dI) vwCl [(h0, .inr (11, [.int 0, .int 0, .int 0, .ref m3, .ref m4, .ref m5, .int 0, .ref m7, .ref m8, .ref m9, .ref m10, .int 0, .ref m12, .int 0, .int (-1), .int 0, .int 0, .int 0, .ref m18, .int 0, .ref m20, .ref m21, .ref m22, .ref m23, .ref m24, .int 0, .ref m26, .ref m27, .ref m28, .int 0, .ref m30, .int 0, .int 0, .ref m33, .int 0, .int 0, .ref m36, .int 0, .ref m38, .ref m39, .ref m40, .int 0, .ref m42, .ref m43, .ref m44, .ref m45]))] H := hP
  have hD : va_D A [(h0, .inr (11, [.int 0, .int 0, .int 0, .ref m3, .ref m4, .ref m5, .int 0, .ref m7, .ref m8, .ref m9, .ref m10, .int 0, .ref m12, .int 0, .int (-1), .int 0, .int 0, .int 0, .ref m18, .int 0, .ref m20, .ref m21, .ref m22, .ref m23, .ref m24, .int 0, .ref m26, .ref m27, .ref m28, .int 0, .ref m30, .int 0, .int 0, .ref m33, .int 0, .int 0, .ref m36, .int 0, .ref m38, .ref m39, .ref m40, .int 0, .ref m42, .ref m43, .ref m44, .ref m45]))] := hD
  refine lv_iload_n hx hb dX11_tear_20 rfl (lv_at hl 0 rfl) ?_
  exact W.iret (v := 0) hx hb hr (fun t ht hW => ⟨⟨0, (fun _ => 0), rfl, by first | trivial | rfl | (simp_all; done), trivial⟩, hS.F ht⟩) hS.2.2 dX11_tear_21
set_option maxHeartbeats 4000000 in
set_option maxRecDepth 100000 in
theorem c_X11_keep (l : Launch) (dC : Nat → ClassId) (dI : Nat → Nat → Nat) (cI cZ cQ : ClassId) (h0 : Nat) (m3 : Nat) (m4 : Nat) (m5 : Nat) (m7 : Nat) (m8 : Nat) (m9 : Nat) (m10 : Nat) (m12 : Nat) (m18 : Nat) (m20 : Nat) (m21 : Nat) (m22 : Nat) (m23 : Nat) (m24 : Nat) (m26 : Nat) (m27 : Nat) (m28 : Nat) (m30 : Nat) (m33 : Nat) (m36 : Nat) (m38 : Nat) (m39 : Nat) (m40 : Nat) (m42 : Nat) (m43 : Nat) (m44 : Nat) (m45 : Nat) (a0 : Int32) (sz : Nat)  : Met l yX11_keep wsX11_keep ({ frames := 1, cells := 0, slots := 0, locals := 65 }) (va_Pc [.ref h0, .int a0] (fun U => U.heap.size = sz ∧ va_P (dC, dI) vwCl [(h0, .inr (11, [.int 0, .int 0, .int 0, .ref m3, .ref m4, .ref m5, .int 0, .ref m7, .ref m8, .ref m9, .ref m10, .int 0, .ref m12, .int 0, .int (-1), .int 0, .int 0, .int 0, .ref m18, .int 0, .ref m20, .ref m21, .ref m22, .ref m23, .ref m24, .int 0, .ref m26, .ref m27, .ref m28, .int 0, .ref m30, .int 0, .int 0, .ref m33, .int 0, .int 0, .ref m36, .int 0, .ref m38, .ref m39, .ref m40, .int 0, .ref m42, .ref m43, .ref m44, .ref m45])), (m10, .inl (cI, 34, .inl (fun _ => 0))), (m44, .inl (cI, 70, .inl (fun _ => 0))), (m45, .inl (cZ, 2, .inl (fun _ => 0)))] U.heap ∧ va_K (dC, dI) vwCl (tys0 cI cZ cQ) U ∧ va_D (fun _ => True) [(h0, .inr (11, [.int 0, .int 0, .int 0, .ref m3, .ref m4, .ref m5, .int 0, .ref m7, .ref m8, .ref m9, .ref m10, .int 0, .ref m12, .int 0, .int (-1), .int 0, .int 0, .int 0, .ref m18, .int 0, .ref m20, .ref m21, .ref m22, .ref m23, .ref m24, .int 0, .ref m26, .ref m27, .ref m28, .int 0, .ref m30, .int 0, .int 0, .ref m33, .int 0, .int 0, .ref m36, .int 0, .ref m38, .ref m39, .ref m40, .int 0, .ref m42, .ref m43, .ref m44, .ref m45])), (m10, .inl (cI, 34, .inl (fun _ => 0))), (m44, .inl (cI, 70, .inl (fun _ => 0))), (m45, .inl (cZ, 2, .inl (fun _ => 0)))])) (va_Qi (fun (r : Int32) (u : Nat → Nat) => r = if 0 ≤ a0 ∧ a0 ≤ 1 then 1 else (-1000000001)) (fun (_ : Nat → Nat) (_ : State) => True) (va_A [(h0, .inr (11, [.int 0, .int 0, .int 0, .ref m3, .ref m4, .ref m5, .int 0, .ref m7, .ref m8, .ref m9, .ref m10, .int 0, .ref m12, .int 0, .int (-1), .int 0, .int 0, .int 0, .ref m18, .int 0, .ref m20, .ref m21, .ref m22, .ref m23, .ref m24, .int 0, .ref m26, .ref m27, .ref m28, .int 0, .ref m30, .int 0, .int 0, .ref m33, .int 0, .int 0, .ref m36, .int 0, .ref m38, .ref m39, .ref m40, .int 0, .ref m42, .ref m43, .ref m44, .ref m45])), (m10, .inl (cI, 34, .inl (fun _ => 0))), (m44, .inl (cI, 70, .inl (fun _ => 0))), (m45, .inl (cZ, 2, .inl (fun _ => 0)))] sz)) 0 0 (va_A [(h0, .inr (11, [.int 0, .int 0, .int 0, .ref m3, .ref m4, .ref m5, .int 0, .ref m7, .ref m8, .ref m9, .ref m10, .int 0, .ref m12, .int 0, .int (-1), .int 0, .int 0, .int 0, .ref m18, .int 0, .ref m20, .ref m21, .ref m22, .ref m23, .ref m24, .int 0, .ref m26, .ref m27, .ref m28, .int 0, .ref m30, .int 0, .int 0, .ref m33, .int 0, .int 0, .ref m36, .int 0, .ref m38, .ref m39, .ref m40, .int 0, .ref m42, .ref m43, .ref m44, .ref m45])), (m10, .inl (cI, 34, .inl (fun _ => 0))), (m44, .inl (cI, 70, .inl (fun _ => 0))), (m45, .inl (cZ, 2, .inl (fun _ => 0)))] sz) := by
  refine Met.ofW (cc := cX11_keep) (maxL := 3) (ret := (some .int)) (by decide) rfl ?_
  intro p e s m args below meth c s₁ B hml hv
  obtain ⟨rfl, hsz, hP, hK, hD0⟩ := hv
  have hx := B.exec
  have hb := B.bytes
  have hr := B.returns
  have hts := atoms_spec (ws := wsX11_keep) B.pre
  have hown : s.vm.findClass RX11 = some m.cls := findClass_of_methodNamed B.named
  have hlocks := B.notSynchronized
  have hi_X11 : ∀ w ∈ u_ws RX11 TX11 46, w ∈ wsX11_keep := by decide +kernel
  subst hsz
  have hD := hD0.self (sz := s.heap.size)
  generalize hAe : va_A [(h0, .inr (11, [.int 0, .int 0, .int 0, .ref m3, .ref m4, .ref m5, .int 0, .ref m7, .ref m8, .ref m9, .ref m10, .int 0, .ref m12, .int 0, .int (-1), .int 0, .int 0, .int 0, .ref m18, .int 0, .ref m20, .ref m21, .ref m22, .ref m23, .ref m24, .int 0, .ref m26, .ref m27, .ref m28, .int 0, .ref m30, .int 0, .int 0, .ref m33, .int 0, .int 0, .ref m36, .int 0, .ref m38, .ref m39, .ref m40, .int 0, .ref m42, .ref m43, .ref m44, .ref m45])), (m10, .inl (cI, 34, .inl (fun _ => 0))), (m44, .inl (cI, 70, .inl (fun _ => 0))), (m45, .inl (cZ, 2, .inl (fun _ => 0)))] s.heap.size = A at hD ⊢
  have hA : ∀ q : Nat, s.heap.size ≤ q → A q := fun q h => by rw [← hAe]; exact Or.inr h
  have hS : va_S A s.heap s.heap [] := va_S.rf
  have hl := lv_entry ([.ref h0, .int a0]) (n := 3) (Nat.le_of_ble_eq_true rfl)
  rw [lg_entry_eq]
  generalize (lg_sl ([.ref h0, .int a0]) ++ List.replicate (3 - (lg_sl ([.ref h0, .int a0])).length) Slot.unset).toArray = ls at hl ⊢
  have hl : lv_has ls 3 [(0, .ref h0), (1, .int a0)] := hl
  refine lv_iload_n hx hb dX11_keep_0 rfl (lv_at hl 1 rfl) ?_
  refine lv_i2l hx hb dX11_keep_1 rfl ?_
  refine lv_lconst (v := 0) hx hb dX11_keep_2 (by decide) ?_
  refine lv_topl (fun z1 ez1 => ?_)
  obtain rfl : z1 = (0 : Int32).toInt64 := ez1.trans (by decide)
  refine lv_lconst (v := 1) hx hb dX11_keep_3 (by decide) ?_
  refine lv_topl (fun z2 ez2 => ?_)
  obtain rfl : z2 = (1 : Int32).toInt64 := ez2.trans (by decide)
  have hPc := hP.sub (ws' := []) [] rfl
  refine va_calli (va_runS (As := [.long a0.toInt64, .long ((0 : Int32).toInt64), .long ((1 : Int32).toInt64)]) (rest := []) ⟨hx, hb, hml, hown, hts⟩ (c_X11_in l dC dI cI cZ cQ a0 0 1 s.heap.size ) (va_cwS 3 hts gX11_keep_X11_in rfl rfl rfl (by decide +kernel) ⟨Nat.le_of_ble_eq_true rfl, Nat.le_of_ble_eq_true rfl⟩) ⟨fun a U g mk q => by obtain ⟨q0, q1, qP, qK⟩ := q; exact ⟨q0, q1, qP, va_K.moved (u := U) (U := U.calling g mk a) (Vm.Alike.refl U.vm) qK⟩, fun U hU hW => ⟨rfl, by rw [hU], by rw [hU]; exact hPc, va_K.moved hW.alike hK⟩⟩ rfl rfl hl.1 rfl (lv_room (Nat.le_of_ble_eq_true rfl)) dX11_keep_4 ⟨Nat.le_of_ble_eq_true rfl, Nat.le_of_ble_eq_true rfl⟩) hS (fun q _ h => False.elim h) (fun q h => False.elim h) (fun r3 u4 t H1 locs ht hvm hw5 hB hz1 hk1 hS => ?_)
  have hP := hP.kept (fun k q hk => hk1 q.1 (hP k q hk).lt (fun h => h))
  clear hz1 hk1 hPc
  generalize H1 = H at hP hS ht ⊢
  try dsimp only at hw5
  rcases hw5 with ⟨rfl, hw5⟩ | ⟨rfl, hw5⟩
  ·
    rcases x_01 hw5 with rfl | rfl
    ·
      refine lv_if_ne (tgt := 13) hx hb dX11_keep_7 (by decide) (fun c7 => ?_) (fun c7 => ?_)
      rotate_left
      · exact absurd c7 (by decide)
      clear c7
      refine lv_iconst (v := 0) hx hb dX11_keep_13 (by decide) ?_
      refine lv_istore_n (lv' := [(2, .int 0), (0, .ref h0), (1, .int 0)]) hx hb dX11_keep_14 rfl hl (by decide) rfl (fun ls hl => ?_)
      refine lv_iload_n hx hb dX11_keep_15 rfl (lv_at hl 0 rfl) ?_
      refine lv_bipush (v := 34) hx hb dX11_keep_16 (by decide) ?_
      refine lv_icmp_ge (tgt := 44) hx hb dX11_keep_18 (by decide) (fun c8 => ?_) (fun c8 => ?_)
      · exact absurd c8 (by decide)
      clear c8
      refine lv_aload_n hx hb dX11_keep_21 rfl (lv_at hl 1 rfl) ?_
      refine va_get (D := (dC, dI)) (ci := 11) (v := .ref m44) (C := RX11) (T := TX11) (N := 46) hx hb hts hi_X11 hown hK hP 0 rfl rfl 44 (by decide) (hts (.fieldLink RX11 89 "LeftQuillsModel" "images" "[I") (by decide +kernel)) (fun _ h9 => h9) rfl dX11_keep_22 ?_
      refine lv_bipush (v := 35) hx hb dX11_keep_25 (by decide) ?_
      refine lv_iload_n hx hb dX11_keep_27 rfl (lv_at hl 2 rfl) ?_
      refine lv_imul hx hb dX11_keep_28 ?_
      refine lv_topi (fun z9 ez9 => ?_)
      obtain rfl : z9 = 0 := ez9.trans (by decide)
      refine lv_iload_n hx hb dX11_keep_29 rfl (lv_at hl 0 rfl) ?_
      refine lv_iadd hx hb dX11_keep_30 ?_
      refine lv_topi (fun z10 ez10 => ?_)
      obtain rfl : z10 = 0 := ez10.trans (by decide)
      refine lv_aload_n hx hb dX11_keep_31 rfl (lv_at hl 1 rfl) ?_
      refine va_get (D := (dC, dI)) (ci := 11) (v := .ref m10) (C := RX11) (T := TX11) (N := 46) hx hb hts hi_X11 hown hK hP 0 rfl rfl 10 (by decide) (hts (.fieldLink RX11 28 "LeftQuillsModel" "now" "[I") (by decide +kernel)) (fun _ h9 => h9) rfl dX11_keep_32 ?_
      refine lv_iload_n hx hb dX11_keep_35 rfl (lv_at hl 0 rfl) ?_
      refine va_iald hx hb hK hP 1 0 rfl rfl (vp_in_iff.mpr ⟨by decide, by decide⟩) dX11_keep_36 ?_
      refine W.eq (g2 := F0 m 37 ls (.int 0 :: [.int 0, .ref m44])) rfl ?_
      refine va_iast hx hb hK hP hD hS 2 0 rfl rfl (vp_in_iff.mpr ⟨by decide, by decide⟩) dX11_keep_37 (fun H locs hP hD hS => ?_)
      rw [x_upd0] at hP hD
      have hP : va_P (dC, dI) vwCl [(h0, .inr (11, [.int 0, .int 0, .int 0, .ref m3, .ref m4, .ref m5, .int 0, .ref m7, .ref m8, .ref m9, .ref m10, .int 0, .ref m12, .int 0, .int (-1), .int 0, .int 0, .int 0, .ref m18, .int 0, .ref m20, .ref m21, .ref m22, .ref m23, .ref m24, .int 0, .ref m26, .ref m27, .ref m28, .int 0, .ref m30, .int 0, .int 0, .ref m33, .int 0, .int 0, .ref m36, .int 0, .ref m38, .ref m39, .ref m40, .int 0, .ref m42, .ref m43, .ref m44, .ref m45])), (m10, .inl (cI, 34, .inl (fun _ => 0))), (m44, .inl (cI, 70, .inl (fun _ => 0))), (m45, .inl (cZ, 2, .inl (fun _ => 0)))] H := hP
      have hD : va_D A [(h0, .inr (11, [.int 0, .int 0, .int 0, .ref m3, .ref m4, .ref m5, .int 0, .ref m7, .ref m8, .ref m9, .ref m10, .int 0, .ref m12, .int 0, .int (-1), .int 0, .int 0, .int 0, .ref m18, .int 0, .ref m20, .ref m21, .ref m22, .ref m23, .ref m24, .int 0, .ref m26, .ref m27, .ref m28, .int 0, .ref m30, .int 0, .int 0, .ref m33, .int 0, .int 0, .ref m36, .int 0, .ref m38, .ref m39, .ref m40, .int 0, .ref m42, .ref m43, .ref m44, .ref m45])), (m10, .inl (cI, 34, .inl (fun _ => 0))), (m44, .inl (cI, 70, .inl (fun _ => 0))), (m45, .inl (cZ, 2, .inl (fun _ => 0)))] := hD
      refine lv_iinc (v := 1) (lv' := [(2, .int 1), (0, .ref h0), (1, .int 0)]) hx hb dX11_keep_38 hl (k := 0) rfl (by decide) (by decide) rfl (fun ls hl => ?_)
      refine lv_goto (tgt := 15) hx hb dX11_keep_41 (by decide) ?_
      refine lv_iload_n hx hb dX11_keep_15 rfl (lv_at hl 0 rfl) ?_
      refine lv_bipush (v := 34) hx hb dX11_keep_16 (by decide) ?_
      refine lv_icmp_ge (tgt := 44) hx hb dX11_keep_18 (by decide) (fun c12 => ?_) (fun c12 => ?_)
      · exact absurd c12 (by decide)
      clear c12
      refine lv_aload_n hx hb dX11_keep_21 rfl (lv_at hl 1 rfl) ?_
      refine va_get (D := (dC, dI)) (ci := 11) (v := .ref m44) (C := RX11) (T := TX11) (N := 46) hx hb hts hi_X11 hown hK hP 0 rfl rfl 44 (by decide) (hts (.fieldLink RX11 89 "LeftQuillsModel" "images" "[I") (by decide +kernel)) (fun _ h9 => h9) rfl dX11_keep_22 ?_
      refine lv_bipush (v := 35) hx hb dX11_keep_25 (by decide) ?_
      refine lv_iload_n hx hb dX11_keep_27 rfl (lv_at hl 2 rfl) ?_
      refine lv_imul hx hb dX11_keep_28 ?_
      refine lv_topi (fun z13 ez13 => ?_)
      obtain rfl : z13 = 0 := ez13.trans (by decide)
      refine lv_iload_n hx hb dX11_keep_29 rfl (lv_at hl 0 rfl) ?_
      refine lv_iadd hx hb dX11_keep_30 ?_
      refine lv_topi (fun z14 ez14 => ?_)
      obtain rfl : z14 = 1 := ez14.trans (by decide)
      refine lv_aload_n hx hb dX11_keep_31 rfl (lv_at hl 1 rfl) ?_
      refine va_get (D := (dC, dI)) (ci := 11) (v := .ref m10) (C := RX11) (T := TX11) (N := 46) hx hb hts hi_X11 hown hK hP 0 rfl rfl 10 (by decide) (hts (.fieldLink RX11 28 "LeftQuillsModel" "now" "[I") (by decide +kernel)) (fun _ h9 => h9) rfl dX11_keep_32 ?_
      refine lv_iload_n hx hb dX11_keep_35 rfl (lv_at hl 0 rfl) ?_
      refine va_iald hx hb hK hP 1 0 rfl rfl (vp_in_iff.mpr ⟨by decide, by decide⟩) dX11_keep_36 ?_
      refine W.eq (g2 := F0 m 37 ls (.int 0 :: [.int 1, .ref m44])) rfl ?_
      refine va_iast hx hb hK hP hD hS 2 0 rfl rfl (vp_in_iff.mpr ⟨by decide, by decide⟩) dX11_keep_37 (fun H locs hP hD hS => ?_)
      rw [x_upd0] at hP hD
      have hP : va_P (dC, dI) vwCl [(h0, .inr (11, [.int 0, .int 0, .int 0, .ref m3, .ref m4, .ref m5, .int 0, .ref m7, .ref m8, .ref m9, .ref m10, .int 0, .ref m12, .int 0, .int (-1), .int 0, .int 0, .int 0, .ref m18, .int 0, .ref m20, .ref m21, .ref m22, .ref m23, .ref m24, .int 0, .ref m26, .ref m27, .ref m28, .int 0, .ref m30, .int 0, .int 0, .ref m33, .int 0, .int 0, .ref m36, .int 0, .ref m38, .ref m39, .ref m40, .int 0, .ref m42, .ref m43, .ref m44, .ref m45])), (m10, .inl (cI, 34, .inl (fun _ => 0))), (m44, .inl (cI, 70, .inl (fun _ => 0))), (m45, .inl (cZ, 2, .inl (fun _ => 0)))] H := hP
      have hD : va_D A [(h0, .inr (11, [.int 0, .int 0, .int 0, .ref m3, .ref m4, .ref m5, .int 0, .ref m7, .ref m8, .ref m9, .ref m10, .int 0, .ref m12, .int 0, .int (-1), .int 0, .int 0, .int 0, .ref m18, .int 0, .ref m20, .ref m21, .ref m22, .ref m23, .ref m24, .int 0, .ref m26, .ref m27, .ref m28, .int 0, .ref m30, .int 0, .int 0, .ref m33, .int 0, .int 0, .ref m36, .int 0, .ref m38, .ref m39, .ref m40, .int 0, .ref m42, .ref m43, .ref m44, .ref m45])), (m10, .inl (cI, 34, .inl (fun _ => 0))), (m44, .inl (cI, 70, .inl (fun _ => 0))), (m45, .inl (cZ, 2, .inl (fun _ => 0)))] := hD
      refine lv_iinc (v := 2) (lv' := [(2, .int 2), (0, .ref h0), (1, .int 0)]) hx hb dX11_keep_38 hl (k := 0) rfl (by decide) (by decide) rfl (fun ls hl => ?_)
      refine lv_goto (tgt := 15) hx hb dX11_keep_41 (by decide) ?_
      refine lv_iload_n hx hb dX11_keep_15 rfl (lv_at hl 0 rfl) ?_
      refine lv_bipush (v := 34) hx hb dX11_keep_16 (by decide) ?_
      refine lv_icmp_ge (tgt := 44) hx hb dX11_keep_18 (by decide) (fun c16 => ?_) (fun c16 => ?_)
      · exact absurd c16 (by decide)
      clear c16
      refine lv_aload_n hx hb dX11_keep_21 rfl (lv_at hl 1 rfl) ?_
      refine va_get (D := (dC, dI)) (ci := 11) (v := .ref m44) (C := RX11) (T := TX11) (N := 46) hx hb hts hi_X11 hown hK hP 0 rfl rfl 44 (by decide) (hts (.fieldLink RX11 89 "LeftQuillsModel" "images" "[I") (by decide +kernel)) (fun _ h9 => h9) rfl dX11_keep_22 ?_
      refine lv_bipush (v := 35) hx hb dX11_keep_25 (by decide) ?_
      refine lv_iload_n hx hb dX11_keep_27 rfl (lv_at hl 2 rfl) ?_
      refine lv_imul hx hb dX11_keep_28 ?_
      refine lv_topi (fun z17 ez17 => ?_)
      obtain rfl : z17 = 0 := ez17.trans (by decide)
      refine lv_iload_n hx hb dX11_keep_29 rfl (lv_at hl 0 rfl) ?_
      refine lv_iadd hx hb dX11_keep_30 ?_
      refine lv_topi (fun z18 ez18 => ?_)
      obtain rfl : z18 = 2 := ez18.trans (by decide)
      refine lv_aload_n hx hb dX11_keep_31 rfl (lv_at hl 1 rfl) ?_
      refine va_get (D := (dC, dI)) (ci := 11) (v := .ref m10) (C := RX11) (T := TX11) (N := 46) hx hb hts hi_X11 hown hK hP 0 rfl rfl 10 (by decide) (hts (.fieldLink RX11 28 "LeftQuillsModel" "now" "[I") (by decide +kernel)) (fun _ h9 => h9) rfl dX11_keep_32 ?_
      refine lv_iload_n hx hb dX11_keep_35 rfl (lv_at hl 0 rfl) ?_
      refine va_iald hx hb hK hP 1 0 rfl rfl (vp_in_iff.mpr ⟨by decide, by decide⟩) dX11_keep_36 ?_
      refine W.eq (g2 := F0 m 37 ls (.int 0 :: [.int 2, .ref m44])) rfl ?_
      refine va_iast hx hb hK hP hD hS 2 0 rfl rfl (vp_in_iff.mpr ⟨by decide, by decide⟩) dX11_keep_37 (fun H locs hP hD hS => ?_)
      rw [x_upd0] at hP hD
      have hP : va_P (dC, dI) vwCl [(h0, .inr (11, [.int 0, .int 0, .int 0, .ref m3, .ref m4, .ref m5, .int 0, .ref m7, .ref m8, .ref m9, .ref m10, .int 0, .ref m12, .int 0, .int (-1), .int 0, .int 0, .int 0, .ref m18, .int 0, .ref m20, .ref m21, .ref m22, .ref m23, .ref m24, .int 0, .ref m26, .ref m27, .ref m28, .int 0, .ref m30, .int 0, .int 0, .ref m33, .int 0, .int 0, .ref m36, .int 0, .ref m38, .ref m39, .ref m40, .int 0, .ref m42, .ref m43, .ref m44, .ref m45])), (m10, .inl (cI, 34, .inl (fun _ => 0))), (m44, .inl (cI, 70, .inl (fun _ => 0))), (m45, .inl (cZ, 2, .inl (fun _ => 0)))] H := hP
      have hD : va_D A [(h0, .inr (11, [.int 0, .int 0, .int 0, .ref m3, .ref m4, .ref m5, .int 0, .ref m7, .ref m8, .ref m9, .ref m10, .int 0, .ref m12, .int 0, .int (-1), .int 0, .int 0, .int 0, .ref m18, .int 0, .ref m20, .ref m21, .ref m22, .ref m23, .ref m24, .int 0, .ref m26, .ref m27, .ref m28, .int 0, .ref m30, .int 0, .int 0, .ref m33, .int 0, .int 0, .ref m36, .int 0, .ref m38, .ref m39, .ref m40, .int 0, .ref m42, .ref m43, .ref m44, .ref m45])), (m10, .inl (cI, 34, .inl (fun _ => 0))), (m44, .inl (cI, 70, .inl (fun _ => 0))), (m45, .inl (cZ, 2, .inl (fun _ => 0)))] := hD
      refine lv_iinc (v := 3) (lv' := [(2, .int 3), (0, .ref h0), (1, .int 0)]) hx hb dX11_keep_38 hl (k := 0) rfl (by decide) (by decide) rfl (fun ls hl => ?_)
      refine lv_goto (tgt := 15) hx hb dX11_keep_41 (by decide) ?_
      refine lv_iload_n hx hb dX11_keep_15 rfl (lv_at hl 0 rfl) ?_
      refine lv_bipush (v := 34) hx hb dX11_keep_16 (by decide) ?_
      refine lv_icmp_ge (tgt := 44) hx hb dX11_keep_18 (by decide) (fun c20 => ?_) (fun c20 => ?_)
      · exact absurd c20 (by decide)
      clear c20
      refine lv_aload_n hx hb dX11_keep_21 rfl (lv_at hl 1 rfl) ?_
      refine va_get (D := (dC, dI)) (ci := 11) (v := .ref m44) (C := RX11) (T := TX11) (N := 46) hx hb hts hi_X11 hown hK hP 0 rfl rfl 44 (by decide) (hts (.fieldLink RX11 89 "LeftQuillsModel" "images" "[I") (by decide +kernel)) (fun _ h9 => h9) rfl dX11_keep_22 ?_
      refine lv_bipush (v := 35) hx hb dX11_keep_25 (by decide) ?_
      refine lv_iload_n hx hb dX11_keep_27 rfl (lv_at hl 2 rfl) ?_
      refine lv_imul hx hb dX11_keep_28 ?_
      refine lv_topi (fun z21 ez21 => ?_)
      obtain rfl : z21 = 0 := ez21.trans (by decide)
      refine lv_iload_n hx hb dX11_keep_29 rfl (lv_at hl 0 rfl) ?_
      refine lv_iadd hx hb dX11_keep_30 ?_
      refine lv_topi (fun z22 ez22 => ?_)
      obtain rfl : z22 = 3 := ez22.trans (by decide)
      refine lv_aload_n hx hb dX11_keep_31 rfl (lv_at hl 1 rfl) ?_
      refine va_get (D := (dC, dI)) (ci := 11) (v := .ref m10) (C := RX11) (T := TX11) (N := 46) hx hb hts hi_X11 hown hK hP 0 rfl rfl 10 (by decide) (hts (.fieldLink RX11 28 "LeftQuillsModel" "now" "[I") (by decide +kernel)) (fun _ h9 => h9) rfl dX11_keep_32 ?_
      refine lv_iload_n hx hb dX11_keep_35 rfl (lv_at hl 0 rfl) ?_
      refine va_iald hx hb hK hP 1 0 rfl rfl (vp_in_iff.mpr ⟨by decide, by decide⟩) dX11_keep_36 ?_
      refine W.eq (g2 := F0 m 37 ls (.int 0 :: [.int 3, .ref m44])) rfl ?_
      refine va_iast hx hb hK hP hD hS 2 0 rfl rfl (vp_in_iff.mpr ⟨by decide, by decide⟩) dX11_keep_37 (fun H locs hP hD hS => ?_)
      rw [x_upd0] at hP hD
      have hP : va_P (dC, dI) vwCl [(h0, .inr (11, [.int 0, .int 0, .int 0, .ref m3, .ref m4, .ref m5, .int 0, .ref m7, .ref m8, .ref m9, .ref m10, .int 0, .ref m12, .int 0, .int (-1), .int 0, .int 0, .int 0, .ref m18, .int 0, .ref m20, .ref m21, .ref m22, .ref m23, .ref m24, .int 0, .ref m26, .ref m27, .ref m28, .int 0, .ref m30, .int 0, .int 0, .ref m33, .int 0, .int 0, .ref m36, .int 0, .ref m38, .ref m39, .ref m40, .int 0, .ref m42, .ref m43, .ref m44, .ref m45])), (m10, .inl (cI, 34, .inl (fun _ => 0))), (m44, .inl (cI, 70, .inl (fun _ => 0))), (m45, .inl (cZ, 2, .inl (fun _ => 0)))] H := hP
      have hD : va_D A [(h0, .inr (11, [.int 0, .int 0, .int 0, .ref m3, .ref m4, .ref m5, .int 0, .ref m7, .ref m8, .ref m9, .ref m10, .int 0, .ref m12, .int 0, .int (-1), .int 0, .int 0, .int 0, .ref m18, .int 0, .ref m20, .ref m21, .ref m22, .ref m23, .ref m24, .int 0, .ref m26, .ref m27, .ref m28, .int 0, .ref m30, .int 0, .int 0, .ref m33, .int 0, .int 0, .ref m36, .int 0, .ref m38, .ref m39, .ref m40, .int 0, .ref m42, .ref m43, .ref m44, .ref m45])), (m10, .inl (cI, 34, .inl (fun _ => 0))), (m44, .inl (cI, 70, .inl (fun _ => 0))), (m45, .inl (cZ, 2, .inl (fun _ => 0)))] := hD
      refine lv_iinc (v := 4) (lv' := [(2, .int 4), (0, .ref h0), (1, .int 0)]) hx hb dX11_keep_38 hl (k := 0) rfl (by decide) (by decide) rfl (fun ls hl => ?_)
      refine lv_goto (tgt := 15) hx hb dX11_keep_41 (by decide) ?_
      refine lv_iload_n hx hb dX11_keep_15 rfl (lv_at hl 0 rfl) ?_
      refine lv_bipush (v := 34) hx hb dX11_keep_16 (by decide) ?_
      refine lv_icmp_ge (tgt := 44) hx hb dX11_keep_18 (by decide) (fun c24 => ?_) (fun c24 => ?_)
      · exact absurd c24 (by decide)
      clear c24
      refine lv_aload_n hx hb dX11_keep_21 rfl (lv_at hl 1 rfl) ?_
      refine va_get (D := (dC, dI)) (ci := 11) (v := .ref m44) (C := RX11) (T := TX11) (N := 46) hx hb hts hi_X11 hown hK hP 0 rfl rfl 44 (by decide) (hts (.fieldLink RX11 89 "LeftQuillsModel" "images" "[I") (by decide +kernel)) (fun _ h9 => h9) rfl dX11_keep_22 ?_
      refine lv_bipush (v := 35) hx hb dX11_keep_25 (by decide) ?_
      refine lv_iload_n hx hb dX11_keep_27 rfl (lv_at hl 2 rfl) ?_
      refine lv_imul hx hb dX11_keep_28 ?_
      refine lv_topi (fun z25 ez25 => ?_)
      obtain rfl : z25 = 0 := ez25.trans (by decide)
      refine lv_iload_n hx hb dX11_keep_29 rfl (lv_at hl 0 rfl) ?_
      refine lv_iadd hx hb dX11_keep_30 ?_
      refine lv_topi (fun z26 ez26 => ?_)
      obtain rfl : z26 = 4 := ez26.trans (by decide)
      refine lv_aload_n hx hb dX11_keep_31 rfl (lv_at hl 1 rfl) ?_
      refine va_get (D := (dC, dI)) (ci := 11) (v := .ref m10) (C := RX11) (T := TX11) (N := 46) hx hb hts hi_X11 hown hK hP 0 rfl rfl 10 (by decide) (hts (.fieldLink RX11 28 "LeftQuillsModel" "now" "[I") (by decide +kernel)) (fun _ h9 => h9) rfl dX11_keep_32 ?_
      refine lv_iload_n hx hb dX11_keep_35 rfl (lv_at hl 0 rfl) ?_
      refine va_iald hx hb hK hP 1 0 rfl rfl (vp_in_iff.mpr ⟨by decide, by decide⟩) dX11_keep_36 ?_
      refine W.eq (g2 := F0 m 37 ls (.int 0 :: [.int 4, .ref m44])) rfl ?_
      refine va_iast hx hb hK hP hD hS 2 0 rfl rfl (vp_in_iff.mpr ⟨by decide, by decide⟩) dX11_keep_37 (fun H locs hP hD hS => ?_)
      rw [x_upd0] at hP hD
      have hP : va_P (dC, dI) vwCl [(h0, .inr (11, [.int 0, .int 0, .int 0, .ref m3, .ref m4, .ref m5, .int 0, .ref m7, .ref m8, .ref m9, .ref m10, .int 0, .ref m12, .int 0, .int (-1), .int 0, .int 0, .int 0, .ref m18, .int 0, .ref m20, .ref m21, .ref m22, .ref m23, .ref m24, .int 0, .ref m26, .ref m27, .ref m28, .int 0, .ref m30, .int 0, .int 0, .ref m33, .int 0, .int 0, .ref m36, .int 0, .ref m38, .ref m39, .ref m40, .int 0, .ref m42, .ref m43, .ref m44, .ref m45])), (m10, .inl (cI, 34, .inl (fun _ => 0))), (m44, .inl (cI, 70, .inl (fun _ => 0))), (m45, .inl (cZ, 2, .inl (fun _ => 0)))] H := hP
      have hD : va_D A [(h0, .inr (11, [.int 0, .int 0, .int 0, .ref m3, .ref m4, .ref m5, .int 0, .ref m7, .ref m8, .ref m9, .ref m10, .int 0, .ref m12, .int 0, .int (-1), .int 0, .int 0, .int 0, .ref m18, .int 0, .ref m20, .ref m21, .ref m22, .ref m23, .ref m24, .int 0, .ref m26, .ref m27, .ref m28, .int 0, .ref m30, .int 0, .int 0, .ref m33, .int 0, .int 0, .ref m36, .int 0, .ref m38, .ref m39, .ref m40, .int 0, .ref m42, .ref m43, .ref m44, .ref m45])), (m10, .inl (cI, 34, .inl (fun _ => 0))), (m44, .inl (cI, 70, .inl (fun _ => 0))), (m45, .inl (cZ, 2, .inl (fun _ => 0)))] := hD
      refine lv_iinc (v := 5) (lv' := [(2, .int 5), (0, .ref h0), (1, .int 0)]) hx hb dX11_keep_38 hl (k := 0) rfl (by decide) (by decide) rfl (fun ls hl => ?_)
      refine lv_goto (tgt := 15) hx hb dX11_keep_41 (by decide) ?_
      refine lv_iload_n hx hb dX11_keep_15 rfl (lv_at hl 0 rfl) ?_
      refine lv_bipush (v := 34) hx hb dX11_keep_16 (by decide) ?_
      refine lv_icmp_ge (tgt := 44) hx hb dX11_keep_18 (by decide) (fun c28 => ?_) (fun c28 => ?_)
      · exact absurd c28 (by decide)
      clear c28
      refine lv_aload_n hx hb dX11_keep_21 rfl (lv_at hl 1 rfl) ?_
      refine va_get (D := (dC, dI)) (ci := 11) (v := .ref m44) (C := RX11) (T := TX11) (N := 46) hx hb hts hi_X11 hown hK hP 0 rfl rfl 44 (by decide) (hts (.fieldLink RX11 89 "LeftQuillsModel" "images" "[I") (by decide +kernel)) (fun _ h9 => h9) rfl dX11_keep_22 ?_
      refine lv_bipush (v := 35) hx hb dX11_keep_25 (by decide) ?_
      refine lv_iload_n hx hb dX11_keep_27 rfl (lv_at hl 2 rfl) ?_
      refine lv_imul hx hb dX11_keep_28 ?_
      refine lv_topi (fun z29 ez29 => ?_)
      obtain rfl : z29 = 0 := ez29.trans (by decide)
      refine lv_iload_n hx hb dX11_keep_29 rfl (lv_at hl 0 rfl) ?_
      refine lv_iadd hx hb dX11_keep_30 ?_
      refine lv_topi (fun z30 ez30 => ?_)
      obtain rfl : z30 = 5 := ez30.trans (by decide)
      refine lv_aload_n hx hb dX11_keep_31 rfl (lv_at hl 1 rfl) ?_
      refine va_get (D := (dC, dI)) (ci := 11) (v := .ref m10) (C := RX11) (T := TX11) (N := 46) hx hb hts hi_X11 hown hK hP 0 rfl rfl 10 (by decide) (hts (.fieldLink RX11 28 "LeftQuillsModel" "now" "[I") (by decide +kernel)) (fun _ h9 => h9) rfl dX11_keep_32 ?_
      refine lv_iload_n hx hb dX11_keep_35 rfl (lv_at hl 0 rfl) ?_
      refine va_iald hx hb hK hP 1 0 rfl rfl (vp_in_iff.mpr ⟨by decide, by decide⟩) dX11_keep_36 ?_
      refine W.eq (g2 := F0 m 37 ls (.int 0 :: [.int 5, .ref m44])) rfl ?_
      refine va_iast hx hb hK hP hD hS 2 0 rfl rfl (vp_in_iff.mpr ⟨by decide, by decide⟩) dX11_keep_37 (fun H locs hP hD hS => ?_)
      rw [x_upd0] at hP hD
      have hP : va_P (dC, dI) vwCl [(h0, .inr (11, [.int 0, .int 0, .int 0, .ref m3, .ref m4, .ref m5, .int 0, .ref m7, .ref m8, .ref m9, .ref m10, .int 0, .ref m12, .int 0, .int (-1), .int 0, .int 0, .int 0, .ref m18, .int 0, .ref m20, .ref m21, .ref m22, .ref m23, .ref m24, .int 0, .ref m26, .ref m27, .ref m28, .int 0, .ref m30, .int 0, .int 0, .ref m33, .int 0, .int 0, .ref m36, .int 0, .ref m38, .ref m39, .ref m40, .int 0, .ref m42, .ref m43, .ref m44, .ref m45])), (m10, .inl (cI, 34, .inl (fun _ => 0))), (m44, .inl (cI, 70, .inl (fun _ => 0))), (m45, .inl (cZ, 2, .inl (fun _ => 0)))] H := hP
      have hD : va_D A [(h0, .inr (11, [.int 0, .int 0, .int 0, .ref m3, .ref m4, .ref m5, .int 0, .ref m7, .ref m8, .ref m9, .ref m10, .int 0, .ref m12, .int 0, .int (-1), .int 0, .int 0, .int 0, .ref m18, .int 0, .ref m20, .ref m21, .ref m22, .ref m23, .ref m24, .int 0, .ref m26, .ref m27, .ref m28, .int 0, .ref m30, .int 0, .int 0, .ref m33, .int 0, .int 0, .ref m36, .int 0, .ref m38, .ref m39, .ref m40, .int 0, .ref m42, .ref m43, .ref m44, .ref m45])), (m10, .inl (cI, 34, .inl (fun _ => 0))), (m44, .inl (cI, 70, .inl (fun _ => 0))), (m45, .inl (cZ, 2, .inl (fun _ => 0)))] := hD
      refine lv_iinc (v := 6) (lv' := [(2, .int 6), (0, .ref h0), (1, .int 0)]) hx hb dX11_keep_38 hl (k := 0) rfl (by decide) (by decide) rfl (fun ls hl => ?_)
      refine lv_goto (tgt := 15) hx hb dX11_keep_41 (by decide) ?_
      refine lv_iload_n hx hb dX11_keep_15 rfl (lv_at hl 0 rfl) ?_
      refine lv_bipush (v := 34) hx hb dX11_keep_16 (by decide) ?_
      refine lv_icmp_ge (tgt := 44) hx hb dX11_keep_18 (by decide) (fun c32 => ?_) (fun c32 => ?_)
      · exact absurd c32 (by decide)
      clear c32
      refine lv_aload_n hx hb dX11_keep_21 rfl (lv_at hl 1 rfl) ?_
      refine va_get (D := (dC, dI)) (ci := 11) (v := .ref m44) (C := RX11) (T := TX11) (N := 46) hx hb hts hi_X11 hown hK hP 0 rfl rfl 44 (by decide) (hts (.fieldLink RX11 89 "LeftQuillsModel" "images" "[I") (by decide +kernel)) (fun _ h9 => h9) rfl dX11_keep_22 ?_
      refine lv_bipush (v := 35) hx hb dX11_keep_25 (by decide) ?_
      refine lv_iload_n hx hb dX11_keep_27 rfl (lv_at hl 2 rfl) ?_
      refine lv_imul hx hb dX11_keep_28 ?_
      refine lv_topi (fun z33 ez33 => ?_)
      obtain rfl : z33 = 0 := ez33.trans (by decide)
      refine lv_iload_n hx hb dX11_keep_29 rfl (lv_at hl 0 rfl) ?_
      refine lv_iadd hx hb dX11_keep_30 ?_
      refine lv_topi (fun z34 ez34 => ?_)
      obtain rfl : z34 = 6 := ez34.trans (by decide)
      refine lv_aload_n hx hb dX11_keep_31 rfl (lv_at hl 1 rfl) ?_
      refine va_get (D := (dC, dI)) (ci := 11) (v := .ref m10) (C := RX11) (T := TX11) (N := 46) hx hb hts hi_X11 hown hK hP 0 rfl rfl 10 (by decide) (hts (.fieldLink RX11 28 "LeftQuillsModel" "now" "[I") (by decide +kernel)) (fun _ h9 => h9) rfl dX11_keep_32 ?_
      refine lv_iload_n hx hb dX11_keep_35 rfl (lv_at hl 0 rfl) ?_
      refine va_iald hx hb hK hP 1 0 rfl rfl (vp_in_iff.mpr ⟨by decide, by decide⟩) dX11_keep_36 ?_
      refine W.eq (g2 := F0 m 37 ls (.int 0 :: [.int 6, .ref m44])) rfl ?_
      refine va_iast hx hb hK hP hD hS 2 0 rfl rfl (vp_in_iff.mpr ⟨by decide, by decide⟩) dX11_keep_37 (fun H locs hP hD hS => ?_)
      rw [x_upd0] at hP hD
      have hP : va_P (dC, dI) vwCl [(h0, .inr (11, [.int 0, .int 0, .int 0, .ref m3, .ref m4, .ref m5, .int 0, .ref m7, .ref m8, .ref m9, .ref m10, .int 0, .ref m12, .int 0, .int (-1), .int 0, .int 0, .int 0, .ref m18, .int 0, .ref m20, .ref m21, .ref m22, .ref m23, .ref m24, .int 0, .ref m26, .ref m27, .ref m28, .int 0, .ref m30, .int 0, .int 0, .ref m33, .int 0, .int 0, .ref m36, .int 0, .ref m38, .ref m39, .ref m40, .int 0, .ref m42, .ref m43, .ref m44, .ref m45])), (m10, .inl (cI, 34, .inl (fun _ => 0))), (m44, .inl (cI, 70, .inl (fun _ => 0))), (m45, .inl (cZ, 2, .inl (fun _ => 0)))] H := hP
      have hD : va_D A [(h0, .inr (11, [.int 0, .int 0, .int 0, .ref m3, .ref m4, .ref m5, .int 0, .ref m7, .ref m8, .ref m9, .ref m10, .int 0, .ref m12, .int 0, .int (-1), .int 0, .int 0, .int 0, .ref m18, .int 0, .ref m20, .ref m21, .ref m22, .ref m23, .ref m24, .int 0, .ref m26, .ref m27, .ref m28, .int 0, .ref m30, .int 0, .int 0, .ref m33, .int 0, .int 0, .ref m36, .int 0, .ref m38, .ref m39, .ref m40, .int 0, .ref m42, .ref m43, .ref m44, .ref m45])), (m10, .inl (cI, 34, .inl (fun _ => 0))), (m44, .inl (cI, 70, .inl (fun _ => 0))), (m45, .inl (cZ, 2, .inl (fun _ => 0)))] := hD
      refine lv_iinc (v := 7) (lv' := [(2, .int 7), (0, .ref h0), (1, .int 0)]) hx hb dX11_keep_38 hl (k := 0) rfl (by decide) (by decide) rfl (fun ls hl => ?_)
      refine lv_goto (tgt := 15) hx hb dX11_keep_41 (by decide) ?_
      refine lv_iload_n hx hb dX11_keep_15 rfl (lv_at hl 0 rfl) ?_
      refine lv_bipush (v := 34) hx hb dX11_keep_16 (by decide) ?_
      refine lv_icmp_ge (tgt := 44) hx hb dX11_keep_18 (by decide) (fun c36 => ?_) (fun c36 => ?_)
      · exact absurd c36 (by decide)
      clear c36
      refine lv_aload_n hx hb dX11_keep_21 rfl (lv_at hl 1 rfl) ?_
      refine va_get (D := (dC, dI)) (ci := 11) (v := .ref m44) (C := RX11) (T := TX11) (N := 46) hx hb hts hi_X11 hown hK hP 0 rfl rfl 44 (by decide) (hts (.fieldLink RX11 89 "LeftQuillsModel" "images" "[I") (by decide +kernel)) (fun _ h9 => h9) rfl dX11_keep_22 ?_
      refine lv_bipush (v := 35) hx hb dX11_keep_25 (by decide) ?_
      refine lv_iload_n hx hb dX11_keep_27 rfl (lv_at hl 2 rfl) ?_
      refine lv_imul hx hb dX11_keep_28 ?_
      refine lv_topi (fun z37 ez37 => ?_)
      obtain rfl : z37 = 0 := ez37.trans (by decide)
      refine lv_iload_n hx hb dX11_keep_29 rfl (lv_at hl 0 rfl) ?_
      refine lv_iadd hx hb dX11_keep_30 ?_
      refine lv_topi (fun z38 ez38 => ?_)
      obtain rfl : z38 = 7 := ez38.trans (by decide)
      refine lv_aload_n hx hb dX11_keep_31 rfl (lv_at hl 1 rfl) ?_
      refine va_get (D := (dC, dI)) (ci := 11) (v := .ref m10) (C := RX11) (T := TX11) (N := 46) hx hb hts hi_X11 hown hK hP 0 rfl rfl 10 (by decide) (hts (.fieldLink RX11 28 "LeftQuillsModel" "now" "[I") (by decide +kernel)) (fun _ h9 => h9) rfl dX11_keep_32 ?_
      refine lv_iload_n hx hb dX11_keep_35 rfl (lv_at hl 0 rfl) ?_
      refine va_iald hx hb hK hP 1 0 rfl rfl (vp_in_iff.mpr ⟨by decide, by decide⟩) dX11_keep_36 ?_
      refine W.eq (g2 := F0 m 37 ls (.int 0 :: [.int 7, .ref m44])) rfl ?_
      refine va_iast hx hb hK hP hD hS 2 0 rfl rfl (vp_in_iff.mpr ⟨by decide, by decide⟩) dX11_keep_37 (fun H locs hP hD hS => ?_)
      rw [x_upd0] at hP hD
      have hP : va_P (dC, dI) vwCl [(h0, .inr (11, [.int 0, .int 0, .int 0, .ref m3, .ref m4, .ref m5, .int 0, .ref m7, .ref m8, .ref m9, .ref m10, .int 0, .ref m12, .int 0, .int (-1), .int 0, .int 0, .int 0, .ref m18, .int 0, .ref m20, .ref m21, .ref m22, .ref m23, .ref m24, .int 0, .ref m26, .ref m27, .ref m28, .int 0, .ref m30, .int 0, .int 0, .ref m33, .int 0, .int 0, .ref m36, .int 0, .ref m38, .ref m39, .ref m40, .int 0, .ref m42, .ref m43, .ref m44, .ref m45])), (m10, .inl (cI, 34, .inl (fun _ => 0))), (m44, .inl (cI, 70, .inl (fun _ => 0))), (m45, .inl (cZ, 2, .inl (fun _ => 0)))] H := hP
      have hD : va_D A [(h0, .inr (11, [.int 0, .int 0, .int 0, .ref m3, .ref m4, .ref m5, .int 0, .ref m7, .ref m8, .ref m9, .ref m10, .int 0, .ref m12, .int 0, .int (-1), .int 0, .int 0, .int 0, .ref m18, .int 0, .ref m20, .ref m21, .ref m22, .ref m23, .ref m24, .int 0, .ref m26, .ref m27, .ref m28, .int 0, .ref m30, .int 0, .int 0, .ref m33, .int 0, .int 0, .ref m36, .int 0, .ref m38, .ref m39, .ref m40, .int 0, .ref m42, .ref m43, .ref m44, .ref m45])), (m10, .inl (cI, 34, .inl (fun _ => 0))), (m44, .inl (cI, 70, .inl (fun _ => 0))), (m45, .inl (cZ, 2, .inl (fun _ => 0)))] := hD
      refine lv_iinc (v := 8) (lv' := [(2, .int 8), (0, .ref h0), (1, .int 0)]) hx hb dX11_keep_38 hl (k := 0) rfl (by decide) (by decide) rfl (fun ls hl => ?_)
      refine lv_goto (tgt := 15) hx hb dX11_keep_41 (by decide) ?_
      refine lv_iload_n hx hb dX11_keep_15 rfl (lv_at hl 0 rfl) ?_
      refine lv_bipush (v := 34) hx hb dX11_keep_16 (by decide) ?_
      refine lv_icmp_ge (tgt := 44) hx hb dX11_keep_18 (by decide) (fun c40 => ?_) (fun c40 => ?_)
      · exact absurd c40 (by decide)
      clear c40
      refine lv_aload_n hx hb dX11_keep_21 rfl (lv_at hl 1 rfl) ?_
      refine va_get (D := (dC, dI)) (ci := 11) (v := .ref m44) (C := RX11) (T := TX11) (N := 46) hx hb hts hi_X11 hown hK hP 0 rfl rfl 44 (by decide) (hts (.fieldLink RX11 89 "LeftQuillsModel" "images" "[I") (by decide +kernel)) (fun _ h9 => h9) rfl dX11_keep_22 ?_
      refine lv_bipush (v := 35) hx hb dX11_keep_25 (by decide) ?_
      refine lv_iload_n hx hb dX11_keep_27 rfl (lv_at hl 2 rfl) ?_
      refine lv_imul hx hb dX11_keep_28 ?_
      refine lv_topi (fun z41 ez41 => ?_)
      obtain rfl : z41 = 0 := ez41.trans (by decide)
      refine lv_iload_n hx hb dX11_keep_29 rfl (lv_at hl 0 rfl) ?_
      refine lv_iadd hx hb dX11_keep_30 ?_
      refine lv_topi (fun z42 ez42 => ?_)
      obtain rfl : z42 = 8 := ez42.trans (by decide)
      refine lv_aload_n hx hb dX11_keep_31 rfl (lv_at hl 1 rfl) ?_
      refine va_get (D := (dC, dI)) (ci := 11) (v := .ref m10) (C := RX11) (T := TX11) (N := 46) hx hb hts hi_X11 hown hK hP 0 rfl rfl 10 (by decide) (hts (.fieldLink RX11 28 "LeftQuillsModel" "now" "[I") (by decide +kernel)) (fun _ h9 => h9) rfl dX11_keep_32 ?_
      refine lv_iload_n hx hb dX11_keep_35 rfl (lv_at hl 0 rfl) ?_
      refine va_iald hx hb hK hP 1 0 rfl rfl (vp_in_iff.mpr ⟨by decide, by decide⟩) dX11_keep_36 ?_
      refine W.eq (g2 := F0 m 37 ls (.int 0 :: [.int 8, .ref m44])) rfl ?_
      refine va_iast hx hb hK hP hD hS 2 0 rfl rfl (vp_in_iff.mpr ⟨by decide, by decide⟩) dX11_keep_37 (fun H locs hP hD hS => ?_)
      rw [x_upd0] at hP hD
      have hP : va_P (dC, dI) vwCl [(h0, .inr (11, [.int 0, .int 0, .int 0, .ref m3, .ref m4, .ref m5, .int 0, .ref m7, .ref m8, .ref m9, .ref m10, .int 0, .ref m12, .int 0, .int (-1), .int 0, .int 0, .int 0, .ref m18, .int 0, .ref m20, .ref m21, .ref m22, .ref m23, .ref m24, .int 0, .ref m26, .ref m27, .ref m28, .int 0, .ref m30, .int 0, .int 0, .ref m33, .int 0, .int 0, .ref m36, .int 0, .ref m38, .ref m39, .ref m40, .int 0, .ref m42, .ref m43, .ref m44, .ref m45])), (m10, .inl (cI, 34, .inl (fun _ => 0))), (m44, .inl (cI, 70, .inl (fun _ => 0))), (m45, .inl (cZ, 2, .inl (fun _ => 0)))] H := hP
      have hD : va_D A [(h0, .inr (11, [.int 0, .int 0, .int 0, .ref m3, .ref m4, .ref m5, .int 0, .ref m7, .ref m8, .ref m9, .ref m10, .int 0, .ref m12, .int 0, .int (-1), .int 0, .int 0, .int 0, .ref m18, .int 0, .ref m20, .ref m21, .ref m22, .ref m23, .ref m24, .int 0, .ref m26, .ref m27, .ref m28, .int 0, .ref m30, .int 0, .int 0, .ref m33, .int 0, .int 0, .ref m36, .int 0, .ref m38, .ref m39, .ref m40, .int 0, .ref m42, .ref m43, .ref m44, .ref m45])), (m10, .inl (cI, 34, .inl (fun _ => 0))), (m44, .inl (cI, 70, .inl (fun _ => 0))), (m45, .inl (cZ, 2, .inl (fun _ => 0)))] := hD
      refine lv_iinc (v := 9) (lv' := [(2, .int 9), (0, .ref h0), (1, .int 0)]) hx hb dX11_keep_38 hl (k := 0) rfl (by decide) (by decide) rfl (fun ls hl => ?_)
      refine lv_goto (tgt := 15) hx hb dX11_keep_41 (by decide) ?_
      refine lv_iload_n hx hb dX11_keep_15 rfl (lv_at hl 0 rfl) ?_
      refine lv_bipush (v := 34) hx hb dX11_keep_16 (by decide) ?_
      refine lv_icmp_ge (tgt := 44) hx hb dX11_keep_18 (by decide) (fun c44 => ?_) (fun c44 => ?_)
      · exact absurd c44 (by decide)
      clear c44
      refine lv_aload_n hx hb dX11_keep_21 rfl (lv_at hl 1 rfl) ?_
      refine va_get (D := (dC, dI)) (ci := 11) (v := .ref m44) (C := RX11) (T := TX11) (N := 46) hx hb hts hi_X11 hown hK hP 0 rfl rfl 44 (by decide) (hts (.fieldLink RX11 89 "LeftQuillsModel" "images" "[I") (by decide +kernel)) (fun _ h9 => h9) rfl dX11_keep_22 ?_
      refine lv_bipush (v := 35) hx hb dX11_keep_25 (by decide) ?_
      refine lv_iload_n hx hb dX11_keep_27 rfl (lv_at hl 2 rfl) ?_
      refine lv_imul hx hb dX11_keep_28 ?_
      refine lv_topi (fun z45 ez45 => ?_)
      obtain rfl : z45 = 0 := ez45.trans (by decide)
      refine lv_iload_n hx hb dX11_keep_29 rfl (lv_at hl 0 rfl) ?_
      refine lv_iadd hx hb dX11_keep_30 ?_
      refine lv_topi (fun z46 ez46 => ?_)
      obtain rfl : z46 = 9 := ez46.trans (by decide)
      refine lv_aload_n hx hb dX11_keep_31 rfl (lv_at hl 1 rfl) ?_
      refine va_get (D := (dC, dI)) (ci := 11) (v := .ref m10) (C := RX11) (T := TX11) (N := 46) hx hb hts hi_X11 hown hK hP 0 rfl rfl 10 (by decide) (hts (.fieldLink RX11 28 "LeftQuillsModel" "now" "[I") (by decide +kernel)) (fun _ h9 => h9) rfl dX11_keep_32 ?_
      refine lv_iload_n hx hb dX11_keep_35 rfl (lv_at hl 0 rfl) ?_
      refine va_iald hx hb hK hP 1 0 rfl rfl (vp_in_iff.mpr ⟨by decide, by decide⟩) dX11_keep_36 ?_
      refine W.eq (g2 := F0 m 37 ls (.int 0 :: [.int 9, .ref m44])) rfl ?_
      refine va_iast hx hb hK hP hD hS 2 0 rfl rfl (vp_in_iff.mpr ⟨by decide, by decide⟩) dX11_keep_37 (fun H locs hP hD hS => ?_)
      rw [x_upd0] at hP hD
      have hP : va_P (dC, dI) vwCl [(h0, .inr (11, [.int 0, .int 0, .int 0, .ref m3, .ref m4, .ref m5, .int 0, .ref m7, .ref m8, .ref m9, .ref m10, .int 0, .ref m12, .int 0, .int (-1), .int 0, .int 0, .int 0, .ref m18, .int 0, .ref m20, .ref m21, .ref m22, .ref m23, .ref m24, .int 0, .ref m26, .ref m27, .ref m28, .int 0, .ref m30, .int 0, .int 0, .ref m33, .int 0, .int 0, .ref m36, .int 0, .ref m38, .ref m39, .ref m40, .int 0, .ref m42, .ref m43, .ref m44, .ref m45])), (m10, .inl (cI, 34, .inl (fun _ => 0))), (m44, .inl (cI, 70, .inl (fun _ => 0))), (m45, .inl (cZ, 2, .inl (fun _ => 0)))] H := hP
      have hD : va_D A [(h0, .inr (11, [.int 0, .int 0, .int 0, .ref m3, .ref m4, .ref m5, .int 0, .ref m7, .ref m8, .ref m9, .ref m10, .int 0, .ref m12, .int 0, .int (-1), .int 0, .int 0, .int 0, .ref m18, .int 0, .ref m20, .ref m21, .ref m22, .ref m23, .ref m24, .int 0, .ref m26, .ref m27, .ref m28, .int 0, .ref m30, .int 0, .int 0, .ref m33, .int 0, .int 0, .ref m36, .int 0, .ref m38, .ref m39, .ref m40, .int 0, .ref m42, .ref m43, .ref m44, .ref m45])), (m10, .inl (cI, 34, .inl (fun _ => 0))), (m44, .inl (cI, 70, .inl (fun _ => 0))), (m45, .inl (cZ, 2, .inl (fun _ => 0)))] := hD
      refine lv_iinc (v := 10) (lv' := [(2, .int 10), (0, .ref h0), (1, .int 0)]) hx hb dX11_keep_38 hl (k := 0) rfl (by decide) (by decide) rfl (fun ls hl => ?_)
      refine lv_goto (tgt := 15) hx hb dX11_keep_41 (by decide) ?_
      refine lv_iload_n hx hb dX11_keep_15 rfl (lv_at hl 0 rfl) ?_
      refine lv_bipush (v := 34) hx hb dX11_keep_16 (by decide) ?_
      refine lv_icmp_ge (tgt := 44) hx hb dX11_keep_18 (by decide) (fun c48 => ?_) (fun c48 => ?_)
      · exact absurd c48 (by decide)
      clear c48
      refine lv_aload_n hx hb dX11_keep_21 rfl (lv_at hl 1 rfl) ?_
      refine va_get (D := (dC, dI)) (ci := 11) (v := .ref m44) (C := RX11) (T := TX11) (N := 46) hx hb hts hi_X11 hown hK hP 0 rfl rfl 44 (by decide) (hts (.fieldLink RX11 89 "LeftQuillsModel" "images" "[I") (by decide +kernel)) (fun _ h9 => h9) rfl dX11_keep_22 ?_
      refine lv_bipush (v := 35) hx hb dX11_keep_25 (by decide) ?_
      refine lv_iload_n hx hb dX11_keep_27 rfl (lv_at hl 2 rfl) ?_
      refine lv_imul hx hb dX11_keep_28 ?_
      refine lv_topi (fun z49 ez49 => ?_)
      obtain rfl : z49 = 0 := ez49.trans (by decide)
      refine lv_iload_n hx hb dX11_keep_29 rfl (lv_at hl 0 rfl) ?_
      refine lv_iadd hx hb dX11_keep_30 ?_
      refine lv_topi (fun z50 ez50 => ?_)
      obtain rfl : z50 = 10 := ez50.trans (by decide)
      refine lv_aload_n hx hb dX11_keep_31 rfl (lv_at hl 1 rfl) ?_
      refine va_get (D := (dC, dI)) (ci := 11) (v := .ref m10) (C := RX11) (T := TX11) (N := 46) hx hb hts hi_X11 hown hK hP 0 rfl rfl 10 (by decide) (hts (.fieldLink RX11 28 "LeftQuillsModel" "now" "[I") (by decide +kernel)) (fun _ h9 => h9) rfl dX11_keep_32 ?_
      refine lv_iload_n hx hb dX11_keep_35 rfl (lv_at hl 0 rfl) ?_
      refine va_iald hx hb hK hP 1 0 rfl rfl (vp_in_iff.mpr ⟨by decide, by decide⟩) dX11_keep_36 ?_
      refine W.eq (g2 := F0 m 37 ls (.int 0 :: [.int 10, .ref m44])) rfl ?_
      refine va_iast hx hb hK hP hD hS 2 0 rfl rfl (vp_in_iff.mpr ⟨by decide, by decide⟩) dX11_keep_37 (fun H locs hP hD hS => ?_)
      rw [x_upd0] at hP hD
      have hP : va_P (dC, dI) vwCl [(h0, .inr (11, [.int 0, .int 0, .int 0, .ref m3, .ref m4, .ref m5, .int 0, .ref m7, .ref m8, .ref m9, .ref m10, .int 0, .ref m12, .int 0, .int (-1), .int 0, .int 0, .int 0, .ref m18, .int 0, .ref m20, .ref m21, .ref m22, .ref m23, .ref m24, .int 0, .ref m26, .ref m27, .ref m28, .int 0, .ref m30, .int 0, .int 0, .ref m33, .int 0, .int 0, .ref m36, .int 0, .ref m38, .ref m39, .ref m40, .int 0, .ref m42, .ref m43, .ref m44, .ref m45])), (m10, .inl (cI, 34, .inl (fun _ => 0))), (m44, .inl (cI, 70, .inl (fun _ => 0))), (m45, .inl (cZ, 2, .inl (fun _ => 0)))] H := hP
      have hD : va_D A [(h0, .inr (11, [.int 0, .int 0, .int 0, .ref m3, .ref m4, .ref m5, .int 0, .ref m7, .ref m8, .ref m9, .ref m10, .int 0, .ref m12, .int 0, .int (-1), .int 0, .int 0, .int 0, .ref m18, .int 0, .ref m20, .ref m21, .ref m22, .ref m23, .ref m24, .int 0, .ref m26, .ref m27, .ref m28, .int 0, .ref m30, .int 0, .int 0, .ref m33, .int 0, .int 0, .ref m36, .int 0, .ref m38, .ref m39, .ref m40, .int 0, .ref m42, .ref m43, .ref m44, .ref m45])), (m10, .inl (cI, 34, .inl (fun _ => 0))), (m44, .inl (cI, 70, .inl (fun _ => 0))), (m45, .inl (cZ, 2, .inl (fun _ => 0)))] := hD
      refine lv_iinc (v := 11) (lv' := [(2, .int 11), (0, .ref h0), (1, .int 0)]) hx hb dX11_keep_38 hl (k := 0) rfl (by decide) (by decide) rfl (fun ls hl => ?_)
      refine lv_goto (tgt := 15) hx hb dX11_keep_41 (by decide) ?_
      refine lv_iload_n hx hb dX11_keep_15 rfl (lv_at hl 0 rfl) ?_
      refine lv_bipush (v := 34) hx hb dX11_keep_16 (by decide) ?_
      refine lv_icmp_ge (tgt := 44) hx hb dX11_keep_18 (by decide) (fun c52 => ?_) (fun c52 => ?_)
      · exact absurd c52 (by decide)
      clear c52
      refine lv_aload_n hx hb dX11_keep_21 rfl (lv_at hl 1 rfl) ?_
      refine va_get (D := (dC, dI)) (ci := 11) (v := .ref m44) (C := RX11) (T := TX11) (N := 46) hx hb hts hi_X11 hown hK hP 0 rfl rfl 44 (by decide) (hts (.fieldLink RX11 89 "LeftQuillsModel" "images" "[I") (by decide +kernel)) (fun _ h9 => h9) rfl dX11_keep_22 ?_
      refine lv_bipush (v := 35) hx hb dX11_keep_25 (by decide) ?_
      refine lv_iload_n hx hb dX11_keep_27 rfl (lv_at hl 2 rfl) ?_
      refine lv_imul hx hb dX11_keep_28 ?_
      refine lv_topi (fun z53 ez53 => ?_)
      obtain rfl : z53 = 0 := ez53.trans (by decide)
      refine lv_iload_n hx hb dX11_keep_29 rfl (lv_at hl 0 rfl) ?_
      refine lv_iadd hx hb dX11_keep_30 ?_
      refine lv_topi (fun z54 ez54 => ?_)
      obtain rfl : z54 = 11 := ez54.trans (by decide)
      refine lv_aload_n hx hb dX11_keep_31 rfl (lv_at hl 1 rfl) ?_
      refine va_get (D := (dC, dI)) (ci := 11) (v := .ref m10) (C := RX11) (T := TX11) (N := 46) hx hb hts hi_X11 hown hK hP 0 rfl rfl 10 (by decide) (hts (.fieldLink RX11 28 "LeftQuillsModel" "now" "[I") (by decide +kernel)) (fun _ h9 => h9) rfl dX11_keep_32 ?_
      refine lv_iload_n hx hb dX11_keep_35 rfl (lv_at hl 0 rfl) ?_
      refine va_iald hx hb hK hP 1 0 rfl rfl (vp_in_iff.mpr ⟨by decide, by decide⟩) dX11_keep_36 ?_
      refine W.eq (g2 := F0 m 37 ls (.int 0 :: [.int 11, .ref m44])) rfl ?_
      refine va_iast hx hb hK hP hD hS 2 0 rfl rfl (vp_in_iff.mpr ⟨by decide, by decide⟩) dX11_keep_37 (fun H locs hP hD hS => ?_)
      rw [x_upd0] at hP hD
      have hP : va_P (dC, dI) vwCl [(h0, .inr (11, [.int 0, .int 0, .int 0, .ref m3, .ref m4, .ref m5, .int 0, .ref m7, .ref m8, .ref m9, .ref m10, .int 0, .ref m12, .int 0, .int (-1), .int 0, .int 0, .int 0, .ref m18, .int 0, .ref m20, .ref m21, .ref m22, .ref m23, .ref m24, .int 0, .ref m26, .ref m27, .ref m28, .int 0, .ref m30, .int 0, .int 0, .ref m33, .int 0, .int 0, .ref m36, .int 0, .ref m38, .ref m39, .ref m40, .int 0, .ref m42, .ref m43, .ref m44, .ref m45])), (m10, .inl (cI, 34, .inl (fun _ => 0))), (m44, .inl (cI, 70, .inl (fun _ => 0))), (m45, .inl (cZ, 2, .inl (fun _ => 0)))] H := hP
      have hD : va_D A [(h0, .inr (11, [.int 0, .int 0, .int 0, .ref m3, .ref m4, .ref m5, .int 0, .ref m7, .ref m8, .ref m9, .ref m10, .int 0, .ref m12, .int 0, .int (-1), .int 0, .int 0, .int 0, .ref m18, .int 0, .ref m20, .ref m21, .ref m22, .ref m23, .ref m24, .int 0, .ref m26, .ref m27, .ref m28, .int 0, .ref m30, .int 0, .int 0, .ref m33, .int 0, .int 0, .ref m36, .int 0, .ref m38, .ref m39, .ref m40, .int 0, .ref m42, .ref m43, .ref m44, .ref m45])), (m10, .inl (cI, 34, .inl (fun _ => 0))), (m44, .inl (cI, 70, .inl (fun _ => 0))), (m45, .inl (cZ, 2, .inl (fun _ => 0)))] := hD
      refine lv_iinc (v := 12) (lv' := [(2, .int 12), (0, .ref h0), (1, .int 0)]) hx hb dX11_keep_38 hl (k := 0) rfl (by decide) (by decide) rfl (fun ls hl => ?_)
      refine lv_goto (tgt := 15) hx hb dX11_keep_41 (by decide) ?_
      refine lv_iload_n hx hb dX11_keep_15 rfl (lv_at hl 0 rfl) ?_
      refine lv_bipush (v := 34) hx hb dX11_keep_16 (by decide) ?_
      refine lv_icmp_ge (tgt := 44) hx hb dX11_keep_18 (by decide) (fun c56 => ?_) (fun c56 => ?_)
      · exact absurd c56 (by decide)
      clear c56
      refine lv_aload_n hx hb dX11_keep_21 rfl (lv_at hl 1 rfl) ?_
      refine va_get (D := (dC, dI)) (ci := 11) (v := .ref m44) (C := RX11) (T := TX11) (N := 46) hx hb hts hi_X11 hown hK hP 0 rfl rfl 44 (by decide) (hts (.fieldLink RX11 89 "LeftQuillsModel" "images" "[I") (by decide +kernel)) (fun _ h9 => h9) rfl dX11_keep_22 ?_
      refine lv_bipush (v := 35) hx hb dX11_keep_25 (by decide) ?_
      refine lv_iload_n hx hb dX11_keep_27 rfl (lv_at hl 2 rfl) ?_
      refine lv_imul hx hb dX11_keep_28 ?_
      refine lv_topi (fun z57 ez57 => ?_)
      obtain rfl : z57 = 0 := ez57.trans (by decide)
      refine lv_iload_n hx hb dX11_keep_29 rfl (lv_at hl 0 rfl) ?_
      refine lv_iadd hx hb dX11_keep_30 ?_
      refine lv_topi (fun z58 ez58 => ?_)
      obtain rfl : z58 = 12 := ez58.trans (by decide)
      refine lv_aload_n hx hb dX11_keep_31 rfl (lv_at hl 1 rfl) ?_
      refine va_get (D := (dC, dI)) (ci := 11) (v := .ref m10) (C := RX11) (T := TX11) (N := 46) hx hb hts hi_X11 hown hK hP 0 rfl rfl 10 (by decide) (hts (.fieldLink RX11 28 "LeftQuillsModel" "now" "[I") (by decide +kernel)) (fun _ h9 => h9) rfl dX11_keep_32 ?_
      refine lv_iload_n hx hb dX11_keep_35 rfl (lv_at hl 0 rfl) ?_
      refine va_iald hx hb hK hP 1 0 rfl rfl (vp_in_iff.mpr ⟨by decide, by decide⟩) dX11_keep_36 ?_
      refine W.eq (g2 := F0 m 37 ls (.int 0 :: [.int 12, .ref m44])) rfl ?_
      refine va_iast hx hb hK hP hD hS 2 0 rfl rfl (vp_in_iff.mpr ⟨by decide, by decide⟩) dX11_keep_37 (fun H locs hP hD hS => ?_)
      rw [x_upd0] at hP hD
      have hP : va_P (dC, dI) vwCl [(h0, .inr (11, [.int 0, .int 0, .int 0, .ref m3, .ref m4, .ref m5, .int 0, .ref m7, .ref m8, .ref m9, .ref m10, .int 0, .ref m12, .int 0, .int (-1), .int 0, .int 0, .int 0, .ref m18, .int 0, .ref m20, .ref m21, .ref m22, .ref m23, .ref m24, .int 0, .ref m26, .ref m27, .ref m28, .int 0, .ref m30, .int 0, .int 0, .ref m33, .int 0, .int 0, .ref m36, .int 0, .ref m38, .ref m39, .ref m40, .int 0, .ref m42, .ref m43, .ref m44, .ref m45])), (m10, .inl (cI, 34, .inl (fun _ => 0))), (m44, .inl (cI, 70, .inl (fun _ => 0))), (m45, .inl (cZ, 2, .inl (fun _ => 0)))] H := hP
      have hD : va_D A [(h0, .inr (11, [.int 0, .int 0, .int 0, .ref m3, .ref m4, .ref m5, .int 0, .ref m7, .ref m8, .ref m9, .ref m10, .int 0, .ref m12, .int 0, .int (-1), .int 0, .int 0, .int 0, .ref m18, .int 0, .ref m20, .ref m21, .ref m22, .ref m23, .ref m24, .int 0, .ref m26, .ref m27, .ref m28, .int 0, .ref m30, .int 0, .int 0, .ref m33, .int 0, .int 0, .ref m36, .int 0, .ref m38, .ref m39, .ref m40, .int 0, .ref m42, .ref m43, .ref m44, .ref m45])), (m10, .inl (cI, 34, .inl (fun _ => 0))), (m44, .inl (cI, 70, .inl (fun _ => 0))), (m45, .inl (cZ, 2, .inl (fun _ => 0)))] := hD
      refine lv_iinc (v := 13) (lv' := [(2, .int 13), (0, .ref h0), (1, .int 0)]) hx hb dX11_keep_38 hl (k := 0) rfl (by decide) (by decide) rfl (fun ls hl => ?_)
      refine lv_goto (tgt := 15) hx hb dX11_keep_41 (by decide) ?_
      refine lv_iload_n hx hb dX11_keep_15 rfl (lv_at hl 0 rfl) ?_
      refine lv_bipush (v := 34) hx hb dX11_keep_16 (by decide) ?_
      refine lv_icmp_ge (tgt := 44) hx hb dX11_keep_18 (by decide) (fun c60 => ?_) (fun c60 => ?_)
      · exact absurd c60 (by decide)
      clear c60
      refine lv_aload_n hx hb dX11_keep_21 rfl (lv_at hl 1 rfl) ?_
      refine va_get (D := (dC, dI)) (ci := 11) (v := .ref m44) (C := RX11) (T := TX11) (N := 46) hx hb hts hi_X11 hown hK hP 0 rfl rfl 44 (by decide) (hts (.fieldLink RX11 89 "LeftQuillsModel" "images" "[I") (by decide +kernel)) (fun _ h9 => h9) rfl dX11_keep_22 ?_
      refine lv_bipush (v := 35) hx hb dX11_keep_25 (by decide) ?_
      refine lv_iload_n hx hb dX11_keep_27 rfl (lv_at hl 2 rfl) ?_
      refine lv_imul hx hb dX11_keep_28 ?_
      refine lv_topi (fun z61 ez61 => ?_)
      obtain rfl : z61 = 0 := ez61.trans (by decide)
      refine lv_iload_n hx hb dX11_keep_29 rfl (lv_at hl 0 rfl) ?_
      refine lv_iadd hx hb dX11_keep_30 ?_
      refine lv_topi (fun z62 ez62 => ?_)
      obtain rfl : z62 = 13 := ez62.trans (by decide)
      refine lv_aload_n hx hb dX11_keep_31 rfl (lv_at hl 1 rfl) ?_
      refine va_get (D := (dC, dI)) (ci := 11) (v := .ref m10) (C := RX11) (T := TX11) (N := 46) hx hb hts hi_X11 hown hK hP 0 rfl rfl 10 (by decide) (hts (.fieldLink RX11 28 "LeftQuillsModel" "now" "[I") (by decide +kernel)) (fun _ h9 => h9) rfl dX11_keep_32 ?_
      refine lv_iload_n hx hb dX11_keep_35 rfl (lv_at hl 0 rfl) ?_
      refine va_iald hx hb hK hP 1 0 rfl rfl (vp_in_iff.mpr ⟨by decide, by decide⟩) dX11_keep_36 ?_
      refine W.eq (g2 := F0 m 37 ls (.int 0 :: [.int 13, .ref m44])) rfl ?_
      refine va_iast hx hb hK hP hD hS 2 0 rfl rfl (vp_in_iff.mpr ⟨by decide, by decide⟩) dX11_keep_37 (fun H locs hP hD hS => ?_)
      rw [x_upd0] at hP hD
      have hP : va_P (dC, dI) vwCl [(h0, .inr (11, [.int 0, .int 0, .int 0, .ref m3, .ref m4, .ref m5, .int 0, .ref m7, .ref m8, .ref m9, .ref m10, .int 0, .ref m12, .int 0, .int (-1), .int 0, .int 0, .int 0, .ref m18, .int 0, .ref m20, .ref m21, .ref m22, .ref m23, .ref m24, .int 0, .ref m26, .ref m27, .ref m28, .int 0, .ref m30, .int 0, .int 0, .ref m33, .int 0, .int 0, .ref m36, .int 0, .ref m38, .ref m39, .ref m40, .int 0, .ref m42, .ref m43, .ref m44, .ref m45])), (m10, .inl (cI, 34, .inl (fun _ => 0))), (m44, .inl (cI, 70, .inl (fun _ => 0))), (m45, .inl (cZ, 2, .inl (fun _ => 0)))] H := hP
      have hD : va_D A [(h0, .inr (11, [.int 0, .int 0, .int 0, .ref m3, .ref m4, .ref m5, .int 0, .ref m7, .ref m8, .ref m9, .ref m10, .int 0, .ref m12, .int 0, .int (-1), .int 0, .int 0, .int 0, .ref m18, .int 0, .ref m20, .ref m21, .ref m22, .ref m23, .ref m24, .int 0, .ref m26, .ref m27, .ref m28, .int 0, .ref m30, .int 0, .int 0, .ref m33, .int 0, .int 0, .ref m36, .int 0, .ref m38, .ref m39, .ref m40, .int 0, .ref m42, .ref m43, .ref m44, .ref m45])), (m10, .inl (cI, 34, .inl (fun _ => 0))), (m44, .inl (cI, 70, .inl (fun _ => 0))), (m45, .inl (cZ, 2, .inl (fun _ => 0)))] := hD
      refine lv_iinc (v := 14) (lv' := [(2, .int 14), (0, .ref h0), (1, .int 0)]) hx hb dX11_keep_38 hl (k := 0) rfl (by decide) (by decide) rfl (fun ls hl => ?_)
      refine lv_goto (tgt := 15) hx hb dX11_keep_41 (by decide) ?_
      refine lv_iload_n hx hb dX11_keep_15 rfl (lv_at hl 0 rfl) ?_
      refine lv_bipush (v := 34) hx hb dX11_keep_16 (by decide) ?_
      refine lv_icmp_ge (tgt := 44) hx hb dX11_keep_18 (by decide) (fun c64 => ?_) (fun c64 => ?_)
      · exact absurd c64 (by decide)
      clear c64
      refine lv_aload_n hx hb dX11_keep_21 rfl (lv_at hl 1 rfl) ?_
      refine va_get (D := (dC, dI)) (ci := 11) (v := .ref m44) (C := RX11) (T := TX11) (N := 46) hx hb hts hi_X11 hown hK hP 0 rfl rfl 44 (by decide) (hts (.fieldLink RX11 89 "LeftQuillsModel" "images" "[I") (by decide +kernel)) (fun _ h9 => h9) rfl dX11_keep_22 ?_
      refine lv_bipush (v := 35) hx hb dX11_keep_25 (by decide) ?_
      refine lv_iload_n hx hb dX11_keep_27 rfl (lv_at hl 2 rfl) ?_
      refine lv_imul hx hb dX11_keep_28 ?_
      refine lv_topi (fun z65 ez65 => ?_)
      obtain rfl : z65 = 0 := ez65.trans (by decide)
      refine lv_iload_n hx hb dX11_keep_29 rfl (lv_at hl 0 rfl) ?_
      refine lv_iadd hx hb dX11_keep_30 ?_
      refine lv_topi (fun z66 ez66 => ?_)
      obtain rfl : z66 = 14 := ez66.trans (by decide)
      refine lv_aload_n hx hb dX11_keep_31 rfl (lv_at hl 1 rfl) ?_
      refine va_get (D := (dC, dI)) (ci := 11) (v := .ref m10) (C := RX11) (T := TX11) (N := 46) hx hb hts hi_X11 hown hK hP 0 rfl rfl 10 (by decide) (hts (.fieldLink RX11 28 "LeftQuillsModel" "now" "[I") (by decide +kernel)) (fun _ h9 => h9) rfl dX11_keep_32 ?_
      refine lv_iload_n hx hb dX11_keep_35 rfl (lv_at hl 0 rfl) ?_
      refine va_iald hx hb hK hP 1 0 rfl rfl (vp_in_iff.mpr ⟨by decide, by decide⟩) dX11_keep_36 ?_
      refine W.eq (g2 := F0 m 37 ls (.int 0 :: [.int 14, .ref m44])) rfl ?_
      refine va_iast hx hb hK hP hD hS 2 0 rfl rfl (vp_in_iff.mpr ⟨by decide, by decide⟩) dX11_keep_37 (fun H locs hP hD hS => ?_)
      rw [x_upd0] at hP hD
      have hP : va_P (dC, dI) vwCl [(h0, .inr (11, [.int 0, .int 0, .int 0, .ref m3, .ref m4, .ref m5, .int 0, .ref m7, .ref m8, .ref m9, .ref m10, .int 0, .ref m12, .int 0, .int (-1), .int 0, .int 0, .int 0, .ref m18, .int 0, .ref m20, .ref m21, .ref m22, .ref m23, .ref m24, .int 0, .ref m26, .ref m27, .ref m28, .int 0, .ref m30, .int 0, .int 0, .ref m33, .int 0, .int 0, .ref m36, .int 0, .ref m38, .ref m39, .ref m40, .int 0, .ref m42, .ref m43, .ref m44, .ref m45])), (m10, .inl (cI, 34, .inl (fun _ => 0))), (m44, .inl (cI, 70, .inl (fun _ => 0))), (m45, .inl (cZ, 2, .inl (fun _ => 0)))] H := hP
      have hD : va_D A [(h0, .inr (11, [.int 0, .int 0, .int 0, .ref m3, .ref m4, .ref m5, .int 0, .ref m7, .ref m8, .ref m9, .ref m10, .int 0, .ref m12, .int 0, .int (-1), .int 0, .int 0, .int 0, .ref m18, .int 0, .ref m20, .ref m21, .ref m22, .ref m23, .ref m24, .int 0, .ref m26, .ref m27, .ref m28, .int 0, .ref m30, .int 0, .int 0, .ref m33, .int 0, .int 0, .ref m36, .int 0, .ref m38, .ref m39, .ref m40, .int 0, .ref m42, .ref m43, .ref m44, .ref m45])), (m10, .inl (cI, 34, .inl (fun _ => 0))), (m44, .inl (cI, 70, .inl (fun _ => 0))), (m45, .inl (cZ, 2, .inl (fun _ => 0)))] := hD
      refine lv_iinc (v := 15) (lv' := [(2, .int 15), (0, .ref h0), (1, .int 0)]) hx hb dX11_keep_38 hl (k := 0) rfl (by decide) (by decide) rfl (fun ls hl => ?_)
      refine lv_goto (tgt := 15) hx hb dX11_keep_41 (by decide) ?_
      refine lv_iload_n hx hb dX11_keep_15 rfl (lv_at hl 0 rfl) ?_
      refine lv_bipush (v := 34) hx hb dX11_keep_16 (by decide) ?_
      refine lv_icmp_ge (tgt := 44) hx hb dX11_keep_18 (by decide) (fun c68 => ?_) (fun c68 => ?_)
      · exact absurd c68 (by decide)
      clear c68
      refine lv_aload_n hx hb dX11_keep_21 rfl (lv_at hl 1 rfl) ?_
      refine va_get (D := (dC, dI)) (ci := 11) (v := .ref m44) (C := RX11) (T := TX11) (N := 46) hx hb hts hi_X11 hown hK hP 0 rfl rfl 44 (by decide) (hts (.fieldLink RX11 89 "LeftQuillsModel" "images" "[I") (by decide +kernel)) (fun _ h9 => h9) rfl dX11_keep_22 ?_
      refine lv_bipush (v := 35) hx hb dX11_keep_25 (by decide) ?_
      refine lv_iload_n hx hb dX11_keep_27 rfl (lv_at hl 2 rfl) ?_
      refine lv_imul hx hb dX11_keep_28 ?_
      refine lv_topi (fun z69 ez69 => ?_)
      obtain rfl : z69 = 0 := ez69.trans (by decide)
      refine lv_iload_n hx hb dX11_keep_29 rfl (lv_at hl 0 rfl) ?_
      refine lv_iadd hx hb dX11_keep_30 ?_
      refine lv_topi (fun z70 ez70 => ?_)
      obtain rfl : z70 = 15 := ez70.trans (by decide)
      refine lv_aload_n hx hb dX11_keep_31 rfl (lv_at hl 1 rfl) ?_
      refine va_get (D := (dC, dI)) (ci := 11) (v := .ref m10) (C := RX11) (T := TX11) (N := 46) hx hb hts hi_X11 hown hK hP 0 rfl rfl 10 (by decide) (hts (.fieldLink RX11 28 "LeftQuillsModel" "now" "[I") (by decide +kernel)) (fun _ h9 => h9) rfl dX11_keep_32 ?_
      refine lv_iload_n hx hb dX11_keep_35 rfl (lv_at hl 0 rfl) ?_
      refine va_iald hx hb hK hP 1 0 rfl rfl (vp_in_iff.mpr ⟨by decide, by decide⟩) dX11_keep_36 ?_
      refine W.eq (g2 := F0 m 37 ls (.int 0 :: [.int 15, .ref m44])) rfl ?_
      refine va_iast hx hb hK hP hD hS 2 0 rfl rfl (vp_in_iff.mpr ⟨by decide, by decide⟩) dX11_keep_37 (fun H locs hP hD hS => ?_)
      rw [x_upd0] at hP hD
      have hP : va_P (dC, dI) vwCl [(h0, .inr (11, [.int 0, .int 0, .int 0, .ref m3, .ref m4, .ref m5, .int 0, .ref m7, .ref m8, .ref m9, .ref m10, .int 0, .ref m12, .int 0, .int (-1), .int 0, .int 0, .int 0, .ref m18, .int 0, .ref m20, .ref m21, .ref m22, .ref m23, .ref m24, .int 0, .ref m26, .ref m27, .ref m28, .int 0, .ref m30, .int 0, .int 0, .ref m33, .int 0, .int 0, .ref m36, .int 0, .ref m38, .ref m39, .ref m40, .int 0, .ref m42, .ref m43, .ref m44, .ref m45])), (m10, .inl (cI, 34, .inl (fun _ => 0))), (m44, .inl (cI, 70, .inl (fun _ => 0))), (m45, .inl (cZ, 2, .inl (fun _ => 0)))] H := hP
      have hD : va_D A [(h0, .inr (11, [.int 0, .int 0, .int 0, .ref m3, .ref m4, .ref m5, .int 0, .ref m7, .ref m8, .ref m9, .ref m10, .int 0, .ref m12, .int 0, .int (-1), .int 0, .int 0, .int 0, .ref m18, .int 0, .ref m20, .ref m21, .ref m22, .ref m23, .ref m24, .int 0, .ref m26, .ref m27, .ref m28, .int 0, .ref m30, .int 0, .int 0, .ref m33, .int 0, .int 0, .ref m36, .int 0, .ref m38, .ref m39, .ref m40, .int 0, .ref m42, .ref m43, .ref m44, .ref m45])), (m10, .inl (cI, 34, .inl (fun _ => 0))), (m44, .inl (cI, 70, .inl (fun _ => 0))), (m45, .inl (cZ, 2, .inl (fun _ => 0)))] := hD
      refine lv_iinc (v := 16) (lv' := [(2, .int 16), (0, .ref h0), (1, .int 0)]) hx hb dX11_keep_38 hl (k := 0) rfl (by decide) (by decide) rfl (fun ls hl => ?_)
      refine lv_goto (tgt := 15) hx hb dX11_keep_41 (by decide) ?_
      refine lv_iload_n hx hb dX11_keep_15 rfl (lv_at hl 0 rfl) ?_
      refine lv_bipush (v := 34) hx hb dX11_keep_16 (by decide) ?_
      refine lv_icmp_ge (tgt := 44) hx hb dX11_keep_18 (by decide) (fun c72 => ?_) (fun c72 => ?_)
      · exact absurd c72 (by decide)
      clear c72
      refine lv_aload_n hx hb dX11_keep_21 rfl (lv_at hl 1 rfl) ?_
      refine va_get (D := (dC, dI)) (ci := 11) (v := .ref m44) (C := RX11) (T := TX11) (N := 46) hx hb hts hi_X11 hown hK hP 0 rfl rfl 44 (by decide) (hts (.fieldLink RX11 89 "LeftQuillsModel" "images" "[I") (by decide +kernel)) (fun _ h9 => h9) rfl dX11_keep_22 ?_
      refine lv_bipush (v := 35) hx hb dX11_keep_25 (by decide) ?_
      refine lv_iload_n hx hb dX11_keep_27 rfl (lv_at hl 2 rfl) ?_
      refine lv_imul hx hb dX11_keep_28 ?_
      refine lv_topi (fun z73 ez73 => ?_)
      obtain rfl : z73 = 0 := ez73.trans (by decide)
      refine lv_iload_n hx hb dX11_keep_29 rfl (lv_at hl 0 rfl) ?_
      refine lv_iadd hx hb dX11_keep_30 ?_
      refine lv_topi (fun z74 ez74 => ?_)
      obtain rfl : z74 = 16 := ez74.trans (by decide)
      refine lv_aload_n hx hb dX11_keep_31 rfl (lv_at hl 1 rfl) ?_
      refine va_get (D := (dC, dI)) (ci := 11) (v := .ref m10) (C := RX11) (T := TX11) (N := 46) hx hb hts hi_X11 hown hK hP 0 rfl rfl 10 (by decide) (hts (.fieldLink RX11 28 "LeftQuillsModel" "now" "[I") (by decide +kernel)) (fun _ h9 => h9) rfl dX11_keep_32 ?_
      refine lv_iload_n hx hb dX11_keep_35 rfl (lv_at hl 0 rfl) ?_
      refine va_iald hx hb hK hP 1 0 rfl rfl (vp_in_iff.mpr ⟨by decide, by decide⟩) dX11_keep_36 ?_
      refine W.eq (g2 := F0 m 37 ls (.int 0 :: [.int 16, .ref m44])) rfl ?_
      refine va_iast hx hb hK hP hD hS 2 0 rfl rfl (vp_in_iff.mpr ⟨by decide, by decide⟩) dX11_keep_37 (fun H locs hP hD hS => ?_)
      rw [x_upd0] at hP hD
      have hP : va_P (dC, dI) vwCl [(h0, .inr (11, [.int 0, .int 0, .int 0, .ref m3, .ref m4, .ref m5, .int 0, .ref m7, .ref m8, .ref m9, .ref m10, .int 0, .ref m12, .int 0, .int (-1), .int 0, .int 0, .int 0, .ref m18, .int 0, .ref m20, .ref m21, .ref m22, .ref m23, .ref m24, .int 0, .ref m26, .ref m27, .ref m28, .int 0, .ref m30, .int 0, .int 0, .ref m33, .int 0, .int 0, .ref m36, .int 0, .ref m38, .ref m39, .ref m40, .int 0, .ref m42, .ref m43, .ref m44, .ref m45])), (m10, .inl (cI, 34, .inl (fun _ => 0))), (m44, .inl (cI, 70, .inl (fun _ => 0))), (m45, .inl (cZ, 2, .inl (fun _ => 0)))] H := hP
      have hD : va_D A [(h0, .inr (11, [.int 0, .int 0, .int 0, .ref m3, .ref m4, .ref m5, .int 0, .ref m7, .ref m8, .ref m9, .ref m10, .int 0, .ref m12, .int 0, .int (-1), .int 0, .int 0, .int 0, .ref m18, .int 0, .ref m20, .ref m21, .ref m22, .ref m23, .ref m24, .int 0, .ref m26, .ref m27, .ref m28, .int 0, .ref m30, .int 0, .int 0, .ref m33, .int 0, .int 0, .ref m36, .int 0, .ref m38, .ref m39, .ref m40, .int 0, .ref m42, .ref m43, .ref m44, .ref m45])), (m10, .inl (cI, 34, .inl (fun _ => 0))), (m44, .inl (cI, 70, .inl (fun _ => 0))), (m45, .inl (cZ, 2, .inl (fun _ => 0)))] := hD
      refine lv_iinc (v := 17) (lv' := [(2, .int 17), (0, .ref h0), (1, .int 0)]) hx hb dX11_keep_38 hl (k := 0) rfl (by decide) (by decide) rfl (fun ls hl => ?_)
      refine lv_goto (tgt := 15) hx hb dX11_keep_41 (by decide) ?_
      refine lv_iload_n hx hb dX11_keep_15 rfl (lv_at hl 0 rfl) ?_
      refine lv_bipush (v := 34) hx hb dX11_keep_16 (by decide) ?_
      refine lv_icmp_ge (tgt := 44) hx hb dX11_keep_18 (by decide) (fun c76 => ?_) (fun c76 => ?_)
      · exact absurd c76 (by decide)
      clear c76
      refine lv_aload_n hx hb dX11_keep_21 rfl (lv_at hl 1 rfl) ?_
      refine va_get (D := (dC, dI)) (ci := 11) (v := .ref m44) (C := RX11) (T := TX11) (N := 46) hx hb hts hi_X11 hown hK hP 0 rfl rfl 44 (by decide) (hts (.fieldLink RX11 89 "LeftQuillsModel" "images" "[I") (by decide +kernel)) (fun _ h9 => h9) rfl dX11_keep_22 ?_
      refine lv_bipush (v := 35) hx hb dX11_keep_25 (by decide) ?_
      refine lv_iload_n hx hb dX11_keep_27 rfl (lv_at hl 2 rfl) ?_
      refine lv_imul hx hb dX11_keep_28 ?_
      refine lv_topi (fun z77 ez77 => ?_)
      obtain rfl : z77 = 0 := ez77.trans (by decide)
      refine lv_iload_n hx hb dX11_keep_29 rfl (lv_at hl 0 rfl) ?_
      refine lv_iadd hx hb dX11_keep_30 ?_
      refine lv_topi (fun z78 ez78 => ?_)
      obtain rfl : z78 = 17 := ez78.trans (by decide)
      refine lv_aload_n hx hb dX11_keep_31 rfl (lv_at hl 1 rfl) ?_
      refine va_get (D := (dC, dI)) (ci := 11) (v := .ref m10) (C := RX11) (T := TX11) (N := 46) hx hb hts hi_X11 hown hK hP 0 rfl rfl 10 (by decide) (hts (.fieldLink RX11 28 "LeftQuillsModel" "now" "[I") (by decide +kernel)) (fun _ h9 => h9) rfl dX11_keep_32 ?_
      refine lv_iload_n hx hb dX11_keep_35 rfl (lv_at hl 0 rfl) ?_
      refine va_iald hx hb hK hP 1 0 rfl rfl (vp_in_iff.mpr ⟨by decide, by decide⟩) dX11_keep_36 ?_
      refine W.eq (g2 := F0 m 37 ls (.int 0 :: [.int 17, .ref m44])) rfl ?_
      refine va_iast hx hb hK hP hD hS 2 0 rfl rfl (vp_in_iff.mpr ⟨by decide, by decide⟩) dX11_keep_37 (fun H locs hP hD hS => ?_)
      rw [x_upd0] at hP hD
      have hP : va_P (dC, dI) vwCl [(h0, .inr (11, [.int 0, .int 0, .int 0, .ref m3, .ref m4, .ref m5, .int 0, .ref m7, .ref m8, .ref m9, .ref m10, .int 0, .ref m12, .int 0, .int (-1), .int 0, .int 0, .int 0, .ref m18, .int 0, .ref m20, .ref m21, .ref m22, .ref m23, .ref m24, .int 0, .ref m26, .ref m27, .ref m28, .int 0, .ref m30, .int 0, .int 0, .ref m33, .int 0, .int 0, .ref m36, .int 0, .ref m38, .ref m39, .ref m40, .int 0, .ref m42, .ref m43, .ref m44, .ref m45])), (m10, .inl (cI, 34, .inl (fun _ => 0))), (m44, .inl (cI, 70, .inl (fun _ => 0))), (m45, .inl (cZ, 2, .inl (fun _ => 0)))] H := hP
      have hD : va_D A [(h0, .inr (11, [.int 0, .int 0, .int 0, .ref m3, .ref m4, .ref m5, .int 0, .ref m7, .ref m8, .ref m9, .ref m10, .int 0, .ref m12, .int 0, .int (-1), .int 0, .int 0, .int 0, .ref m18, .int 0, .ref m20, .ref m21, .ref m22, .ref m23, .ref m24, .int 0, .ref m26, .ref m27, .ref m28, .int 0, .ref m30, .int 0, .int 0, .ref m33, .int 0, .int 0, .ref m36, .int 0, .ref m38, .ref m39, .ref m40, .int 0, .ref m42, .ref m43, .ref m44, .ref m45])), (m10, .inl (cI, 34, .inl (fun _ => 0))), (m44, .inl (cI, 70, .inl (fun _ => 0))), (m45, .inl (cZ, 2, .inl (fun _ => 0)))] := hD
      refine lv_iinc (v := 18) (lv' := [(2, .int 18), (0, .ref h0), (1, .int 0)]) hx hb dX11_keep_38 hl (k := 0) rfl (by decide) (by decide) rfl (fun ls hl => ?_)
      refine lv_goto (tgt := 15) hx hb dX11_keep_41 (by decide) ?_
      refine lv_iload_n hx hb dX11_keep_15 rfl (lv_at hl 0 rfl) ?_
      refine lv_bipush (v := 34) hx hb dX11_keep_16 (by decide) ?_
      refine lv_icmp_ge (tgt := 44) hx hb dX11_keep_18 (by decide) (fun c80 => ?_) (fun c80 => ?_)
      · exact absurd c80 (by decide)
      clear c80
      refine lv_aload_n hx hb dX11_keep_21 rfl (lv_at hl 1 rfl) ?_
      refine va_get (D := (dC, dI)) (ci := 11) (v := .ref m44) (C := RX11) (T := TX11) (N := 46) hx hb hts hi_X11 hown hK hP 0 rfl rfl 44 (by decide) (hts (.fieldLink RX11 89 "LeftQuillsModel" "images" "[I") (by decide +kernel)) (fun _ h9 => h9) rfl dX11_keep_22 ?_
      refine lv_bipush (v := 35) hx hb dX11_keep_25 (by decide) ?_
      refine lv_iload_n hx hb dX11_keep_27 rfl (lv_at hl 2 rfl) ?_
      refine lv_imul hx hb dX11_keep_28 ?_
      refine lv_topi (fun z81 ez81 => ?_)
      obtain rfl : z81 = 0 := ez81.trans (by decide)
      refine lv_iload_n hx hb dX11_keep_29 rfl (lv_at hl 0 rfl) ?_
      refine lv_iadd hx hb dX11_keep_30 ?_
      refine lv_topi (fun z82 ez82 => ?_)
      obtain rfl : z82 = 18 := ez82.trans (by decide)
      refine lv_aload_n hx hb dX11_keep_31 rfl (lv_at hl 1 rfl) ?_
      refine va_get (D := (dC, dI)) (ci := 11) (v := .ref m10) (C := RX11) (T := TX11) (N := 46) hx hb hts hi_X11 hown hK hP 0 rfl rfl 10 (by decide) (hts (.fieldLink RX11 28 "LeftQuillsModel" "now" "[I") (by decide +kernel)) (fun _ h9 => h9) rfl dX11_keep_32 ?_
      refine lv_iload_n hx hb dX11_keep_35 rfl (lv_at hl 0 rfl) ?_
      refine va_iald hx hb hK hP 1 0 rfl rfl (vp_in_iff.mpr ⟨by decide, by decide⟩) dX11_keep_36 ?_
      refine W.eq (g2 := F0 m 37 ls (.int 0 :: [.int 18, .ref m44])) rfl ?_
      refine va_iast hx hb hK hP hD hS 2 0 rfl rfl (vp_in_iff.mpr ⟨by decide, by decide⟩) dX11_keep_37 (fun H locs hP hD hS => ?_)
      rw [x_upd0] at hP hD
      have hP : va_P (dC, dI) vwCl [(h0, .inr (11, [.int 0, .int 0, .int 0, .ref m3, .ref m4, .ref m5, .int 0, .ref m7, .ref m8, .ref m9, .ref m10, .int 0, .ref m12, .int 0, .int (-1), .int 0, .int 0, .int 0, .ref m18, .int 0, .ref m20, .ref m21, .ref m22, .ref m23, .ref m24, .int 0, .ref m26, .ref m27, .ref m28, .int 0, .ref m30, .int 0, .int 0, .ref m33, .int 0, .int 0, .ref m36, .int 0, .ref m38, .ref m39, .ref m40, .int 0, .ref m42, .ref m43, .ref m44, .ref m45])), (m10, .inl (cI, 34, .inl (fun _ => 0))), (m44, .inl (cI, 70, .inl (fun _ => 0))), (m45, .inl (cZ, 2, .inl (fun _ => 0)))] H := hP
      have hD : va_D A [(h0, .inr (11, [.int 0, .int 0, .int 0, .ref m3, .ref m4, .ref m5, .int 0, .ref m7, .ref m8, .ref m9, .ref m10, .int 0, .ref m12, .int 0, .int (-1), .int 0, .int 0, .int 0, .ref m18, .int 0, .ref m20, .ref m21, .ref m22, .ref m23, .ref m24, .int 0, .ref m26, .ref m27, .ref m28, .int 0, .ref m30, .int 0, .int 0, .ref m33, .int 0, .int 0, .ref m36, .int 0, .ref m38, .ref m39, .ref m40, .int 0, .ref m42, .ref m43, .ref m44, .ref m45])), (m10, .inl (cI, 34, .inl (fun _ => 0))), (m44, .inl (cI, 70, .inl (fun _ => 0))), (m45, .inl (cZ, 2, .inl (fun _ => 0)))] := hD
      refine lv_iinc (v := 19) (lv' := [(2, .int 19), (0, .ref h0), (1, .int 0)]) hx hb dX11_keep_38 hl (k := 0) rfl (by decide) (by decide) rfl (fun ls hl => ?_)
      refine lv_goto (tgt := 15) hx hb dX11_keep_41 (by decide) ?_
      refine lv_iload_n hx hb dX11_keep_15 rfl (lv_at hl 0 rfl) ?_
      refine lv_bipush (v := 34) hx hb dX11_keep_16 (by decide) ?_
      refine lv_icmp_ge (tgt := 44) hx hb dX11_keep_18 (by decide) (fun c84 => ?_) (fun c84 => ?_)
      · exact absurd c84 (by decide)
      clear c84
      refine lv_aload_n hx hb dX11_keep_21 rfl (lv_at hl 1 rfl) ?_
      refine va_get (D := (dC, dI)) (ci := 11) (v := .ref m44) (C := RX11) (T := TX11) (N := 46) hx hb hts hi_X11 hown hK hP 0 rfl rfl 44 (by decide) (hts (.fieldLink RX11 89 "LeftQuillsModel" "images" "[I") (by decide +kernel)) (fun _ h9 => h9) rfl dX11_keep_22 ?_
      refine lv_bipush (v := 35) hx hb dX11_keep_25 (by decide) ?_
      refine lv_iload_n hx hb dX11_keep_27 rfl (lv_at hl 2 rfl) ?_
      refine lv_imul hx hb dX11_keep_28 ?_
      refine lv_topi (fun z85 ez85 => ?_)
      obtain rfl : z85 = 0 := ez85.trans (by decide)
      refine lv_iload_n hx hb dX11_keep_29 rfl (lv_at hl 0 rfl) ?_
      refine lv_iadd hx hb dX11_keep_30 ?_
      refine lv_topi (fun z86 ez86 => ?_)
      obtain rfl : z86 = 19 := ez86.trans (by decide)
      refine lv_aload_n hx hb dX11_keep_31 rfl (lv_at hl 1 rfl) ?_
      refine va_get (D := (dC, dI)) (ci := 11) (v := .ref m10) (C := RX11) (T := TX11) (N := 46) hx hb hts hi_X11 hown hK hP 0 rfl rfl 10 (by decide) (hts (.fieldLink RX11 28 "LeftQuillsModel" "now" "[I") (by decide +kernel)) (fun _ h9 => h9) rfl dX11_keep_32 ?_
      refine lv_iload_n hx hb dX11_keep_35 rfl (lv_at hl 0 rfl) ?_
      refine va_iald hx hb hK hP 1 0 rfl rfl (vp_in_iff.mpr ⟨by decide, by decide⟩) dX11_keep_36 ?_
      refine W.eq (g2 := F0 m 37 ls (.int 0 :: [.int 19, .ref m44])) rfl ?_
      refine va_iast hx hb hK hP hD hS 2 0 rfl rfl (vp_in_iff.mpr ⟨by decide, by decide⟩) dX11_keep_37 (fun H locs hP hD hS => ?_)
      rw [x_upd0] at hP hD
      have hP : va_P (dC, dI) vwCl [(h0, .inr (11, [.int 0, .int 0, .int 0, .ref m3, .ref m4, .ref m5, .int 0, .ref m7, .ref m8, .ref m9, .ref m10, .int 0, .ref m12, .int 0, .int (-1), .int 0, .int 0, .int 0, .ref m18, .int 0, .ref m20, .ref m21, .ref m22, .ref m23, .ref m24, .int 0, .ref m26, .ref m27, .ref m28, .int 0, .ref m30, .int 0, .int 0, .ref m33, .int 0, .int 0, .ref m36, .int 0, .ref m38, .ref m39, .ref m40, .int 0, .ref m42, .ref m43, .ref m44, .ref m45])), (m10, .inl (cI, 34, .inl (fun _ => 0))), (m44, .inl (cI, 70, .inl (fun _ => 0))), (m45, .inl (cZ, 2, .inl (fun _ => 0)))] H := hP
      have hD : va_D A [(h0, .inr (11, [.int 0, .int 0, .int 0, .ref m3, .ref m4, .ref m5, .int 0, .ref m7, .ref m8, .ref m9, .ref m10, .int 0, .ref m12, .int 0, .int (-1), .int 0, .int 0, .int 0, .ref m18, .int 0, .ref m20, .ref m21, .ref m22, .ref m23, .ref m24, .int 0, .ref m26, .ref m27, .ref m28, .int 0, .ref m30, .int 0, .int 0, .ref m33, .int 0, .int 0, .ref m36, .int 0, .ref m38, .ref m39, .ref m40, .int 0, .ref m42, .ref m43, .ref m44, .ref m45])), (m10, .inl (cI, 34, .inl (fun _ => 0))), (m44, .inl (cI, 70, .inl (fun _ => 0))), (m45, .inl (cZ, 2, .inl (fun _ => 0)))] := hD
      refine lv_iinc (v := 20) (lv' := [(2, .int 20), (0, .ref h0), (1, .int 0)]) hx hb dX11_keep_38 hl (k := 0) rfl (by decide) (by decide) rfl (fun ls hl => ?_)
      refine lv_goto (tgt := 15) hx hb dX11_keep_41 (by decide) ?_
      refine lv_iload_n hx hb dX11_keep_15 rfl (lv_at hl 0 rfl) ?_
      refine lv_bipush (v := 34) hx hb dX11_keep_16 (by decide) ?_
      refine lv_icmp_ge (tgt := 44) hx hb dX11_keep_18 (by decide) (fun c88 => ?_) (fun c88 => ?_)
      · exact absurd c88 (by decide)
      clear c88
      refine lv_aload_n hx hb dX11_keep_21 rfl (lv_at hl 1 rfl) ?_
      refine va_get (D := (dC, dI)) (ci := 11) (v := .ref m44) (C := RX11) (T := TX11) (N := 46) hx hb hts hi_X11 hown hK hP 0 rfl rfl 44 (by decide) (hts (.fieldLink RX11 89 "LeftQuillsModel" "images" "[I") (by decide +kernel)) (fun _ h9 => h9) rfl dX11_keep_22 ?_
      refine lv_bipush (v := 35) hx hb dX11_keep_25 (by decide) ?_
      refine lv_iload_n hx hb dX11_keep_27 rfl (lv_at hl 2 rfl) ?_
      refine lv_imul hx hb dX11_keep_28 ?_
      refine lv_topi (fun z89 ez89 => ?_)
      obtain rfl : z89 = 0 := ez89.trans (by decide)
      refine lv_iload_n hx hb dX11_keep_29 rfl (lv_at hl 0 rfl) ?_
      refine lv_iadd hx hb dX11_keep_30 ?_
      refine lv_topi (fun z90 ez90 => ?_)
      obtain rfl : z90 = 20 := ez90.trans (by decide)
      refine lv_aload_n hx hb dX11_keep_31 rfl (lv_at hl 1 rfl) ?_
      refine va_get (D := (dC, dI)) (ci := 11) (v := .ref m10) (C := RX11) (T := TX11) (N := 46) hx hb hts hi_X11 hown hK hP 0 rfl rfl 10 (by decide) (hts (.fieldLink RX11 28 "LeftQuillsModel" "now" "[I") (by decide +kernel)) (fun _ h9 => h9) rfl dX11_keep_32 ?_
      refine lv_iload_n hx hb dX11_keep_35 rfl (lv_at hl 0 rfl) ?_
      refine va_iald hx hb hK hP 1 0 rfl rfl (vp_in_iff.mpr ⟨by decide, by decide⟩) dX11_keep_36 ?_
      refine W.eq (g2 := F0 m 37 ls (.int 0 :: [.int 20, .ref m44])) rfl ?_
      refine va_iast hx hb hK hP hD hS 2 0 rfl rfl (vp_in_iff.mpr ⟨by decide, by decide⟩) dX11_keep_37 (fun H locs hP hD hS => ?_)
      rw [x_upd0] at hP hD
      have hP : va_P (dC, dI) vwCl [(h0, .inr (11, [.int 0, .int 0, .int 0, .ref m3, .ref m4, .ref m5, .int 0, .ref m7, .ref m8, .ref m9, .ref m10, .int 0, .ref m12, .int 0, .int (-1), .int 0, .int 0, .int 0, .ref m18, .int 0, .ref m20, .ref m21, .ref m22, .ref m23, .ref m24, .int 0, .ref m26, .ref m27, .ref m28, .int 0, .ref m30, .int 0, .int 0, .ref m33, .int 0, .int 0, .ref m36, .int 0, .ref m38, .ref m39, .ref m40, .int 0, .ref m42, .ref m43, .ref m44, .ref m45])), (m10, .inl (cI, 34, .inl (fun _ => 0))), (m44, .inl (cI, 70, .inl (fun _ => 0))), (m45, .inl (cZ, 2, .inl (fun _ => 0)))] H := hP
      have hD : va_D A [(h0, .inr (11, [.int 0, .int 0, .int 0, .ref m3, .ref m4, .ref m5, .int 0, .ref m7, .ref m8, .ref m9, .ref m10, .int 0, .ref m12, .int 0, .int (-1), .int 0, .int 0, .int 0, .ref m18, .int 0, .ref m20, .ref m21, .ref m22, .ref m23, .ref m24, .int 0, .ref m26, .ref m27, .ref m28, .int 0, .ref m30, .int 0, .int 0, .ref m33, .int 0, .int 0, .ref m36, .int 0, .ref m38, .ref m39, .ref m40, .int 0, .ref m42, .ref m43, .ref m44, .ref m45])), (m10, .inl (cI, 34, .inl (fun _ => 0))), (m44, .inl (cI, 70, .inl (fun _ => 0))), (m45, .inl (cZ, 2, .inl (fun _ => 0)))] := hD
      refine lv_iinc (v := 21) (lv' := [(2, .int 21), (0, .ref h0), (1, .int 0)]) hx hb dX11_keep_38 hl (k := 0) rfl (by decide) (by decide) rfl (fun ls hl => ?_)
      refine lv_goto (tgt := 15) hx hb dX11_keep_41 (by decide) ?_
      refine lv_iload_n hx hb dX11_keep_15 rfl (lv_at hl 0 rfl) ?_
      refine lv_bipush (v := 34) hx hb dX11_keep_16 (by decide) ?_
      refine lv_icmp_ge (tgt := 44) hx hb dX11_keep_18 (by decide) (fun c92 => ?_) (fun c92 => ?_)
      · exact absurd c92 (by decide)
      clear c92
      refine lv_aload_n hx hb dX11_keep_21 rfl (lv_at hl 1 rfl) ?_
      refine va_get (D := (dC, dI)) (ci := 11) (v := .ref m44) (C := RX11) (T := TX11) (N := 46) hx hb hts hi_X11 hown hK hP 0 rfl rfl 44 (by decide) (hts (.fieldLink RX11 89 "LeftQuillsModel" "images" "[I") (by decide +kernel)) (fun _ h9 => h9) rfl dX11_keep_22 ?_
      refine lv_bipush (v := 35) hx hb dX11_keep_25 (by decide) ?_
      refine lv_iload_n hx hb dX11_keep_27 rfl (lv_at hl 2 rfl) ?_
      refine lv_imul hx hb dX11_keep_28 ?_
      refine lv_topi (fun z93 ez93 => ?_)
      obtain rfl : z93 = 0 := ez93.trans (by decide)
      refine lv_iload_n hx hb dX11_keep_29 rfl (lv_at hl 0 rfl) ?_
      refine lv_iadd hx hb dX11_keep_30 ?_
      refine lv_topi (fun z94 ez94 => ?_)
      obtain rfl : z94 = 21 := ez94.trans (by decide)
      refine lv_aload_n hx hb dX11_keep_31 rfl (lv_at hl 1 rfl) ?_
      refine va_get (D := (dC, dI)) (ci := 11) (v := .ref m10) (C := RX11) (T := TX11) (N := 46) hx hb hts hi_X11 hown hK hP 0 rfl rfl 10 (by decide) (hts (.fieldLink RX11 28 "LeftQuillsModel" "now" "[I") (by decide +kernel)) (fun _ h9 => h9) rfl dX11_keep_32 ?_
      refine lv_iload_n hx hb dX11_keep_35 rfl (lv_at hl 0 rfl) ?_
      refine va_iald hx hb hK hP 1 0 rfl rfl (vp_in_iff.mpr ⟨by decide, by decide⟩) dX11_keep_36 ?_
      refine W.eq (g2 := F0 m 37 ls (.int 0 :: [.int 21, .ref m44])) rfl ?_
      refine va_iast hx hb hK hP hD hS 2 0 rfl rfl (vp_in_iff.mpr ⟨by decide, by decide⟩) dX11_keep_37 (fun H locs hP hD hS => ?_)
      rw [x_upd0] at hP hD
      have hP : va_P (dC, dI) vwCl [(h0, .inr (11, [.int 0, .int 0, .int 0, .ref m3, .ref m4, .ref m5, .int 0, .ref m7, .ref m8, .ref m9, .ref m10, .int 0, .ref m12, .int 0, .int (-1), .int 0, .int 0, .int 0, .ref m18, .int 0, .ref m20, .ref m21, .ref m22, .ref m23, .ref m24, .int 0, .ref m26, .ref m27, .ref m28, .int 0, .ref m30, .int 0, .int 0, .ref m33, .int 0, .int 0, .ref m36, .int 0, .ref m38, .ref m39, .ref m40, .int 0, .ref m42, .ref m43, .ref m44, .ref m45])), (m10, .inl (cI, 34, .inl (fun _ => 0))), (m44, .inl (cI, 70, .inl (fun _ => 0))), (m45, .inl (cZ, 2, .inl (fun _ => 0)))] H := hP
      have hD : va_D A [(h0, .inr (11, [.int 0, .int 0, .int 0, .ref m3, .ref m4, .ref m5, .int 0, .ref m7, .ref m8, .ref m9, .ref m10, .int 0, .ref m12, .int 0, .int (-1), .int 0, .int 0, .int 0, .ref m18, .int 0, .ref m20, .ref m21, .ref m22, .ref m23, .ref m24, .int 0, .ref m26, .ref m27, .ref m28, .int 0, .ref m30, .int 0, .int 0, .ref m33, .int 0, .int 0, .ref m36, .int 0, .ref m38, .ref m39, .ref m40, .int 0, .ref m42, .ref m43, .ref m44, .ref m45])), (m10, .inl (cI, 34, .inl (fun _ => 0))), (m44, .inl (cI, 70, .inl (fun _ => 0))), (m45, .inl (cZ, 2, .inl (fun _ => 0)))] := hD
      refine lv_iinc (v := 22) (lv' := [(2, .int 22), (0, .ref h0), (1, .int 0)]) hx hb dX11_keep_38 hl (k := 0) rfl (by decide) (by decide) rfl (fun ls hl => ?_)
      refine lv_goto (tgt := 15) hx hb dX11_keep_41 (by decide) ?_
      refine lv_iload_n hx hb dX11_keep_15 rfl (lv_at hl 0 rfl) ?_
      refine lv_bipush (v := 34) hx hb dX11_keep_16 (by decide) ?_
      refine lv_icmp_ge (tgt := 44) hx hb dX11_keep_18 (by decide) (fun c96 => ?_) (fun c96 => ?_)
      · exact absurd c96 (by decide)
      clear c96
      refine lv_aload_n hx hb dX11_keep_21 rfl (lv_at hl 1 rfl) ?_
      refine va_get (D := (dC, dI)) (ci := 11) (v := .ref m44) (C := RX11) (T := TX11) (N := 46) hx hb hts hi_X11 hown hK hP 0 rfl rfl 44 (by decide) (hts (.fieldLink RX11 89 "LeftQuillsModel" "images" "[I") (by decide +kernel)) (fun _ h9 => h9) rfl dX11_keep_22 ?_
      refine lv_bipush (v := 35) hx hb dX11_keep_25 (by decide) ?_
      refine lv_iload_n hx hb dX11_keep_27 rfl (lv_at hl 2 rfl) ?_
      refine lv_imul hx hb dX11_keep_28 ?_
      refine lv_topi (fun z97 ez97 => ?_)
      obtain rfl : z97 = 0 := ez97.trans (by decide)
      refine lv_iload_n hx hb dX11_keep_29 rfl (lv_at hl 0 rfl) ?_
      refine lv_iadd hx hb dX11_keep_30 ?_
      refine lv_topi (fun z98 ez98 => ?_)
      obtain rfl : z98 = 22 := ez98.trans (by decide)
      refine lv_aload_n hx hb dX11_keep_31 rfl (lv_at hl 1 rfl) ?_
      refine va_get (D := (dC, dI)) (ci := 11) (v := .ref m10) (C := RX11) (T := TX11) (N := 46) hx hb hts hi_X11 hown hK hP 0 rfl rfl 10 (by decide) (hts (.fieldLink RX11 28 "LeftQuillsModel" "now" "[I") (by decide +kernel)) (fun _ h9 => h9) rfl dX11_keep_32 ?_
      refine lv_iload_n hx hb dX11_keep_35 rfl (lv_at hl 0 rfl) ?_
      refine va_iald hx hb hK hP 1 0 rfl rfl (vp_in_iff.mpr ⟨by decide, by decide⟩) dX11_keep_36 ?_
      refine W.eq (g2 := F0 m 37 ls (.int 0 :: [.int 22, .ref m44])) rfl ?_
      refine va_iast hx hb hK hP hD hS 2 0 rfl rfl (vp_in_iff.mpr ⟨by decide, by decide⟩) dX11_keep_37 (fun H locs hP hD hS => ?_)
      rw [x_upd0] at hP hD
      have hP : va_P (dC, dI) vwCl [(h0, .inr (11, [.int 0, .int 0, .int 0, .ref m3, .ref m4, .ref m5, .int 0, .ref m7, .ref m8, .ref m9, .ref m10, .int 0, .ref m12, .int 0, .int (-1), .int 0, .int 0, .int 0, .ref m18, .int 0, .ref m20, .ref m21, .ref m22, .ref m23, .ref m24, .int 0, .ref m26, .ref m27, .ref m28, .int 0, .ref m30, .int 0, .int 0, .ref m33, .int 0, .int 0, .ref m36, .int 0, .ref m38, .ref m39, .ref m40, .int 0, .ref m42, .ref m43, .ref m44, .ref m45])), (m10, .inl (cI, 34, .inl (fun _ => 0))), (m44, .inl (cI, 70, .inl (fun _ => 0))), (m45, .inl (cZ, 2, .inl (fun _ => 0)))] H := hP
      have hD : va_D A [(h0, .inr (11, [.int 0, .int 0, .int 0, .ref m3, .ref m4, .ref m5, .int 0, .ref m7, .ref m8, .ref m9, .ref m10, .int 0, .ref m12, .int 0, .int (-1), .int 0, .int 0, .int 0, .ref m18, .int 0, .ref m20, .ref m21, .ref m22, .ref m23, .ref m24, .int 0, .ref m26, .ref m27, .ref m28, .int 0, .ref m30, .int 0, .int 0, .ref m33, .int 0, .int 0, .ref m36, .int 0, .ref m38, .ref m39, .ref m40, .int 0, .ref m42, .ref m43, .ref m44, .ref m45])), (m10, .inl (cI, 34, .inl (fun _ => 0))), (m44, .inl (cI, 70, .inl (fun _ => 0))), (m45, .inl (cZ, 2, .inl (fun _ => 0)))] := hD
      refine lv_iinc (v := 23) (lv' := [(2, .int 23), (0, .ref h0), (1, .int 0)]) hx hb dX11_keep_38 hl (k := 0) rfl (by decide) (by decide) rfl (fun ls hl => ?_)
      refine lv_goto (tgt := 15) hx hb dX11_keep_41 (by decide) ?_
      refine lv_iload_n hx hb dX11_keep_15 rfl (lv_at hl 0 rfl) ?_
      refine lv_bipush (v := 34) hx hb dX11_keep_16 (by decide) ?_
      refine lv_icmp_ge (tgt := 44) hx hb dX11_keep_18 (by decide) (fun c100 => ?_) (fun c100 => ?_)
      · exact absurd c100 (by decide)
      clear c100
      refine lv_aload_n hx hb dX11_keep_21 rfl (lv_at hl 1 rfl) ?_
      refine va_get (D := (dC, dI)) (ci := 11) (v := .ref m44) (C := RX11) (T := TX11) (N := 46) hx hb hts hi_X11 hown hK hP 0 rfl rfl 44 (by decide) (hts (.fieldLink RX11 89 "LeftQuillsModel" "images" "[I") (by decide +kernel)) (fun _ h9 => h9) rfl dX11_keep_22 ?_
      refine lv_bipush (v := 35) hx hb dX11_keep_25 (by decide) ?_
      refine lv_iload_n hx hb dX11_keep_27 rfl (lv_at hl 2 rfl) ?_
      refine lv_imul hx hb dX11_keep_28 ?_
      refine lv_topi (fun z101 ez101 => ?_)
      obtain rfl : z101 = 0 := ez101.trans (by decide)
      refine lv_iload_n hx hb dX11_keep_29 rfl (lv_at hl 0 rfl) ?_
      refine lv_iadd hx hb dX11_keep_30 ?_
      refine lv_topi (fun z102 ez102 => ?_)
      obtain rfl : z102 = 23 := ez102.trans (by decide)
      refine lv_aload_n hx hb dX11_keep_31 rfl (lv_at hl 1 rfl) ?_
      refine va_get (D := (dC, dI)) (ci := 11) (v := .ref m10) (C := RX11) (T := TX11) (N := 46) hx hb hts hi_X11 hown hK hP 0 rfl rfl 10 (by decide) (hts (.fieldLink RX11 28 "LeftQuillsModel" "now" "[I") (by decide +kernel)) (fun _ h9 => h9) rfl dX11_keep_32 ?_
      refine lv_iload_n hx hb dX11_keep_35 rfl (lv_at hl 0 rfl) ?_
      refine va_iald hx hb hK hP 1 0 rfl rfl (vp_in_iff.mpr ⟨by decide, by decide⟩) dX11_keep_36 ?_
      refine W.eq (g2 := F0 m 37 ls (.int 0 :: [.int 23, .ref m44])) rfl ?_
      refine va_iast hx hb hK hP hD hS 2 0 rfl rfl (vp_in_iff.mpr ⟨by decide, by decide⟩) dX11_keep_37 (fun H locs hP hD hS => ?_)
      rw [x_upd0] at hP hD
      have hP : va_P (dC, dI) vwCl [(h0, .inr (11, [.int 0, .int 0, .int 0, .ref m3, .ref m4, .ref m5, .int 0, .ref m7, .ref m8, .ref m9, .ref m10, .int 0, .ref m12, .int 0, .int (-1), .int 0, .int 0, .int 0, .ref m18, .int 0, .ref m20, .ref m21, .ref m22, .ref m23, .ref m24, .int 0, .ref m26, .ref m27, .ref m28, .int 0, .ref m30, .int 0, .int 0, .ref m33, .int 0, .int 0, .ref m36, .int 0, .ref m38, .ref m39, .ref m40, .int 0, .ref m42, .ref m43, .ref m44, .ref m45])), (m10, .inl (cI, 34, .inl (fun _ => 0))), (m44, .inl (cI, 70, .inl (fun _ => 0))), (m45, .inl (cZ, 2, .inl (fun _ => 0)))] H := hP
      have hD : va_D A [(h0, .inr (11, [.int 0, .int 0, .int 0, .ref m3, .ref m4, .ref m5, .int 0, .ref m7, .ref m8, .ref m9, .ref m10, .int 0, .ref m12, .int 0, .int (-1), .int 0, .int 0, .int 0, .ref m18, .int 0, .ref m20, .ref m21, .ref m22, .ref m23, .ref m24, .int 0, .ref m26, .ref m27, .ref m28, .int 0, .ref m30, .int 0, .int 0, .ref m33, .int 0, .int 0, .ref m36, .int 0, .ref m38, .ref m39, .ref m40, .int 0, .ref m42, .ref m43, .ref m44, .ref m45])), (m10, .inl (cI, 34, .inl (fun _ => 0))), (m44, .inl (cI, 70, .inl (fun _ => 0))), (m45, .inl (cZ, 2, .inl (fun _ => 0)))] := hD
      refine lv_iinc (v := 24) (lv' := [(2, .int 24), (0, .ref h0), (1, .int 0)]) hx hb dX11_keep_38 hl (k := 0) rfl (by decide) (by decide) rfl (fun ls hl => ?_)
      refine lv_goto (tgt := 15) hx hb dX11_keep_41 (by decide) ?_
      refine lv_iload_n hx hb dX11_keep_15 rfl (lv_at hl 0 rfl) ?_
      refine lv_bipush (v := 34) hx hb dX11_keep_16 (by decide) ?_
      refine lv_icmp_ge (tgt := 44) hx hb dX11_keep_18 (by decide) (fun c104 => ?_) (fun c104 => ?_)
      · exact absurd c104 (by decide)
      clear c104
      refine lv_aload_n hx hb dX11_keep_21 rfl (lv_at hl 1 rfl) ?_
      refine va_get (D := (dC, dI)) (ci := 11) (v := .ref m44) (C := RX11) (T := TX11) (N := 46) hx hb hts hi_X11 hown hK hP 0 rfl rfl 44 (by decide) (hts (.fieldLink RX11 89 "LeftQuillsModel" "images" "[I") (by decide +kernel)) (fun _ h9 => h9) rfl dX11_keep_22 ?_
      refine lv_bipush (v := 35) hx hb dX11_keep_25 (by decide) ?_
      refine lv_iload_n hx hb dX11_keep_27 rfl (lv_at hl 2 rfl) ?_
      refine lv_imul hx hb dX11_keep_28 ?_
      refine lv_topi (fun z105 ez105 => ?_)
      obtain rfl : z105 = 0 := ez105.trans (by decide)
      refine lv_iload_n hx hb dX11_keep_29 rfl (lv_at hl 0 rfl) ?_
      refine lv_iadd hx hb dX11_keep_30 ?_
      refine lv_topi (fun z106 ez106 => ?_)
      obtain rfl : z106 = 24 := ez106.trans (by decide)
      refine lv_aload_n hx hb dX11_keep_31 rfl (lv_at hl 1 rfl) ?_
      refine va_get (D := (dC, dI)) (ci := 11) (v := .ref m10) (C := RX11) (T := TX11) (N := 46) hx hb hts hi_X11 hown hK hP 0 rfl rfl 10 (by decide) (hts (.fieldLink RX11 28 "LeftQuillsModel" "now" "[I") (by decide +kernel)) (fun _ h9 => h9) rfl dX11_keep_32 ?_
      refine lv_iload_n hx hb dX11_keep_35 rfl (lv_at hl 0 rfl) ?_
      refine va_iald hx hb hK hP 1 0 rfl rfl (vp_in_iff.mpr ⟨by decide, by decide⟩) dX11_keep_36 ?_
      refine W.eq (g2 := F0 m 37 ls (.int 0 :: [.int 24, .ref m44])) rfl ?_
      refine va_iast hx hb hK hP hD hS 2 0 rfl rfl (vp_in_iff.mpr ⟨by decide, by decide⟩) dX11_keep_37 (fun H locs hP hD hS => ?_)
      rw [x_upd0] at hP hD
      have hP : va_P (dC, dI) vwCl [(h0, .inr (11, [.int 0, .int 0, .int 0, .ref m3, .ref m4, .ref m5, .int 0, .ref m7, .ref m8, .ref m9, .ref m10, .int 0, .ref m12, .int 0, .int (-1), .int 0, .int 0, .int 0, .ref m18, .int 0, .ref m20, .ref m21, .ref m22, .ref m23, .ref m24, .int 0, .ref m26, .ref m27, .ref m28, .int 0, .ref m30, .int 0, .int 0, .ref m33, .int 0, .int 0, .ref m36, .int 0, .ref m38, .ref m39, .ref m40, .int 0, .ref m42, .ref m43, .ref m44, .ref m45])), (m10, .inl (cI, 34, .inl (fun _ => 0))), (m44, .inl (cI, 70, .inl (fun _ => 0))), (m45, .inl (cZ, 2, .inl (fun _ => 0)))] H := hP
      have hD : va_D A [(h0, .inr (11, [.int 0, .int 0, .int 0, .ref m3, .ref m4, .ref m5, .int 0, .ref m7, .ref m8, .ref m9, .ref m10, .int 0, .ref m12, .int 0, .int (-1), .int 0, .int 0, .int 0, .ref m18, .int 0, .ref m20, .ref m21, .ref m22, .ref m23, .ref m24, .int 0, .ref m26, .ref m27, .ref m28, .int 0, .ref m30, .int 0, .int 0, .ref m33, .int 0, .int 0, .ref m36, .int 0, .ref m38, .ref m39, .ref m40, .int 0, .ref m42, .ref m43, .ref m44, .ref m45])), (m10, .inl (cI, 34, .inl (fun _ => 0))), (m44, .inl (cI, 70, .inl (fun _ => 0))), (m45, .inl (cZ, 2, .inl (fun _ => 0)))] := hD
      refine lv_iinc (v := 25) (lv' := [(2, .int 25), (0, .ref h0), (1, .int 0)]) hx hb dX11_keep_38 hl (k := 0) rfl (by decide) (by decide) rfl (fun ls hl => ?_)
      refine lv_goto (tgt := 15) hx hb dX11_keep_41 (by decide) ?_
      refine lv_iload_n hx hb dX11_keep_15 rfl (lv_at hl 0 rfl) ?_
      refine lv_bipush (v := 34) hx hb dX11_keep_16 (by decide) ?_
      refine lv_icmp_ge (tgt := 44) hx hb dX11_keep_18 (by decide) (fun c108 => ?_) (fun c108 => ?_)
      · exact absurd c108 (by decide)
      clear c108
      refine lv_aload_n hx hb dX11_keep_21 rfl (lv_at hl 1 rfl) ?_
      refine va_get (D := (dC, dI)) (ci := 11) (v := .ref m44) (C := RX11) (T := TX11) (N := 46) hx hb hts hi_X11 hown hK hP 0 rfl rfl 44 (by decide) (hts (.fieldLink RX11 89 "LeftQuillsModel" "images" "[I") (by decide +kernel)) (fun _ h9 => h9) rfl dX11_keep_22 ?_
      refine lv_bipush (v := 35) hx hb dX11_keep_25 (by decide) ?_
      refine lv_iload_n hx hb dX11_keep_27 rfl (lv_at hl 2 rfl) ?_
      refine lv_imul hx hb dX11_keep_28 ?_
      refine lv_topi (fun z109 ez109 => ?_)
      obtain rfl : z109 = 0 := ez109.trans (by decide)
      refine lv_iload_n hx hb dX11_keep_29 rfl (lv_at hl 0 rfl) ?_
      refine lv_iadd hx hb dX11_keep_30 ?_
      refine lv_topi (fun z110 ez110 => ?_)
      obtain rfl : z110 = 25 := ez110.trans (by decide)
      refine lv_aload_n hx hb dX11_keep_31 rfl (lv_at hl 1 rfl) ?_
      refine va_get (D := (dC, dI)) (ci := 11) (v := .ref m10) (C := RX11) (T := TX11) (N := 46) hx hb hts hi_X11 hown hK hP 0 rfl rfl 10 (by decide) (hts (.fieldLink RX11 28 "LeftQuillsModel" "now" "[I") (by decide +kernel)) (fun _ h9 => h9) rfl dX11_keep_32 ?_
      refine lv_iload_n hx hb dX11_keep_35 rfl (lv_at hl 0 rfl) ?_
      refine va_iald hx hb hK hP 1 0 rfl rfl (vp_in_iff.mpr ⟨by decide, by decide⟩) dX11_keep_36 ?_
      refine W.eq (g2 := F0 m 37 ls (.int 0 :: [.int 25, .ref m44])) rfl ?_
      refine va_iast hx hb hK hP hD hS 2 0 rfl rfl (vp_in_iff.mpr ⟨by decide, by decide⟩) dX11_keep_37 (fun H locs hP hD hS => ?_)
      rw [x_upd0] at hP hD
      have hP : va_P (dC, dI) vwCl [(h0, .inr (11, [.int 0, .int 0, .int 0, .ref m3, .ref m4, .ref m5, .int 0, .ref m7, .ref m8, .ref m9, .ref m10, .int 0, .ref m12, .int 0, .int (-1), .int 0, .int 0, .int 0, .ref m18, .int 0, .ref m20, .ref m21, .ref m22, .ref m23, .ref m24, .int 0, .ref m26, .ref m27, .ref m28, .int 0, .ref m30, .int 0, .int 0, .ref m33, .int 0, .int 0, .ref m36, .int 0, .ref m38, .ref m39, .ref m40, .int 0, .ref m42, .ref m43, .ref m44, .ref m45])), (m10, .inl (cI, 34, .inl (fun _ => 0))), (m44, .inl (cI, 70, .inl (fun _ => 0))), (m45, .inl (cZ, 2, .inl (fun _ => 0)))] H := hP
      have hD : va_D A [(h0, .inr (11, [.int 0, .int 0, .int 0, .ref m3, .ref m4, .ref m5, .int 0, .ref m7, .ref m8, .ref m9, .ref m10, .int 0, .ref m12, .int 0, .int (-1), .int 0, .int 0, .int 0, .ref m18, .int 0, .ref m20, .ref m21, .ref m22, .ref m23, .ref m24, .int 0, .ref m26, .ref m27, .ref m28, .int 0, .ref m30, .int 0, .int 0, .ref m33, .int 0, .int 0, .ref m36, .int 0, .ref m38, .ref m39, .ref m40, .int 0, .ref m42, .ref m43, .ref m44, .ref m45])), (m10, .inl (cI, 34, .inl (fun _ => 0))), (m44, .inl (cI, 70, .inl (fun _ => 0))), (m45, .inl (cZ, 2, .inl (fun _ => 0)))] := hD
      refine lv_iinc (v := 26) (lv' := [(2, .int 26), (0, .ref h0), (1, .int 0)]) hx hb dX11_keep_38 hl (k := 0) rfl (by decide) (by decide) rfl (fun ls hl => ?_)
      refine lv_goto (tgt := 15) hx hb dX11_keep_41 (by decide) ?_
      refine lv_iload_n hx hb dX11_keep_15 rfl (lv_at hl 0 rfl) ?_
      refine lv_bipush (v := 34) hx hb dX11_keep_16 (by decide) ?_
      refine lv_icmp_ge (tgt := 44) hx hb dX11_keep_18 (by decide) (fun c112 => ?_) (fun c112 => ?_)
      · exact absurd c112 (by decide)
      clear c112
      refine lv_aload_n hx hb dX11_keep_21 rfl (lv_at hl 1 rfl) ?_
      refine va_get (D := (dC, dI)) (ci := 11) (v := .ref m44) (C := RX11) (T := TX11) (N := 46) hx hb hts hi_X11 hown hK hP 0 rfl rfl 44 (by decide) (hts (.fieldLink RX11 89 "LeftQuillsModel" "images" "[I") (by decide +kernel)) (fun _ h9 => h9) rfl dX11_keep_22 ?_
      refine lv_bipush (v := 35) hx hb dX11_keep_25 (by decide) ?_
      refine lv_iload_n hx hb dX11_keep_27 rfl (lv_at hl 2 rfl) ?_
      refine lv_imul hx hb dX11_keep_28 ?_
      refine lv_topi (fun z113 ez113 => ?_)
      obtain rfl : z113 = 0 := ez113.trans (by decide)
      refine lv_iload_n hx hb dX11_keep_29 rfl (lv_at hl 0 rfl) ?_
      refine lv_iadd hx hb dX11_keep_30 ?_
      refine lv_topi (fun z114 ez114 => ?_)
      obtain rfl : z114 = 26 := ez114.trans (by decide)
      refine lv_aload_n hx hb dX11_keep_31 rfl (lv_at hl 1 rfl) ?_
      refine va_get (D := (dC, dI)) (ci := 11) (v := .ref m10) (C := RX11) (T := TX11) (N := 46) hx hb hts hi_X11 hown hK hP 0 rfl rfl 10 (by decide) (hts (.fieldLink RX11 28 "LeftQuillsModel" "now" "[I") (by decide +kernel)) (fun _ h9 => h9) rfl dX11_keep_32 ?_
      refine lv_iload_n hx hb dX11_keep_35 rfl (lv_at hl 0 rfl) ?_
      refine va_iald hx hb hK hP 1 0 rfl rfl (vp_in_iff.mpr ⟨by decide, by decide⟩) dX11_keep_36 ?_
      refine W.eq (g2 := F0 m 37 ls (.int 0 :: [.int 26, .ref m44])) rfl ?_
      refine va_iast hx hb hK hP hD hS 2 0 rfl rfl (vp_in_iff.mpr ⟨by decide, by decide⟩) dX11_keep_37 (fun H locs hP hD hS => ?_)
      rw [x_upd0] at hP hD
      have hP : va_P (dC, dI) vwCl [(h0, .inr (11, [.int 0, .int 0, .int 0, .ref m3, .ref m4, .ref m5, .int 0, .ref m7, .ref m8, .ref m9, .ref m10, .int 0, .ref m12, .int 0, .int (-1), .int 0, .int 0, .int 0, .ref m18, .int 0, .ref m20, .ref m21, .ref m22, .ref m23, .ref m24, .int 0, .ref m26, .ref m27, .ref m28, .int 0, .ref m30, .int 0, .int 0, .ref m33, .int 0, .int 0, .ref m36, .int 0, .ref m38, .ref m39, .ref m40, .int 0, .ref m42, .ref m43, .ref m44, .ref m45])), (m10, .inl (cI, 34, .inl (fun _ => 0))), (m44, .inl (cI, 70, .inl (fun _ => 0))), (m45, .inl (cZ, 2, .inl (fun _ => 0)))] H := hP
      have hD : va_D A [(h0, .inr (11, [.int 0, .int 0, .int 0, .ref m3, .ref m4, .ref m5, .int 0, .ref m7, .ref m8, .ref m9, .ref m10, .int 0, .ref m12, .int 0, .int (-1), .int 0, .int 0, .int 0, .ref m18, .int 0, .ref m20, .ref m21, .ref m22, .ref m23, .ref m24, .int 0, .ref m26, .ref m27, .ref m28, .int 0, .ref m30, .int 0, .int 0, .ref m33, .int 0, .int 0, .ref m36, .int 0, .ref m38, .ref m39, .ref m40, .int 0, .ref m42, .ref m43, .ref m44, .ref m45])), (m10, .inl (cI, 34, .inl (fun _ => 0))), (m44, .inl (cI, 70, .inl (fun _ => 0))), (m45, .inl (cZ, 2, .inl (fun _ => 0)))] := hD
      refine lv_iinc (v := 27) (lv' := [(2, .int 27), (0, .ref h0), (1, .int 0)]) hx hb dX11_keep_38 hl (k := 0) rfl (by decide) (by decide) rfl (fun ls hl => ?_)
      refine lv_goto (tgt := 15) hx hb dX11_keep_41 (by decide) ?_
      refine lv_iload_n hx hb dX11_keep_15 rfl (lv_at hl 0 rfl) ?_
      refine lv_bipush (v := 34) hx hb dX11_keep_16 (by decide) ?_
      refine lv_icmp_ge (tgt := 44) hx hb dX11_keep_18 (by decide) (fun c116 => ?_) (fun c116 => ?_)
      · exact absurd c116 (by decide)
      clear c116
      refine lv_aload_n hx hb dX11_keep_21 rfl (lv_at hl 1 rfl) ?_
      refine va_get (D := (dC, dI)) (ci := 11) (v := .ref m44) (C := RX11) (T := TX11) (N := 46) hx hb hts hi_X11 hown hK hP 0 rfl rfl 44 (by decide) (hts (.fieldLink RX11 89 "LeftQuillsModel" "images" "[I") (by decide +kernel)) (fun _ h9 => h9) rfl dX11_keep_22 ?_
      refine lv_bipush (v := 35) hx hb dX11_keep_25 (by decide) ?_
      refine lv_iload_n hx hb dX11_keep_27 rfl (lv_at hl 2 rfl) ?_
      refine lv_imul hx hb dX11_keep_28 ?_
      refine lv_topi (fun z117 ez117 => ?_)
      obtain rfl : z117 = 0 := ez117.trans (by decide)
      refine lv_iload_n hx hb dX11_keep_29 rfl (lv_at hl 0 rfl) ?_
      refine lv_iadd hx hb dX11_keep_30 ?_
      refine lv_topi (fun z118 ez118 => ?_)
      obtain rfl : z118 = 27 := ez118.trans (by decide)
      refine lv_aload_n hx hb dX11_keep_31 rfl (lv_at hl 1 rfl) ?_
      refine va_get (D := (dC, dI)) (ci := 11) (v := .ref m10) (C := RX11) (T := TX11) (N := 46) hx hb hts hi_X11 hown hK hP 0 rfl rfl 10 (by decide) (hts (.fieldLink RX11 28 "LeftQuillsModel" "now" "[I") (by decide +kernel)) (fun _ h9 => h9) rfl dX11_keep_32 ?_
      refine lv_iload_n hx hb dX11_keep_35 rfl (lv_at hl 0 rfl) ?_
      refine va_iald hx hb hK hP 1 0 rfl rfl (vp_in_iff.mpr ⟨by decide, by decide⟩) dX11_keep_36 ?_
      refine W.eq (g2 := F0 m 37 ls (.int 0 :: [.int 27, .ref m44])) rfl ?_
      refine va_iast hx hb hK hP hD hS 2 0 rfl rfl (vp_in_iff.mpr ⟨by decide, by decide⟩) dX11_keep_37 (fun H locs hP hD hS => ?_)
      rw [x_upd0] at hP hD
      have hP : va_P (dC, dI) vwCl [(h0, .inr (11, [.int 0, .int 0, .int 0, .ref m3, .ref m4, .ref m5, .int 0, .ref m7, .ref m8, .ref m9, .ref m10, .int 0, .ref m12, .int 0, .int (-1), .int 0, .int 0, .int 0, .ref m18, .int 0, .ref m20, .ref m21, .ref m22, .ref m23, .ref m24, .int 0, .ref m26, .ref m27, .ref m28, .int 0, .ref m30, .int 0, .int 0, .ref m33, .int 0, .int 0, .ref m36, .int 0, .ref m38, .ref m39, .ref m40, .int 0, .ref m42, .ref m43, .ref m44, .ref m45])), (m10, .inl (cI, 34, .inl (fun _ => 0))), (m44, .inl (cI, 70, .inl (fun _ => 0))), (m45, .inl (cZ, 2, .inl (fun _ => 0)))] H := hP
      have hD : va_D A [(h0, .inr (11, [.int 0, .int 0, .int 0, .ref m3, .ref m4, .ref m5, .int 0, .ref m7, .ref m8, .ref m9, .ref m10, .int 0, .ref m12, .int 0, .int (-1), .int 0, .int 0, .int 0, .ref m18, .int 0, .ref m20, .ref m21, .ref m22, .ref m23, .ref m24, .int 0, .ref m26, .ref m27, .ref m28, .int 0, .ref m30, .int 0, .int 0, .ref m33, .int 0, .int 0, .ref m36, .int 0, .ref m38, .ref m39, .ref m40, .int 0, .ref m42, .ref m43, .ref m44, .ref m45])), (m10, .inl (cI, 34, .inl (fun _ => 0))), (m44, .inl (cI, 70, .inl (fun _ => 0))), (m45, .inl (cZ, 2, .inl (fun _ => 0)))] := hD
      refine lv_iinc (v := 28) (lv' := [(2, .int 28), (0, .ref h0), (1, .int 0)]) hx hb dX11_keep_38 hl (k := 0) rfl (by decide) (by decide) rfl (fun ls hl => ?_)
      refine lv_goto (tgt := 15) hx hb dX11_keep_41 (by decide) ?_
      refine lv_iload_n hx hb dX11_keep_15 rfl (lv_at hl 0 rfl) ?_
      refine lv_bipush (v := 34) hx hb dX11_keep_16 (by decide) ?_
      refine lv_icmp_ge (tgt := 44) hx hb dX11_keep_18 (by decide) (fun c120 => ?_) (fun c120 => ?_)
      · exact absurd c120 (by decide)
      clear c120
      refine lv_aload_n hx hb dX11_keep_21 rfl (lv_at hl 1 rfl) ?_
      refine va_get (D := (dC, dI)) (ci := 11) (v := .ref m44) (C := RX11) (T := TX11) (N := 46) hx hb hts hi_X11 hown hK hP 0 rfl rfl 44 (by decide) (hts (.fieldLink RX11 89 "LeftQuillsModel" "images" "[I") (by decide +kernel)) (fun _ h9 => h9) rfl dX11_keep_22 ?_
      refine lv_bipush (v := 35) hx hb dX11_keep_25 (by decide) ?_
      refine lv_iload_n hx hb dX11_keep_27 rfl (lv_at hl 2 rfl) ?_
      refine lv_imul hx hb dX11_keep_28 ?_
      refine lv_topi (fun z121 ez121 => ?_)
      obtain rfl : z121 = 0 := ez121.trans (by decide)
      refine lv_iload_n hx hb dX11_keep_29 rfl (lv_at hl 0 rfl) ?_
      refine lv_iadd hx hb dX11_keep_30 ?_
      refine lv_topi (fun z122 ez122 => ?_)
      obtain rfl : z122 = 28 := ez122.trans (by decide)
      refine lv_aload_n hx hb dX11_keep_31 rfl (lv_at hl 1 rfl) ?_
      refine va_get (D := (dC, dI)) (ci := 11) (v := .ref m10) (C := RX11) (T := TX11) (N := 46) hx hb hts hi_X11 hown hK hP 0 rfl rfl 10 (by decide) (hts (.fieldLink RX11 28 "LeftQuillsModel" "now" "[I") (by decide +kernel)) (fun _ h9 => h9) rfl dX11_keep_32 ?_
      refine lv_iload_n hx hb dX11_keep_35 rfl (lv_at hl 0 rfl) ?_
      refine va_iald hx hb hK hP 1 0 rfl rfl (vp_in_iff.mpr ⟨by decide, by decide⟩) dX11_keep_36 ?_
      refine W.eq (g2 := F0 m 37 ls (.int 0 :: [.int 28, .ref m44])) rfl ?_
      refine va_iast hx hb hK hP hD hS 2 0 rfl rfl (vp_in_iff.mpr ⟨by decide, by decide⟩) dX11_keep_37 (fun H locs hP hD hS => ?_)
      rw [x_upd0] at hP hD
      have hP : va_P (dC, dI) vwCl [(h0, .inr (11, [.int 0, .int 0, .int 0, .ref m3, .ref m4, .ref m5, .int 0, .ref m7, .ref m8, .ref m9, .ref m10, .int 0, .ref m12, .int 0, .int (-1), .int 0, .int 0, .int 0, .ref m18, .int 0, .ref m20, .ref m21, .ref m22, .ref m23, .ref m24, .int 0, .ref m26, .ref m27, .ref m28, .int 0, .ref m30, .int 0, .int 0, .ref m33, .int 0, .int 0, .ref m36, .int 0, .ref m38, .ref m39, .ref m40, .int 0, .ref m42, .ref m43, .ref m44, .ref m45])), (m10, .inl (cI, 34, .inl (fun _ => 0))), (m44, .inl (cI, 70, .inl (fun _ => 0))), (m45, .inl (cZ, 2, .inl (fun _ => 0)))] H := hP
      have hD : va_D A [(h0, .inr (11, [.int 0, .int 0, .int 0, .ref m3, .ref m4, .ref m5, .int 0, .ref m7, .ref m8, .ref m9, .ref m10, .int 0, .ref m12, .int 0, .int (-1), .int 0, .int 0, .int 0, .ref m18, .int 0, .ref m20, .ref m21, .ref m22, .ref m23, .ref m24, .int 0, .ref m26, .ref m27, .ref m28, .int 0, .ref m30, .int 0, .int 0, .ref m33, .int 0, .int 0, .ref m36, .int 0, .ref m38, .ref m39, .ref m40, .int 0, .ref m42, .ref m43, .ref m44, .ref m45])), (m10, .inl (cI, 34, .inl (fun _ => 0))), (m44, .inl (cI, 70, .inl (fun _ => 0))), (m45, .inl (cZ, 2, .inl (fun _ => 0)))] := hD
      refine lv_iinc (v := 29) (lv' := [(2, .int 29), (0, .ref h0), (1, .int 0)]) hx hb dX11_keep_38 hl (k := 0) rfl (by decide) (by decide) rfl (fun ls hl => ?_)
      refine lv_goto (tgt := 15) hx hb dX11_keep_41 (by decide) ?_
      refine lv_iload_n hx hb dX11_keep_15 rfl (lv_at hl 0 rfl) ?_
      refine lv_bipush (v := 34) hx hb dX11_keep_16 (by decide) ?_
      refine lv_icmp_ge (tgt := 44) hx hb dX11_keep_18 (by decide) (fun c124 => ?_) (fun c124 => ?_)
      · exact absurd c124 (by decide)
      clear c124
      refine lv_aload_n hx hb dX11_keep_21 rfl (lv_at hl 1 rfl) ?_
      refine va_get (D := (dC, dI)) (ci := 11) (v := .ref m44) (C := RX11) (T := TX11) (N := 46) hx hb hts hi_X11 hown hK hP 0 rfl rfl 44 (by decide) (hts (.fieldLink RX11 89 "LeftQuillsModel" "images" "[I") (by decide +kernel)) (fun _ h9 => h9) rfl dX11_keep_22 ?_
      refine lv_bipush (v := 35) hx hb dX11_keep_25 (by decide) ?_
      refine lv_iload_n hx hb dX11_keep_27 rfl (lv_at hl 2 rfl) ?_
      refine lv_imul hx hb dX11_keep_28 ?_
      refine lv_topi (fun z125 ez125 => ?_)
      obtain rfl : z125 = 0 := ez125.trans (by decide)
      refine lv_iload_n hx hb dX11_keep_29 rfl (lv_at hl 0 rfl) ?_
      refine lv_iadd hx hb dX11_keep_30 ?_
      refine lv_topi (fun z126 ez126 => ?_)
      obtain rfl : z126 = 29 := ez126.trans (by decide)
      refine lv_aload_n hx hb dX11_keep_31 rfl (lv_at hl 1 rfl) ?_
      refine va_get (D := (dC, dI)) (ci := 11) (v := .ref m10) (C := RX11) (T := TX11) (N := 46) hx hb hts hi_X11 hown hK hP 0 rfl rfl 10 (by decide) (hts (.fieldLink RX11 28 "LeftQuillsModel" "now" "[I") (by decide +kernel)) (fun _ h9 => h9) rfl dX11_keep_32 ?_
      refine lv_iload_n hx hb dX11_keep_35 rfl (lv_at hl 0 rfl) ?_
      refine va_iald hx hb hK hP 1 0 rfl rfl (vp_in_iff.mpr ⟨by decide, by decide⟩) dX11_keep_36 ?_
      refine W.eq (g2 := F0 m 37 ls (.int 0 :: [.int 29, .ref m44])) rfl ?_
      refine va_iast hx hb hK hP hD hS 2 0 rfl rfl (vp_in_iff.mpr ⟨by decide, by decide⟩) dX11_keep_37 (fun H locs hP hD hS => ?_)
      rw [x_upd0] at hP hD
      have hP : va_P (dC, dI) vwCl [(h0, .inr (11, [.int 0, .int 0, .int 0, .ref m3, .ref m4, .ref m5, .int 0, .ref m7, .ref m8, .ref m9, .ref m10, .int 0, .ref m12, .int 0, .int (-1), .int 0, .int 0, .int 0, .ref m18, .int 0, .ref m20, .ref m21, .ref m22, .ref m23, .ref m24, .int 0, .ref m26, .ref m27, .ref m28, .int 0, .ref m30, .int 0, .int 0, .ref m33, .int 0, .int 0, .ref m36, .int 0, .ref m38, .ref m39, .ref m40, .int 0, .ref m42, .ref m43, .ref m44, .ref m45])), (m10, .inl (cI, 34, .inl (fun _ => 0))), (m44, .inl (cI, 70, .inl (fun _ => 0))), (m45, .inl (cZ, 2, .inl (fun _ => 0)))] H := hP
      have hD : va_D A [(h0, .inr (11, [.int 0, .int 0, .int 0, .ref m3, .ref m4, .ref m5, .int 0, .ref m7, .ref m8, .ref m9, .ref m10, .int 0, .ref m12, .int 0, .int (-1), .int 0, .int 0, .int 0, .ref m18, .int 0, .ref m20, .ref m21, .ref m22, .ref m23, .ref m24, .int 0, .ref m26, .ref m27, .ref m28, .int 0, .ref m30, .int 0, .int 0, .ref m33, .int 0, .int 0, .ref m36, .int 0, .ref m38, .ref m39, .ref m40, .int 0, .ref m42, .ref m43, .ref m44, .ref m45])), (m10, .inl (cI, 34, .inl (fun _ => 0))), (m44, .inl (cI, 70, .inl (fun _ => 0))), (m45, .inl (cZ, 2, .inl (fun _ => 0)))] := hD
      refine lv_iinc (v := 30) (lv' := [(2, .int 30), (0, .ref h0), (1, .int 0)]) hx hb dX11_keep_38 hl (k := 0) rfl (by decide) (by decide) rfl (fun ls hl => ?_)
      refine lv_goto (tgt := 15) hx hb dX11_keep_41 (by decide) ?_
      refine lv_iload_n hx hb dX11_keep_15 rfl (lv_at hl 0 rfl) ?_
      refine lv_bipush (v := 34) hx hb dX11_keep_16 (by decide) ?_
      refine lv_icmp_ge (tgt := 44) hx hb dX11_keep_18 (by decide) (fun c128 => ?_) (fun c128 => ?_)
      · exact absurd c128 (by decide)
      clear c128
      refine lv_aload_n hx hb dX11_keep_21 rfl (lv_at hl 1 rfl) ?_
      refine va_get (D := (dC, dI)) (ci := 11) (v := .ref m44) (C := RX11) (T := TX11) (N := 46) hx hb hts hi_X11 hown hK hP 0 rfl rfl 44 (by decide) (hts (.fieldLink RX11 89 "LeftQuillsModel" "images" "[I") (by decide +kernel)) (fun _ h9 => h9) rfl dX11_keep_22 ?_
      refine lv_bipush (v := 35) hx hb dX11_keep_25 (by decide) ?_
      refine lv_iload_n hx hb dX11_keep_27 rfl (lv_at hl 2 rfl) ?_
      refine lv_imul hx hb dX11_keep_28 ?_
      refine lv_topi (fun z129 ez129 => ?_)
      obtain rfl : z129 = 0 := ez129.trans (by decide)
      refine lv_iload_n hx hb dX11_keep_29 rfl (lv_at hl 0 rfl) ?_
      refine lv_iadd hx hb dX11_keep_30 ?_
      refine lv_topi (fun z130 ez130 => ?_)
      obtain rfl : z130 = 30 := ez130.trans (by decide)
      refine lv_aload_n hx hb dX11_keep_31 rfl (lv_at hl 1 rfl) ?_
      refine va_get (D := (dC, dI)) (ci := 11) (v := .ref m10) (C := RX11) (T := TX11) (N := 46) hx hb hts hi_X11 hown hK hP 0 rfl rfl 10 (by decide) (hts (.fieldLink RX11 28 "LeftQuillsModel" "now" "[I") (by decide +kernel)) (fun _ h9 => h9) rfl dX11_keep_32 ?_
      refine lv_iload_n hx hb dX11_keep_35 rfl (lv_at hl 0 rfl) ?_
      refine va_iald hx hb hK hP 1 0 rfl rfl (vp_in_iff.mpr ⟨by decide, by decide⟩) dX11_keep_36 ?_
      refine W.eq (g2 := F0 m 37 ls (.int 0 :: [.int 30, .ref m44])) rfl ?_
      refine va_iast hx hb hK hP hD hS 2 0 rfl rfl (vp_in_iff.mpr ⟨by decide, by decide⟩) dX11_keep_37 (fun H locs hP hD hS => ?_)
      rw [x_upd0] at hP hD
      have hP : va_P (dC, dI) vwCl [(h0, .inr (11, [.int 0, .int 0, .int 0, .ref m3, .ref m4, .ref m5, .int 0, .ref m7, .ref m8, .ref m9, .ref m10, .int 0, .ref m12, .int 0, .int (-1), .int 0, .int 0, .int 0, .ref m18, .int 0, .ref m20, .ref m21, .ref m22, .ref m23, .ref m24, .int 0, .ref m26, .ref m27, .ref m28, .int 0, .ref m30, .int 0, .int 0, .ref m33, .int 0, .int 0, .ref m36, .int 0, .ref m38, .ref m39, .ref m40, .int 0, .ref m42, .ref m43, .ref m44, .ref m45])), (m10, .inl (cI, 34, .inl (fun _ => 0))), (m44, .inl (cI, 70, .inl (fun _ => 0))), (m45, .inl (cZ, 2, .inl (fun _ => 0)))] H := hP
      have hD : va_D A [(h0, .inr (11, [.int 0, .int 0, .int 0, .ref m3, .ref m4, .ref m5, .int 0, .ref m7, .ref m8, .ref m9, .ref m10, .int 0, .ref m12, .int 0, .int (-1), .int 0, .int 0, .int 0, .ref m18, .int 0, .ref m20, .ref m21, .ref m22, .ref m23, .ref m24, .int 0, .ref m26, .ref m27, .ref m28, .int 0, .ref m30, .int 0, .int 0, .ref m33, .int 0, .int 0, .ref m36, .int 0, .ref m38, .ref m39, .ref m40, .int 0, .ref m42, .ref m43, .ref m44, .ref m45])), (m10, .inl (cI, 34, .inl (fun _ => 0))), (m44, .inl (cI, 70, .inl (fun _ => 0))), (m45, .inl (cZ, 2, .inl (fun _ => 0)))] := hD
      refine lv_iinc (v := 31) (lv' := [(2, .int 31), (0, .ref h0), (1, .int 0)]) hx hb dX11_keep_38 hl (k := 0) rfl (by decide) (by decide) rfl (fun ls hl => ?_)
      refine lv_goto (tgt := 15) hx hb dX11_keep_41 (by decide) ?_
      refine lv_iload_n hx hb dX11_keep_15 rfl (lv_at hl 0 rfl) ?_
      refine lv_bipush (v := 34) hx hb dX11_keep_16 (by decide) ?_
      refine lv_icmp_ge (tgt := 44) hx hb dX11_keep_18 (by decide) (fun c132 => ?_) (fun c132 => ?_)
      · exact absurd c132 (by decide)
      clear c132
      refine lv_aload_n hx hb dX11_keep_21 rfl (lv_at hl 1 rfl) ?_
      refine va_get (D := (dC, dI)) (ci := 11) (v := .ref m44) (C := RX11) (T := TX11) (N := 46) hx hb hts hi_X11 hown hK hP 0 rfl rfl 44 (by decide) (hts (.fieldLink RX11 89 "LeftQuillsModel" "images" "[I") (by decide +kernel)) (fun _ h9 => h9) rfl dX11_keep_22 ?_
      refine lv_bipush (v := 35) hx hb dX11_keep_25 (by decide) ?_
      refine lv_iload_n hx hb dX11_keep_27 rfl (lv_at hl 2 rfl) ?_
      refine lv_imul hx hb dX11_keep_28 ?_
      refine lv_topi (fun z133 ez133 => ?_)
      obtain rfl : z133 = 0 := ez133.trans (by decide)
      refine lv_iload_n hx hb dX11_keep_29 rfl (lv_at hl 0 rfl) ?_
      refine lv_iadd hx hb dX11_keep_30 ?_
      refine lv_topi (fun z134 ez134 => ?_)
      obtain rfl : z134 = 31 := ez134.trans (by decide)
      refine lv_aload_n hx hb dX11_keep_31 rfl (lv_at hl 1 rfl) ?_
      refine va_get (D := (dC, dI)) (ci := 11) (v := .ref m10) (C := RX11) (T := TX11) (N := 46) hx hb hts hi_X11 hown hK hP 0 rfl rfl 10 (by decide) (hts (.fieldLink RX11 28 "LeftQuillsModel" "now" "[I") (by decide +kernel)) (fun _ h9 => h9) rfl dX11_keep_32 ?_
      refine lv_iload_n hx hb dX11_keep_35 rfl (lv_at hl 0 rfl) ?_
      refine va_iald hx hb hK hP 1 0 rfl rfl (vp_in_iff.mpr ⟨by decide, by decide⟩) dX11_keep_36 ?_
      refine W.eq (g2 := F0 m 37 ls (.int 0 :: [.int 31, .ref m44])) rfl ?_
      refine va_iast hx hb hK hP hD hS 2 0 rfl rfl (vp_in_iff.mpr ⟨by decide, by decide⟩) dX11_keep_37 (fun H locs hP hD hS => ?_)
      rw [x_upd0] at hP hD
      have hP : va_P (dC, dI) vwCl [(h0, .inr (11, [.int 0, .int 0, .int 0, .ref m3, .ref m4, .ref m5, .int 0, .ref m7, .ref m8, .ref m9, .ref m10, .int 0, .ref m12, .int 0, .int (-1), .int 0, .int 0, .int 0, .ref m18, .int 0, .ref m20, .ref m21, .ref m22, .ref m23, .ref m24, .int 0, .ref m26, .ref m27, .ref m28, .int 0, .ref m30, .int 0, .int 0, .ref m33, .int 0, .int 0, .ref m36, .int 0, .ref m38, .ref m39, .ref m40, .int 0, .ref m42, .ref m43, .ref m44, .ref m45])), (m10, .inl (cI, 34, .inl (fun _ => 0))), (m44, .inl (cI, 70, .inl (fun _ => 0))), (m45, .inl (cZ, 2, .inl (fun _ => 0)))] H := hP
      have hD : va_D A [(h0, .inr (11, [.int 0, .int 0, .int 0, .ref m3, .ref m4, .ref m5, .int 0, .ref m7, .ref m8, .ref m9, .ref m10, .int 0, .ref m12, .int 0, .int (-1), .int 0, .int 0, .int 0, .ref m18, .int 0, .ref m20, .ref m21, .ref m22, .ref m23, .ref m24, .int 0, .ref m26, .ref m27, .ref m28, .int 0, .ref m30, .int 0, .int 0, .ref m33, .int 0, .int 0, .ref m36, .int 0, .ref m38, .ref m39, .ref m40, .int 0, .ref m42, .ref m43, .ref m44, .ref m45])), (m10, .inl (cI, 34, .inl (fun _ => 0))), (m44, .inl (cI, 70, .inl (fun _ => 0))), (m45, .inl (cZ, 2, .inl (fun _ => 0)))] := hD
      refine lv_iinc (v := 32) (lv' := [(2, .int 32), (0, .ref h0), (1, .int 0)]) hx hb dX11_keep_38 hl (k := 0) rfl (by decide) (by decide) rfl (fun ls hl => ?_)
      refine lv_goto (tgt := 15) hx hb dX11_keep_41 (by decide) ?_
      refine lv_iload_n hx hb dX11_keep_15 rfl (lv_at hl 0 rfl) ?_
      refine lv_bipush (v := 34) hx hb dX11_keep_16 (by decide) ?_
      refine lv_icmp_ge (tgt := 44) hx hb dX11_keep_18 (by decide) (fun c136 => ?_) (fun c136 => ?_)
      · exact absurd c136 (by decide)
      clear c136
      refine lv_aload_n hx hb dX11_keep_21 rfl (lv_at hl 1 rfl) ?_
      refine va_get (D := (dC, dI)) (ci := 11) (v := .ref m44) (C := RX11) (T := TX11) (N := 46) hx hb hts hi_X11 hown hK hP 0 rfl rfl 44 (by decide) (hts (.fieldLink RX11 89 "LeftQuillsModel" "images" "[I") (by decide +kernel)) (fun _ h9 => h9) rfl dX11_keep_22 ?_
      refine lv_bipush (v := 35) hx hb dX11_keep_25 (by decide) ?_
      refine lv_iload_n hx hb dX11_keep_27 rfl (lv_at hl 2 rfl) ?_
      refine lv_imul hx hb dX11_keep_28 ?_
      refine lv_topi (fun z137 ez137 => ?_)
      obtain rfl : z137 = 0 := ez137.trans (by decide)
      refine lv_iload_n hx hb dX11_keep_29 rfl (lv_at hl 0 rfl) ?_
      refine lv_iadd hx hb dX11_keep_30 ?_
      refine lv_topi (fun z138 ez138 => ?_)
      obtain rfl : z138 = 32 := ez138.trans (by decide)
      refine lv_aload_n hx hb dX11_keep_31 rfl (lv_at hl 1 rfl) ?_
      refine va_get (D := (dC, dI)) (ci := 11) (v := .ref m10) (C := RX11) (T := TX11) (N := 46) hx hb hts hi_X11 hown hK hP 0 rfl rfl 10 (by decide) (hts (.fieldLink RX11 28 "LeftQuillsModel" "now" "[I") (by decide +kernel)) (fun _ h9 => h9) rfl dX11_keep_32 ?_
      refine lv_iload_n hx hb dX11_keep_35 rfl (lv_at hl 0 rfl) ?_
      refine va_iald hx hb hK hP 1 0 rfl rfl (vp_in_iff.mpr ⟨by decide, by decide⟩) dX11_keep_36 ?_
      refine W.eq (g2 := F0 m 37 ls (.int 0 :: [.int 32, .ref m44])) rfl ?_
      refine va_iast hx hb hK hP hD hS 2 0 rfl rfl (vp_in_iff.mpr ⟨by decide, by decide⟩) dX11_keep_37 (fun H locs hP hD hS => ?_)
      rw [x_upd0] at hP hD
      have hP : va_P (dC, dI) vwCl [(h0, .inr (11, [.int 0, .int 0, .int 0, .ref m3, .ref m4, .ref m5, .int 0, .ref m7, .ref m8, .ref m9, .ref m10, .int 0, .ref m12, .int 0, .int (-1), .int 0, .int 0, .int 0, .ref m18, .int 0, .ref m20, .ref m21, .ref m22, .ref m23, .ref m24, .int 0, .ref m26, .ref m27, .ref m28, .int 0, .ref m30, .int 0, .int 0, .ref m33, .int 0, .int 0, .ref m36, .int 0, .ref m38, .ref m39, .ref m40, .int 0, .ref m42, .ref m43, .ref m44, .ref m45])), (m10, .inl (cI, 34, .inl (fun _ => 0))), (m44, .inl (cI, 70, .inl (fun _ => 0))), (m45, .inl (cZ, 2, .inl (fun _ => 0)))] H := hP
      have hD : va_D A [(h0, .inr (11, [.int 0, .int 0, .int 0, .ref m3, .ref m4, .ref m5, .int 0, .ref m7, .ref m8, .ref m9, .ref m10, .int 0, .ref m12, .int 0, .int (-1), .int 0, .int 0, .int 0, .ref m18, .int 0, .ref m20, .ref m21, .ref m22, .ref m23, .ref m24, .int 0, .ref m26, .ref m27, .ref m28, .int 0, .ref m30, .int 0, .int 0, .ref m33, .int 0, .int 0, .ref m36, .int 0, .ref m38, .ref m39, .ref m40, .int 0, .ref m42, .ref m43, .ref m44, .ref m45])), (m10, .inl (cI, 34, .inl (fun _ => 0))), (m44, .inl (cI, 70, .inl (fun _ => 0))), (m45, .inl (cZ, 2, .inl (fun _ => 0)))] := hD
      refine lv_iinc (v := 33) (lv' := [(2, .int 33), (0, .ref h0), (1, .int 0)]) hx hb dX11_keep_38 hl (k := 0) rfl (by decide) (by decide) rfl (fun ls hl => ?_)
      refine lv_goto (tgt := 15) hx hb dX11_keep_41 (by decide) ?_
      refine lv_iload_n hx hb dX11_keep_15 rfl (lv_at hl 0 rfl) ?_
      refine lv_bipush (v := 34) hx hb dX11_keep_16 (by decide) ?_
      refine lv_icmp_ge (tgt := 44) hx hb dX11_keep_18 (by decide) (fun c140 => ?_) (fun c140 => ?_)
      · exact absurd c140 (by decide)
      clear c140
      refine lv_aload_n hx hb dX11_keep_21 rfl (lv_at hl 1 rfl) ?_
      refine va_get (D := (dC, dI)) (ci := 11) (v := .ref m44) (C := RX11) (T := TX11) (N := 46) hx hb hts hi_X11 hown hK hP 0 rfl rfl 44 (by decide) (hts (.fieldLink RX11 89 "LeftQuillsModel" "images" "[I") (by decide +kernel)) (fun _ h9 => h9) rfl dX11_keep_22 ?_
      refine lv_bipush (v := 35) hx hb dX11_keep_25 (by decide) ?_
      refine lv_iload_n hx hb dX11_keep_27 rfl (lv_at hl 2 rfl) ?_
      refine lv_imul hx hb dX11_keep_28 ?_
      refine lv_topi (fun z141 ez141 => ?_)
      obtain rfl : z141 = 0 := ez141.trans (by decide)
      refine lv_iload_n hx hb dX11_keep_29 rfl (lv_at hl 0 rfl) ?_
      refine lv_iadd hx hb dX11_keep_30 ?_
      refine lv_topi (fun z142 ez142 => ?_)
      obtain rfl : z142 = 33 := ez142.trans (by decide)
      refine lv_aload_n hx hb dX11_keep_31 rfl (lv_at hl 1 rfl) ?_
      refine va_get (D := (dC, dI)) (ci := 11) (v := .ref m10) (C := RX11) (T := TX11) (N := 46) hx hb hts hi_X11 hown hK hP 0 rfl rfl 10 (by decide) (hts (.fieldLink RX11 28 "LeftQuillsModel" "now" "[I") (by decide +kernel)) (fun _ h9 => h9) rfl dX11_keep_32 ?_
      refine lv_iload_n hx hb dX11_keep_35 rfl (lv_at hl 0 rfl) ?_
      refine va_iald hx hb hK hP 1 0 rfl rfl (vp_in_iff.mpr ⟨by decide, by decide⟩) dX11_keep_36 ?_
      refine W.eq (g2 := F0 m 37 ls (.int 0 :: [.int 33, .ref m44])) rfl ?_
      refine va_iast hx hb hK hP hD hS 2 0 rfl rfl (vp_in_iff.mpr ⟨by decide, by decide⟩) dX11_keep_37 (fun H locs hP hD hS => ?_)
      rw [x_upd0] at hP hD
      have hP : va_P (dC, dI) vwCl [(h0, .inr (11, [.int 0, .int 0, .int 0, .ref m3, .ref m4, .ref m5, .int 0, .ref m7, .ref m8, .ref m9, .ref m10, .int 0, .ref m12, .int 0, .int (-1), .int 0, .int 0, .int 0, .ref m18, .int 0, .ref m20, .ref m21, .ref m22, .ref m23, .ref m24, .int 0, .ref m26, .ref m27, .ref m28, .int 0, .ref m30, .int 0, .int 0, .ref m33, .int 0, .int 0, .ref m36, .int 0, .ref m38, .ref m39, .ref m40, .int 0, .ref m42, .ref m43, .ref m44, .ref m45])), (m10, .inl (cI, 34, .inl (fun _ => 0))), (m44, .inl (cI, 70, .inl (fun _ => 0))), (m45, .inl (cZ, 2, .inl (fun _ => 0)))] H := hP
      have hD : va_D A [(h0, .inr (11, [.int 0, .int 0, .int 0, .ref m3, .ref m4, .ref m5, .int 0, .ref m7, .ref m8, .ref m9, .ref m10, .int 0, .ref m12, .int 0, .int (-1), .int 0, .int 0, .int 0, .ref m18, .int 0, .ref m20, .ref m21, .ref m22, .ref m23, .ref m24, .int 0, .ref m26, .ref m27, .ref m28, .int 0, .ref m30, .int 0, .int 0, .ref m33, .int 0, .int 0, .ref m36, .int 0, .ref m38, .ref m39, .ref m40, .int 0, .ref m42, .ref m43, .ref m44, .ref m45])), (m10, .inl (cI, 34, .inl (fun _ => 0))), (m44, .inl (cI, 70, .inl (fun _ => 0))), (m45, .inl (cZ, 2, .inl (fun _ => 0)))] := hD
      refine lv_iinc (v := 34) (lv' := [(2, .int 34), (0, .ref h0), (1, .int 0)]) hx hb dX11_keep_38 hl (k := 0) rfl (by decide) (by decide) rfl (fun ls hl => ?_)
      refine lv_goto (tgt := 15) hx hb dX11_keep_41 (by decide) ?_
      refine lv_iload_n hx hb dX11_keep_15 rfl (lv_at hl 0 rfl) ?_
      refine lv_bipush (v := 34) hx hb dX11_keep_16 (by decide) ?_
      refine lv_icmp_ge (tgt := 44) hx hb dX11_keep_18 (by decide) (fun c144 => ?_) (fun c144 => ?_)
      rotate_left
      · exact absurd c144 (by decide)
      clear c144
      refine lv_aload_n hx hb dX11_keep_44 rfl (lv_at hl 1 rfl) ?_
      refine va_get (D := (dC, dI)) (ci := 11) (v := .ref m44) (C := RX11) (T := TX11) (N := 46) hx hb hts hi_X11 hown hK hP 0 rfl rfl 44 (by decide) (hts (.fieldLink RX11 89 "LeftQuillsModel" "images" "[I") (by decide +kernel)) (fun _ h9 => h9) rfl dX11_keep_45 ?_
      refine lv_bipush (v := 35) hx hb dX11_keep_48 (by decide) ?_
      refine lv_iload_n hx hb dX11_keep_50 rfl (lv_at hl 2 rfl) ?_
      refine lv_imul hx hb dX11_keep_51 ?_
      refine lv_topi (fun z145 ez145 => ?_)
      obtain rfl : z145 = 0 := ez145.trans (by decide)
      refine lv_bipush (v := 34) hx hb dX11_keep_52 (by decide) ?_
      refine lv_iadd hx hb dX11_keep_54 ?_
      refine lv_topi (fun z146 ez146 => ?_)
      obtain rfl : z146 = 34 := ez146.trans (by decide)
      refine lv_aload_n hx hb dX11_keep_55 rfl (lv_at hl 1 rfl) ?_
      refine va_get (D := (dC, dI)) (ci := 11) (v := .int 0) (C := RX11) (T := TX11) (N := 46) hx hb hts hi_X11 hown hK hP 0 rfl rfl 11 (by decide) (hts (.fieldLink RX11 241 "LeftQuillsModel" "seed" "I") (by decide +kernel)) (fun _ h9 => h9) rfl dX11_keep_56 ?_
      refine va_iast hx hb hK hP hD hS 2 0 rfl rfl (vp_in_iff.mpr ⟨by decide, by decide⟩) dX11_keep_59 (fun H locs hP hD hS => ?_)
      rw [x_upd0] at hP hD
      have hP : va_P (dC, dI) vwCl [(h0, .inr (11, [.int 0, .int 0, .int 0, .ref m3, .ref m4, .ref m5, .int 0, .ref m7, .ref m8, .ref m9, .ref m10, .int 0, .ref m12, .int 0, .int (-1), .int 0, .int 0, .int 0, .ref m18, .int 0, .ref m20, .ref m21, .ref m22, .ref m23, .ref m24, .int 0, .ref m26, .ref m27, .ref m28, .int 0, .ref m30, .int 0, .int 0, .ref m33, .int 0, .int 0, .ref m36, .int 0, .ref m38, .ref m39, .ref m40, .int 0, .ref m42, .ref m43, .ref m44, .ref m45])), (m10, .inl (cI, 34, .inl (fun _ => 0))), (m44, .inl (cI, 70, .inl (fun _ => 0))), (m45, .inl (cZ, 2, .inl (fun _ => 0)))] H := hP
      have hD : va_D A [(h0, .inr (11, [.int 0, .int 0, .int 0, .ref m3, .ref m4, .ref m5, .int 0, .ref m7, .ref m8, .ref m9, .ref m10, .int 0, .ref m12, .int 0, .int (-1), .int 0, .int 0, .int 0, .ref m18, .int 0, .ref m20, .ref m21, .ref m22, .ref m23, .ref m24, .int 0, .ref m26, .ref m27, .ref m28, .int 0, .ref m30, .int 0, .int 0, .ref m33, .int 0, .int 0, .ref m36, .int 0, .ref m38, .ref m39, .ref m40, .int 0, .ref m42, .ref m43, .ref m44, .ref m45])), (m10, .inl (cI, 34, .inl (fun _ => 0))), (m44, .inl (cI, 70, .inl (fun _ => 0))), (m45, .inl (cZ, 2, .inl (fun _ => 0)))] := hD
      refine lv_aload_n hx hb dX11_keep_60 rfl (lv_at hl 1 rfl) ?_
      refine va_get (D := (dC, dI)) (ci := 11) (v := .ref m45) (C := RX11) (T := TX11) (N := 46) hx hb hts hi_X11 hown hK hP 0 rfl rfl 45 (by decide) (hts (.fieldLink RX11 92 "LeftQuillsModel" "isKept" "[Z") (by decide +kernel)) (fun _ h9 => h9) rfl dX11_keep_61 ?_
      refine lv_iload_n hx hb dX11_keep_64 rfl (lv_at hl 2 rfl) ?_
      refine lv_iconst (v := 1) hx hb dX11_keep_65 (by decide) ?_
      refine va_zast hx hb hK hP hD hS 3 1 rfl rfl (vp_in_iff.mpr ⟨by decide, by decide⟩) dX11_keep_66 (fun H locs hP hD hS => ?_)
      generalize hgf148 : upd _ _ _ = f148 at hP hD
      have hP : va_P (dC, dI) vwCl [(h0, .inr (11, [.int 0, .int 0, .int 0, .ref m3, .ref m4, .ref m5, .int 0, .ref m7, .ref m8, .ref m9, .ref m10, .int 0, .ref m12, .int 0, .int (-1), .int 0, .int 0, .int 0, .ref m18, .int 0, .ref m20, .ref m21, .ref m22, .ref m23, .ref m24, .int 0, .ref m26, .ref m27, .ref m28, .int 0, .ref m30, .int 0, .int 0, .ref m33, .int 0, .int 0, .ref m36, .int 0, .ref m38, .ref m39, .ref m40, .int 0, .ref m42, .ref m43, .ref m44, .ref m45])), (m10, .inl (cI, 34, .inl (fun _ => 0))), (m44, .inl (cI, 70, .inl (fun _ => 0))), (m45, .inl (cZ, 2, .inl f148))] H := hP
      have hD : va_D A [(h0, .inr (11, [.int 0, .int 0, .int 0, .ref m3, .ref m4, .ref m5, .int 0, .ref m7, .ref m8, .ref m9, .ref m10, .int 0, .ref m12, .int 0, .int (-1), .int 0, .int 0, .int 0, .ref m18, .int 0, .ref m20, .ref m21, .ref m22, .ref m23, .ref m24, .int 0, .ref m26, .ref m27, .ref m28, .int 0, .ref m30, .int 0, .int 0, .ref m33, .int 0, .int 0, .ref m36, .int 0, .ref m38, .ref m39, .ref m40, .int 0, .ref m42, .ref m43, .ref m44, .ref m45])), (m10, .inl (cI, 34, .inl (fun _ => 0))), (m44, .inl (cI, 70, .inl (fun _ => 0))), (m45, .inl (cZ, 2, .inl f148))] := hD
      refine lv_aload_n hx hb dX11_keep_67 rfl (lv_at hl 1 rfl) ?_
      refine lv_iconst (v := 0) hx hb dX11_keep_68 (by decide) ?_
      refine va_put (D := (dC, dI)) (ci := 11) (v := .int 0) (ty := .int) (C := RX11) (T := TX11) (N := 46) hx hb hts hi_X11 tyX11 tyX11_ok nmX11 hown hK hP hD hS 0 rfl rfl 29 (by decide) (hts (.fieldLink RX11 174 "LeftQuillsModel" "undos" "I") (by decide +kernel)) (fun _ h9 => h9) rfl (by decide +kernel) rfl rfl (Nat.le_of_ble_eq_true rfl) dX11_keep_69 (fun H locs hP hD hS => ?_)
      have hP : va_P (dC, dI) vwCl [(h0, .inr (11, [.int 0, .int 0, .int 0, .ref m3, .ref m4, .ref m5, .int 0, .ref m7, .ref m8, .ref m9, .ref m10, .int 0, .ref m12, .int 0, .int (-1), .int 0, .int 0, .int 0, .ref m18, .int 0, .ref m20, .ref m21, .ref m22, .ref m23, .ref m24, .int 0, .ref m26, .ref m27, .ref m28, .int 0, .ref m30, .int 0, .int 0, .ref m33, .int 0, .int 0, .ref m36, .int 0, .ref m38, .ref m39, .ref m40, .int 0, .ref m42, .ref m43, .ref m44, .ref m45])), (m10, .inl (cI, 34, .inl (fun _ => 0))), (m44, .inl (cI, 70, .inl (fun _ => 0))), (m45, .inl (cZ, 2, .inl f148))] H := hP
      have hD : va_D A [(h0, .inr (11, [.int 0, .int 0, .int 0, .ref m3, .ref m4, .ref m5, .int 0, .ref m7, .ref m8, .ref m9, .ref m10, .int 0, .ref m12, .int 0, .int (-1), .int 0, .int 0, .int 0, .ref m18, .int 0, .ref m20, .ref m21, .ref m22, .ref m23, .ref m24, .int 0, .ref m26, .ref m27, .ref m28, .int 0, .ref m30, .int 0, .int 0, .ref m33, .int 0, .int 0, .ref m36, .int 0, .ref m38, .ref m39, .ref m40, .int 0, .ref m42, .ref m43, .ref m44, .ref m45])), (m10, .inl (cI, 34, .inl (fun _ => 0))), (m44, .inl (cI, 70, .inl (fun _ => 0))), (m45, .inl (cZ, 2, .inl f148))] := hD
      refine lv_iconst (v := 1) hx hb dX11_keep_72 (by decide) ?_
      exact W.iret (v := 1) hx hb hr (fun t ht hW => ⟨⟨1, (fun _ => 0), rfl, (if_pos hw5).symm, trivial⟩, hS.F ht⟩) hS.2.2 dX11_keep_73
    ·
      refine lv_if_ne (tgt := 13) hx hb dX11_keep_7 (by decide) (fun c149 => ?_) (fun c149 => ?_)
      rotate_left
      · exact absurd c149 (by decide)
      clear c149
      refine lv_iconst (v := 0) hx hb dX11_keep_13 (by decide) ?_
      refine lv_istore_n (lv' := [(2, .int 0), (0, .ref h0), (1, .int 1)]) hx hb dX11_keep_14 rfl hl (by decide) rfl (fun ls hl => ?_)
      refine lv_iload_n hx hb dX11_keep_15 rfl (lv_at hl 0 rfl) ?_
      refine lv_bipush (v := 34) hx hb dX11_keep_16 (by decide) ?_
      refine lv_icmp_ge (tgt := 44) hx hb dX11_keep_18 (by decide) (fun c150 => ?_) (fun c150 => ?_)
      · exact absurd c150 (by decide)
      clear c150
      refine lv_aload_n hx hb dX11_keep_21 rfl (lv_at hl 1 rfl) ?_
      refine va_get (D := (dC, dI)) (ci := 11) (v := .ref m44) (C := RX11) (T := TX11) (N := 46) hx hb hts hi_X11 hown hK hP 0 rfl rfl 44 (by decide) (hts (.fieldLink RX11 89 "LeftQuillsModel" "images" "[I") (by decide +kernel)) (fun _ h9 => h9) rfl dX11_keep_22 ?_
      refine lv_bipush (v := 35) hx hb dX11_keep_25 (by decide) ?_
      refine lv_iload_n hx hb dX11_keep_27 rfl (lv_at hl 2 rfl) ?_
      refine lv_imul hx hb dX11_keep_28 ?_
      refine lv_topi (fun z151 ez151 => ?_)
      obtain rfl : z151 = 35 := ez151.trans (by decide)
      refine lv_iload_n hx hb dX11_keep_29 rfl (lv_at hl 0 rfl) ?_
      refine lv_iadd hx hb dX11_keep_30 ?_
      refine lv_topi (fun z152 ez152 => ?_)
      obtain rfl : z152 = 35 := ez152.trans (by decide)
      refine lv_aload_n hx hb dX11_keep_31 rfl (lv_at hl 1 rfl) ?_
      refine va_get (D := (dC, dI)) (ci := 11) (v := .ref m10) (C := RX11) (T := TX11) (N := 46) hx hb hts hi_X11 hown hK hP 0 rfl rfl 10 (by decide) (hts (.fieldLink RX11 28 "LeftQuillsModel" "now" "[I") (by decide +kernel)) (fun _ h9 => h9) rfl dX11_keep_32 ?_
      refine lv_iload_n hx hb dX11_keep_35 rfl (lv_at hl 0 rfl) ?_
      refine va_iald hx hb hK hP 1 0 rfl rfl (vp_in_iff.mpr ⟨by decide, by decide⟩) dX11_keep_36 ?_
      refine W.eq (g2 := F0 m 37 ls (.int 0 :: [.int 35, .ref m44])) rfl ?_
      refine va_iast hx hb hK hP hD hS 2 0 rfl rfl (vp_in_iff.mpr ⟨by decide, by decide⟩) dX11_keep_37 (fun H locs hP hD hS => ?_)
      rw [x_upd0] at hP hD
      have hP : va_P (dC, dI) vwCl [(h0, .inr (11, [.int 0, .int 0, .int 0, .ref m3, .ref m4, .ref m5, .int 0, .ref m7, .ref m8, .ref m9, .ref m10, .int 0, .ref m12, .int 0, .int (-1), .int 0, .int 0, .int 0, .ref m18, .int 0, .ref m20, .ref m21, .ref m22, .ref m23, .ref m24, .int 0, .ref m26, .ref m27, .ref m28, .int 0, .ref m30, .int 0, .int 0, .ref m33, .int 0, .int 0, .ref m36, .int 0, .ref m38, .ref m39, .ref m40, .int 0, .ref m42, .ref m43, .ref m44, .ref m45])), (m10, .inl (cI, 34, .inl (fun _ => 0))), (m44, .inl (cI, 70, .inl (fun _ => 0))), (m45, .inl (cZ, 2, .inl (fun _ => 0)))] H := hP
      have hD : va_D A [(h0, .inr (11, [.int 0, .int 0, .int 0, .ref m3, .ref m4, .ref m5, .int 0, .ref m7, .ref m8, .ref m9, .ref m10, .int 0, .ref m12, .int 0, .int (-1), .int 0, .int 0, .int 0, .ref m18, .int 0, .ref m20, .ref m21, .ref m22, .ref m23, .ref m24, .int 0, .ref m26, .ref m27, .ref m28, .int 0, .ref m30, .int 0, .int 0, .ref m33, .int 0, .int 0, .ref m36, .int 0, .ref m38, .ref m39, .ref m40, .int 0, .ref m42, .ref m43, .ref m44, .ref m45])), (m10, .inl (cI, 34, .inl (fun _ => 0))), (m44, .inl (cI, 70, .inl (fun _ => 0))), (m45, .inl (cZ, 2, .inl (fun _ => 0)))] := hD
      refine lv_iinc (v := 1) (lv' := [(2, .int 1), (0, .ref h0), (1, .int 1)]) hx hb dX11_keep_38 hl (k := 0) rfl (by decide) (by decide) rfl (fun ls hl => ?_)
      refine lv_goto (tgt := 15) hx hb dX11_keep_41 (by decide) ?_
      refine lv_iload_n hx hb dX11_keep_15 rfl (lv_at hl 0 rfl) ?_
      refine lv_bipush (v := 34) hx hb dX11_keep_16 (by decide) ?_
      refine lv_icmp_ge (tgt := 44) hx hb dX11_keep_18 (by decide) (fun c154 => ?_) (fun c154 => ?_)
      · exact absurd c154 (by decide)
      clear c154
      refine lv_aload_n hx hb dX11_keep_21 rfl (lv_at hl 1 rfl) ?_
      refine va_get (D := (dC, dI)) (ci := 11) (v := .ref m44) (C := RX11) (T := TX11) (N := 46) hx hb hts hi_X11 hown hK hP 0 rfl rfl 44 (by decide) (hts (.fieldLink RX11 89 "LeftQuillsModel" "images" "[I") (by decide +kernel)) (fun _ h9 => h9) rfl dX11_keep_22 ?_
      refine lv_bipush (v := 35) hx hb dX11_keep_25 (by decide) ?_
      refine lv_iload_n hx hb dX11_keep_27 rfl (lv_at hl 2 rfl) ?_
      refine lv_imul hx hb dX11_keep_28 ?_
      refine lv_topi (fun z155 ez155 => ?_)
      obtain rfl : z155 = 35 := ez155.trans (by decide)
      refine lv_iload_n hx hb dX11_keep_29 rfl (lv_at hl 0 rfl) ?_
      refine lv_iadd hx hb dX11_keep_30 ?_
      refine lv_topi (fun z156 ez156 => ?_)
      obtain rfl : z156 = 36 := ez156.trans (by decide)
      refine lv_aload_n hx hb dX11_keep_31 rfl (lv_at hl 1 rfl) ?_
      refine va_get (D := (dC, dI)) (ci := 11) (v := .ref m10) (C := RX11) (T := TX11) (N := 46) hx hb hts hi_X11 hown hK hP 0 rfl rfl 10 (by decide) (hts (.fieldLink RX11 28 "LeftQuillsModel" "now" "[I") (by decide +kernel)) (fun _ h9 => h9) rfl dX11_keep_32 ?_
      refine lv_iload_n hx hb dX11_keep_35 rfl (lv_at hl 0 rfl) ?_
      refine va_iald hx hb hK hP 1 0 rfl rfl (vp_in_iff.mpr ⟨by decide, by decide⟩) dX11_keep_36 ?_
      refine W.eq (g2 := F0 m 37 ls (.int 0 :: [.int 36, .ref m44])) rfl ?_
      refine va_iast hx hb hK hP hD hS 2 0 rfl rfl (vp_in_iff.mpr ⟨by decide, by decide⟩) dX11_keep_37 (fun H locs hP hD hS => ?_)
      rw [x_upd0] at hP hD
      have hP : va_P (dC, dI) vwCl [(h0, .inr (11, [.int 0, .int 0, .int 0, .ref m3, .ref m4, .ref m5, .int 0, .ref m7, .ref m8, .ref m9, .ref m10, .int 0, .ref m12, .int 0, .int (-1), .int 0, .int 0, .int 0, .ref m18, .int 0, .ref m20, .ref m21, .ref m22, .ref m23, .ref m24, .int 0, .ref m26, .ref m27, .ref m28, .int 0, .ref m30, .int 0, .int 0, .ref m33, .int 0, .int 0, .ref m36, .int 0, .ref m38, .ref m39, .ref m40, .int 0, .ref m42, .ref m43, .ref m44, .ref m45])), (m10, .inl (cI, 34, .inl (fun _ => 0))), (m44, .inl (cI, 70, .inl (fun _ => 0))), (m45, .inl (cZ, 2, .inl (fun _ => 0)))] H := hP
      have hD : va_D A [(h0, .inr (11, [.int 0, .int 0, .int 0, .ref m3, .ref m4, .ref m5, .int 0, .ref m7, .ref m8, .ref m9, .ref m10, .int 0, .ref m12, .int 0, .int (-1), .int 0, .int 0, .int 0, .ref m18, .int 0, .ref m20, .ref m21, .ref m22, .ref m23, .ref m24, .int 0, .ref m26, .ref m27, .ref m28, .int 0, .ref m30, .int 0, .int 0, .ref m33, .int 0, .int 0, .ref m36, .int 0, .ref m38, .ref m39, .ref m40, .int 0, .ref m42, .ref m43, .ref m44, .ref m45])), (m10, .inl (cI, 34, .inl (fun _ => 0))), (m44, .inl (cI, 70, .inl (fun _ => 0))), (m45, .inl (cZ, 2, .inl (fun _ => 0)))] := hD
      refine lv_iinc (v := 2) (lv' := [(2, .int 2), (0, .ref h0), (1, .int 1)]) hx hb dX11_keep_38 hl (k := 0) rfl (by decide) (by decide) rfl (fun ls hl => ?_)
      refine lv_goto (tgt := 15) hx hb dX11_keep_41 (by decide) ?_
      refine lv_iload_n hx hb dX11_keep_15 rfl (lv_at hl 0 rfl) ?_
      refine lv_bipush (v := 34) hx hb dX11_keep_16 (by decide) ?_
      refine lv_icmp_ge (tgt := 44) hx hb dX11_keep_18 (by decide) (fun c158 => ?_) (fun c158 => ?_)
      · exact absurd c158 (by decide)
      clear c158
      refine lv_aload_n hx hb dX11_keep_21 rfl (lv_at hl 1 rfl) ?_
      refine va_get (D := (dC, dI)) (ci := 11) (v := .ref m44) (C := RX11) (T := TX11) (N := 46) hx hb hts hi_X11 hown hK hP 0 rfl rfl 44 (by decide) (hts (.fieldLink RX11 89 "LeftQuillsModel" "images" "[I") (by decide +kernel)) (fun _ h9 => h9) rfl dX11_keep_22 ?_
      refine lv_bipush (v := 35) hx hb dX11_keep_25 (by decide) ?_
      refine lv_iload_n hx hb dX11_keep_27 rfl (lv_at hl 2 rfl) ?_
      refine lv_imul hx hb dX11_keep_28 ?_
      refine lv_topi (fun z159 ez159 => ?_)
      obtain rfl : z159 = 35 := ez159.trans (by decide)
      refine lv_iload_n hx hb dX11_keep_29 rfl (lv_at hl 0 rfl) ?_
      refine lv_iadd hx hb dX11_keep_30 ?_
      refine lv_topi (fun z160 ez160 => ?_)
      obtain rfl : z160 = 37 := ez160.trans (by decide)
      refine lv_aload_n hx hb dX11_keep_31 rfl (lv_at hl 1 rfl) ?_
      refine va_get (D := (dC, dI)) (ci := 11) (v := .ref m10) (C := RX11) (T := TX11) (N := 46) hx hb hts hi_X11 hown hK hP 0 rfl rfl 10 (by decide) (hts (.fieldLink RX11 28 "LeftQuillsModel" "now" "[I") (by decide +kernel)) (fun _ h9 => h9) rfl dX11_keep_32 ?_
      refine lv_iload_n hx hb dX11_keep_35 rfl (lv_at hl 0 rfl) ?_
      refine va_iald hx hb hK hP 1 0 rfl rfl (vp_in_iff.mpr ⟨by decide, by decide⟩) dX11_keep_36 ?_
      refine W.eq (g2 := F0 m 37 ls (.int 0 :: [.int 37, .ref m44])) rfl ?_
      refine va_iast hx hb hK hP hD hS 2 0 rfl rfl (vp_in_iff.mpr ⟨by decide, by decide⟩) dX11_keep_37 (fun H locs hP hD hS => ?_)
      rw [x_upd0] at hP hD
      have hP : va_P (dC, dI) vwCl [(h0, .inr (11, [.int 0, .int 0, .int 0, .ref m3, .ref m4, .ref m5, .int 0, .ref m7, .ref m8, .ref m9, .ref m10, .int 0, .ref m12, .int 0, .int (-1), .int 0, .int 0, .int 0, .ref m18, .int 0, .ref m20, .ref m21, .ref m22, .ref m23, .ref m24, .int 0, .ref m26, .ref m27, .ref m28, .int 0, .ref m30, .int 0, .int 0, .ref m33, .int 0, .int 0, .ref m36, .int 0, .ref m38, .ref m39, .ref m40, .int 0, .ref m42, .ref m43, .ref m44, .ref m45])), (m10, .inl (cI, 34, .inl (fun _ => 0))), (m44, .inl (cI, 70, .inl (fun _ => 0))), (m45, .inl (cZ, 2, .inl (fun _ => 0)))] H := hP
      have hD : va_D A [(h0, .inr (11, [.int 0, .int 0, .int 0, .ref m3, .ref m4, .ref m5, .int 0, .ref m7, .ref m8, .ref m9, .ref m10, .int 0, .ref m12, .int 0, .int (-1), .int 0, .int 0, .int 0, .ref m18, .int 0, .ref m20, .ref m21, .ref m22, .ref m23, .ref m24, .int 0, .ref m26, .ref m27, .ref m28, .int 0, .ref m30, .int 0, .int 0, .ref m33, .int 0, .int 0, .ref m36, .int 0, .ref m38, .ref m39, .ref m40, .int 0, .ref m42, .ref m43, .ref m44, .ref m45])), (m10, .inl (cI, 34, .inl (fun _ => 0))), (m44, .inl (cI, 70, .inl (fun _ => 0))), (m45, .inl (cZ, 2, .inl (fun _ => 0)))] := hD
      refine lv_iinc (v := 3) (lv' := [(2, .int 3), (0, .ref h0), (1, .int 1)]) hx hb dX11_keep_38 hl (k := 0) rfl (by decide) (by decide) rfl (fun ls hl => ?_)
      refine lv_goto (tgt := 15) hx hb dX11_keep_41 (by decide) ?_
      refine lv_iload_n hx hb dX11_keep_15 rfl (lv_at hl 0 rfl) ?_
      refine lv_bipush (v := 34) hx hb dX11_keep_16 (by decide) ?_
      refine lv_icmp_ge (tgt := 44) hx hb dX11_keep_18 (by decide) (fun c162 => ?_) (fun c162 => ?_)
      · exact absurd c162 (by decide)
      clear c162
      refine lv_aload_n hx hb dX11_keep_21 rfl (lv_at hl 1 rfl) ?_
      refine va_get (D := (dC, dI)) (ci := 11) (v := .ref m44) (C := RX11) (T := TX11) (N := 46) hx hb hts hi_X11 hown hK hP 0 rfl rfl 44 (by decide) (hts (.fieldLink RX11 89 "LeftQuillsModel" "images" "[I") (by decide +kernel)) (fun _ h9 => h9) rfl dX11_keep_22 ?_
      refine lv_bipush (v := 35) hx hb dX11_keep_25 (by decide) ?_
      refine lv_iload_n hx hb dX11_keep_27 rfl (lv_at hl 2 rfl) ?_
      refine lv_imul hx hb dX11_keep_28 ?_
      refine lv_topi (fun z163 ez163 => ?_)
      obtain rfl : z163 = 35 := ez163.trans (by decide)
      refine lv_iload_n hx hb dX11_keep_29 rfl (lv_at hl 0 rfl) ?_
      refine lv_iadd hx hb dX11_keep_30 ?_
      refine lv_topi (fun z164 ez164 => ?_)
      obtain rfl : z164 = 38 := ez164.trans (by decide)
      refine lv_aload_n hx hb dX11_keep_31 rfl (lv_at hl 1 rfl) ?_
      refine va_get (D := (dC, dI)) (ci := 11) (v := .ref m10) (C := RX11) (T := TX11) (N := 46) hx hb hts hi_X11 hown hK hP 0 rfl rfl 10 (by decide) (hts (.fieldLink RX11 28 "LeftQuillsModel" "now" "[I") (by decide +kernel)) (fun _ h9 => h9) rfl dX11_keep_32 ?_
      refine lv_iload_n hx hb dX11_keep_35 rfl (lv_at hl 0 rfl) ?_
      refine va_iald hx hb hK hP 1 0 rfl rfl (vp_in_iff.mpr ⟨by decide, by decide⟩) dX11_keep_36 ?_
      refine W.eq (g2 := F0 m 37 ls (.int 0 :: [.int 38, .ref m44])) rfl ?_
      refine va_iast hx hb hK hP hD hS 2 0 rfl rfl (vp_in_iff.mpr ⟨by decide, by decide⟩) dX11_keep_37 (fun H locs hP hD hS => ?_)
      rw [x_upd0] at hP hD
      have hP : va_P (dC, dI) vwCl [(h0, .inr (11, [.int 0, .int 0, .int 0, .ref m3, .ref m4, .ref m5, .int 0, .ref m7, .ref m8, .ref m9, .ref m10, .int 0, .ref m12, .int 0, .int (-1), .int 0, .int 0, .int 0, .ref m18, .int 0, .ref m20, .ref m21, .ref m22, .ref m23, .ref m24, .int 0, .ref m26, .ref m27, .ref m28, .int 0, .ref m30, .int 0, .int 0, .ref m33, .int 0, .int 0, .ref m36, .int 0, .ref m38, .ref m39, .ref m40, .int 0, .ref m42, .ref m43, .ref m44, .ref m45])), (m10, .inl (cI, 34, .inl (fun _ => 0))), (m44, .inl (cI, 70, .inl (fun _ => 0))), (m45, .inl (cZ, 2, .inl (fun _ => 0)))] H := hP
      have hD : va_D A [(h0, .inr (11, [.int 0, .int 0, .int 0, .ref m3, .ref m4, .ref m5, .int 0, .ref m7, .ref m8, .ref m9, .ref m10, .int 0, .ref m12, .int 0, .int (-1), .int 0, .int 0, .int 0, .ref m18, .int 0, .ref m20, .ref m21, .ref m22, .ref m23, .ref m24, .int 0, .ref m26, .ref m27, .ref m28, .int 0, .ref m30, .int 0, .int 0, .ref m33, .int 0, .int 0, .ref m36, .int 0, .ref m38, .ref m39, .ref m40, .int 0, .ref m42, .ref m43, .ref m44, .ref m45])), (m10, .inl (cI, 34, .inl (fun _ => 0))), (m44, .inl (cI, 70, .inl (fun _ => 0))), (m45, .inl (cZ, 2, .inl (fun _ => 0)))] := hD
      refine lv_iinc (v := 4) (lv' := [(2, .int 4), (0, .ref h0), (1, .int 1)]) hx hb dX11_keep_38 hl (k := 0) rfl (by decide) (by decide) rfl (fun ls hl => ?_)
      refine lv_goto (tgt := 15) hx hb dX11_keep_41 (by decide) ?_
      refine lv_iload_n hx hb dX11_keep_15 rfl (lv_at hl 0 rfl) ?_
      refine lv_bipush (v := 34) hx hb dX11_keep_16 (by decide) ?_
      refine lv_icmp_ge (tgt := 44) hx hb dX11_keep_18 (by decide) (fun c166 => ?_) (fun c166 => ?_)
      · exact absurd c166 (by decide)
      clear c166
      refine lv_aload_n hx hb dX11_keep_21 rfl (lv_at hl 1 rfl) ?_
      refine va_get (D := (dC, dI)) (ci := 11) (v := .ref m44) (C := RX11) (T := TX11) (N := 46) hx hb hts hi_X11 hown hK hP 0 rfl rfl 44 (by decide) (hts (.fieldLink RX11 89 "LeftQuillsModel" "images" "[I") (by decide +kernel)) (fun _ h9 => h9) rfl dX11_keep_22 ?_
      refine lv_bipush (v := 35) hx hb dX11_keep_25 (by decide) ?_
      refine lv_iload_n hx hb dX11_keep_27 rfl (lv_at hl 2 rfl) ?_
      refine lv_imul hx hb dX11_keep_28 ?_
      refine lv_topi (fun z167 ez167 => ?_)
      obtain rfl : z167 = 35 := ez167.trans (by decide)
      refine lv_iload_n hx hb dX11_keep_29 rfl (lv_at hl 0 rfl) ?_
      refine lv_iadd hx hb dX11_keep_30 ?_
      refine lv_topi (fun z168 ez168 => ?_)
      obtain rfl : z168 = 39 := ez168.trans (by decide)
      refine lv_aload_n hx hb dX11_keep_31 rfl (lv_at hl 1 rfl) ?_
      refine va_get (D := (dC, dI)) (ci := 11) (v := .ref m10) (C := RX11) (T := TX11) (N := 46) hx hb hts hi_X11 hown hK hP 0 rfl rfl 10 (by decide) (hts (.fieldLink RX11 28 "LeftQuillsModel" "now" "[I") (by decide +kernel)) (fun _ h9 => h9) rfl dX11_keep_32 ?_
      refine lv_iload_n hx hb dX11_keep_35 rfl (lv_at hl 0 rfl) ?_
      refine va_iald hx hb hK hP 1 0 rfl rfl (vp_in_iff.mpr ⟨by decide, by decide⟩) dX11_keep_36 ?_
      refine W.eq (g2 := F0 m 37 ls (.int 0 :: [.int 39, .ref m44])) rfl ?_
      refine va_iast hx hb hK hP hD hS 2 0 rfl rfl (vp_in_iff.mpr ⟨by decide, by decide⟩) dX11_keep_37 (fun H locs hP hD hS => ?_)
      rw [x_upd0] at hP hD
      have hP : va_P (dC, dI) vwCl [(h0, .inr (11, [.int 0, .int 0, .int 0, .ref m3, .ref m4, .ref m5, .int 0, .ref m7, .ref m8, .ref m9, .ref m10, .int 0, .ref m12, .int 0, .int (-1), .int 0, .int 0, .int 0, .ref m18, .int 0, .ref m20, .ref m21, .ref m22, .ref m23, .ref m24, .int 0, .ref m26, .ref m27, .ref m28, .int 0, .ref m30, .int 0, .int 0, .ref m33, .int 0, .int 0, .ref m36, .int 0, .ref m38, .ref m39, .ref m40, .int 0, .ref m42, .ref m43, .ref m44, .ref m45])), (m10, .inl (cI, 34, .inl (fun _ => 0))), (m44, .inl (cI, 70, .inl (fun _ => 0))), (m45, .inl (cZ, 2, .inl (fun _ => 0)))] H := hP
      have hD : va_D A [(h0, .inr (11, [.int 0, .int 0, .int 0, .ref m3, .ref m4, .ref m5, .int 0, .ref m7, .ref m8, .ref m9, .ref m10, .int 0, .ref m12, .int 0, .int (-1), .int 0, .int 0, .int 0, .ref m18, .int 0, .ref m20, .ref m21, .ref m22, .ref m23, .ref m24, .int 0, .ref m26, .ref m27, .ref m28, .int 0, .ref m30, .int 0, .int 0, .ref m33, .int 0, .int 0, .ref m36, .int 0, .ref m38, .ref m39, .ref m40, .int 0, .ref m42, .ref m43, .ref m44, .ref m45])), (m10, .inl (cI, 34, .inl (fun _ => 0))), (m44, .inl (cI, 70, .inl (fun _ => 0))), (m45, .inl (cZ, 2, .inl (fun _ => 0)))] := hD
      refine lv_iinc (v := 5) (lv' := [(2, .int 5), (0, .ref h0), (1, .int 1)]) hx hb dX11_keep_38 hl (k := 0) rfl (by decide) (by decide) rfl (fun ls hl => ?_)
      refine lv_goto (tgt := 15) hx hb dX11_keep_41 (by decide) ?_
      refine lv_iload_n hx hb dX11_keep_15 rfl (lv_at hl 0 rfl) ?_
      refine lv_bipush (v := 34) hx hb dX11_keep_16 (by decide) ?_
      refine lv_icmp_ge (tgt := 44) hx hb dX11_keep_18 (by decide) (fun c170 => ?_) (fun c170 => ?_)
      · exact absurd c170 (by decide)
      clear c170
      refine lv_aload_n hx hb dX11_keep_21 rfl (lv_at hl 1 rfl) ?_
      refine va_get (D := (dC, dI)) (ci := 11) (v := .ref m44) (C := RX11) (T := TX11) (N := 46) hx hb hts hi_X11 hown hK hP 0 rfl rfl 44 (by decide) (hts (.fieldLink RX11 89 "LeftQuillsModel" "images" "[I") (by decide +kernel)) (fun _ h9 => h9) rfl dX11_keep_22 ?_
      refine lv_bipush (v := 35) hx hb dX11_keep_25 (by decide) ?_
      refine lv_iload_n hx hb dX11_keep_27 rfl (lv_at hl 2 rfl) ?_
      refine lv_imul hx hb dX11_keep_28 ?_
      refine lv_topi (fun z171 ez171 => ?_)
      obtain rfl : z171 = 35 := ez171.trans (by decide)
      refine lv_iload_n hx hb dX11_keep_29 rfl (lv_at hl 0 rfl) ?_
      refine lv_iadd hx hb dX11_keep_30 ?_
      refine lv_topi (fun z172 ez172 => ?_)
      obtain rfl : z172 = 40 := ez172.trans (by decide)
      refine lv_aload_n hx hb dX11_keep_31 rfl (lv_at hl 1 rfl) ?_
      refine va_get (D := (dC, dI)) (ci := 11) (v := .ref m10) (C := RX11) (T := TX11) (N := 46) hx hb hts hi_X11 hown hK hP 0 rfl rfl 10 (by decide) (hts (.fieldLink RX11 28 "LeftQuillsModel" "now" "[I") (by decide +kernel)) (fun _ h9 => h9) rfl dX11_keep_32 ?_
      refine lv_iload_n hx hb dX11_keep_35 rfl (lv_at hl 0 rfl) ?_
      refine va_iald hx hb hK hP 1 0 rfl rfl (vp_in_iff.mpr ⟨by decide, by decide⟩) dX11_keep_36 ?_
      refine W.eq (g2 := F0 m 37 ls (.int 0 :: [.int 40, .ref m44])) rfl ?_
      refine va_iast hx hb hK hP hD hS 2 0 rfl rfl (vp_in_iff.mpr ⟨by decide, by decide⟩) dX11_keep_37 (fun H locs hP hD hS => ?_)
      rw [x_upd0] at hP hD
      have hP : va_P (dC, dI) vwCl [(h0, .inr (11, [.int 0, .int 0, .int 0, .ref m3, .ref m4, .ref m5, .int 0, .ref m7, .ref m8, .ref m9, .ref m10, .int 0, .ref m12, .int 0, .int (-1), .int 0, .int 0, .int 0, .ref m18, .int 0, .ref m20, .ref m21, .ref m22, .ref m23, .ref m24, .int 0, .ref m26, .ref m27, .ref m28, .int 0, .ref m30, .int 0, .int 0, .ref m33, .int 0, .int 0, .ref m36, .int 0, .ref m38, .ref m39, .ref m40, .int 0, .ref m42, .ref m43, .ref m44, .ref m45])), (m10, .inl (cI, 34, .inl (fun _ => 0))), (m44, .inl (cI, 70, .inl (fun _ => 0))), (m45, .inl (cZ, 2, .inl (fun _ => 0)))] H := hP
      have hD : va_D A [(h0, .inr (11, [.int 0, .int 0, .int 0, .ref m3, .ref m4, .ref m5, .int 0, .ref m7, .ref m8, .ref m9, .ref m10, .int 0, .ref m12, .int 0, .int (-1), .int 0, .int 0, .int 0, .ref m18, .int 0, .ref m20, .ref m21, .ref m22, .ref m23, .ref m24, .int 0, .ref m26, .ref m27, .ref m28, .int 0, .ref m30, .int 0, .int 0, .ref m33, .int 0, .int 0, .ref m36, .int 0, .ref m38, .ref m39, .ref m40, .int 0, .ref m42, .ref m43, .ref m44, .ref m45])), (m10, .inl (cI, 34, .inl (fun _ => 0))), (m44, .inl (cI, 70, .inl (fun _ => 0))), (m45, .inl (cZ, 2, .inl (fun _ => 0)))] := hD
      refine lv_iinc (v := 6) (lv' := [(2, .int 6), (0, .ref h0), (1, .int 1)]) hx hb dX11_keep_38 hl (k := 0) rfl (by decide) (by decide) rfl (fun ls hl => ?_)
      refine lv_goto (tgt := 15) hx hb dX11_keep_41 (by decide) ?_
      refine lv_iload_n hx hb dX11_keep_15 rfl (lv_at hl 0 rfl) ?_
      refine lv_bipush (v := 34) hx hb dX11_keep_16 (by decide) ?_
      refine lv_icmp_ge (tgt := 44) hx hb dX11_keep_18 (by decide) (fun c174 => ?_) (fun c174 => ?_)
      · exact absurd c174 (by decide)
      clear c174
      refine lv_aload_n hx hb dX11_keep_21 rfl (lv_at hl 1 rfl) ?_
      refine va_get (D := (dC, dI)) (ci := 11) (v := .ref m44) (C := RX11) (T := TX11) (N := 46) hx hb hts hi_X11 hown hK hP 0 rfl rfl 44 (by decide) (hts (.fieldLink RX11 89 "LeftQuillsModel" "images" "[I") (by decide +kernel)) (fun _ h9 => h9) rfl dX11_keep_22 ?_
      refine lv_bipush (v := 35) hx hb dX11_keep_25 (by decide) ?_
      refine lv_iload_n hx hb dX11_keep_27 rfl (lv_at hl 2 rfl) ?_
      refine lv_imul hx hb dX11_keep_28 ?_
      refine lv_topi (fun z175 ez175 => ?_)
      obtain rfl : z175 = 35 := ez175.trans (by decide)
      refine lv_iload_n hx hb dX11_keep_29 rfl (lv_at hl 0 rfl) ?_
      refine lv_iadd hx hb dX11_keep_30 ?_
      refine lv_topi (fun z176 ez176 => ?_)
      obtain rfl : z176 = 41 := ez176.trans (by decide)
      refine lv_aload_n hx hb dX11_keep_31 rfl (lv_at hl 1 rfl) ?_
      refine va_get (D := (dC, dI)) (ci := 11) (v := .ref m10) (C := RX11) (T := TX11) (N := 46) hx hb hts hi_X11 hown hK hP 0 rfl rfl 10 (by decide) (hts (.fieldLink RX11 28 "LeftQuillsModel" "now" "[I") (by decide +kernel)) (fun _ h9 => h9) rfl dX11_keep_32 ?_
      refine lv_iload_n hx hb dX11_keep_35 rfl (lv_at hl 0 rfl) ?_
      refine va_iald hx hb hK hP 1 0 rfl rfl (vp_in_iff.mpr ⟨by decide, by decide⟩) dX11_keep_36 ?_
      refine W.eq (g2 := F0 m 37 ls (.int 0 :: [.int 41, .ref m44])) rfl ?_
      refine va_iast hx hb hK hP hD hS 2 0 rfl rfl (vp_in_iff.mpr ⟨by decide, by decide⟩) dX11_keep_37 (fun H locs hP hD hS => ?_)
      rw [x_upd0] at hP hD
      have hP : va_P (dC, dI) vwCl [(h0, .inr (11, [.int 0, .int 0, .int 0, .ref m3, .ref m4, .ref m5, .int 0, .ref m7, .ref m8, .ref m9, .ref m10, .int 0, .ref m12, .int 0, .int (-1), .int 0, .int 0, .int 0, .ref m18, .int 0, .ref m20, .ref m21, .ref m22, .ref m23, .ref m24, .int 0, .ref m26, .ref m27, .ref m28, .int 0, .ref m30, .int 0, .int 0, .ref m33, .int 0, .int 0, .ref m36, .int 0, .ref m38, .ref m39, .ref m40, .int 0, .ref m42, .ref m43, .ref m44, .ref m45])), (m10, .inl (cI, 34, .inl (fun _ => 0))), (m44, .inl (cI, 70, .inl (fun _ => 0))), (m45, .inl (cZ, 2, .inl (fun _ => 0)))] H := hP
      have hD : va_D A [(h0, .inr (11, [.int 0, .int 0, .int 0, .ref m3, .ref m4, .ref m5, .int 0, .ref m7, .ref m8, .ref m9, .ref m10, .int 0, .ref m12, .int 0, .int (-1), .int 0, .int 0, .int 0, .ref m18, .int 0, .ref m20, .ref m21, .ref m22, .ref m23, .ref m24, .int 0, .ref m26, .ref m27, .ref m28, .int 0, .ref m30, .int 0, .int 0, .ref m33, .int 0, .int 0, .ref m36, .int 0, .ref m38, .ref m39, .ref m40, .int 0, .ref m42, .ref m43, .ref m44, .ref m45])), (m10, .inl (cI, 34, .inl (fun _ => 0))), (m44, .inl (cI, 70, .inl (fun _ => 0))), (m45, .inl (cZ, 2, .inl (fun _ => 0)))] := hD
      refine lv_iinc (v := 7) (lv' := [(2, .int 7), (0, .ref h0), (1, .int 1)]) hx hb dX11_keep_38 hl (k := 0) rfl (by decide) (by decide) rfl (fun ls hl => ?_)
      refine lv_goto (tgt := 15) hx hb dX11_keep_41 (by decide) ?_
      refine lv_iload_n hx hb dX11_keep_15 rfl (lv_at hl 0 rfl) ?_
      refine lv_bipush (v := 34) hx hb dX11_keep_16 (by decide) ?_
      refine lv_icmp_ge (tgt := 44) hx hb dX11_keep_18 (by decide) (fun c178 => ?_) (fun c178 => ?_)
      · exact absurd c178 (by decide)
      clear c178
      refine lv_aload_n hx hb dX11_keep_21 rfl (lv_at hl 1 rfl) ?_
      refine va_get (D := (dC, dI)) (ci := 11) (v := .ref m44) (C := RX11) (T := TX11) (N := 46) hx hb hts hi_X11 hown hK hP 0 rfl rfl 44 (by decide) (hts (.fieldLink RX11 89 "LeftQuillsModel" "images" "[I") (by decide +kernel)) (fun _ h9 => h9) rfl dX11_keep_22 ?_
      refine lv_bipush (v := 35) hx hb dX11_keep_25 (by decide) ?_
      refine lv_iload_n hx hb dX11_keep_27 rfl (lv_at hl 2 rfl) ?_
      refine lv_imul hx hb dX11_keep_28 ?_
      refine lv_topi (fun z179 ez179 => ?_)
      obtain rfl : z179 = 35 := ez179.trans (by decide)
      refine lv_iload_n hx hb dX11_keep_29 rfl (lv_at hl 0 rfl) ?_
      refine lv_iadd hx hb dX11_keep_30 ?_
      refine lv_topi (fun z180 ez180 => ?_)
      obtain rfl : z180 = 42 := ez180.trans (by decide)
      refine lv_aload_n hx hb dX11_keep_31 rfl (lv_at hl 1 rfl) ?_
      refine va_get (D := (dC, dI)) (ci := 11) (v := .ref m10) (C := RX11) (T := TX11) (N := 46) hx hb hts hi_X11 hown hK hP 0 rfl rfl 10 (by decide) (hts (.fieldLink RX11 28 "LeftQuillsModel" "now" "[I") (by decide +kernel)) (fun _ h9 => h9) rfl dX11_keep_32 ?_
      refine lv_iload_n hx hb dX11_keep_35 rfl (lv_at hl 0 rfl) ?_
      refine va_iald hx hb hK hP 1 0 rfl rfl (vp_in_iff.mpr ⟨by decide, by decide⟩) dX11_keep_36 ?_
      refine W.eq (g2 := F0 m 37 ls (.int 0 :: [.int 42, .ref m44])) rfl ?_
      refine va_iast hx hb hK hP hD hS 2 0 rfl rfl (vp_in_iff.mpr ⟨by decide, by decide⟩) dX11_keep_37 (fun H locs hP hD hS => ?_)
      rw [x_upd0] at hP hD
      have hP : va_P (dC, dI) vwCl [(h0, .inr (11, [.int 0, .int 0, .int 0, .ref m3, .ref m4, .ref m5, .int 0, .ref m7, .ref m8, .ref m9, .ref m10, .int 0, .ref m12, .int 0, .int (-1), .int 0, .int 0, .int 0, .ref m18, .int 0, .ref m20, .ref m21, .ref m22, .ref m23, .ref m24, .int 0, .ref m26, .ref m27, .ref m28, .int 0, .ref m30, .int 0, .int 0, .ref m33, .int 0, .int 0, .ref m36, .int 0, .ref m38, .ref m39, .ref m40, .int 0, .ref m42, .ref m43, .ref m44, .ref m45])), (m10, .inl (cI, 34, .inl (fun _ => 0))), (m44, .inl (cI, 70, .inl (fun _ => 0))), (m45, .inl (cZ, 2, .inl (fun _ => 0)))] H := hP
      have hD : va_D A [(h0, .inr (11, [.int 0, .int 0, .int 0, .ref m3, .ref m4, .ref m5, .int 0, .ref m7, .ref m8, .ref m9, .ref m10, .int 0, .ref m12, .int 0, .int (-1), .int 0, .int 0, .int 0, .ref m18, .int 0, .ref m20, .ref m21, .ref m22, .ref m23, .ref m24, .int 0, .ref m26, .ref m27, .ref m28, .int 0, .ref m30, .int 0, .int 0, .ref m33, .int 0, .int 0, .ref m36, .int 0, .ref m38, .ref m39, .ref m40, .int 0, .ref m42, .ref m43, .ref m44, .ref m45])), (m10, .inl (cI, 34, .inl (fun _ => 0))), (m44, .inl (cI, 70, .inl (fun _ => 0))), (m45, .inl (cZ, 2, .inl (fun _ => 0)))] := hD
      refine lv_iinc (v := 8) (lv' := [(2, .int 8), (0, .ref h0), (1, .int 1)]) hx hb dX11_keep_38 hl (k := 0) rfl (by decide) (by decide) rfl (fun ls hl => ?_)
      refine lv_goto (tgt := 15) hx hb dX11_keep_41 (by decide) ?_
      refine lv_iload_n hx hb dX11_keep_15 rfl (lv_at hl 0 rfl) ?_
      refine lv_bipush (v := 34) hx hb dX11_keep_16 (by decide) ?_
      refine lv_icmp_ge (tgt := 44) hx hb dX11_keep_18 (by decide) (fun c182 => ?_) (fun c182 => ?_)
      · exact absurd c182 (by decide)
      clear c182
      refine lv_aload_n hx hb dX11_keep_21 rfl (lv_at hl 1 rfl) ?_
      refine va_get (D := (dC, dI)) (ci := 11) (v := .ref m44) (C := RX11) (T := TX11) (N := 46) hx hb hts hi_X11 hown hK hP 0 rfl rfl 44 (by decide) (hts (.fieldLink RX11 89 "LeftQuillsModel" "images" "[I") (by decide +kernel)) (fun _ h9 => h9) rfl dX11_keep_22 ?_
      refine lv_bipush (v := 35) hx hb dX11_keep_25 (by decide) ?_
      refine lv_iload_n hx hb dX11_keep_27 rfl (lv_at hl 2 rfl) ?_
      refine lv_imul hx hb dX11_keep_28 ?_
      refine lv_topi (fun z183 ez183 => ?_)
      obtain rfl : z183 = 35 := ez183.trans (by decide)
      refine lv_iload_n hx hb dX11_keep_29 rfl (lv_at hl 0 rfl) ?_
      refine lv_iadd hx hb dX11_keep_30 ?_
      refine lv_topi (fun z184 ez184 => ?_)
      obtain rfl : z184 = 43 := ez184.trans (by decide)
      refine lv_aload_n hx hb dX11_keep_31 rfl (lv_at hl 1 rfl) ?_
      refine va_get (D := (dC, dI)) (ci := 11) (v := .ref m10) (C := RX11) (T := TX11) (N := 46) hx hb hts hi_X11 hown hK hP 0 rfl rfl 10 (by decide) (hts (.fieldLink RX11 28 "LeftQuillsModel" "now" "[I") (by decide +kernel)) (fun _ h9 => h9) rfl dX11_keep_32 ?_
      refine lv_iload_n hx hb dX11_keep_35 rfl (lv_at hl 0 rfl) ?_
      refine va_iald hx hb hK hP 1 0 rfl rfl (vp_in_iff.mpr ⟨by decide, by decide⟩) dX11_keep_36 ?_
      refine W.eq (g2 := F0 m 37 ls (.int 0 :: [.int 43, .ref m44])) rfl ?_
      refine va_iast hx hb hK hP hD hS 2 0 rfl rfl (vp_in_iff.mpr ⟨by decide, by decide⟩) dX11_keep_37 (fun H locs hP hD hS => ?_)
      rw [x_upd0] at hP hD
      have hP : va_P (dC, dI) vwCl [(h0, .inr (11, [.int 0, .int 0, .int 0, .ref m3, .ref m4, .ref m5, .int 0, .ref m7, .ref m8, .ref m9, .ref m10, .int 0, .ref m12, .int 0, .int (-1), .int 0, .int 0, .int 0, .ref m18, .int 0, .ref m20, .ref m21, .ref m22, .ref m23, .ref m24, .int 0, .ref m26, .ref m27, .ref m28, .int 0, .ref m30, .int 0, .int 0, .ref m33, .int 0, .int 0, .ref m36, .int 0, .ref m38, .ref m39, .ref m40, .int 0, .ref m42, .ref m43, .ref m44, .ref m45])), (m10, .inl (cI, 34, .inl (fun _ => 0))), (m44, .inl (cI, 70, .inl (fun _ => 0))), (m45, .inl (cZ, 2, .inl (fun _ => 0)))] H := hP
      have hD : va_D A [(h0, .inr (11, [.int 0, .int 0, .int 0, .ref m3, .ref m4, .ref m5, .int 0, .ref m7, .ref m8, .ref m9, .ref m10, .int 0, .ref m12, .int 0, .int (-1), .int 0, .int 0, .int 0, .ref m18, .int 0, .ref m20, .ref m21, .ref m22, .ref m23, .ref m24, .int 0, .ref m26, .ref m27, .ref m28, .int 0, .ref m30, .int 0, .int 0, .ref m33, .int 0, .int 0, .ref m36, .int 0, .ref m38, .ref m39, .ref m40, .int 0, .ref m42, .ref m43, .ref m44, .ref m45])), (m10, .inl (cI, 34, .inl (fun _ => 0))), (m44, .inl (cI, 70, .inl (fun _ => 0))), (m45, .inl (cZ, 2, .inl (fun _ => 0)))] := hD
      refine lv_iinc (v := 9) (lv' := [(2, .int 9), (0, .ref h0), (1, .int 1)]) hx hb dX11_keep_38 hl (k := 0) rfl (by decide) (by decide) rfl (fun ls hl => ?_)
      refine lv_goto (tgt := 15) hx hb dX11_keep_41 (by decide) ?_
      refine lv_iload_n hx hb dX11_keep_15 rfl (lv_at hl 0 rfl) ?_
      refine lv_bipush (v := 34) hx hb dX11_keep_16 (by decide) ?_
      refine lv_icmp_ge (tgt := 44) hx hb dX11_keep_18 (by decide) (fun c186 => ?_) (fun c186 => ?_)
      · exact absurd c186 (by decide)
      clear c186
      refine lv_aload_n hx hb dX11_keep_21 rfl (lv_at hl 1 rfl) ?_
      refine va_get (D := (dC, dI)) (ci := 11) (v := .ref m44) (C := RX11) (T := TX11) (N := 46) hx hb hts hi_X11 hown hK hP 0 rfl rfl 44 (by decide) (hts (.fieldLink RX11 89 "LeftQuillsModel" "images" "[I") (by decide +kernel)) (fun _ h9 => h9) rfl dX11_keep_22 ?_
      refine lv_bipush (v := 35) hx hb dX11_keep_25 (by decide) ?_
      refine lv_iload_n hx hb dX11_keep_27 rfl (lv_at hl 2 rfl) ?_
      refine lv_imul hx hb dX11_keep_28 ?_
      refine lv_topi (fun z187 ez187 => ?_)
      obtain rfl : z187 = 35 := ez187.trans (by decide)
      refine lv_iload_n hx hb dX11_keep_29 rfl (lv_at hl 0 rfl) ?_
      refine lv_iadd hx hb dX11_keep_30 ?_
      refine lv_topi (fun z188 ez188 => ?_)
      obtain rfl : z188 = 44 := ez188.trans (by decide)
      refine lv_aload_n hx hb dX11_keep_31 rfl (lv_at hl 1 rfl) ?_
      refine va_get (D := (dC, dI)) (ci := 11) (v := .ref m10) (C := RX11) (T := TX11) (N := 46) hx hb hts hi_X11 hown hK hP 0 rfl rfl 10 (by decide) (hts (.fieldLink RX11 28 "LeftQuillsModel" "now" "[I") (by decide +kernel)) (fun _ h9 => h9) rfl dX11_keep_32 ?_
      refine lv_iload_n hx hb dX11_keep_35 rfl (lv_at hl 0 rfl) ?_
      refine va_iald hx hb hK hP 1 0 rfl rfl (vp_in_iff.mpr ⟨by decide, by decide⟩) dX11_keep_36 ?_
      refine W.eq (g2 := F0 m 37 ls (.int 0 :: [.int 44, .ref m44])) rfl ?_
      refine va_iast hx hb hK hP hD hS 2 0 rfl rfl (vp_in_iff.mpr ⟨by decide, by decide⟩) dX11_keep_37 (fun H locs hP hD hS => ?_)
      rw [x_upd0] at hP hD
      have hP : va_P (dC, dI) vwCl [(h0, .inr (11, [.int 0, .int 0, .int 0, .ref m3, .ref m4, .ref m5, .int 0, .ref m7, .ref m8, .ref m9, .ref m10, .int 0, .ref m12, .int 0, .int (-1), .int 0, .int 0, .int 0, .ref m18, .int 0, .ref m20, .ref m21, .ref m22, .ref m23, .ref m24, .int 0, .ref m26, .ref m27, .ref m28, .int 0, .ref m30, .int 0, .int 0, .ref m33, .int 0, .int 0, .ref m36, .int 0, .ref m38, .ref m39, .ref m40, .int 0, .ref m42, .ref m43, .ref m44, .ref m45])), (m10, .inl (cI, 34, .inl (fun _ => 0))), (m44, .inl (cI, 70, .inl (fun _ => 0))), (m45, .inl (cZ, 2, .inl (fun _ => 0)))] H := hP
      have hD : va_D A [(h0, .inr (11, [.int 0, .int 0, .int 0, .ref m3, .ref m4, .ref m5, .int 0, .ref m7, .ref m8, .ref m9, .ref m10, .int 0, .ref m12, .int 0, .int (-1), .int 0, .int 0, .int 0, .ref m18, .int 0, .ref m20, .ref m21, .ref m22, .ref m23, .ref m24, .int 0, .ref m26, .ref m27, .ref m28, .int 0, .ref m30, .int 0, .int 0, .ref m33, .int 0, .int 0, .ref m36, .int 0, .ref m38, .ref m39, .ref m40, .int 0, .ref m42, .ref m43, .ref m44, .ref m45])), (m10, .inl (cI, 34, .inl (fun _ => 0))), (m44, .inl (cI, 70, .inl (fun _ => 0))), (m45, .inl (cZ, 2, .inl (fun _ => 0)))] := hD
      refine lv_iinc (v := 10) (lv' := [(2, .int 10), (0, .ref h0), (1, .int 1)]) hx hb dX11_keep_38 hl (k := 0) rfl (by decide) (by decide) rfl (fun ls hl => ?_)
      refine lv_goto (tgt := 15) hx hb dX11_keep_41 (by decide) ?_
      refine lv_iload_n hx hb dX11_keep_15 rfl (lv_at hl 0 rfl) ?_
      refine lv_bipush (v := 34) hx hb dX11_keep_16 (by decide) ?_
      refine lv_icmp_ge (tgt := 44) hx hb dX11_keep_18 (by decide) (fun c190 => ?_) (fun c190 => ?_)
      · exact absurd c190 (by decide)
      clear c190
      refine lv_aload_n hx hb dX11_keep_21 rfl (lv_at hl 1 rfl) ?_
      refine va_get (D := (dC, dI)) (ci := 11) (v := .ref m44) (C := RX11) (T := TX11) (N := 46) hx hb hts hi_X11 hown hK hP 0 rfl rfl 44 (by decide) (hts (.fieldLink RX11 89 "LeftQuillsModel" "images" "[I") (by decide +kernel)) (fun _ h9 => h9) rfl dX11_keep_22 ?_
      refine lv_bipush (v := 35) hx hb dX11_keep_25 (by decide) ?_
      refine lv_iload_n hx hb dX11_keep_27 rfl (lv_at hl 2 rfl) ?_
      refine lv_imul hx hb dX11_keep_28 ?_
      refine lv_topi (fun z191 ez191 => ?_)
      obtain rfl : z191 = 35 := ez191.trans (by decide)
      refine lv_iload_n hx hb dX11_keep_29 rfl (lv_at hl 0 rfl) ?_
      refine lv_iadd hx hb dX11_keep_30 ?_
      refine lv_topi (fun z192 ez192 => ?_)
      obtain rfl : z192 = 45 := ez192.trans (by decide)
      refine lv_aload_n hx hb dX11_keep_31 rfl (lv_at hl 1 rfl) ?_
      refine va_get (D := (dC, dI)) (ci := 11) (v := .ref m10) (C := RX11) (T := TX11) (N := 46) hx hb hts hi_X11 hown hK hP 0 rfl rfl 10 (by decide) (hts (.fieldLink RX11 28 "LeftQuillsModel" "now" "[I") (by decide +kernel)) (fun _ h9 => h9) rfl dX11_keep_32 ?_
      refine lv_iload_n hx hb dX11_keep_35 rfl (lv_at hl 0 rfl) ?_
      refine va_iald hx hb hK hP 1 0 rfl rfl (vp_in_iff.mpr ⟨by decide, by decide⟩) dX11_keep_36 ?_
      refine W.eq (g2 := F0 m 37 ls (.int 0 :: [.int 45, .ref m44])) rfl ?_
      refine va_iast hx hb hK hP hD hS 2 0 rfl rfl (vp_in_iff.mpr ⟨by decide, by decide⟩) dX11_keep_37 (fun H locs hP hD hS => ?_)
      rw [x_upd0] at hP hD
      have hP : va_P (dC, dI) vwCl [(h0, .inr (11, [.int 0, .int 0, .int 0, .ref m3, .ref m4, .ref m5, .int 0, .ref m7, .ref m8, .ref m9, .ref m10, .int 0, .ref m12, .int 0, .int (-1), .int 0, .int 0, .int 0, .ref m18, .int 0, .ref m20, .ref m21, .ref m22, .ref m23, .ref m24, .int 0, .ref m26, .ref m27, .ref m28, .int 0, .ref m30, .int 0, .int 0, .ref m33, .int 0, .int 0, .ref m36, .int 0, .ref m38, .ref m39, .ref m40, .int 0, .ref m42, .ref m43, .ref m44, .ref m45])), (m10, .inl (cI, 34, .inl (fun _ => 0))), (m44, .inl (cI, 70, .inl (fun _ => 0))), (m45, .inl (cZ, 2, .inl (fun _ => 0)))] H := hP
      have hD : va_D A [(h0, .inr (11, [.int 0, .int 0, .int 0, .ref m3, .ref m4, .ref m5, .int 0, .ref m7, .ref m8, .ref m9, .ref m10, .int 0, .ref m12, .int 0, .int (-1), .int 0, .int 0, .int 0, .ref m18, .int 0, .ref m20, .ref m21, .ref m22, .ref m23, .ref m24, .int 0, .ref m26, .ref m27, .ref m28, .int 0, .ref m30, .int 0, .int 0, .ref m33, .int 0, .int 0, .ref m36, .int 0, .ref m38, .ref m39, .ref m40, .int 0, .ref m42, .ref m43, .ref m44, .ref m45])), (m10, .inl (cI, 34, .inl (fun _ => 0))), (m44, .inl (cI, 70, .inl (fun _ => 0))), (m45, .inl (cZ, 2, .inl (fun _ => 0)))] := hD
      refine lv_iinc (v := 11) (lv' := [(2, .int 11), (0, .ref h0), (1, .int 1)]) hx hb dX11_keep_38 hl (k := 0) rfl (by decide) (by decide) rfl (fun ls hl => ?_)
      refine lv_goto (tgt := 15) hx hb dX11_keep_41 (by decide) ?_
      refine lv_iload_n hx hb dX11_keep_15 rfl (lv_at hl 0 rfl) ?_
      refine lv_bipush (v := 34) hx hb dX11_keep_16 (by decide) ?_
      refine lv_icmp_ge (tgt := 44) hx hb dX11_keep_18 (by decide) (fun c194 => ?_) (fun c194 => ?_)
      · exact absurd c194 (by decide)
      clear c194
      refine lv_aload_n hx hb dX11_keep_21 rfl (lv_at hl 1 rfl) ?_
      refine va_get (D := (dC, dI)) (ci := 11) (v := .ref m44) (C := RX11) (T := TX11) (N := 46) hx hb hts hi_X11 hown hK hP 0 rfl rfl 44 (by decide) (hts (.fieldLink RX11 89 "LeftQuillsModel" "images" "[I") (by decide +kernel)) (fun _ h9 => h9) rfl dX11_keep_22 ?_
      refine lv_bipush (v := 35) hx hb dX11_keep_25 (by decide) ?_
      refine lv_iload_n hx hb dX11_keep_27 rfl (lv_at hl 2 rfl) ?_
      refine lv_imul hx hb dX11_keep_28 ?_
      refine lv_topi (fun z195 ez195 => ?_)
      obtain rfl : z195 = 35 := ez195.trans (by decide)
      refine lv_iload_n hx hb dX11_keep_29 rfl (lv_at hl 0 rfl) ?_
      refine lv_iadd hx hb dX11_keep_30 ?_
      refine lv_topi (fun z196 ez196 => ?_)
      obtain rfl : z196 = 46 := ez196.trans (by decide)
      refine lv_aload_n hx hb dX11_keep_31 rfl (lv_at hl 1 rfl) ?_
      refine va_get (D := (dC, dI)) (ci := 11) (v := .ref m10) (C := RX11) (T := TX11) (N := 46) hx hb hts hi_X11 hown hK hP 0 rfl rfl 10 (by decide) (hts (.fieldLink RX11 28 "LeftQuillsModel" "now" "[I") (by decide +kernel)) (fun _ h9 => h9) rfl dX11_keep_32 ?_
      refine lv_iload_n hx hb dX11_keep_35 rfl (lv_at hl 0 rfl) ?_
      refine va_iald hx hb hK hP 1 0 rfl rfl (vp_in_iff.mpr ⟨by decide, by decide⟩) dX11_keep_36 ?_
      refine W.eq (g2 := F0 m 37 ls (.int 0 :: [.int 46, .ref m44])) rfl ?_
      refine va_iast hx hb hK hP hD hS 2 0 rfl rfl (vp_in_iff.mpr ⟨by decide, by decide⟩) dX11_keep_37 (fun H locs hP hD hS => ?_)
      rw [x_upd0] at hP hD
      have hP : va_P (dC, dI) vwCl [(h0, .inr (11, [.int 0, .int 0, .int 0, .ref m3, .ref m4, .ref m5, .int 0, .ref m7, .ref m8, .ref m9, .ref m10, .int 0, .ref m12, .int 0, .int (-1), .int 0, .int 0, .int 0, .ref m18, .int 0, .ref m20, .ref m21, .ref m22, .ref m23, .ref m24, .int 0, .ref m26, .ref m27, .ref m28, .int 0, .ref m30, .int 0, .int 0, .ref m33, .int 0, .int 0, .ref m36, .int 0, .ref m38, .ref m39, .ref m40, .int 0, .ref m42, .ref m43, .ref m44, .ref m45])), (m10, .inl (cI, 34, .inl (fun _ => 0))), (m44, .inl (cI, 70, .inl (fun _ => 0))), (m45, .inl (cZ, 2, .inl (fun _ => 0)))] H := hP
      have hD : va_D A [(h0, .inr (11, [.int 0, .int 0, .int 0, .ref m3, .ref m4, .ref m5, .int 0, .ref m7, .ref m8, .ref m9, .ref m10, .int 0, .ref m12, .int 0, .int (-1), .int 0, .int 0, .int 0, .ref m18, .int 0, .ref m20, .ref m21, .ref m22, .ref m23, .ref m24, .int 0, .ref m26, .ref m27, .ref m28, .int 0, .ref m30, .int 0, .int 0, .ref m33, .int 0, .int 0, .ref m36, .int 0, .ref m38, .ref m39, .ref m40, .int 0, .ref m42, .ref m43, .ref m44, .ref m45])), (m10, .inl (cI, 34, .inl (fun _ => 0))), (m44, .inl (cI, 70, .inl (fun _ => 0))), (m45, .inl (cZ, 2, .inl (fun _ => 0)))] := hD
      refine lv_iinc (v := 12) (lv' := [(2, .int 12), (0, .ref h0), (1, .int 1)]) hx hb dX11_keep_38 hl (k := 0) rfl (by decide) (by decide) rfl (fun ls hl => ?_)
      refine lv_goto (tgt := 15) hx hb dX11_keep_41 (by decide) ?_
      refine lv_iload_n hx hb dX11_keep_15 rfl (lv_at hl 0 rfl) ?_
      refine lv_bipush (v := 34) hx hb dX11_keep_16 (by decide) ?_
      refine lv_icmp_ge (tgt := 44) hx hb dX11_keep_18 (by decide) (fun c198 => ?_) (fun c198 => ?_)
      · exact absurd c198 (by decide)
      clear c198
      refine lv_aload_n hx hb dX11_keep_21 rfl (lv_at hl 1 rfl) ?_
      refine va_get (D := (dC, dI)) (ci := 11) (v := .ref m44) (C := RX11) (T := TX11) (N := 46) hx hb hts hi_X11 hown hK hP 0 rfl rfl 44 (by decide) (hts (.fieldLink RX11 89 "LeftQuillsModel" "images" "[I") (by decide +kernel)) (fun _ h9 => h9) rfl dX11_keep_22 ?_
      refine lv_bipush (v := 35) hx hb dX11_keep_25 (by decide) ?_
      refine lv_iload_n hx hb dX11_keep_27 rfl (lv_at hl 2 rfl) ?_
      refine lv_imul hx hb dX11_keep_28 ?_
      refine lv_topi (fun z199 ez199 => ?_)
      obtain rfl : z199 = 35 := ez199.trans (by decide)
      refine lv_iload_n hx hb dX11_keep_29 rfl (lv_at hl 0 rfl) ?_
      refine lv_iadd hx hb dX11_keep_30 ?_
      refine lv_topi (fun z200 ez200 => ?_)
      obtain rfl : z200 = 47 := ez200.trans (by decide)
      refine lv_aload_n hx hb dX11_keep_31 rfl (lv_at hl 1 rfl) ?_
      refine va_get (D := (dC, dI)) (ci := 11) (v := .ref m10) (C := RX11) (T := TX11) (N := 46) hx hb hts hi_X11 hown hK hP 0 rfl rfl 10 (by decide) (hts (.fieldLink RX11 28 "LeftQuillsModel" "now" "[I") (by decide +kernel)) (fun _ h9 => h9) rfl dX11_keep_32 ?_
      refine lv_iload_n hx hb dX11_keep_35 rfl (lv_at hl 0 rfl) ?_
      refine va_iald hx hb hK hP 1 0 rfl rfl (vp_in_iff.mpr ⟨by decide, by decide⟩) dX11_keep_36 ?_
      refine W.eq (g2 := F0 m 37 ls (.int 0 :: [.int 47, .ref m44])) rfl ?_
      refine va_iast hx hb hK hP hD hS 2 0 rfl rfl (vp_in_iff.mpr ⟨by decide, by decide⟩) dX11_keep_37 (fun H locs hP hD hS => ?_)
      rw [x_upd0] at hP hD
      have hP : va_P (dC, dI) vwCl [(h0, .inr (11, [.int 0, .int 0, .int 0, .ref m3, .ref m4, .ref m5, .int 0, .ref m7, .ref m8, .ref m9, .ref m10, .int 0, .ref m12, .int 0, .int (-1), .int 0, .int 0, .int 0, .ref m18, .int 0, .ref m20, .ref m21, .ref m22, .ref m23, .ref m24, .int 0, .ref m26, .ref m27, .ref m28, .int 0, .ref m30, .int 0, .int 0, .ref m33, .int 0, .int 0, .ref m36, .int 0, .ref m38, .ref m39, .ref m40, .int 0, .ref m42, .ref m43, .ref m44, .ref m45])), (m10, .inl (cI, 34, .inl (fun _ => 0))), (m44, .inl (cI, 70, .inl (fun _ => 0))), (m45, .inl (cZ, 2, .inl (fun _ => 0)))] H := hP
      have hD : va_D A [(h0, .inr (11, [.int 0, .int 0, .int 0, .ref m3, .ref m4, .ref m5, .int 0, .ref m7, .ref m8, .ref m9, .ref m10, .int 0, .ref m12, .int 0, .int (-1), .int 0, .int 0, .int 0, .ref m18, .int 0, .ref m20, .ref m21, .ref m22, .ref m23, .ref m24, .int 0, .ref m26, .ref m27, .ref m28, .int 0, .ref m30, .int 0, .int 0, .ref m33, .int 0, .int 0, .ref m36, .int 0, .ref m38, .ref m39, .ref m40, .int 0, .ref m42, .ref m43, .ref m44, .ref m45])), (m10, .inl (cI, 34, .inl (fun _ => 0))), (m44, .inl (cI, 70, .inl (fun _ => 0))), (m45, .inl (cZ, 2, .inl (fun _ => 0)))] := hD
      refine lv_iinc (v := 13) (lv' := [(2, .int 13), (0, .ref h0), (1, .int 1)]) hx hb dX11_keep_38 hl (k := 0) rfl (by decide) (by decide) rfl (fun ls hl => ?_)
      refine lv_goto (tgt := 15) hx hb dX11_keep_41 (by decide) ?_
      refine lv_iload_n hx hb dX11_keep_15 rfl (lv_at hl 0 rfl) ?_
      refine lv_bipush (v := 34) hx hb dX11_keep_16 (by decide) ?_
      refine lv_icmp_ge (tgt := 44) hx hb dX11_keep_18 (by decide) (fun c202 => ?_) (fun c202 => ?_)
      · exact absurd c202 (by decide)
      clear c202
      refine lv_aload_n hx hb dX11_keep_21 rfl (lv_at hl 1 rfl) ?_
      refine va_get (D := (dC, dI)) (ci := 11) (v := .ref m44) (C := RX11) (T := TX11) (N := 46) hx hb hts hi_X11 hown hK hP 0 rfl rfl 44 (by decide) (hts (.fieldLink RX11 89 "LeftQuillsModel" "images" "[I") (by decide +kernel)) (fun _ h9 => h9) rfl dX11_keep_22 ?_
      refine lv_bipush (v := 35) hx hb dX11_keep_25 (by decide) ?_
      refine lv_iload_n hx hb dX11_keep_27 rfl (lv_at hl 2 rfl) ?_
      refine lv_imul hx hb dX11_keep_28 ?_
      refine lv_topi (fun z203 ez203 => ?_)
      obtain rfl : z203 = 35 := ez203.trans (by decide)
      refine lv_iload_n hx hb dX11_keep_29 rfl (lv_at hl 0 rfl) ?_
      refine lv_iadd hx hb dX11_keep_30 ?_
      refine lv_topi (fun z204 ez204 => ?_)
      obtain rfl : z204 = 48 := ez204.trans (by decide)
      refine lv_aload_n hx hb dX11_keep_31 rfl (lv_at hl 1 rfl) ?_
      refine va_get (D := (dC, dI)) (ci := 11) (v := .ref m10) (C := RX11) (T := TX11) (N := 46) hx hb hts hi_X11 hown hK hP 0 rfl rfl 10 (by decide) (hts (.fieldLink RX11 28 "LeftQuillsModel" "now" "[I") (by decide +kernel)) (fun _ h9 => h9) rfl dX11_keep_32 ?_
      refine lv_iload_n hx hb dX11_keep_35 rfl (lv_at hl 0 rfl) ?_
      refine va_iald hx hb hK hP 1 0 rfl rfl (vp_in_iff.mpr ⟨by decide, by decide⟩) dX11_keep_36 ?_
      refine W.eq (g2 := F0 m 37 ls (.int 0 :: [.int 48, .ref m44])) rfl ?_
      refine va_iast hx hb hK hP hD hS 2 0 rfl rfl (vp_in_iff.mpr ⟨by decide, by decide⟩) dX11_keep_37 (fun H locs hP hD hS => ?_)
      rw [x_upd0] at hP hD
      have hP : va_P (dC, dI) vwCl [(h0, .inr (11, [.int 0, .int 0, .int 0, .ref m3, .ref m4, .ref m5, .int 0, .ref m7, .ref m8, .ref m9, .ref m10, .int 0, .ref m12, .int 0, .int (-1), .int 0, .int 0, .int 0, .ref m18, .int 0, .ref m20, .ref m21, .ref m22, .ref m23, .ref m24, .int 0, .ref m26, .ref m27, .ref m28, .int 0, .ref m30, .int 0, .int 0, .ref m33, .int 0, .int 0, .ref m36, .int 0, .ref m38, .ref m39, .ref m40, .int 0, .ref m42, .ref m43, .ref m44, .ref m45])), (m10, .inl (cI, 34, .inl (fun _ => 0))), (m44, .inl (cI, 70, .inl (fun _ => 0))), (m45, .inl (cZ, 2, .inl (fun _ => 0)))] H := hP
      have hD : va_D A [(h0, .inr (11, [.int 0, .int 0, .int 0, .ref m3, .ref m4, .ref m5, .int 0, .ref m7, .ref m8, .ref m9, .ref m10, .int 0, .ref m12, .int 0, .int (-1), .int 0, .int 0, .int 0, .ref m18, .int 0, .ref m20, .ref m21, .ref m22, .ref m23, .ref m24, .int 0, .ref m26, .ref m27, .ref m28, .int 0, .ref m30, .int 0, .int 0, .ref m33, .int 0, .int 0, .ref m36, .int 0, .ref m38, .ref m39, .ref m40, .int 0, .ref m42, .ref m43, .ref m44, .ref m45])), (m10, .inl (cI, 34, .inl (fun _ => 0))), (m44, .inl (cI, 70, .inl (fun _ => 0))), (m45, .inl (cZ, 2, .inl (fun _ => 0)))] := hD
      refine lv_iinc (v := 14) (lv' := [(2, .int 14), (0, .ref h0), (1, .int 1)]) hx hb dX11_keep_38 hl (k := 0) rfl (by decide) (by decide) rfl (fun ls hl => ?_)
      refine lv_goto (tgt := 15) hx hb dX11_keep_41 (by decide) ?_
      refine lv_iload_n hx hb dX11_keep_15 rfl (lv_at hl 0 rfl) ?_
      refine lv_bipush (v := 34) hx hb dX11_keep_16 (by decide) ?_
      refine lv_icmp_ge (tgt := 44) hx hb dX11_keep_18 (by decide) (fun c206 => ?_) (fun c206 => ?_)
      · exact absurd c206 (by decide)
      clear c206
      refine lv_aload_n hx hb dX11_keep_21 rfl (lv_at hl 1 rfl) ?_
      refine va_get (D := (dC, dI)) (ci := 11) (v := .ref m44) (C := RX11) (T := TX11) (N := 46) hx hb hts hi_X11 hown hK hP 0 rfl rfl 44 (by decide) (hts (.fieldLink RX11 89 "LeftQuillsModel" "images" "[I") (by decide +kernel)) (fun _ h9 => h9) rfl dX11_keep_22 ?_
      refine lv_bipush (v := 35) hx hb dX11_keep_25 (by decide) ?_
      refine lv_iload_n hx hb dX11_keep_27 rfl (lv_at hl 2 rfl) ?_
      refine lv_imul hx hb dX11_keep_28 ?_
      refine lv_topi (fun z207 ez207 => ?_)
      obtain rfl : z207 = 35 := ez207.trans (by decide)
      refine lv_iload_n hx hb dX11_keep_29 rfl (lv_at hl 0 rfl) ?_
      refine lv_iadd hx hb dX11_keep_30 ?_
      refine lv_topi (fun z208 ez208 => ?_)
      obtain rfl : z208 = 49 := ez208.trans (by decide)
      refine lv_aload_n hx hb dX11_keep_31 rfl (lv_at hl 1 rfl) ?_
      refine va_get (D := (dC, dI)) (ci := 11) (v := .ref m10) (C := RX11) (T := TX11) (N := 46) hx hb hts hi_X11 hown hK hP 0 rfl rfl 10 (by decide) (hts (.fieldLink RX11 28 "LeftQuillsModel" "now" "[I") (by decide +kernel)) (fun _ h9 => h9) rfl dX11_keep_32 ?_
      refine lv_iload_n hx hb dX11_keep_35 rfl (lv_at hl 0 rfl) ?_
      refine va_iald hx hb hK hP 1 0 rfl rfl (vp_in_iff.mpr ⟨by decide, by decide⟩) dX11_keep_36 ?_
      refine W.eq (g2 := F0 m 37 ls (.int 0 :: [.int 49, .ref m44])) rfl ?_
      refine va_iast hx hb hK hP hD hS 2 0 rfl rfl (vp_in_iff.mpr ⟨by decide, by decide⟩) dX11_keep_37 (fun H locs hP hD hS => ?_)
      rw [x_upd0] at hP hD
      have hP : va_P (dC, dI) vwCl [(h0, .inr (11, [.int 0, .int 0, .int 0, .ref m3, .ref m4, .ref m5, .int 0, .ref m7, .ref m8, .ref m9, .ref m10, .int 0, .ref m12, .int 0, .int (-1), .int 0, .int 0, .int 0, .ref m18, .int 0, .ref m20, .ref m21, .ref m22, .ref m23, .ref m24, .int 0, .ref m26, .ref m27, .ref m28, .int 0, .ref m30, .int 0, .int 0, .ref m33, .int 0, .int 0, .ref m36, .int 0, .ref m38, .ref m39, .ref m40, .int 0, .ref m42, .ref m43, .ref m44, .ref m45])), (m10, .inl (cI, 34, .inl (fun _ => 0))), (m44, .inl (cI, 70, .inl (fun _ => 0))), (m45, .inl (cZ, 2, .inl (fun _ => 0)))] H := hP
      have hD : va_D A [(h0, .inr (11, [.int 0, .int 0, .int 0, .ref m3, .ref m4, .ref m5, .int 0, .ref m7, .ref m8, .ref m9, .ref m10, .int 0, .ref m12, .int 0, .int (-1), .int 0, .int 0, .int 0, .ref m18, .int 0, .ref m20, .ref m21, .ref m22, .ref m23, .ref m24, .int 0, .ref m26, .ref m27, .ref m28, .int 0, .ref m30, .int 0, .int 0, .ref m33, .int 0, .int 0, .ref m36, .int 0, .ref m38, .ref m39, .ref m40, .int 0, .ref m42, .ref m43, .ref m44, .ref m45])), (m10, .inl (cI, 34, .inl (fun _ => 0))), (m44, .inl (cI, 70, .inl (fun _ => 0))), (m45, .inl (cZ, 2, .inl (fun _ => 0)))] := hD
      refine lv_iinc (v := 15) (lv' := [(2, .int 15), (0, .ref h0), (1, .int 1)]) hx hb dX11_keep_38 hl (k := 0) rfl (by decide) (by decide) rfl (fun ls hl => ?_)
      refine lv_goto (tgt := 15) hx hb dX11_keep_41 (by decide) ?_
      refine lv_iload_n hx hb dX11_keep_15 rfl (lv_at hl 0 rfl) ?_
      refine lv_bipush (v := 34) hx hb dX11_keep_16 (by decide) ?_
      refine lv_icmp_ge (tgt := 44) hx hb dX11_keep_18 (by decide) (fun c210 => ?_) (fun c210 => ?_)
      · exact absurd c210 (by decide)
      clear c210
      refine lv_aload_n hx hb dX11_keep_21 rfl (lv_at hl 1 rfl) ?_
      refine va_get (D := (dC, dI)) (ci := 11) (v := .ref m44) (C := RX11) (T := TX11) (N := 46) hx hb hts hi_X11 hown hK hP 0 rfl rfl 44 (by decide) (hts (.fieldLink RX11 89 "LeftQuillsModel" "images" "[I") (by decide +kernel)) (fun _ h9 => h9) rfl dX11_keep_22 ?_
      refine lv_bipush (v := 35) hx hb dX11_keep_25 (by decide) ?_
      refine lv_iload_n hx hb dX11_keep_27 rfl (lv_at hl 2 rfl) ?_
      refine lv_imul hx hb dX11_keep_28 ?_
      refine lv_topi (fun z211 ez211 => ?_)
      obtain rfl : z211 = 35 := ez211.trans (by decide)
      refine lv_iload_n hx hb dX11_keep_29 rfl (lv_at hl 0 rfl) ?_
      refine lv_iadd hx hb dX11_keep_30 ?_
      refine lv_topi (fun z212 ez212 => ?_)
      obtain rfl : z212 = 50 := ez212.trans (by decide)
      refine lv_aload_n hx hb dX11_keep_31 rfl (lv_at hl 1 rfl) ?_
      refine va_get (D := (dC, dI)) (ci := 11) (v := .ref m10) (C := RX11) (T := TX11) (N := 46) hx hb hts hi_X11 hown hK hP 0 rfl rfl 10 (by decide) (hts (.fieldLink RX11 28 "LeftQuillsModel" "now" "[I") (by decide +kernel)) (fun _ h9 => h9) rfl dX11_keep_32 ?_
      refine lv_iload_n hx hb dX11_keep_35 rfl (lv_at hl 0 rfl) ?_
      refine va_iald hx hb hK hP 1 0 rfl rfl (vp_in_iff.mpr ⟨by decide, by decide⟩) dX11_keep_36 ?_
      refine W.eq (g2 := F0 m 37 ls (.int 0 :: [.int 50, .ref m44])) rfl ?_
      refine va_iast hx hb hK hP hD hS 2 0 rfl rfl (vp_in_iff.mpr ⟨by decide, by decide⟩) dX11_keep_37 (fun H locs hP hD hS => ?_)
      rw [x_upd0] at hP hD
      have hP : va_P (dC, dI) vwCl [(h0, .inr (11, [.int 0, .int 0, .int 0, .ref m3, .ref m4, .ref m5, .int 0, .ref m7, .ref m8, .ref m9, .ref m10, .int 0, .ref m12, .int 0, .int (-1), .int 0, .int 0, .int 0, .ref m18, .int 0, .ref m20, .ref m21, .ref m22, .ref m23, .ref m24, .int 0, .ref m26, .ref m27, .ref m28, .int 0, .ref m30, .int 0, .int 0, .ref m33, .int 0, .int 0, .ref m36, .int 0, .ref m38, .ref m39, .ref m40, .int 0, .ref m42, .ref m43, .ref m44, .ref m45])), (m10, .inl (cI, 34, .inl (fun _ => 0))), (m44, .inl (cI, 70, .inl (fun _ => 0))), (m45, .inl (cZ, 2, .inl (fun _ => 0)))] H := hP
      have hD : va_D A [(h0, .inr (11, [.int 0, .int 0, .int 0, .ref m3, .ref m4, .ref m5, .int 0, .ref m7, .ref m8, .ref m9, .ref m10, .int 0, .ref m12, .int 0, .int (-1), .int 0, .int 0, .int 0, .ref m18, .int 0, .ref m20, .ref m21, .ref m22, .ref m23, .ref m24, .int 0, .ref m26, .ref m27, .ref m28, .int 0, .ref m30, .int 0, .int 0, .ref m33, .int 0, .int 0, .ref m36, .int 0, .ref m38, .ref m39, .ref m40, .int 0, .ref m42, .ref m43, .ref m44, .ref m45])), (m10, .inl (cI, 34, .inl (fun _ => 0))), (m44, .inl (cI, 70, .inl (fun _ => 0))), (m45, .inl (cZ, 2, .inl (fun _ => 0)))] := hD
      refine lv_iinc (v := 16) (lv' := [(2, .int 16), (0, .ref h0), (1, .int 1)]) hx hb dX11_keep_38 hl (k := 0) rfl (by decide) (by decide) rfl (fun ls hl => ?_)
      refine lv_goto (tgt := 15) hx hb dX11_keep_41 (by decide) ?_
      refine lv_iload_n hx hb dX11_keep_15 rfl (lv_at hl 0 rfl) ?_
      refine lv_bipush (v := 34) hx hb dX11_keep_16 (by decide) ?_
      refine lv_icmp_ge (tgt := 44) hx hb dX11_keep_18 (by decide) (fun c214 => ?_) (fun c214 => ?_)
      · exact absurd c214 (by decide)
      clear c214
      refine lv_aload_n hx hb dX11_keep_21 rfl (lv_at hl 1 rfl) ?_
      refine va_get (D := (dC, dI)) (ci := 11) (v := .ref m44) (C := RX11) (T := TX11) (N := 46) hx hb hts hi_X11 hown hK hP 0 rfl rfl 44 (by decide) (hts (.fieldLink RX11 89 "LeftQuillsModel" "images" "[I") (by decide +kernel)) (fun _ h9 => h9) rfl dX11_keep_22 ?_
      refine lv_bipush (v := 35) hx hb dX11_keep_25 (by decide) ?_
      refine lv_iload_n hx hb dX11_keep_27 rfl (lv_at hl 2 rfl) ?_
      refine lv_imul hx hb dX11_keep_28 ?_
      refine lv_topi (fun z215 ez215 => ?_)
      obtain rfl : z215 = 35 := ez215.trans (by decide)
      refine lv_iload_n hx hb dX11_keep_29 rfl (lv_at hl 0 rfl) ?_
      refine lv_iadd hx hb dX11_keep_30 ?_
      refine lv_topi (fun z216 ez216 => ?_)
      obtain rfl : z216 = 51 := ez216.trans (by decide)
      refine lv_aload_n hx hb dX11_keep_31 rfl (lv_at hl 1 rfl) ?_
      refine va_get (D := (dC, dI)) (ci := 11) (v := .ref m10) (C := RX11) (T := TX11) (N := 46) hx hb hts hi_X11 hown hK hP 0 rfl rfl 10 (by decide) (hts (.fieldLink RX11 28 "LeftQuillsModel" "now" "[I") (by decide +kernel)) (fun _ h9 => h9) rfl dX11_keep_32 ?_
      refine lv_iload_n hx hb dX11_keep_35 rfl (lv_at hl 0 rfl) ?_
      refine va_iald hx hb hK hP 1 0 rfl rfl (vp_in_iff.mpr ⟨by decide, by decide⟩) dX11_keep_36 ?_
      refine W.eq (g2 := F0 m 37 ls (.int 0 :: [.int 51, .ref m44])) rfl ?_
      refine va_iast hx hb hK hP hD hS 2 0 rfl rfl (vp_in_iff.mpr ⟨by decide, by decide⟩) dX11_keep_37 (fun H locs hP hD hS => ?_)
      rw [x_upd0] at hP hD
      have hP : va_P (dC, dI) vwCl [(h0, .inr (11, [.int 0, .int 0, .int 0, .ref m3, .ref m4, .ref m5, .int 0, .ref m7, .ref m8, .ref m9, .ref m10, .int 0, .ref m12, .int 0, .int (-1), .int 0, .int 0, .int 0, .ref m18, .int 0, .ref m20, .ref m21, .ref m22, .ref m23, .ref m24, .int 0, .ref m26, .ref m27, .ref m28, .int 0, .ref m30, .int 0, .int 0, .ref m33, .int 0, .int 0, .ref m36, .int 0, .ref m38, .ref m39, .ref m40, .int 0, .ref m42, .ref m43, .ref m44, .ref m45])), (m10, .inl (cI, 34, .inl (fun _ => 0))), (m44, .inl (cI, 70, .inl (fun _ => 0))), (m45, .inl (cZ, 2, .inl (fun _ => 0)))] H := hP
      have hD : va_D A [(h0, .inr (11, [.int 0, .int 0, .int 0, .ref m3, .ref m4, .ref m5, .int 0, .ref m7, .ref m8, .ref m9, .ref m10, .int 0, .ref m12, .int 0, .int (-1), .int 0, .int 0, .int 0, .ref m18, .int 0, .ref m20, .ref m21, .ref m22, .ref m23, .ref m24, .int 0, .ref m26, .ref m27, .ref m28, .int 0, .ref m30, .int 0, .int 0, .ref m33, .int 0, .int 0, .ref m36, .int 0, .ref m38, .ref m39, .ref m40, .int 0, .ref m42, .ref m43, .ref m44, .ref m45])), (m10, .inl (cI, 34, .inl (fun _ => 0))), (m44, .inl (cI, 70, .inl (fun _ => 0))), (m45, .inl (cZ, 2, .inl (fun _ => 0)))] := hD
      refine lv_iinc (v := 17) (lv' := [(2, .int 17), (0, .ref h0), (1, .int 1)]) hx hb dX11_keep_38 hl (k := 0) rfl (by decide) (by decide) rfl (fun ls hl => ?_)
      refine lv_goto (tgt := 15) hx hb dX11_keep_41 (by decide) ?_
      refine lv_iload_n hx hb dX11_keep_15 rfl (lv_at hl 0 rfl) ?_
      refine lv_bipush (v := 34) hx hb dX11_keep_16 (by decide) ?_
      refine lv_icmp_ge (tgt := 44) hx hb dX11_keep_18 (by decide) (fun c218 => ?_) (fun c218 => ?_)
      · exact absurd c218 (by decide)
      clear c218
      refine lv_aload_n hx hb dX11_keep_21 rfl (lv_at hl 1 rfl) ?_
      refine va_get (D := (dC, dI)) (ci := 11) (v := .ref m44) (C := RX11) (T := TX11) (N := 46) hx hb hts hi_X11 hown hK hP 0 rfl rfl 44 (by decide) (hts (.fieldLink RX11 89 "LeftQuillsModel" "images" "[I") (by decide +kernel)) (fun _ h9 => h9) rfl dX11_keep_22 ?_
      refine lv_bipush (v := 35) hx hb dX11_keep_25 (by decide) ?_
      refine lv_iload_n hx hb dX11_keep_27 rfl (lv_at hl 2 rfl) ?_
      refine lv_imul hx hb dX11_keep_28 ?_
      refine lv_topi (fun z219 ez219 => ?_)
      obtain rfl : z219 = 35 := ez219.trans (by decide)
      refine lv_iload_n hx hb dX11_keep_29 rfl (lv_at hl 0 rfl) ?_
      refine lv_iadd hx hb dX11_keep_30 ?_
      refine lv_topi (fun z220 ez220 => ?_)
      obtain rfl : z220 = 52 := ez220.trans (by decide)
      refine lv_aload_n hx hb dX11_keep_31 rfl (lv_at hl 1 rfl) ?_
      refine va_get (D := (dC, dI)) (ci := 11) (v := .ref m10) (C := RX11) (T := TX11) (N := 46) hx hb hts hi_X11 hown hK hP 0 rfl rfl 10 (by decide) (hts (.fieldLink RX11 28 "LeftQuillsModel" "now" "[I") (by decide +kernel)) (fun _ h9 => h9) rfl dX11_keep_32 ?_
      refine lv_iload_n hx hb dX11_keep_35 rfl (lv_at hl 0 rfl) ?_
      refine va_iald hx hb hK hP 1 0 rfl rfl (vp_in_iff.mpr ⟨by decide, by decide⟩) dX11_keep_36 ?_
      refine W.eq (g2 := F0 m 37 ls (.int 0 :: [.int 52, .ref m44])) rfl ?_
      refine va_iast hx hb hK hP hD hS 2 0 rfl rfl (vp_in_iff.mpr ⟨by decide, by decide⟩) dX11_keep_37 (fun H locs hP hD hS => ?_)
      rw [x_upd0] at hP hD
      have hP : va_P (dC, dI) vwCl [(h0, .inr (11, [.int 0, .int 0, .int 0, .ref m3, .ref m4, .ref m5, .int 0, .ref m7, .ref m8, .ref m9, .ref m10, .int 0, .ref m12, .int 0, .int (-1), .int 0, .int 0, .int 0, .ref m18, .int 0, .ref m20, .ref m21, .ref m22, .ref m23, .ref m24, .int 0, .ref m26, .ref m27, .ref m28, .int 0, .ref m30, .int 0, .int 0, .ref m33, .int 0, .int 0, .ref m36, .int 0, .ref m38, .ref m39, .ref m40, .int 0, .ref m42, .ref m43, .ref m44, .ref m45])), (m10, .inl (cI, 34, .inl (fun _ => 0))), (m44, .inl (cI, 70, .inl (fun _ => 0))), (m45, .inl (cZ, 2, .inl (fun _ => 0)))] H := hP
      have hD : va_D A [(h0, .inr (11, [.int 0, .int 0, .int 0, .ref m3, .ref m4, .ref m5, .int 0, .ref m7, .ref m8, .ref m9, .ref m10, .int 0, .ref m12, .int 0, .int (-1), .int 0, .int 0, .int 0, .ref m18, .int 0, .ref m20, .ref m21, .ref m22, .ref m23, .ref m24, .int 0, .ref m26, .ref m27, .ref m28, .int 0, .ref m30, .int 0, .int 0, .ref m33, .int 0, .int 0, .ref m36, .int 0, .ref m38, .ref m39, .ref m40, .int 0, .ref m42, .ref m43, .ref m44, .ref m45])), (m10, .inl (cI, 34, .inl (fun _ => 0))), (m44, .inl (cI, 70, .inl (fun _ => 0))), (m45, .inl (cZ, 2, .inl (fun _ => 0)))] := hD
      refine lv_iinc (v := 18) (lv' := [(2, .int 18), (0, .ref h0), (1, .int 1)]) hx hb dX11_keep_38 hl (k := 0) rfl (by decide) (by decide) rfl (fun ls hl => ?_)
      refine lv_goto (tgt := 15) hx hb dX11_keep_41 (by decide) ?_
      refine lv_iload_n hx hb dX11_keep_15 rfl (lv_at hl 0 rfl) ?_
      refine lv_bipush (v := 34) hx hb dX11_keep_16 (by decide) ?_
      refine lv_icmp_ge (tgt := 44) hx hb dX11_keep_18 (by decide) (fun c222 => ?_) (fun c222 => ?_)
      · exact absurd c222 (by decide)
      clear c222
      refine lv_aload_n hx hb dX11_keep_21 rfl (lv_at hl 1 rfl) ?_
      refine va_get (D := (dC, dI)) (ci := 11) (v := .ref m44) (C := RX11) (T := TX11) (N := 46) hx hb hts hi_X11 hown hK hP 0 rfl rfl 44 (by decide) (hts (.fieldLink RX11 89 "LeftQuillsModel" "images" "[I") (by decide +kernel)) (fun _ h9 => h9) rfl dX11_keep_22 ?_
      refine lv_bipush (v := 35) hx hb dX11_keep_25 (by decide) ?_
      refine lv_iload_n hx hb dX11_keep_27 rfl (lv_at hl 2 rfl) ?_
      refine lv_imul hx hb dX11_keep_28 ?_
      refine lv_topi (fun z223 ez223 => ?_)
      obtain rfl : z223 = 35 := ez223.trans (by decide)
      refine lv_iload_n hx hb dX11_keep_29 rfl (lv_at hl 0 rfl) ?_
      refine lv_iadd hx hb dX11_keep_30 ?_
      refine lv_topi (fun z224 ez224 => ?_)
      obtain rfl : z224 = 53 := ez224.trans (by decide)
      refine lv_aload_n hx hb dX11_keep_31 rfl (lv_at hl 1 rfl) ?_
      refine va_get (D := (dC, dI)) (ci := 11) (v := .ref m10) (C := RX11) (T := TX11) (N := 46) hx hb hts hi_X11 hown hK hP 0 rfl rfl 10 (by decide) (hts (.fieldLink RX11 28 "LeftQuillsModel" "now" "[I") (by decide +kernel)) (fun _ h9 => h9) rfl dX11_keep_32 ?_
      refine lv_iload_n hx hb dX11_keep_35 rfl (lv_at hl 0 rfl) ?_
      refine va_iald hx hb hK hP 1 0 rfl rfl (vp_in_iff.mpr ⟨by decide, by decide⟩) dX11_keep_36 ?_
      refine W.eq (g2 := F0 m 37 ls (.int 0 :: [.int 53, .ref m44])) rfl ?_
      refine va_iast hx hb hK hP hD hS 2 0 rfl rfl (vp_in_iff.mpr ⟨by decide, by decide⟩) dX11_keep_37 (fun H locs hP hD hS => ?_)
      rw [x_upd0] at hP hD
      have hP : va_P (dC, dI) vwCl [(h0, .inr (11, [.int 0, .int 0, .int 0, .ref m3, .ref m4, .ref m5, .int 0, .ref m7, .ref m8, .ref m9, .ref m10, .int 0, .ref m12, .int 0, .int (-1), .int 0, .int 0, .int 0, .ref m18, .int 0, .ref m20, .ref m21, .ref m22, .ref m23, .ref m24, .int 0, .ref m26, .ref m27, .ref m28, .int 0, .ref m30, .int 0, .int 0, .ref m33, .int 0, .int 0, .ref m36, .int 0, .ref m38, .ref m39, .ref m40, .int 0, .ref m42, .ref m43, .ref m44, .ref m45])), (m10, .inl (cI, 34, .inl (fun _ => 0))), (m44, .inl (cI, 70, .inl (fun _ => 0))), (m45, .inl (cZ, 2, .inl (fun _ => 0)))] H := hP
      have hD : va_D A [(h0, .inr (11, [.int 0, .int 0, .int 0, .ref m3, .ref m4, .ref m5, .int 0, .ref m7, .ref m8, .ref m9, .ref m10, .int 0, .ref m12, .int 0, .int (-1), .int 0, .int 0, .int 0, .ref m18, .int 0, .ref m20, .ref m21, .ref m22, .ref m23, .ref m24, .int 0, .ref m26, .ref m27, .ref m28, .int 0, .ref m30, .int 0, .int 0, .ref m33, .int 0, .int 0, .ref m36, .int 0, .ref m38, .ref m39, .ref m40, .int 0, .ref m42, .ref m43, .ref m44, .ref m45])), (m10, .inl (cI, 34, .inl (fun _ => 0))), (m44, .inl (cI, 70, .inl (fun _ => 0))), (m45, .inl (cZ, 2, .inl (fun _ => 0)))] := hD
      refine lv_iinc (v := 19) (lv' := [(2, .int 19), (0, .ref h0), (1, .int 1)]) hx hb dX11_keep_38 hl (k := 0) rfl (by decide) (by decide) rfl (fun ls hl => ?_)
      refine lv_goto (tgt := 15) hx hb dX11_keep_41 (by decide) ?_
      refine lv_iload_n hx hb dX11_keep_15 rfl (lv_at hl 0 rfl) ?_
      refine lv_bipush (v := 34) hx hb dX11_keep_16 (by decide) ?_
      refine lv_icmp_ge (tgt := 44) hx hb dX11_keep_18 (by decide) (fun c226 => ?_) (fun c226 => ?_)
      · exact absurd c226 (by decide)
      clear c226
      refine lv_aload_n hx hb dX11_keep_21 rfl (lv_at hl 1 rfl) ?_
      refine va_get (D := (dC, dI)) (ci := 11) (v := .ref m44) (C := RX11) (T := TX11) (N := 46) hx hb hts hi_X11 hown hK hP 0 rfl rfl 44 (by decide) (hts (.fieldLink RX11 89 "LeftQuillsModel" "images" "[I") (by decide +kernel)) (fun _ h9 => h9) rfl dX11_keep_22 ?_
      refine lv_bipush (v := 35) hx hb dX11_keep_25 (by decide) ?_
      refine lv_iload_n hx hb dX11_keep_27 rfl (lv_at hl 2 rfl) ?_
      refine lv_imul hx hb dX11_keep_28 ?_
      refine lv_topi (fun z227 ez227 => ?_)
      obtain rfl : z227 = 35 := ez227.trans (by decide)
      refine lv_iload_n hx hb dX11_keep_29 rfl (lv_at hl 0 rfl) ?_
      refine lv_iadd hx hb dX11_keep_30 ?_
      refine lv_topi (fun z228 ez228 => ?_)
      obtain rfl : z228 = 54 := ez228.trans (by decide)
      refine lv_aload_n hx hb dX11_keep_31 rfl (lv_at hl 1 rfl) ?_
      refine va_get (D := (dC, dI)) (ci := 11) (v := .ref m10) (C := RX11) (T := TX11) (N := 46) hx hb hts hi_X11 hown hK hP 0 rfl rfl 10 (by decide) (hts (.fieldLink RX11 28 "LeftQuillsModel" "now" "[I") (by decide +kernel)) (fun _ h9 => h9) rfl dX11_keep_32 ?_
      refine lv_iload_n hx hb dX11_keep_35 rfl (lv_at hl 0 rfl) ?_
      refine va_iald hx hb hK hP 1 0 rfl rfl (vp_in_iff.mpr ⟨by decide, by decide⟩) dX11_keep_36 ?_
      refine W.eq (g2 := F0 m 37 ls (.int 0 :: [.int 54, .ref m44])) rfl ?_
      refine va_iast hx hb hK hP hD hS 2 0 rfl rfl (vp_in_iff.mpr ⟨by decide, by decide⟩) dX11_keep_37 (fun H locs hP hD hS => ?_)
      rw [x_upd0] at hP hD
      have hP : va_P (dC, dI) vwCl [(h0, .inr (11, [.int 0, .int 0, .int 0, .ref m3, .ref m4, .ref m5, .int 0, .ref m7, .ref m8, .ref m9, .ref m10, .int 0, .ref m12, .int 0, .int (-1), .int 0, .int 0, .int 0, .ref m18, .int 0, .ref m20, .ref m21, .ref m22, .ref m23, .ref m24, .int 0, .ref m26, .ref m27, .ref m28, .int 0, .ref m30, .int 0, .int 0, .ref m33, .int 0, .int 0, .ref m36, .int 0, .ref m38, .ref m39, .ref m40, .int 0, .ref m42, .ref m43, .ref m44, .ref m45])), (m10, .inl (cI, 34, .inl (fun _ => 0))), (m44, .inl (cI, 70, .inl (fun _ => 0))), (m45, .inl (cZ, 2, .inl (fun _ => 0)))] H := hP
      have hD : va_D A [(h0, .inr (11, [.int 0, .int 0, .int 0, .ref m3, .ref m4, .ref m5, .int 0, .ref m7, .ref m8, .ref m9, .ref m10, .int 0, .ref m12, .int 0, .int (-1), .int 0, .int 0, .int 0, .ref m18, .int 0, .ref m20, .ref m21, .ref m22, .ref m23, .ref m24, .int 0, .ref m26, .ref m27, .ref m28, .int 0, .ref m30, .int 0, .int 0, .ref m33, .int 0, .int 0, .ref m36, .int 0, .ref m38, .ref m39, .ref m40, .int 0, .ref m42, .ref m43, .ref m44, .ref m45])), (m10, .inl (cI, 34, .inl (fun _ => 0))), (m44, .inl (cI, 70, .inl (fun _ => 0))), (m45, .inl (cZ, 2, .inl (fun _ => 0)))] := hD
      refine lv_iinc (v := 20) (lv' := [(2, .int 20), (0, .ref h0), (1, .int 1)]) hx hb dX11_keep_38 hl (k := 0) rfl (by decide) (by decide) rfl (fun ls hl => ?_)
      refine lv_goto (tgt := 15) hx hb dX11_keep_41 (by decide) ?_
      refine lv_iload_n hx hb dX11_keep_15 rfl (lv_at hl 0 rfl) ?_
      refine lv_bipush (v := 34) hx hb dX11_keep_16 (by decide) ?_
      refine lv_icmp_ge (tgt := 44) hx hb dX11_keep_18 (by decide) (fun c230 => ?_) (fun c230 => ?_)
      · exact absurd c230 (by decide)
      clear c230
      refine lv_aload_n hx hb dX11_keep_21 rfl (lv_at hl 1 rfl) ?_
      refine va_get (D := (dC, dI)) (ci := 11) (v := .ref m44) (C := RX11) (T := TX11) (N := 46) hx hb hts hi_X11 hown hK hP 0 rfl rfl 44 (by decide) (hts (.fieldLink RX11 89 "LeftQuillsModel" "images" "[I") (by decide +kernel)) (fun _ h9 => h9) rfl dX11_keep_22 ?_
      refine lv_bipush (v := 35) hx hb dX11_keep_25 (by decide) ?_
      refine lv_iload_n hx hb dX11_keep_27 rfl (lv_at hl 2 rfl) ?_
      refine lv_imul hx hb dX11_keep_28 ?_
      refine lv_topi (fun z231 ez231 => ?_)
      obtain rfl : z231 = 35 := ez231.trans (by decide)
      refine lv_iload_n hx hb dX11_keep_29 rfl (lv_at hl 0 rfl) ?_
      refine lv_iadd hx hb dX11_keep_30 ?_
      refine lv_topi (fun z232 ez232 => ?_)
      obtain rfl : z232 = 55 := ez232.trans (by decide)
      refine lv_aload_n hx hb dX11_keep_31 rfl (lv_at hl 1 rfl) ?_
      refine va_get (D := (dC, dI)) (ci := 11) (v := .ref m10) (C := RX11) (T := TX11) (N := 46) hx hb hts hi_X11 hown hK hP 0 rfl rfl 10 (by decide) (hts (.fieldLink RX11 28 "LeftQuillsModel" "now" "[I") (by decide +kernel)) (fun _ h9 => h9) rfl dX11_keep_32 ?_
      refine lv_iload_n hx hb dX11_keep_35 rfl (lv_at hl 0 rfl) ?_
      refine va_iald hx hb hK hP 1 0 rfl rfl (vp_in_iff.mpr ⟨by decide, by decide⟩) dX11_keep_36 ?_
      refine W.eq (g2 := F0 m 37 ls (.int 0 :: [.int 55, .ref m44])) rfl ?_
      refine va_iast hx hb hK hP hD hS 2 0 rfl rfl (vp_in_iff.mpr ⟨by decide, by decide⟩) dX11_keep_37 (fun H locs hP hD hS => ?_)
      rw [x_upd0] at hP hD
      have hP : va_P (dC, dI) vwCl [(h0, .inr (11, [.int 0, .int 0, .int 0, .ref m3, .ref m4, .ref m5, .int 0, .ref m7, .ref m8, .ref m9, .ref m10, .int 0, .ref m12, .int 0, .int (-1), .int 0, .int 0, .int 0, .ref m18, .int 0, .ref m20, .ref m21, .ref m22, .ref m23, .ref m24, .int 0, .ref m26, .ref m27, .ref m28, .int 0, .ref m30, .int 0, .int 0, .ref m33, .int 0, .int 0, .ref m36, .int 0, .ref m38, .ref m39, .ref m40, .int 0, .ref m42, .ref m43, .ref m44, .ref m45])), (m10, .inl (cI, 34, .inl (fun _ => 0))), (m44, .inl (cI, 70, .inl (fun _ => 0))), (m45, .inl (cZ, 2, .inl (fun _ => 0)))] H := hP
      have hD : va_D A [(h0, .inr (11, [.int 0, .int 0, .int 0, .ref m3, .ref m4, .ref m5, .int 0, .ref m7, .ref m8, .ref m9, .ref m10, .int 0, .ref m12, .int 0, .int (-1), .int 0, .int 0, .int 0, .ref m18, .int 0, .ref m20, .ref m21, .ref m22, .ref m23, .ref m24, .int 0, .ref m26, .ref m27, .ref m28, .int 0, .ref m30, .int 0, .int 0, .ref m33, .int 0, .int 0, .ref m36, .int 0, .ref m38, .ref m39, .ref m40, .int 0, .ref m42, .ref m43, .ref m44, .ref m45])), (m10, .inl (cI, 34, .inl (fun _ => 0))), (m44, .inl (cI, 70, .inl (fun _ => 0))), (m45, .inl (cZ, 2, .inl (fun _ => 0)))] := hD
      refine lv_iinc (v := 21) (lv' := [(2, .int 21), (0, .ref h0), (1, .int 1)]) hx hb dX11_keep_38 hl (k := 0) rfl (by decide) (by decide) rfl (fun ls hl => ?_)
      refine lv_goto (tgt := 15) hx hb dX11_keep_41 (by decide) ?_
      refine lv_iload_n hx hb dX11_keep_15 rfl (lv_at hl 0 rfl) ?_
      refine lv_bipush (v := 34) hx hb dX11_keep_16 (by decide) ?_
      refine lv_icmp_ge (tgt := 44) hx hb dX11_keep_18 (by decide) (fun c234 => ?_) (fun c234 => ?_)
      · exact absurd c234 (by decide)
      clear c234
      refine lv_aload_n hx hb dX11_keep_21 rfl (lv_at hl 1 rfl) ?_
      refine va_get (D := (dC, dI)) (ci := 11) (v := .ref m44) (C := RX11) (T := TX11) (N := 46) hx hb hts hi_X11 hown hK hP 0 rfl rfl 44 (by decide) (hts (.fieldLink RX11 89 "LeftQuillsModel" "images" "[I") (by decide +kernel)) (fun _ h9 => h9) rfl dX11_keep_22 ?_
      refine lv_bipush (v := 35) hx hb dX11_keep_25 (by decide) ?_
      refine lv_iload_n hx hb dX11_keep_27 rfl (lv_at hl 2 rfl) ?_
      refine lv_imul hx hb dX11_keep_28 ?_
      refine lv_topi (fun z235 ez235 => ?_)
      obtain rfl : z235 = 35 := ez235.trans (by decide)
      refine lv_iload_n hx hb dX11_keep_29 rfl (lv_at hl 0 rfl) ?_
      refine lv_iadd hx hb dX11_keep_30 ?_
      refine lv_topi (fun z236 ez236 => ?_)
      obtain rfl : z236 = 56 := ez236.trans (by decide)
      refine lv_aload_n hx hb dX11_keep_31 rfl (lv_at hl 1 rfl) ?_
      refine va_get (D := (dC, dI)) (ci := 11) (v := .ref m10) (C := RX11) (T := TX11) (N := 46) hx hb hts hi_X11 hown hK hP 0 rfl rfl 10 (by decide) (hts (.fieldLink RX11 28 "LeftQuillsModel" "now" "[I") (by decide +kernel)) (fun _ h9 => h9) rfl dX11_keep_32 ?_
      refine lv_iload_n hx hb dX11_keep_35 rfl (lv_at hl 0 rfl) ?_
      refine va_iald hx hb hK hP 1 0 rfl rfl (vp_in_iff.mpr ⟨by decide, by decide⟩) dX11_keep_36 ?_
      refine W.eq (g2 := F0 m 37 ls (.int 0 :: [.int 56, .ref m44])) rfl ?_
      refine va_iast hx hb hK hP hD hS 2 0 rfl rfl (vp_in_iff.mpr ⟨by decide, by decide⟩) dX11_keep_37 (fun H locs hP hD hS => ?_)
      rw [x_upd0] at hP hD
      have hP : va_P (dC, dI) vwCl [(h0, .inr (11, [.int 0, .int 0, .int 0, .ref m3, .ref m4, .ref m5, .int 0, .ref m7, .ref m8, .ref m9, .ref m10, .int 0, .ref m12, .int 0, .int (-1), .int 0, .int 0, .int 0, .ref m18, .int 0, .ref m20, .ref m21, .ref m22, .ref m23, .ref m24, .int 0, .ref m26, .ref m27, .ref m28, .int 0, .ref m30, .int 0, .int 0, .ref m33, .int 0, .int 0, .ref m36, .int 0, .ref m38, .ref m39, .ref m40, .int 0, .ref m42, .ref m43, .ref m44, .ref m45])), (m10, .inl (cI, 34, .inl (fun _ => 0))), (m44, .inl (cI, 70, .inl (fun _ => 0))), (m45, .inl (cZ, 2, .inl (fun _ => 0)))] H := hP
      have hD : va_D A [(h0, .inr (11, [.int 0, .int 0, .int 0, .ref m3, .ref m4, .ref m5, .int 0, .ref m7, .ref m8, .ref m9, .ref m10, .int 0, .ref m12, .int 0, .int (-1), .int 0, .int 0, .int 0, .ref m18, .int 0, .ref m20, .ref m21, .ref m22, .ref m23, .ref m24, .int 0, .ref m26, .ref m27, .ref m28, .int 0, .ref m30, .int 0, .int 0, .ref m33, .int 0, .int 0, .ref m36, .int 0, .ref m38, .ref m39, .ref m40, .int 0, .ref m42, .ref m43, .ref m44, .ref m45])), (m10, .inl (cI, 34, .inl (fun _ => 0))), (m44, .inl (cI, 70, .inl (fun _ => 0))), (m45, .inl (cZ, 2, .inl (fun _ => 0)))] := hD
      refine lv_iinc (v := 22) (lv' := [(2, .int 22), (0, .ref h0), (1, .int 1)]) hx hb dX11_keep_38 hl (k := 0) rfl (by decide) (by decide) rfl (fun ls hl => ?_)
      refine lv_goto (tgt := 15) hx hb dX11_keep_41 (by decide) ?_
      refine lv_iload_n hx hb dX11_keep_15 rfl (lv_at hl 0 rfl) ?_
      refine lv_bipush (v := 34) hx hb dX11_keep_16 (by decide) ?_
      refine lv_icmp_ge (tgt := 44) hx hb dX11_keep_18 (by decide) (fun c238 => ?_) (fun c238 => ?_)
      · exact absurd c238 (by decide)
      clear c238
      refine lv_aload_n hx hb dX11_keep_21 rfl (lv_at hl 1 rfl) ?_
      refine va_get (D := (dC, dI)) (ci := 11) (v := .ref m44) (C := RX11) (T := TX11) (N := 46) hx hb hts hi_X11 hown hK hP 0 rfl rfl 44 (by decide) (hts (.fieldLink RX11 89 "LeftQuillsModel" "images" "[I") (by decide +kernel)) (fun _ h9 => h9) rfl dX11_keep_22 ?_
      refine lv_bipush (v := 35) hx hb dX11_keep_25 (by decide) ?_
      refine lv_iload_n hx hb dX11_keep_27 rfl (lv_at hl 2 rfl) ?_
      refine lv_imul hx hb dX11_keep_28 ?_
      refine lv_topi (fun z239 ez239 => ?_)
      obtain rfl : z239 = 35 := ez239.trans (by decide)
      refine lv_iload_n hx hb dX11_keep_29 rfl (lv_at hl 0 rfl) ?_
      refine lv_iadd hx hb dX11_keep_30 ?_
      refine lv_topi (fun z240 ez240 => ?_)
      obtain rfl : z240 = 57 := ez240.trans (by decide)
      refine lv_aload_n hx hb dX11_keep_31 rfl (lv_at hl 1 rfl) ?_
      refine va_get (D := (dC, dI)) (ci := 11) (v := .ref m10) (C := RX11) (T := TX11) (N := 46) hx hb hts hi_X11 hown hK hP 0 rfl rfl 10 (by decide) (hts (.fieldLink RX11 28 "LeftQuillsModel" "now" "[I") (by decide +kernel)) (fun _ h9 => h9) rfl dX11_keep_32 ?_
      refine lv_iload_n hx hb dX11_keep_35 rfl (lv_at hl 0 rfl) ?_
      refine va_iald hx hb hK hP 1 0 rfl rfl (vp_in_iff.mpr ⟨by decide, by decide⟩) dX11_keep_36 ?_
      refine W.eq (g2 := F0 m 37 ls (.int 0 :: [.int 57, .ref m44])) rfl ?_
      refine va_iast hx hb hK hP hD hS 2 0 rfl rfl (vp_in_iff.mpr ⟨by decide, by decide⟩) dX11_keep_37 (fun H locs hP hD hS => ?_)
      rw [x_upd0] at hP hD
      have hP : va_P (dC, dI) vwCl [(h0, .inr (11, [.int 0, .int 0, .int 0, .ref m3, .ref m4, .ref m5, .int 0, .ref m7, .ref m8, .ref m9, .ref m10, .int 0, .ref m12, .int 0, .int (-1), .int 0, .int 0, .int 0, .ref m18, .int 0, .ref m20, .ref m21, .ref m22, .ref m23, .ref m24, .int 0, .ref m26, .ref m27, .ref m28, .int 0, .ref m30, .int 0, .int 0, .ref m33, .int 0, .int 0, .ref m36, .int 0, .ref m38, .ref m39, .ref m40, .int 0, .ref m42, .ref m43, .ref m44, .ref m45])), (m10, .inl (cI, 34, .inl (fun _ => 0))), (m44, .inl (cI, 70, .inl (fun _ => 0))), (m45, .inl (cZ, 2, .inl (fun _ => 0)))] H := hP
      have hD : va_D A [(h0, .inr (11, [.int 0, .int 0, .int 0, .ref m3, .ref m4, .ref m5, .int 0, .ref m7, .ref m8, .ref m9, .ref m10, .int 0, .ref m12, .int 0, .int (-1), .int 0, .int 0, .int 0, .ref m18, .int 0, .ref m20, .ref m21, .ref m22, .ref m23, .ref m24, .int 0, .ref m26, .ref m27, .ref m28, .int 0, .ref m30, .int 0, .int 0, .ref m33, .int 0, .int 0, .ref m36, .int 0, .ref m38, .ref m39, .ref m40, .int 0, .ref m42, .ref m43, .ref m44, .ref m45])), (m10, .inl (cI, 34, .inl (fun _ => 0))), (m44, .inl (cI, 70, .inl (fun _ => 0))), (m45, .inl (cZ, 2, .inl (fun _ => 0)))] := hD
      refine lv_iinc (v := 23) (lv' := [(2, .int 23), (0, .ref h0), (1, .int 1)]) hx hb dX11_keep_38 hl (k := 0) rfl (by decide) (by decide) rfl (fun ls hl => ?_)
      refine lv_goto (tgt := 15) hx hb dX11_keep_41 (by decide) ?_
      refine lv_iload_n hx hb dX11_keep_15 rfl (lv_at hl 0 rfl) ?_
      refine lv_bipush (v := 34) hx hb dX11_keep_16 (by decide) ?_
      refine lv_icmp_ge (tgt := 44) hx hb dX11_keep_18 (by decide) (fun c242 => ?_) (fun c242 => ?_)
      · exact absurd c242 (by decide)
      clear c242
      refine lv_aload_n hx hb dX11_keep_21 rfl (lv_at hl 1 rfl) ?_
      refine va_get (D := (dC, dI)) (ci := 11) (v := .ref m44) (C := RX11) (T := TX11) (N := 46) hx hb hts hi_X11 hown hK hP 0 rfl rfl 44 (by decide) (hts (.fieldLink RX11 89 "LeftQuillsModel" "images" "[I") (by decide +kernel)) (fun _ h9 => h9) rfl dX11_keep_22 ?_
      refine lv_bipush (v := 35) hx hb dX11_keep_25 (by decide) ?_
      refine lv_iload_n hx hb dX11_keep_27 rfl (lv_at hl 2 rfl) ?_
      refine lv_imul hx hb dX11_keep_28 ?_
      refine lv_topi (fun z243 ez243 => ?_)
      obtain rfl : z243 = 35 := ez243.trans (by decide)
      refine lv_iload_n hx hb dX11_keep_29 rfl (lv_at hl 0 rfl) ?_
      refine lv_iadd hx hb dX11_keep_30 ?_
      refine lv_topi (fun z244 ez244 => ?_)
      obtain rfl : z244 = 58 := ez244.trans (by decide)
      refine lv_aload_n hx hb dX11_keep_31 rfl (lv_at hl 1 rfl) ?_
      refine va_get (D := (dC, dI)) (ci := 11) (v := .ref m10) (C := RX11) (T := TX11) (N := 46) hx hb hts hi_X11 hown hK hP 0 rfl rfl 10 (by decide) (hts (.fieldLink RX11 28 "LeftQuillsModel" "now" "[I") (by decide +kernel)) (fun _ h9 => h9) rfl dX11_keep_32 ?_
      refine lv_iload_n hx hb dX11_keep_35 rfl (lv_at hl 0 rfl) ?_
      refine va_iald hx hb hK hP 1 0 rfl rfl (vp_in_iff.mpr ⟨by decide, by decide⟩) dX11_keep_36 ?_
      refine W.eq (g2 := F0 m 37 ls (.int 0 :: [.int 58, .ref m44])) rfl ?_
      refine va_iast hx hb hK hP hD hS 2 0 rfl rfl (vp_in_iff.mpr ⟨by decide, by decide⟩) dX11_keep_37 (fun H locs hP hD hS => ?_)
      rw [x_upd0] at hP hD
      have hP : va_P (dC, dI) vwCl [(h0, .inr (11, [.int 0, .int 0, .int 0, .ref m3, .ref m4, .ref m5, .int 0, .ref m7, .ref m8, .ref m9, .ref m10, .int 0, .ref m12, .int 0, .int (-1), .int 0, .int 0, .int 0, .ref m18, .int 0, .ref m20, .ref m21, .ref m22, .ref m23, .ref m24, .int 0, .ref m26, .ref m27, .ref m28, .int 0, .ref m30, .int 0, .int 0, .ref m33, .int 0, .int 0, .ref m36, .int 0, .ref m38, .ref m39, .ref m40, .int 0, .ref m42, .ref m43, .ref m44, .ref m45])), (m10, .inl (cI, 34, .inl (fun _ => 0))), (m44, .inl (cI, 70, .inl (fun _ => 0))), (m45, .inl (cZ, 2, .inl (fun _ => 0)))] H := hP
      have hD : va_D A [(h0, .inr (11, [.int 0, .int 0, .int 0, .ref m3, .ref m4, .ref m5, .int 0, .ref m7, .ref m8, .ref m9, .ref m10, .int 0, .ref m12, .int 0, .int (-1), .int 0, .int 0, .int 0, .ref m18, .int 0, .ref m20, .ref m21, .ref m22, .ref m23, .ref m24, .int 0, .ref m26, .ref m27, .ref m28, .int 0, .ref m30, .int 0, .int 0, .ref m33, .int 0, .int 0, .ref m36, .int 0, .ref m38, .ref m39, .ref m40, .int 0, .ref m42, .ref m43, .ref m44, .ref m45])), (m10, .inl (cI, 34, .inl (fun _ => 0))), (m44, .inl (cI, 70, .inl (fun _ => 0))), (m45, .inl (cZ, 2, .inl (fun _ => 0)))] := hD
      refine lv_iinc (v := 24) (lv' := [(2, .int 24), (0, .ref h0), (1, .int 1)]) hx hb dX11_keep_38 hl (k := 0) rfl (by decide) (by decide) rfl (fun ls hl => ?_)
      refine lv_goto (tgt := 15) hx hb dX11_keep_41 (by decide) ?_
      refine lv_iload_n hx hb dX11_keep_15 rfl (lv_at hl 0 rfl) ?_
      refine lv_bipush (v := 34) hx hb dX11_keep_16 (by decide) ?_
      refine lv_icmp_ge (tgt := 44) hx hb dX11_keep_18 (by decide) (fun c246 => ?_) (fun c246 => ?_)
      · exact absurd c246 (by decide)
      clear c246
      refine lv_aload_n hx hb dX11_keep_21 rfl (lv_at hl 1 rfl) ?_
      refine va_get (D := (dC, dI)) (ci := 11) (v := .ref m44) (C := RX11) (T := TX11) (N := 46) hx hb hts hi_X11 hown hK hP 0 rfl rfl 44 (by decide) (hts (.fieldLink RX11 89 "LeftQuillsModel" "images" "[I") (by decide +kernel)) (fun _ h9 => h9) rfl dX11_keep_22 ?_
      refine lv_bipush (v := 35) hx hb dX11_keep_25 (by decide) ?_
      refine lv_iload_n hx hb dX11_keep_27 rfl (lv_at hl 2 rfl) ?_
      refine lv_imul hx hb dX11_keep_28 ?_
      refine lv_topi (fun z247 ez247 => ?_)
      obtain rfl : z247 = 35 := ez247.trans (by decide)
      refine lv_iload_n hx hb dX11_keep_29 rfl (lv_at hl 0 rfl) ?_
      refine lv_iadd hx hb dX11_keep_30 ?_
      refine lv_topi (fun z248 ez248 => ?_)
      obtain rfl : z248 = 59 := ez248.trans (by decide)
      refine lv_aload_n hx hb dX11_keep_31 rfl (lv_at hl 1 rfl) ?_
      refine va_get (D := (dC, dI)) (ci := 11) (v := .ref m10) (C := RX11) (T := TX11) (N := 46) hx hb hts hi_X11 hown hK hP 0 rfl rfl 10 (by decide) (hts (.fieldLink RX11 28 "LeftQuillsModel" "now" "[I") (by decide +kernel)) (fun _ h9 => h9) rfl dX11_keep_32 ?_
      refine lv_iload_n hx hb dX11_keep_35 rfl (lv_at hl 0 rfl) ?_
      refine va_iald hx hb hK hP 1 0 rfl rfl (vp_in_iff.mpr ⟨by decide, by decide⟩) dX11_keep_36 ?_
      refine W.eq (g2 := F0 m 37 ls (.int 0 :: [.int 59, .ref m44])) rfl ?_
      refine va_iast hx hb hK hP hD hS 2 0 rfl rfl (vp_in_iff.mpr ⟨by decide, by decide⟩) dX11_keep_37 (fun H locs hP hD hS => ?_)
      rw [x_upd0] at hP hD
      have hP : va_P (dC, dI) vwCl [(h0, .inr (11, [.int 0, .int 0, .int 0, .ref m3, .ref m4, .ref m5, .int 0, .ref m7, .ref m8, .ref m9, .ref m10, .int 0, .ref m12, .int 0, .int (-1), .int 0, .int 0, .int 0, .ref m18, .int 0, .ref m20, .ref m21, .ref m22, .ref m23, .ref m24, .int 0, .ref m26, .ref m27, .ref m28, .int 0, .ref m30, .int 0, .int 0, .ref m33, .int 0, .int 0, .ref m36, .int 0, .ref m38, .ref m39, .ref m40, .int 0, .ref m42, .ref m43, .ref m44, .ref m45])), (m10, .inl (cI, 34, .inl (fun _ => 0))), (m44, .inl (cI, 70, .inl (fun _ => 0))), (m45, .inl (cZ, 2, .inl (fun _ => 0)))] H := hP
      have hD : va_D A [(h0, .inr (11, [.int 0, .int 0, .int 0, .ref m3, .ref m4, .ref m5, .int 0, .ref m7, .ref m8, .ref m9, .ref m10, .int 0, .ref m12, .int 0, .int (-1), .int 0, .int 0, .int 0, .ref m18, .int 0, .ref m20, .ref m21, .ref m22, .ref m23, .ref m24, .int 0, .ref m26, .ref m27, .ref m28, .int 0, .ref m30, .int 0, .int 0, .ref m33, .int 0, .int 0, .ref m36, .int 0, .ref m38, .ref m39, .ref m40, .int 0, .ref m42, .ref m43, .ref m44, .ref m45])), (m10, .inl (cI, 34, .inl (fun _ => 0))), (m44, .inl (cI, 70, .inl (fun _ => 0))), (m45, .inl (cZ, 2, .inl (fun _ => 0)))] := hD
      refine lv_iinc (v := 25) (lv' := [(2, .int 25), (0, .ref h0), (1, .int 1)]) hx hb dX11_keep_38 hl (k := 0) rfl (by decide) (by decide) rfl (fun ls hl => ?_)
      refine lv_goto (tgt := 15) hx hb dX11_keep_41 (by decide) ?_
      refine lv_iload_n hx hb dX11_keep_15 rfl (lv_at hl 0 rfl) ?_
      refine lv_bipush (v := 34) hx hb dX11_keep_16 (by decide) ?_
      refine lv_icmp_ge (tgt := 44) hx hb dX11_keep_18 (by decide) (fun c250 => ?_) (fun c250 => ?_)
      · exact absurd c250 (by decide)
      clear c250
      refine lv_aload_n hx hb dX11_keep_21 rfl (lv_at hl 1 rfl) ?_
      refine va_get (D := (dC, dI)) (ci := 11) (v := .ref m44) (C := RX11) (T := TX11) (N := 46) hx hb hts hi_X11 hown hK hP 0 rfl rfl 44 (by decide) (hts (.fieldLink RX11 89 "LeftQuillsModel" "images" "[I") (by decide +kernel)) (fun _ h9 => h9) rfl dX11_keep_22 ?_
      refine lv_bipush (v := 35) hx hb dX11_keep_25 (by decide) ?_
      refine lv_iload_n hx hb dX11_keep_27 rfl (lv_at hl 2 rfl) ?_
      refine lv_imul hx hb dX11_keep_28 ?_
      refine lv_topi (fun z251 ez251 => ?_)
      obtain rfl : z251 = 35 := ez251.trans (by decide)
      refine lv_iload_n hx hb dX11_keep_29 rfl (lv_at hl 0 rfl) ?_
      refine lv_iadd hx hb dX11_keep_30 ?_
      refine lv_topi (fun z252 ez252 => ?_)
      obtain rfl : z252 = 60 := ez252.trans (by decide)
      refine lv_aload_n hx hb dX11_keep_31 rfl (lv_at hl 1 rfl) ?_
      refine va_get (D := (dC, dI)) (ci := 11) (v := .ref m10) (C := RX11) (T := TX11) (N := 46) hx hb hts hi_X11 hown hK hP 0 rfl rfl 10 (by decide) (hts (.fieldLink RX11 28 "LeftQuillsModel" "now" "[I") (by decide +kernel)) (fun _ h9 => h9) rfl dX11_keep_32 ?_
      refine lv_iload_n hx hb dX11_keep_35 rfl (lv_at hl 0 rfl) ?_
      refine va_iald hx hb hK hP 1 0 rfl rfl (vp_in_iff.mpr ⟨by decide, by decide⟩) dX11_keep_36 ?_
      refine W.eq (g2 := F0 m 37 ls (.int 0 :: [.int 60, .ref m44])) rfl ?_
      refine va_iast hx hb hK hP hD hS 2 0 rfl rfl (vp_in_iff.mpr ⟨by decide, by decide⟩) dX11_keep_37 (fun H locs hP hD hS => ?_)
      rw [x_upd0] at hP hD
      have hP : va_P (dC, dI) vwCl [(h0, .inr (11, [.int 0, .int 0, .int 0, .ref m3, .ref m4, .ref m5, .int 0, .ref m7, .ref m8, .ref m9, .ref m10, .int 0, .ref m12, .int 0, .int (-1), .int 0, .int 0, .int 0, .ref m18, .int 0, .ref m20, .ref m21, .ref m22, .ref m23, .ref m24, .int 0, .ref m26, .ref m27, .ref m28, .int 0, .ref m30, .int 0, .int 0, .ref m33, .int 0, .int 0, .ref m36, .int 0, .ref m38, .ref m39, .ref m40, .int 0, .ref m42, .ref m43, .ref m44, .ref m45])), (m10, .inl (cI, 34, .inl (fun _ => 0))), (m44, .inl (cI, 70, .inl (fun _ => 0))), (m45, .inl (cZ, 2, .inl (fun _ => 0)))] H := hP
      have hD : va_D A [(h0, .inr (11, [.int 0, .int 0, .int 0, .ref m3, .ref m4, .ref m5, .int 0, .ref m7, .ref m8, .ref m9, .ref m10, .int 0, .ref m12, .int 0, .int (-1), .int 0, .int 0, .int 0, .ref m18, .int 0, .ref m20, .ref m21, .ref m22, .ref m23, .ref m24, .int 0, .ref m26, .ref m27, .ref m28, .int 0, .ref m30, .int 0, .int 0, .ref m33, .int 0, .int 0, .ref m36, .int 0, .ref m38, .ref m39, .ref m40, .int 0, .ref m42, .ref m43, .ref m44, .ref m45])), (m10, .inl (cI, 34, .inl (fun _ => 0))), (m44, .inl (cI, 70, .inl (fun _ => 0))), (m45, .inl (cZ, 2, .inl (fun _ => 0)))] := hD
      refine lv_iinc (v := 26) (lv' := [(2, .int 26), (0, .ref h0), (1, .int 1)]) hx hb dX11_keep_38 hl (k := 0) rfl (by decide) (by decide) rfl (fun ls hl => ?_)
      refine lv_goto (tgt := 15) hx hb dX11_keep_41 (by decide) ?_
      refine lv_iload_n hx hb dX11_keep_15 rfl (lv_at hl 0 rfl) ?_
      refine lv_bipush (v := 34) hx hb dX11_keep_16 (by decide) ?_
      refine lv_icmp_ge (tgt := 44) hx hb dX11_keep_18 (by decide) (fun c254 => ?_) (fun c254 => ?_)
      · exact absurd c254 (by decide)
      clear c254
      refine lv_aload_n hx hb dX11_keep_21 rfl (lv_at hl 1 rfl) ?_
      refine va_get (D := (dC, dI)) (ci := 11) (v := .ref m44) (C := RX11) (T := TX11) (N := 46) hx hb hts hi_X11 hown hK hP 0 rfl rfl 44 (by decide) (hts (.fieldLink RX11 89 "LeftQuillsModel" "images" "[I") (by decide +kernel)) (fun _ h9 => h9) rfl dX11_keep_22 ?_
      refine lv_bipush (v := 35) hx hb dX11_keep_25 (by decide) ?_
      refine lv_iload_n hx hb dX11_keep_27 rfl (lv_at hl 2 rfl) ?_
      refine lv_imul hx hb dX11_keep_28 ?_
      refine lv_topi (fun z255 ez255 => ?_)
      obtain rfl : z255 = 35 := ez255.trans (by decide)
      refine lv_iload_n hx hb dX11_keep_29 rfl (lv_at hl 0 rfl) ?_
      refine lv_iadd hx hb dX11_keep_30 ?_
      refine lv_topi (fun z256 ez256 => ?_)
      obtain rfl : z256 = 61 := ez256.trans (by decide)
      refine lv_aload_n hx hb dX11_keep_31 rfl (lv_at hl 1 rfl) ?_
      refine va_get (D := (dC, dI)) (ci := 11) (v := .ref m10) (C := RX11) (T := TX11) (N := 46) hx hb hts hi_X11 hown hK hP 0 rfl rfl 10 (by decide) (hts (.fieldLink RX11 28 "LeftQuillsModel" "now" "[I") (by decide +kernel)) (fun _ h9 => h9) rfl dX11_keep_32 ?_
      refine lv_iload_n hx hb dX11_keep_35 rfl (lv_at hl 0 rfl) ?_
      refine va_iald hx hb hK hP 1 0 rfl rfl (vp_in_iff.mpr ⟨by decide, by decide⟩) dX11_keep_36 ?_
      refine W.eq (g2 := F0 m 37 ls (.int 0 :: [.int 61, .ref m44])) rfl ?_
      refine va_iast hx hb hK hP hD hS 2 0 rfl rfl (vp_in_iff.mpr ⟨by decide, by decide⟩) dX11_keep_37 (fun H locs hP hD hS => ?_)
      rw [x_upd0] at hP hD
      have hP : va_P (dC, dI) vwCl [(h0, .inr (11, [.int 0, .int 0, .int 0, .ref m3, .ref m4, .ref m5, .int 0, .ref m7, .ref m8, .ref m9, .ref m10, .int 0, .ref m12, .int 0, .int (-1), .int 0, .int 0, .int 0, .ref m18, .int 0, .ref m20, .ref m21, .ref m22, .ref m23, .ref m24, .int 0, .ref m26, .ref m27, .ref m28, .int 0, .ref m30, .int 0, .int 0, .ref m33, .int 0, .int 0, .ref m36, .int 0, .ref m38, .ref m39, .ref m40, .int 0, .ref m42, .ref m43, .ref m44, .ref m45])), (m10, .inl (cI, 34, .inl (fun _ => 0))), (m44, .inl (cI, 70, .inl (fun _ => 0))), (m45, .inl (cZ, 2, .inl (fun _ => 0)))] H := hP
      have hD : va_D A [(h0, .inr (11, [.int 0, .int 0, .int 0, .ref m3, .ref m4, .ref m5, .int 0, .ref m7, .ref m8, .ref m9, .ref m10, .int 0, .ref m12, .int 0, .int (-1), .int 0, .int 0, .int 0, .ref m18, .int 0, .ref m20, .ref m21, .ref m22, .ref m23, .ref m24, .int 0, .ref m26, .ref m27, .ref m28, .int 0, .ref m30, .int 0, .int 0, .ref m33, .int 0, .int 0, .ref m36, .int 0, .ref m38, .ref m39, .ref m40, .int 0, .ref m42, .ref m43, .ref m44, .ref m45])), (m10, .inl (cI, 34, .inl (fun _ => 0))), (m44, .inl (cI, 70, .inl (fun _ => 0))), (m45, .inl (cZ, 2, .inl (fun _ => 0)))] := hD
      refine lv_iinc (v := 27) (lv' := [(2, .int 27), (0, .ref h0), (1, .int 1)]) hx hb dX11_keep_38 hl (k := 0) rfl (by decide) (by decide) rfl (fun ls hl => ?_)
      refine lv_goto (tgt := 15) hx hb dX11_keep_41 (by decide) ?_
      refine lv_iload_n hx hb dX11_keep_15 rfl (lv_at hl 0 rfl) ?_
      refine lv_bipush (v := 34) hx hb dX11_keep_16 (by decide) ?_
      refine lv_icmp_ge (tgt := 44) hx hb dX11_keep_18 (by decide) (fun c258 => ?_) (fun c258 => ?_)
      · exact absurd c258 (by decide)
      clear c258
      refine lv_aload_n hx hb dX11_keep_21 rfl (lv_at hl 1 rfl) ?_
      refine va_get (D := (dC, dI)) (ci := 11) (v := .ref m44) (C := RX11) (T := TX11) (N := 46) hx hb hts hi_X11 hown hK hP 0 rfl rfl 44 (by decide) (hts (.fieldLink RX11 89 "LeftQuillsModel" "images" "[I") (by decide +kernel)) (fun _ h9 => h9) rfl dX11_keep_22 ?_
      refine lv_bipush (v := 35) hx hb dX11_keep_25 (by decide) ?_
      refine lv_iload_n hx hb dX11_keep_27 rfl (lv_at hl 2 rfl) ?_
      refine lv_imul hx hb dX11_keep_28 ?_
      refine lv_topi (fun z259 ez259 => ?_)
      obtain rfl : z259 = 35 := ez259.trans (by decide)
      refine lv_iload_n hx hb dX11_keep_29 rfl (lv_at hl 0 rfl) ?_
      refine lv_iadd hx hb dX11_keep_30 ?_
      refine lv_topi (fun z260 ez260 => ?_)
      obtain rfl : z260 = 62 := ez260.trans (by decide)
      refine lv_aload_n hx hb dX11_keep_31 rfl (lv_at hl 1 rfl) ?_
      refine va_get (D := (dC, dI)) (ci := 11) (v := .ref m10) (C := RX11) (T := TX11) (N := 46) hx hb hts hi_X11 hown hK hP 0 rfl rfl 10 (by decide) (hts (.fieldLink RX11 28 "LeftQuillsModel" "now" "[I") (by decide +kernel)) (fun _ h9 => h9) rfl dX11_keep_32 ?_
      refine lv_iload_n hx hb dX11_keep_35 rfl (lv_at hl 0 rfl) ?_
      refine va_iald hx hb hK hP 1 0 rfl rfl (vp_in_iff.mpr ⟨by decide, by decide⟩) dX11_keep_36 ?_
      refine W.eq (g2 := F0 m 37 ls (.int 0 :: [.int 62, .ref m44])) rfl ?_
      refine va_iast hx hb hK hP hD hS 2 0 rfl rfl (vp_in_iff.mpr ⟨by decide, by decide⟩) dX11_keep_37 (fun H locs hP hD hS => ?_)
      rw [x_upd0] at hP hD
      have hP : va_P (dC, dI) vwCl [(h0, .inr (11, [.int 0, .int 0, .int 0, .ref m3, .ref m4, .ref m5, .int 0, .ref m7, .ref m8, .ref m9, .ref m10, .int 0, .ref m12, .int 0, .int (-1), .int 0, .int 0, .int 0, .ref m18, .int 0, .ref m20, .ref m21, .ref m22, .ref m23, .ref m24, .int 0, .ref m26, .ref m27, .ref m28, .int 0, .ref m30, .int 0, .int 0, .ref m33, .int 0, .int 0, .ref m36, .int 0, .ref m38, .ref m39, .ref m40, .int 0, .ref m42, .ref m43, .ref m44, .ref m45])), (m10, .inl (cI, 34, .inl (fun _ => 0))), (m44, .inl (cI, 70, .inl (fun _ => 0))), (m45, .inl (cZ, 2, .inl (fun _ => 0)))] H := hP
      have hD : va_D A [(h0, .inr (11, [.int 0, .int 0, .int 0, .ref m3, .ref m4, .ref m5, .int 0, .ref m7, .ref m8, .ref m9, .ref m10, .int 0, .ref m12, .int 0, .int (-1), .int 0, .int 0, .int 0, .ref m18, .int 0, .ref m20, .ref m21, .ref m22, .ref m23, .ref m24, .int 0, .ref m26, .ref m27, .ref m28, .int 0, .ref m30, .int 0, .int 0, .ref m33, .int 0, .int 0, .ref m36, .int 0, .ref m38, .ref m39, .ref m40, .int 0, .ref m42, .ref m43, .ref m44, .ref m45])), (m10, .inl (cI, 34, .inl (fun _ => 0))), (m44, .inl (cI, 70, .inl (fun _ => 0))), (m45, .inl (cZ, 2, .inl (fun _ => 0)))] := hD
      refine lv_iinc (v := 28) (lv' := [(2, .int 28), (0, .ref h0), (1, .int 1)]) hx hb dX11_keep_38 hl (k := 0) rfl (by decide) (by decide) rfl (fun ls hl => ?_)
      refine lv_goto (tgt := 15) hx hb dX11_keep_41 (by decide) ?_
      refine lv_iload_n hx hb dX11_keep_15 rfl (lv_at hl 0 rfl) ?_
      refine lv_bipush (v := 34) hx hb dX11_keep_16 (by decide) ?_
      refine lv_icmp_ge (tgt := 44) hx hb dX11_keep_18 (by decide) (fun c262 => ?_) (fun c262 => ?_)
      · exact absurd c262 (by decide)
      clear c262
      refine lv_aload_n hx hb dX11_keep_21 rfl (lv_at hl 1 rfl) ?_
      refine va_get (D := (dC, dI)) (ci := 11) (v := .ref m44) (C := RX11) (T := TX11) (N := 46) hx hb hts hi_X11 hown hK hP 0 rfl rfl 44 (by decide) (hts (.fieldLink RX11 89 "LeftQuillsModel" "images" "[I") (by decide +kernel)) (fun _ h9 => h9) rfl dX11_keep_22 ?_
      refine lv_bipush (v := 35) hx hb dX11_keep_25 (by decide) ?_
      refine lv_iload_n hx hb dX11_keep_27 rfl (lv_at hl 2 rfl) ?_
      refine lv_imul hx hb dX11_keep_28 ?_
      refine lv_topi (fun z263 ez263 => ?_)
      obtain rfl : z263 = 35 := ez263.trans (by decide)
      refine lv_iload_n hx hb dX11_keep_29 rfl (lv_at hl 0 rfl) ?_
      refine lv_iadd hx hb dX11_keep_30 ?_
      refine lv_topi (fun z264 ez264 => ?_)
      obtain rfl : z264 = 63 := ez264.trans (by decide)
      refine lv_aload_n hx hb dX11_keep_31 rfl (lv_at hl 1 rfl) ?_
      refine va_get (D := (dC, dI)) (ci := 11) (v := .ref m10) (C := RX11) (T := TX11) (N := 46) hx hb hts hi_X11 hown hK hP 0 rfl rfl 10 (by decide) (hts (.fieldLink RX11 28 "LeftQuillsModel" "now" "[I") (by decide +kernel)) (fun _ h9 => h9) rfl dX11_keep_32 ?_
      refine lv_iload_n hx hb dX11_keep_35 rfl (lv_at hl 0 rfl) ?_
      refine va_iald hx hb hK hP 1 0 rfl rfl (vp_in_iff.mpr ⟨by decide, by decide⟩) dX11_keep_36 ?_
      refine W.eq (g2 := F0 m 37 ls (.int 0 :: [.int 63, .ref m44])) rfl ?_
      refine va_iast hx hb hK hP hD hS 2 0 rfl rfl (vp_in_iff.mpr ⟨by decide, by decide⟩) dX11_keep_37 (fun H locs hP hD hS => ?_)
      rw [x_upd0] at hP hD
      have hP : va_P (dC, dI) vwCl [(h0, .inr (11, [.int 0, .int 0, .int 0, .ref m3, .ref m4, .ref m5, .int 0, .ref m7, .ref m8, .ref m9, .ref m10, .int 0, .ref m12, .int 0, .int (-1), .int 0, .int 0, .int 0, .ref m18, .int 0, .ref m20, .ref m21, .ref m22, .ref m23, .ref m24, .int 0, .ref m26, .ref m27, .ref m28, .int 0, .ref m30, .int 0, .int 0, .ref m33, .int 0, .int 0, .ref m36, .int 0, .ref m38, .ref m39, .ref m40, .int 0, .ref m42, .ref m43, .ref m44, .ref m45])), (m10, .inl (cI, 34, .inl (fun _ => 0))), (m44, .inl (cI, 70, .inl (fun _ => 0))), (m45, .inl (cZ, 2, .inl (fun _ => 0)))] H := hP
      have hD : va_D A [(h0, .inr (11, [.int 0, .int 0, .int 0, .ref m3, .ref m4, .ref m5, .int 0, .ref m7, .ref m8, .ref m9, .ref m10, .int 0, .ref m12, .int 0, .int (-1), .int 0, .int 0, .int 0, .ref m18, .int 0, .ref m20, .ref m21, .ref m22, .ref m23, .ref m24, .int 0, .ref m26, .ref m27, .ref m28, .int 0, .ref m30, .int 0, .int 0, .ref m33, .int 0, .int 0, .ref m36, .int 0, .ref m38, .ref m39, .ref m40, .int 0, .ref m42, .ref m43, .ref m44, .ref m45])), (m10, .inl (cI, 34, .inl (fun _ => 0))), (m44, .inl (cI, 70, .inl (fun _ => 0))), (m45, .inl (cZ, 2, .inl (fun _ => 0)))] := hD
      refine lv_iinc (v := 29) (lv' := [(2, .int 29), (0, .ref h0), (1, .int 1)]) hx hb dX11_keep_38 hl (k := 0) rfl (by decide) (by decide) rfl (fun ls hl => ?_)
      refine lv_goto (tgt := 15) hx hb dX11_keep_41 (by decide) ?_
      refine lv_iload_n hx hb dX11_keep_15 rfl (lv_at hl 0 rfl) ?_
      refine lv_bipush (v := 34) hx hb dX11_keep_16 (by decide) ?_
      refine lv_icmp_ge (tgt := 44) hx hb dX11_keep_18 (by decide) (fun c266 => ?_) (fun c266 => ?_)
      · exact absurd c266 (by decide)
      clear c266
      refine lv_aload_n hx hb dX11_keep_21 rfl (lv_at hl 1 rfl) ?_
      refine va_get (D := (dC, dI)) (ci := 11) (v := .ref m44) (C := RX11) (T := TX11) (N := 46) hx hb hts hi_X11 hown hK hP 0 rfl rfl 44 (by decide) (hts (.fieldLink RX11 89 "LeftQuillsModel" "images" "[I") (by decide +kernel)) (fun _ h9 => h9) rfl dX11_keep_22 ?_
      refine lv_bipush (v := 35) hx hb dX11_keep_25 (by decide) ?_
      refine lv_iload_n hx hb dX11_keep_27 rfl (lv_at hl 2 rfl) ?_
      refine lv_imul hx hb dX11_keep_28 ?_
      refine lv_topi (fun z267 ez267 => ?_)
      obtain rfl : z267 = 35 := ez267.trans (by decide)
      refine lv_iload_n hx hb dX11_keep_29 rfl (lv_at hl 0 rfl) ?_
      refine lv_iadd hx hb dX11_keep_30 ?_
      refine lv_topi (fun z268 ez268 => ?_)
      obtain rfl : z268 = 64 := ez268.trans (by decide)
      refine lv_aload_n hx hb dX11_keep_31 rfl (lv_at hl 1 rfl) ?_
      refine va_get (D := (dC, dI)) (ci := 11) (v := .ref m10) (C := RX11) (T := TX11) (N := 46) hx hb hts hi_X11 hown hK hP 0 rfl rfl 10 (by decide) (hts (.fieldLink RX11 28 "LeftQuillsModel" "now" "[I") (by decide +kernel)) (fun _ h9 => h9) rfl dX11_keep_32 ?_
      refine lv_iload_n hx hb dX11_keep_35 rfl (lv_at hl 0 rfl) ?_
      refine va_iald hx hb hK hP 1 0 rfl rfl (vp_in_iff.mpr ⟨by decide, by decide⟩) dX11_keep_36 ?_
      refine W.eq (g2 := F0 m 37 ls (.int 0 :: [.int 64, .ref m44])) rfl ?_
      refine va_iast hx hb hK hP hD hS 2 0 rfl rfl (vp_in_iff.mpr ⟨by decide, by decide⟩) dX11_keep_37 (fun H locs hP hD hS => ?_)
      rw [x_upd0] at hP hD
      have hP : va_P (dC, dI) vwCl [(h0, .inr (11, [.int 0, .int 0, .int 0, .ref m3, .ref m4, .ref m5, .int 0, .ref m7, .ref m8, .ref m9, .ref m10, .int 0, .ref m12, .int 0, .int (-1), .int 0, .int 0, .int 0, .ref m18, .int 0, .ref m20, .ref m21, .ref m22, .ref m23, .ref m24, .int 0, .ref m26, .ref m27, .ref m28, .int 0, .ref m30, .int 0, .int 0, .ref m33, .int 0, .int 0, .ref m36, .int 0, .ref m38, .ref m39, .ref m40, .int 0, .ref m42, .ref m43, .ref m44, .ref m45])), (m10, .inl (cI, 34, .inl (fun _ => 0))), (m44, .inl (cI, 70, .inl (fun _ => 0))), (m45, .inl (cZ, 2, .inl (fun _ => 0)))] H := hP
      have hD : va_D A [(h0, .inr (11, [.int 0, .int 0, .int 0, .ref m3, .ref m4, .ref m5, .int 0, .ref m7, .ref m8, .ref m9, .ref m10, .int 0, .ref m12, .int 0, .int (-1), .int 0, .int 0, .int 0, .ref m18, .int 0, .ref m20, .ref m21, .ref m22, .ref m23, .ref m24, .int 0, .ref m26, .ref m27, .ref m28, .int 0, .ref m30, .int 0, .int 0, .ref m33, .int 0, .int 0, .ref m36, .int 0, .ref m38, .ref m39, .ref m40, .int 0, .ref m42, .ref m43, .ref m44, .ref m45])), (m10, .inl (cI, 34, .inl (fun _ => 0))), (m44, .inl (cI, 70, .inl (fun _ => 0))), (m45, .inl (cZ, 2, .inl (fun _ => 0)))] := hD
      refine lv_iinc (v := 30) (lv' := [(2, .int 30), (0, .ref h0), (1, .int 1)]) hx hb dX11_keep_38 hl (k := 0) rfl (by decide) (by decide) rfl (fun ls hl => ?_)
      refine lv_goto (tgt := 15) hx hb dX11_keep_41 (by decide) ?_
      refine lv_iload_n hx hb dX11_keep_15 rfl (lv_at hl 0 rfl) ?_
      refine lv_bipush (v := 34) hx hb dX11_keep_16 (by decide) ?_
      refine lv_icmp_ge (tgt := 44) hx hb dX11_keep_18 (by decide) (fun c270 => ?_) (fun c270 => ?_)
      · exact absurd c270 (by decide)
      clear c270
      refine lv_aload_n hx hb dX11_keep_21 rfl (lv_at hl 1 rfl) ?_
      refine va_get (D := (dC, dI)) (ci := 11) (v := .ref m44) (C := RX11) (T := TX11) (N := 46) hx hb hts hi_X11 hown hK hP 0 rfl rfl 44 (by decide) (hts (.fieldLink RX11 89 "LeftQuillsModel" "images" "[I") (by decide +kernel)) (fun _ h9 => h9) rfl dX11_keep_22 ?_
      refine lv_bipush (v := 35) hx hb dX11_keep_25 (by decide) ?_
      refine lv_iload_n hx hb dX11_keep_27 rfl (lv_at hl 2 rfl) ?_
      refine lv_imul hx hb dX11_keep_28 ?_
      refine lv_topi (fun z271 ez271 => ?_)
      obtain rfl : z271 = 35 := ez271.trans (by decide)
      refine lv_iload_n hx hb dX11_keep_29 rfl (lv_at hl 0 rfl) ?_
      refine lv_iadd hx hb dX11_keep_30 ?_
      refine lv_topi (fun z272 ez272 => ?_)
      obtain rfl : z272 = 65 := ez272.trans (by decide)
      refine lv_aload_n hx hb dX11_keep_31 rfl (lv_at hl 1 rfl) ?_
      refine va_get (D := (dC, dI)) (ci := 11) (v := .ref m10) (C := RX11) (T := TX11) (N := 46) hx hb hts hi_X11 hown hK hP 0 rfl rfl 10 (by decide) (hts (.fieldLink RX11 28 "LeftQuillsModel" "now" "[I") (by decide +kernel)) (fun _ h9 => h9) rfl dX11_keep_32 ?_
      refine lv_iload_n hx hb dX11_keep_35 rfl (lv_at hl 0 rfl) ?_
      refine va_iald hx hb hK hP 1 0 rfl rfl (vp_in_iff.mpr ⟨by decide, by decide⟩) dX11_keep_36 ?_
      refine W.eq (g2 := F0 m 37 ls (.int 0 :: [.int 65, .ref m44])) rfl ?_
      refine va_iast hx hb hK hP hD hS 2 0 rfl rfl (vp_in_iff.mpr ⟨by decide, by decide⟩) dX11_keep_37 (fun H locs hP hD hS => ?_)
      rw [x_upd0] at hP hD
      have hP : va_P (dC, dI) vwCl [(h0, .inr (11, [.int 0, .int 0, .int 0, .ref m3, .ref m4, .ref m5, .int 0, .ref m7, .ref m8, .ref m9, .ref m10, .int 0, .ref m12, .int 0, .int (-1), .int 0, .int 0, .int 0, .ref m18, .int 0, .ref m20, .ref m21, .ref m22, .ref m23, .ref m24, .int 0, .ref m26, .ref m27, .ref m28, .int 0, .ref m30, .int 0, .int 0, .ref m33, .int 0, .int 0, .ref m36, .int 0, .ref m38, .ref m39, .ref m40, .int 0, .ref m42, .ref m43, .ref m44, .ref m45])), (m10, .inl (cI, 34, .inl (fun _ => 0))), (m44, .inl (cI, 70, .inl (fun _ => 0))), (m45, .inl (cZ, 2, .inl (fun _ => 0)))] H := hP
      have hD : va_D A [(h0, .inr (11, [.int 0, .int 0, .int 0, .ref m3, .ref m4, .ref m5, .int 0, .ref m7, .ref m8, .ref m9, .ref m10, .int 0, .ref m12, .int 0, .int (-1), .int 0, .int 0, .int 0, .ref m18, .int 0, .ref m20, .ref m21, .ref m22, .ref m23, .ref m24, .int 0, .ref m26, .ref m27, .ref m28, .int 0, .ref m30, .int 0, .int 0, .ref m33, .int 0, .int 0, .ref m36, .int 0, .ref m38, .ref m39, .ref m40, .int 0, .ref m42, .ref m43, .ref m44, .ref m45])), (m10, .inl (cI, 34, .inl (fun _ => 0))), (m44, .inl (cI, 70, .inl (fun _ => 0))), (m45, .inl (cZ, 2, .inl (fun _ => 0)))] := hD
      refine lv_iinc (v := 31) (lv' := [(2, .int 31), (0, .ref h0), (1, .int 1)]) hx hb dX11_keep_38 hl (k := 0) rfl (by decide) (by decide) rfl (fun ls hl => ?_)
      refine lv_goto (tgt := 15) hx hb dX11_keep_41 (by decide) ?_
      refine lv_iload_n hx hb dX11_keep_15 rfl (lv_at hl 0 rfl) ?_
      refine lv_bipush (v := 34) hx hb dX11_keep_16 (by decide) ?_
      refine lv_icmp_ge (tgt := 44) hx hb dX11_keep_18 (by decide) (fun c274 => ?_) (fun c274 => ?_)
      · exact absurd c274 (by decide)
      clear c274
      refine lv_aload_n hx hb dX11_keep_21 rfl (lv_at hl 1 rfl) ?_
      refine va_get (D := (dC, dI)) (ci := 11) (v := .ref m44) (C := RX11) (T := TX11) (N := 46) hx hb hts hi_X11 hown hK hP 0 rfl rfl 44 (by decide) (hts (.fieldLink RX11 89 "LeftQuillsModel" "images" "[I") (by decide +kernel)) (fun _ h9 => h9) rfl dX11_keep_22 ?_
      refine lv_bipush (v := 35) hx hb dX11_keep_25 (by decide) ?_
      refine lv_iload_n hx hb dX11_keep_27 rfl (lv_at hl 2 rfl) ?_
      refine lv_imul hx hb dX11_keep_28 ?_
      refine lv_topi (fun z275 ez275 => ?_)
      obtain rfl : z275 = 35 := ez275.trans (by decide)
      refine lv_iload_n hx hb dX11_keep_29 rfl (lv_at hl 0 rfl) ?_
      refine lv_iadd hx hb dX11_keep_30 ?_
      refine lv_topi (fun z276 ez276 => ?_)
      obtain rfl : z276 = 66 := ez276.trans (by decide)
      refine lv_aload_n hx hb dX11_keep_31 rfl (lv_at hl 1 rfl) ?_
      refine va_get (D := (dC, dI)) (ci := 11) (v := .ref m10) (C := RX11) (T := TX11) (N := 46) hx hb hts hi_X11 hown hK hP 0 rfl rfl 10 (by decide) (hts (.fieldLink RX11 28 "LeftQuillsModel" "now" "[I") (by decide +kernel)) (fun _ h9 => h9) rfl dX11_keep_32 ?_
      refine lv_iload_n hx hb dX11_keep_35 rfl (lv_at hl 0 rfl) ?_
      refine va_iald hx hb hK hP 1 0 rfl rfl (vp_in_iff.mpr ⟨by decide, by decide⟩) dX11_keep_36 ?_
      refine W.eq (g2 := F0 m 37 ls (.int 0 :: [.int 66, .ref m44])) rfl ?_
      refine va_iast hx hb hK hP hD hS 2 0 rfl rfl (vp_in_iff.mpr ⟨by decide, by decide⟩) dX11_keep_37 (fun H locs hP hD hS => ?_)
      rw [x_upd0] at hP hD
      have hP : va_P (dC, dI) vwCl [(h0, .inr (11, [.int 0, .int 0, .int 0, .ref m3, .ref m4, .ref m5, .int 0, .ref m7, .ref m8, .ref m9, .ref m10, .int 0, .ref m12, .int 0, .int (-1), .int 0, .int 0, .int 0, .ref m18, .int 0, .ref m20, .ref m21, .ref m22, .ref m23, .ref m24, .int 0, .ref m26, .ref m27, .ref m28, .int 0, .ref m30, .int 0, .int 0, .ref m33, .int 0, .int 0, .ref m36, .int 0, .ref m38, .ref m39, .ref m40, .int 0, .ref m42, .ref m43, .ref m44, .ref m45])), (m10, .inl (cI, 34, .inl (fun _ => 0))), (m44, .inl (cI, 70, .inl (fun _ => 0))), (m45, .inl (cZ, 2, .inl (fun _ => 0)))] H := hP
      have hD : va_D A [(h0, .inr (11, [.int 0, .int 0, .int 0, .ref m3, .ref m4, .ref m5, .int 0, .ref m7, .ref m8, .ref m9, .ref m10, .int 0, .ref m12, .int 0, .int (-1), .int 0, .int 0, .int 0, .ref m18, .int 0, .ref m20, .ref m21, .ref m22, .ref m23, .ref m24, .int 0, .ref m26, .ref m27, .ref m28, .int 0, .ref m30, .int 0, .int 0, .ref m33, .int 0, .int 0, .ref m36, .int 0, .ref m38, .ref m39, .ref m40, .int 0, .ref m42, .ref m43, .ref m44, .ref m45])), (m10, .inl (cI, 34, .inl (fun _ => 0))), (m44, .inl (cI, 70, .inl (fun _ => 0))), (m45, .inl (cZ, 2, .inl (fun _ => 0)))] := hD
      refine lv_iinc (v := 32) (lv' := [(2, .int 32), (0, .ref h0), (1, .int 1)]) hx hb dX11_keep_38 hl (k := 0) rfl (by decide) (by decide) rfl (fun ls hl => ?_)
      refine lv_goto (tgt := 15) hx hb dX11_keep_41 (by decide) ?_
      refine lv_iload_n hx hb dX11_keep_15 rfl (lv_at hl 0 rfl) ?_
      refine lv_bipush (v := 34) hx hb dX11_keep_16 (by decide) ?_
      refine lv_icmp_ge (tgt := 44) hx hb dX11_keep_18 (by decide) (fun c278 => ?_) (fun c278 => ?_)
      · exact absurd c278 (by decide)
      clear c278
      refine lv_aload_n hx hb dX11_keep_21 rfl (lv_at hl 1 rfl) ?_
      refine va_get (D := (dC, dI)) (ci := 11) (v := .ref m44) (C := RX11) (T := TX11) (N := 46) hx hb hts hi_X11 hown hK hP 0 rfl rfl 44 (by decide) (hts (.fieldLink RX11 89 "LeftQuillsModel" "images" "[I") (by decide +kernel)) (fun _ h9 => h9) rfl dX11_keep_22 ?_
      refine lv_bipush (v := 35) hx hb dX11_keep_25 (by decide) ?_
      refine lv_iload_n hx hb dX11_keep_27 rfl (lv_at hl 2 rfl) ?_
      refine lv_imul hx hb dX11_keep_28 ?_
      refine lv_topi (fun z279 ez279 => ?_)
      obtain rfl : z279 = 35 := ez279.trans (by decide)
      refine lv_iload_n hx hb dX11_keep_29 rfl (lv_at hl 0 rfl) ?_
      refine lv_iadd hx hb dX11_keep_30 ?_
      refine lv_topi (fun z280 ez280 => ?_)
      obtain rfl : z280 = 67 := ez280.trans (by decide)
      refine lv_aload_n hx hb dX11_keep_31 rfl (lv_at hl 1 rfl) ?_
      refine va_get (D := (dC, dI)) (ci := 11) (v := .ref m10) (C := RX11) (T := TX11) (N := 46) hx hb hts hi_X11 hown hK hP 0 rfl rfl 10 (by decide) (hts (.fieldLink RX11 28 "LeftQuillsModel" "now" "[I") (by decide +kernel)) (fun _ h9 => h9) rfl dX11_keep_32 ?_
      refine lv_iload_n hx hb dX11_keep_35 rfl (lv_at hl 0 rfl) ?_
      refine va_iald hx hb hK hP 1 0 rfl rfl (vp_in_iff.mpr ⟨by decide, by decide⟩) dX11_keep_36 ?_
      refine W.eq (g2 := F0 m 37 ls (.int 0 :: [.int 67, .ref m44])) rfl ?_
      refine va_iast hx hb hK hP hD hS 2 0 rfl rfl (vp_in_iff.mpr ⟨by decide, by decide⟩) dX11_keep_37 (fun H locs hP hD hS => ?_)
      rw [x_upd0] at hP hD
      have hP : va_P (dC, dI) vwCl [(h0, .inr (11, [.int 0, .int 0, .int 0, .ref m3, .ref m4, .ref m5, .int 0, .ref m7, .ref m8, .ref m9, .ref m10, .int 0, .ref m12, .int 0, .int (-1), .int 0, .int 0, .int 0, .ref m18, .int 0, .ref m20, .ref m21, .ref m22, .ref m23, .ref m24, .int 0, .ref m26, .ref m27, .ref m28, .int 0, .ref m30, .int 0, .int 0, .ref m33, .int 0, .int 0, .ref m36, .int 0, .ref m38, .ref m39, .ref m40, .int 0, .ref m42, .ref m43, .ref m44, .ref m45])), (m10, .inl (cI, 34, .inl (fun _ => 0))), (m44, .inl (cI, 70, .inl (fun _ => 0))), (m45, .inl (cZ, 2, .inl (fun _ => 0)))] H := hP
      have hD : va_D A [(h0, .inr (11, [.int 0, .int 0, .int 0, .ref m3, .ref m4, .ref m5, .int 0, .ref m7, .ref m8, .ref m9, .ref m10, .int 0, .ref m12, .int 0, .int (-1), .int 0, .int 0, .int 0, .ref m18, .int 0, .ref m20, .ref m21, .ref m22, .ref m23, .ref m24, .int 0, .ref m26, .ref m27, .ref m28, .int 0, .ref m30, .int 0, .int 0, .ref m33, .int 0, .int 0, .ref m36, .int 0, .ref m38, .ref m39, .ref m40, .int 0, .ref m42, .ref m43, .ref m44, .ref m45])), (m10, .inl (cI, 34, .inl (fun _ => 0))), (m44, .inl (cI, 70, .inl (fun _ => 0))), (m45, .inl (cZ, 2, .inl (fun _ => 0)))] := hD
      refine lv_iinc (v := 33) (lv' := [(2, .int 33), (0, .ref h0), (1, .int 1)]) hx hb dX11_keep_38 hl (k := 0) rfl (by decide) (by decide) rfl (fun ls hl => ?_)
      refine lv_goto (tgt := 15) hx hb dX11_keep_41 (by decide) ?_
      refine lv_iload_n hx hb dX11_keep_15 rfl (lv_at hl 0 rfl) ?_
      refine lv_bipush (v := 34) hx hb dX11_keep_16 (by decide) ?_
      refine lv_icmp_ge (tgt := 44) hx hb dX11_keep_18 (by decide) (fun c282 => ?_) (fun c282 => ?_)
      · exact absurd c282 (by decide)
      clear c282
      refine lv_aload_n hx hb dX11_keep_21 rfl (lv_at hl 1 rfl) ?_
      refine va_get (D := (dC, dI)) (ci := 11) (v := .ref m44) (C := RX11) (T := TX11) (N := 46) hx hb hts hi_X11 hown hK hP 0 rfl rfl 44 (by decide) (hts (.fieldLink RX11 89 "LeftQuillsModel" "images" "[I") (by decide +kernel)) (fun _ h9 => h9) rfl dX11_keep_22 ?_
      refine lv_bipush (v := 35) hx hb dX11_keep_25 (by decide) ?_
      refine lv_iload_n hx hb dX11_keep_27 rfl (lv_at hl 2 rfl) ?_
      refine lv_imul hx hb dX11_keep_28 ?_
      refine lv_topi (fun z283 ez283 => ?_)
      obtain rfl : z283 = 35 := ez283.trans (by decide)
      refine lv_iload_n hx hb dX11_keep_29 rfl (lv_at hl 0 rfl) ?_
      refine lv_iadd hx hb dX11_keep_30 ?_
      refine lv_topi (fun z284 ez284 => ?_)
      obtain rfl : z284 = 68 := ez284.trans (by decide)
      refine lv_aload_n hx hb dX11_keep_31 rfl (lv_at hl 1 rfl) ?_
      refine va_get (D := (dC, dI)) (ci := 11) (v := .ref m10) (C := RX11) (T := TX11) (N := 46) hx hb hts hi_X11 hown hK hP 0 rfl rfl 10 (by decide) (hts (.fieldLink RX11 28 "LeftQuillsModel" "now" "[I") (by decide +kernel)) (fun _ h9 => h9) rfl dX11_keep_32 ?_
      refine lv_iload_n hx hb dX11_keep_35 rfl (lv_at hl 0 rfl) ?_
      refine va_iald hx hb hK hP 1 0 rfl rfl (vp_in_iff.mpr ⟨by decide, by decide⟩) dX11_keep_36 ?_
      refine W.eq (g2 := F0 m 37 ls (.int 0 :: [.int 68, .ref m44])) rfl ?_
      refine va_iast hx hb hK hP hD hS 2 0 rfl rfl (vp_in_iff.mpr ⟨by decide, by decide⟩) dX11_keep_37 (fun H locs hP hD hS => ?_)
      rw [x_upd0] at hP hD
      have hP : va_P (dC, dI) vwCl [(h0, .inr (11, [.int 0, .int 0, .int 0, .ref m3, .ref m4, .ref m5, .int 0, .ref m7, .ref m8, .ref m9, .ref m10, .int 0, .ref m12, .int 0, .int (-1), .int 0, .int 0, .int 0, .ref m18, .int 0, .ref m20, .ref m21, .ref m22, .ref m23, .ref m24, .int 0, .ref m26, .ref m27, .ref m28, .int 0, .ref m30, .int 0, .int 0, .ref m33, .int 0, .int 0, .ref m36, .int 0, .ref m38, .ref m39, .ref m40, .int 0, .ref m42, .ref m43, .ref m44, .ref m45])), (m10, .inl (cI, 34, .inl (fun _ => 0))), (m44, .inl (cI, 70, .inl (fun _ => 0))), (m45, .inl (cZ, 2, .inl (fun _ => 0)))] H := hP
      have hD : va_D A [(h0, .inr (11, [.int 0, .int 0, .int 0, .ref m3, .ref m4, .ref m5, .int 0, .ref m7, .ref m8, .ref m9, .ref m10, .int 0, .ref m12, .int 0, .int (-1), .int 0, .int 0, .int 0, .ref m18, .int 0, .ref m20, .ref m21, .ref m22, .ref m23, .ref m24, .int 0, .ref m26, .ref m27, .ref m28, .int 0, .ref m30, .int 0, .int 0, .ref m33, .int 0, .int 0, .ref m36, .int 0, .ref m38, .ref m39, .ref m40, .int 0, .ref m42, .ref m43, .ref m44, .ref m45])), (m10, .inl (cI, 34, .inl (fun _ => 0))), (m44, .inl (cI, 70, .inl (fun _ => 0))), (m45, .inl (cZ, 2, .inl (fun _ => 0)))] := hD
      refine lv_iinc (v := 34) (lv' := [(2, .int 34), (0, .ref h0), (1, .int 1)]) hx hb dX11_keep_38 hl (k := 0) rfl (by decide) (by decide) rfl (fun ls hl => ?_)
      refine lv_goto (tgt := 15) hx hb dX11_keep_41 (by decide) ?_
      refine lv_iload_n hx hb dX11_keep_15 rfl (lv_at hl 0 rfl) ?_
      refine lv_bipush (v := 34) hx hb dX11_keep_16 (by decide) ?_
      refine lv_icmp_ge (tgt := 44) hx hb dX11_keep_18 (by decide) (fun c286 => ?_) (fun c286 => ?_)
      rotate_left
      · exact absurd c286 (by decide)
      clear c286
      refine lv_aload_n hx hb dX11_keep_44 rfl (lv_at hl 1 rfl) ?_
      refine va_get (D := (dC, dI)) (ci := 11) (v := .ref m44) (C := RX11) (T := TX11) (N := 46) hx hb hts hi_X11 hown hK hP 0 rfl rfl 44 (by decide) (hts (.fieldLink RX11 89 "LeftQuillsModel" "images" "[I") (by decide +kernel)) (fun _ h9 => h9) rfl dX11_keep_45 ?_
      refine lv_bipush (v := 35) hx hb dX11_keep_48 (by decide) ?_
      refine lv_iload_n hx hb dX11_keep_50 rfl (lv_at hl 2 rfl) ?_
      refine lv_imul hx hb dX11_keep_51 ?_
      refine lv_topi (fun z287 ez287 => ?_)
      obtain rfl : z287 = 35 := ez287.trans (by decide)
      refine lv_bipush (v := 34) hx hb dX11_keep_52 (by decide) ?_
      refine lv_iadd hx hb dX11_keep_54 ?_
      refine lv_topi (fun z288 ez288 => ?_)
      obtain rfl : z288 = 69 := ez288.trans (by decide)
      refine lv_aload_n hx hb dX11_keep_55 rfl (lv_at hl 1 rfl) ?_
      refine va_get (D := (dC, dI)) (ci := 11) (v := .int 0) (C := RX11) (T := TX11) (N := 46) hx hb hts hi_X11 hown hK hP 0 rfl rfl 11 (by decide) (hts (.fieldLink RX11 241 "LeftQuillsModel" "seed" "I") (by decide +kernel)) (fun _ h9 => h9) rfl dX11_keep_56 ?_
      refine va_iast hx hb hK hP hD hS 2 0 rfl rfl (vp_in_iff.mpr ⟨by decide, by decide⟩) dX11_keep_59 (fun H locs hP hD hS => ?_)
      rw [x_upd0] at hP hD
      have hP : va_P (dC, dI) vwCl [(h0, .inr (11, [.int 0, .int 0, .int 0, .ref m3, .ref m4, .ref m5, .int 0, .ref m7, .ref m8, .ref m9, .ref m10, .int 0, .ref m12, .int 0, .int (-1), .int 0, .int 0, .int 0, .ref m18, .int 0, .ref m20, .ref m21, .ref m22, .ref m23, .ref m24, .int 0, .ref m26, .ref m27, .ref m28, .int 0, .ref m30, .int 0, .int 0, .ref m33, .int 0, .int 0, .ref m36, .int 0, .ref m38, .ref m39, .ref m40, .int 0, .ref m42, .ref m43, .ref m44, .ref m45])), (m10, .inl (cI, 34, .inl (fun _ => 0))), (m44, .inl (cI, 70, .inl (fun _ => 0))), (m45, .inl (cZ, 2, .inl (fun _ => 0)))] H := hP
      have hD : va_D A [(h0, .inr (11, [.int 0, .int 0, .int 0, .ref m3, .ref m4, .ref m5, .int 0, .ref m7, .ref m8, .ref m9, .ref m10, .int 0, .ref m12, .int 0, .int (-1), .int 0, .int 0, .int 0, .ref m18, .int 0, .ref m20, .ref m21, .ref m22, .ref m23, .ref m24, .int 0, .ref m26, .ref m27, .ref m28, .int 0, .ref m30, .int 0, .int 0, .ref m33, .int 0, .int 0, .ref m36, .int 0, .ref m38, .ref m39, .ref m40, .int 0, .ref m42, .ref m43, .ref m44, .ref m45])), (m10, .inl (cI, 34, .inl (fun _ => 0))), (m44, .inl (cI, 70, .inl (fun _ => 0))), (m45, .inl (cZ, 2, .inl (fun _ => 0)))] := hD
      refine lv_aload_n hx hb dX11_keep_60 rfl (lv_at hl 1 rfl) ?_
      refine va_get (D := (dC, dI)) (ci := 11) (v := .ref m45) (C := RX11) (T := TX11) (N := 46) hx hb hts hi_X11 hown hK hP 0 rfl rfl 45 (by decide) (hts (.fieldLink RX11 92 "LeftQuillsModel" "isKept" "[Z") (by decide +kernel)) (fun _ h9 => h9) rfl dX11_keep_61 ?_
      refine lv_iload_n hx hb dX11_keep_64 rfl (lv_at hl 2 rfl) ?_
      refine lv_iconst (v := 1) hx hb dX11_keep_65 (by decide) ?_
      refine va_zast hx hb hK hP hD hS 3 1 rfl rfl (vp_in_iff.mpr ⟨by decide, by decide⟩) dX11_keep_66 (fun H locs hP hD hS => ?_)
      generalize hgf290 : upd _ _ _ = f290 at hP hD
      have hP : va_P (dC, dI) vwCl [(h0, .inr (11, [.int 0, .int 0, .int 0, .ref m3, .ref m4, .ref m5, .int 0, .ref m7, .ref m8, .ref m9, .ref m10, .int 0, .ref m12, .int 0, .int (-1), .int 0, .int 0, .int 0, .ref m18, .int 0, .ref m20, .ref m21, .ref m22, .ref m23, .ref m24, .int 0, .ref m26, .ref m27, .ref m28, .int 0, .ref m30, .int 0, .int 0, .ref m33, .int 0, .int 0, .ref m36, .int 0, .ref m38, .ref m39, .ref m40, .int 0, .ref m42, .ref m43, .ref m44, .ref m45])), (m10, .inl (cI, 34, .inl (fun _ => 0))), (m44, .inl (cI, 70, .inl (fun _ => 0))), (m45, .inl (cZ, 2, .inl f290))] H := hP
      have hD : va_D A [(h0, .inr (11, [.int 0, .int 0, .int 0, .ref m3, .ref m4, .ref m5, .int 0, .ref m7, .ref m8, .ref m9, .ref m10, .int 0, .ref m12, .int 0, .int (-1), .int 0, .int 0, .int 0, .ref m18, .int 0, .ref m20, .ref m21, .ref m22, .ref m23, .ref m24, .int 0, .ref m26, .ref m27, .ref m28, .int 0, .ref m30, .int 0, .int 0, .ref m33, .int 0, .int 0, .ref m36, .int 0, .ref m38, .ref m39, .ref m40, .int 0, .ref m42, .ref m43, .ref m44, .ref m45])), (m10, .inl (cI, 34, .inl (fun _ => 0))), (m44, .inl (cI, 70, .inl (fun _ => 0))), (m45, .inl (cZ, 2, .inl f290))] := hD
      refine lv_aload_n hx hb dX11_keep_67 rfl (lv_at hl 1 rfl) ?_
      refine lv_iconst (v := 0) hx hb dX11_keep_68 (by decide) ?_
      refine va_put (D := (dC, dI)) (ci := 11) (v := .int 0) (ty := .int) (C := RX11) (T := TX11) (N := 46) hx hb hts hi_X11 tyX11 tyX11_ok nmX11 hown hK hP hD hS 0 rfl rfl 29 (by decide) (hts (.fieldLink RX11 174 "LeftQuillsModel" "undos" "I") (by decide +kernel)) (fun _ h9 => h9) rfl (by decide +kernel) rfl rfl (Nat.le_of_ble_eq_true rfl) dX11_keep_69 (fun H locs hP hD hS => ?_)
      have hP : va_P (dC, dI) vwCl [(h0, .inr (11, [.int 0, .int 0, .int 0, .ref m3, .ref m4, .ref m5, .int 0, .ref m7, .ref m8, .ref m9, .ref m10, .int 0, .ref m12, .int 0, .int (-1), .int 0, .int 0, .int 0, .ref m18, .int 0, .ref m20, .ref m21, .ref m22, .ref m23, .ref m24, .int 0, .ref m26, .ref m27, .ref m28, .int 0, .ref m30, .int 0, .int 0, .ref m33, .int 0, .int 0, .ref m36, .int 0, .ref m38, .ref m39, .ref m40, .int 0, .ref m42, .ref m43, .ref m44, .ref m45])), (m10, .inl (cI, 34, .inl (fun _ => 0))), (m44, .inl (cI, 70, .inl (fun _ => 0))), (m45, .inl (cZ, 2, .inl f290))] H := hP
      have hD : va_D A [(h0, .inr (11, [.int 0, .int 0, .int 0, .ref m3, .ref m4, .ref m5, .int 0, .ref m7, .ref m8, .ref m9, .ref m10, .int 0, .ref m12, .int 0, .int (-1), .int 0, .int 0, .int 0, .ref m18, .int 0, .ref m20, .ref m21, .ref m22, .ref m23, .ref m24, .int 0, .ref m26, .ref m27, .ref m28, .int 0, .ref m30, .int 0, .int 0, .ref m33, .int 0, .int 0, .ref m36, .int 0, .ref m38, .ref m39, .ref m40, .int 0, .ref m42, .ref m43, .ref m44, .ref m45])), (m10, .inl (cI, 34, .inl (fun _ => 0))), (m44, .inl (cI, 70, .inl (fun _ => 0))), (m45, .inl (cZ, 2, .inl f290))] := hD
      refine lv_iconst (v := 1) hx hb dX11_keep_72 (by decide) ?_
      exact W.iret (v := 1) hx hb hr (fun t ht hW => ⟨⟨1, (fun _ => 0), rfl, (if_pos hw5).symm, trivial⟩, hS.F ht⟩) hS.2.2 dX11_keep_73
  ·
    refine lv_if_ne (tgt := 13) hx hb dX11_keep_7 (by decide) (fun c291 => ?_) (fun c291 => ?_)
    · exact absurd c291 (by decide)
    clear c291
    refine lv_ldc (v := (-1000000001)) hx hb hown (hts (.constant RX11 188 (-1000000001)) (by decide +kernel)) dX11_keep_10 ?_
    exact W.iret (v := (-1000000001)) hx hb hr (fun t ht hW => ⟨⟨(-1000000001), (fun _ => 0), rfl, (if_neg hw5).symm, trivial⟩, hS.F ht⟩) hS.2.2 dX11_keep_12
set_option maxHeartbeats 4000000 in
set_option maxRecDepth 100000 in
theorem c_X11_findGiven (l : Launch) (dC : Nat → ClassId) (dI : Nat → Nat → Nat) (cI cZ cQ : ClassId) (h0 : Nat) (m3 : Nat) (m4 : Nat) (m5 : Nat) (m7 : Nat) (m8 : Nat) (m9 : Nat) (m10 : Nat) (m12 : Nat) (m18 : Nat) (m20 : Nat) (m21 : Nat) (m22 : Nat) (m23 : Nat) (m24 : Nat) (m26 : Nat) (m27 : Nat) (m28 : Nat) (m30 : Nat) (m33 : Nat) (m36 : Nat) (m38 : Nat) (m39 : Nat) (m40 : Nat) (m42 : Nat) (m43 : Nat) (m44 : Nat) (m45 : Nat) (sz : Nat)  : Met l yX11_findGiven wsX11_findGiven ({ frames := 0, cells := 0, slots := 0, locals := 40 }) (va_Pc [.ref h0] (fun U => U.heap.size = sz ∧ va_P (dC, dI) vwCl [(h0, .inr (11, [.int 0, .int 0, .int 0, .ref m3, .ref m4, .ref m5, .int 0, .ref m7, .ref m8, .ref m9, .ref m10, .int 0, .ref m12, .int 0, .int (-1), .int 0, .int 0, .int 0, .ref m18, .int 0, .ref m20, .ref m21, .ref m22, .ref m23, .ref m24, .int 0, .ref m26, .ref m27, .ref m28, .int 0, .ref m30, .int 0, .int 0, .ref m33, .int 0, .int 0, .ref m36, .int 0, .ref m38, .ref m39, .ref m40, .int 0, .ref m42, .ref m43, .ref m44, .ref m45]))] U.heap ∧ va_K (dC, dI) vwCl (tys0 cI cZ cQ) U ∧ va_D (fun _ => True) [(h0, .inr (11, [.int 0, .int 0, .int 0, .ref m3, .ref m4, .ref m5, .int 0, .ref m7, .ref m8, .ref m9, .ref m10, .int 0, .ref m12, .int 0, .int (-1), .int 0, .int 0, .int 0, .ref m18, .int 0, .ref m20, .ref m21, .ref m22, .ref m23, .ref m24, .int 0, .ref m26, .ref m27, .ref m28, .int 0, .ref m30, .int 0, .int 0, .ref m33, .int 0, .int 0, .ref m36, .int 0, .ref m38, .ref m39, .ref m40, .int 0, .ref m42, .ref m43, .ref m44, .ref m45]))])) (va_Qv (fun (u : Nat → Nat) => True) (fun (u : Nat → Nat) (t : State) => va_P (dC, dI) vwCl [(h0, .inr (11, [.int 0, .int 0, .int 0, .ref m3, .ref m4, .ref m5, .int 0, .ref m7, .ref m8, .ref m9, .ref m10, .int 0, .ref m12, .int 0, .int (-1), .int 0, .int 0, .int 0, .ref m18, .int 0, .ref m20, .ref m21, .ref m22, .ref m23, .ref m24, .int 0, .ref m26, .ref m27, .ref m28, .int 0, .ref m30, .int 0, .int 0, .ref m33, .int 0, .int 0, .ref m36, .int 0, .ref m38, .ref m39, .ref m40, .int 0, .ref m42, .ref m43, .ref m44, .ref m45]))] t.heap ∧ va_D (va_A [(h0, .inr (11, [.int 0, .int 0, .int 0, .ref m3, .ref m4, .ref m5, .int 0, .ref m7, .ref m8, .ref m9, .ref m10, .int 0, .ref m12, .int 0, .int (-1), .int 0, .int 0, .int 0, .ref m18, .int 0, .ref m20, .ref m21, .ref m22, .ref m23, .ref m24, .int 0, .ref m26, .ref m27, .ref m28, .int 0, .ref m30, .int 0, .int 0, .ref m33, .int 0, .int 0, .ref m36, .int 0, .ref m38, .ref m39, .ref m40, .int 0, .ref m42, .ref m43, .ref m44, .ref m45]))] sz) [(h0, .inr (11, [.int 0, .int 0, .int 0, .ref m3, .ref m4, .ref m5, .int 0, .ref m7, .ref m8, .ref m9, .ref m10, .int 0, .ref m12, .int 0, .int (-1), .int 0, .int 0, .int 0, .ref m18, .int 0, .ref m20, .ref m21, .ref m22, .ref m23, .ref m24, .int 0, .ref m26, .ref m27, .ref m28, .int 0, .ref m30, .int 0, .int 0, .ref m33, .int 0, .int 0, .ref m36, .int 0, .ref m38, .ref m39, .ref m40, .int 0, .ref m42, .ref m43, .ref m44, .ref m45]))]) (va_A [(h0, .inr (11, [.int 0, .int 0, .int 0, .ref m3, .ref m4, .ref m5, .int 0, .ref m7, .ref m8, .ref m9, .ref m10, .int 0, .ref m12, .int 0, .int (-1), .int 0, .int 0, .int 0, .ref m18, .int 0, .ref m20, .ref m21, .ref m22, .ref m23, .ref m24, .int 0, .ref m26, .ref m27, .ref m28, .int 0, .ref m30, .int 0, .int 0, .ref m33, .int 0, .int 0, .ref m36, .int 0, .ref m38, .ref m39, .ref m40, .int 0, .ref m42, .ref m43, .ref m44, .ref m45]))] sz)) 0 0 (va_A [(h0, .inr (11, [.int 0, .int 0, .int 0, .ref m3, .ref m4, .ref m5, .int 0, .ref m7, .ref m8, .ref m9, .ref m10, .int 0, .ref m12, .int 0, .int (-1), .int 0, .int 0, .int 0, .ref m18, .int 0, .ref m20, .ref m21, .ref m22, .ref m23, .ref m24, .int 0, .ref m26, .ref m27, .ref m28, .int 0, .ref m30, .int 0, .int 0, .ref m33, .int 0, .int 0, .ref m36, .int 0, .ref m38, .ref m39, .ref m40, .int 0, .ref m42, .ref m43, .ref m44, .ref m45]))] sz) := by
  refine Met.ofW (cc := cX11_findGiven) (maxL := 7) (ret := none) (by decide) rfl ?_
  intro p e s m args below meth c s₁ B hml hv
  obtain ⟨rfl, hsz, hP, hK, hD0⟩ := hv
  have hx := B.exec
  have hb := B.bytes
  have hr := B.returns
  have hts := atoms_spec (ws := wsX11_findGiven) B.pre
  have hown : s.vm.findClass RX11 = some m.cls := findClass_of_methodNamed B.named
  have hlocks := B.notSynchronized
  have hi_X11 : ∀ w ∈ u_ws RX11 TX11 46, w ∈ wsX11_findGiven := by decide +kernel
  subst hsz
  have hD := hD0.self (sz := s.heap.size)
  generalize hAe : va_A [(h0, .inr (11, [.int 0, .int 0, .int 0, .ref m3, .ref m4, .ref m5, .int 0, .ref m7, .ref m8, .ref m9, .ref m10, .int 0, .ref m12, .int 0, .int (-1), .int 0, .int 0, .int 0, .ref m18, .int 0, .ref m20, .ref m21, .ref m22, .ref m23, .ref m24, .int 0, .ref m26, .ref m27, .ref m28, .int 0, .ref m30, .int 0, .int 0, .ref m33, .int 0, .int 0, .ref m36, .int 0, .ref m38, .ref m39, .ref m40, .int 0, .ref m42, .ref m43, .ref m44, .ref m45]))] s.heap.size = A at hD ⊢
  have hA : ∀ q : Nat, s.heap.size ≤ q → A q := fun q h => by rw [← hAe]; exact Or.inr h
  have hS : va_S A s.heap s.heap [] := va_S.rf
  have hl := lv_entry ([.ref h0]) (n := 7) (Nat.le_of_ble_eq_true rfl)
  rw [lg_entry_eq]
  generalize (lg_sl ([.ref h0]) ++ List.replicate (7 - (lg_sl ([.ref h0])).length) Slot.unset).toArray = ls at hl ⊢
  have hl : lv_has ls 7 [(0, .ref h0)] := hl
  refine lv_aload_n hx hb dX11_findGiven_0 rfl (lv_at hl 0 rfl) ?_
  refine lv_iconst (v := (-1)) hx hb dX11_findGiven_1 (by decide) ?_
  refine va_put (D := (dC, dI)) (ci := 11) (v := .int (-1)) (ty := .int) (C := RX11) (T := TX11) (N := 46) hx hb hts hi_X11 tyX11 tyX11_ok nmX11 hown hK hP hD hS 0 rfl rfl 31 (by decide) (hts (.fieldLink RX11 269 "LeftQuillsModel" "given" "I") (by decide +kernel)) (fun _ h9 => h9) rfl (by decide +kernel) rfl rfl (Nat.le_of_ble_eq_true rfl) dX11_findGiven_2 (fun H locs hP hD hS => ?_)
  have hP : va_P (dC, dI) vwCl [(h0, .inr (11, [.int 0, .int 0, .int 0, .ref m3, .ref m4, .ref m5, .int 0, .ref m7, .ref m8, .ref m9, .ref m10, .int 0, .ref m12, .int 0, .int (-1), .int 0, .int 0, .int 0, .ref m18, .int 0, .ref m20, .ref m21, .ref m22, .ref m23, .ref m24, .int 0, .ref m26, .ref m27, .ref m28, .int 0, .ref m30, .int (-1), .int 0, .ref m33, .int 0, .int 0, .ref m36, .int 0, .ref m38, .ref m39, .ref m40, .int 0, .ref m42, .ref m43, .ref m44, .ref m45]))] H := hP
  have hD : va_D A [(h0, .inr (11, [.int 0, .int 0, .int 0, .ref m3, .ref m4, .ref m5, .int 0, .ref m7, .ref m8, .ref m9, .ref m10, .int 0, .ref m12, .int 0, .int (-1), .int 0, .int 0, .int 0, .ref m18, .int 0, .ref m20, .ref m21, .ref m22, .ref m23, .ref m24, .int 0, .ref m26, .ref m27, .ref m28, .int 0, .ref m30, .int (-1), .int 0, .ref m33, .int 0, .int 0, .ref m36, .int 0, .ref m38, .ref m39, .ref m40, .int 0, .ref m42, .ref m43, .ref m44, .ref m45]))] := hD
  refine lv_aload_n hx hb dX11_findGiven_5 rfl (lv_at hl 0 rfl) ?_
  refine lv_iconst (v := (-1)) hx hb dX11_findGiven_6 (by decide) ?_
  refine va_put (D := (dC, dI)) (ci := 11) (v := .int (-1)) (ty := .int) (C := RX11) (T := TX11) (N := 46) hx hb hts hi_X11 tyX11 tyX11_ok nmX11 hown hK hP hD hS 0 rfl rfl 32 (by decide) (hts (.fieldLink RX11 272 "LeftQuillsModel" "givenMost" "I") (by decide +kernel)) (fun _ h9 => h9) rfl (by decide +kernel) rfl rfl (Nat.le_of_ble_eq_true rfl) dX11_findGiven_7 (fun H locs hP hD hS => ?_)
  have hP : va_P (dC, dI) vwCl [(h0, .inr (11, [.int 0, .int 0, .int 0, .ref m3, .ref m4, .ref m5, .int 0, .ref m7, .ref m8, .ref m9, .ref m10, .int 0, .ref m12, .int 0, .int (-1), .int 0, .int 0, .int 0, .ref m18, .int 0, .ref m20, .ref m21, .ref m22, .ref m23, .ref m24, .int 0, .ref m26, .ref m27, .ref m28, .int 0, .ref m30, .int (-1), .int (-1), .ref m33, .int 0, .int 0, .ref m36, .int 0, .ref m38, .ref m39, .ref m40, .int 0, .ref m42, .ref m43, .ref m44, .ref m45]))] H := hP
  have hD : va_D A [(h0, .inr (11, [.int 0, .int 0, .int 0, .ref m3, .ref m4, .ref m5, .int 0, .ref m7, .ref m8, .ref m9, .ref m10, .int 0, .ref m12, .int 0, .int (-1), .int 0, .int 0, .int 0, .ref m18, .int 0, .ref m20, .ref m21, .ref m22, .ref m23, .ref m24, .int 0, .ref m26, .ref m27, .ref m28, .int 0, .ref m30, .int (-1), .int (-1), .ref m33, .int 0, .int 0, .ref m36, .int 0, .ref m38, .ref m39, .ref m40, .int 0, .ref m42, .ref m43, .ref m44, .ref m45]))] := hD
  refine lv_iconst (v := 0) hx hb dX11_findGiven_10 (by decide) ?_
  refine lv_istore_n (lv' := [(1, .int 0), (0, .ref h0)]) hx hb dX11_findGiven_11 rfl hl (by decide) rfl (fun ls hl => ?_)
  refine lv_iload_n hx hb dX11_findGiven_12 rfl (lv_at hl 0 rfl) ?_
  refine lv_iconst (v := 1) hx hb dX11_findGiven_13 (by decide) ?_
  refine lv_iconst (v := 3) hx hb dX11_findGiven_14 (by decide) ?_
  refine lv_aload_n hx hb dX11_findGiven_15 rfl (lv_at hl 1 rfl) ?_
  refine va_get (D := (dC, dI)) (ci := 11) (v := .int 0) (C := RX11) (T := TX11) (N := 46) hx hb hts hi_X11 hown hK hP 0 rfl rfl 6 (by decide) (hts (.fieldLink RX11 106 "LeftQuillsModel" "hands" "I") (by decide +kernel)) (fun _ h9 => h9) rfl dX11_findGiven_16 ?_
  refine lv_imul hx hb dX11_findGiven_19 ?_
  refine lv_topi (fun z1 ez1 => ?_)
  obtain rfl : z1 = 0 := ez1.trans (by decide)
  refine lv_ishl hx hb dX11_findGiven_20 ?_
  refine lv_topi (fun z2 ez2 => ?_)
  obtain rfl : z2 = 1 := ez2.trans (by decide)
  refine lv_icmp_ge (tgt := 174) hx hb dX11_findGiven_21 (by decide) (fun c3 => ?_) (fun c3 => ?_)
  · exact absurd c3 (by decide)
  clear c3
  refine lv_iconst (v := 0) hx hb dX11_findGiven_24 (by decide) ?_
  refine lv_istore_n (lv' := [(2, .int 0), (1, .int 0), (0, .ref h0)]) hx hb dX11_findGiven_25 rfl hl (by decide) rfl (fun ls hl => ?_)
  refine lv_iconst (v := 0) hx hb dX11_findGiven_26 (by decide) ?_
  refine lv_istore_n (lv' := [(3, .int 0), (2, .int 0), (1, .int 0), (0, .ref h0)]) hx hb dX11_findGiven_27 rfl hl (by decide) rfl (fun ls hl => ?_)
  refine lv_iconst (v := 1) hx hb dX11_findGiven_28 (by decide) ?_
  refine lv_istore (lv' := [(4, .int 1), (3, .int 0), (2, .int 0), (1, .int 0), (0, .ref h0)]) hx hb dX11_findGiven_29 hl (by decide) rfl (fun ls hl => ?_)
  refine lv_iconst (v := 0) hx hb dX11_findGiven_31 (by decide) ?_
  refine lv_istore (lv' := [(5, .int 0), (4, .int 1), (3, .int 0), (2, .int 0), (1, .int 0), (0, .ref h0)]) hx hb dX11_findGiven_32 hl (by decide) rfl (fun ls hl => ?_)
  refine lv_iload hx hb dX11_findGiven_34 (lv_at hl 0 rfl) ?_
  refine lv_aload_n hx hb dX11_findGiven_36 rfl (lv_at hl 5 rfl) ?_
  refine va_get (D := (dC, dI)) (ci := 11) (v := .int 0) (C := RX11) (T := TX11) (N := 46) hx hb hts hi_X11 hown hK hP 0 rfl rfl 6 (by decide) (hts (.fieldLink RX11 106 "LeftQuillsModel" "hands" "I") (by decide +kernel)) (fun _ h9 => h9) rfl dX11_findGiven_37 ?_
  refine lv_icmp_ge (tgt := 118) hx hb dX11_findGiven_40 (by decide) (fun c4 => ?_) (fun c4 => ?_)
  rotate_left
  · exact absurd c4 (by decide)
  clear c4
  refine lv_aload_n hx hb dX11_findGiven_118 rfl (lv_at hl 5 rfl) ?_
  refine lv_iload hx hb dX11_findGiven_119 (lv_at hl 1 rfl) ?_
  refine lv_if_eq (tgt := 136) hx hb dX11_findGiven_121 (by decide) (fun c5 => ?_) (fun c5 => ?_)
  · exact absurd c5 (by decide)
  clear c5
  refine lv_iload_n hx hb dX11_findGiven_124 rfl (lv_at hl 2 rfl) ?_
  refine lv_aload_n hx hb dX11_findGiven_125 rfl (lv_at hl 5 rfl) ?_
  refine va_get (D := (dC, dI)) (ci := 11) (v := .int (-1)) (C := RX11) (T := TX11) (N := 46) hx hb hts hi_X11 hown hK hP 0 rfl rfl 32 (by decide) (hts (.fieldLink RX11 272 "LeftQuillsModel" "givenMost" "I") (by decide +kernel)) (fun _ h9 => h9) rfl dX11_findGiven_126 ?_
  refine lv_icmp_le (tgt := 136) hx hb dX11_findGiven_129 (by decide) (fun c6 => ?_) (fun c6 => ?_)
  · exact absurd c6 (by decide)
  clear c6
  refine lv_iload_n hx hb dX11_findGiven_132 rfl (lv_at hl 4 rfl) ?_
  refine lv_goto (tgt := 140) hx hb dX11_findGiven_133 (by decide) ?_
  refine va_put (D := (dC, dI)) (ci := 11) (v := .int 0) (ty := .int) (C := RX11) (T := TX11) (N := 46) hx hb hts hi_X11 tyX11 tyX11_ok nmX11 hown hK hP hD hS 0 rfl rfl 31 (by decide) (hts (.fieldLink RX11 269 "LeftQuillsModel" "given" "I") (by decide +kernel)) (fun _ h9 => h9) rfl (by decide +kernel) rfl rfl (Nat.le_of_ble_eq_true rfl) dX11_findGiven_140 (fun H locs hP hD hS => ?_)
  have hP : va_P (dC, dI) vwCl [(h0, .inr (11, [.int 0, .int 0, .int 0, .ref m3, .ref m4, .ref m5, .int 0, .ref m7, .ref m8, .ref m9, .ref m10, .int 0, .ref m12, .int 0, .int (-1), .int 0, .int 0, .int 0, .ref m18, .int 0, .ref m20, .ref m21, .ref m22, .ref m23, .ref m24, .int 0, .ref m26, .ref m27, .ref m28, .int 0, .ref m30, .int 0, .int (-1), .ref m33, .int 0, .int 0, .ref m36, .int 0, .ref m38, .ref m39, .ref m40, .int 0, .ref m42, .ref m43, .ref m44, .ref m45]))] H := hP
  have hD : va_D A [(h0, .inr (11, [.int 0, .int 0, .int 0, .ref m3, .ref m4, .ref m5, .int 0, .ref m7, .ref m8, .ref m9, .ref m10, .int 0, .ref m12, .int 0, .int (-1), .int 0, .int 0, .int 0, .ref m18, .int 0, .ref m20, .ref m21, .ref m22, .ref m23, .ref m24, .int 0, .ref m26, .ref m27, .ref m28, .int 0, .ref m30, .int 0, .int (-1), .ref m33, .int 0, .int 0, .ref m36, .int 0, .ref m38, .ref m39, .ref m40, .int 0, .ref m42, .ref m43, .ref m44, .ref m45]))] := hD
  refine lv_aload_n hx hb dX11_findGiven_143 rfl (lv_at hl 5 rfl) ?_
  refine lv_iload hx hb dX11_findGiven_144 (lv_at hl 1 rfl) ?_
  refine lv_if_eq (tgt := 161) hx hb dX11_findGiven_146 (by decide) (fun c7 => ?_) (fun c7 => ?_)
  · exact absurd c7 (by decide)
  clear c7
  refine lv_iload_n hx hb dX11_findGiven_149 rfl (lv_at hl 2 rfl) ?_
  refine lv_aload_n hx hb dX11_findGiven_150 rfl (lv_at hl 5 rfl) ?_
  refine va_get (D := (dC, dI)) (ci := 11) (v := .int (-1)) (C := RX11) (T := TX11) (N := 46) hx hb hts hi_X11 hown hK hP 0 rfl rfl 32 (by decide) (hts (.fieldLink RX11 272 "LeftQuillsModel" "givenMost" "I") (by decide +kernel)) (fun _ h9 => h9) rfl dX11_findGiven_151 ?_
  refine lv_icmp_le (tgt := 161) hx hb dX11_findGiven_154 (by decide) (fun c8 => ?_) (fun c8 => ?_)
  · exact absurd c8 (by decide)
  clear c8
  refine lv_iload_n hx hb dX11_findGiven_157 rfl (lv_at hl 2 rfl) ?_
  refine lv_goto (tgt := 165) hx hb dX11_findGiven_158 (by decide) ?_
  refine va_put (D := (dC, dI)) (ci := 11) (v := .int 0) (ty := .int) (C := RX11) (T := TX11) (N := 46) hx hb hts hi_X11 tyX11 tyX11_ok nmX11 hown hK hP hD hS 0 rfl rfl 32 (by decide) (hts (.fieldLink RX11 272 "LeftQuillsModel" "givenMost" "I") (by decide +kernel)) (fun _ h9 => h9) rfl (by decide +kernel) rfl rfl (Nat.le_of_ble_eq_true rfl) dX11_findGiven_165 (fun H locs hP hD hS => ?_)
  have hP : va_P (dC, dI) vwCl [(h0, .inr (11, [.int 0, .int 0, .int 0, .ref m3, .ref m4, .ref m5, .int 0, .ref m7, .ref m8, .ref m9, .ref m10, .int 0, .ref m12, .int 0, .int (-1), .int 0, .int 0, .int 0, .ref m18, .int 0, .ref m20, .ref m21, .ref m22, .ref m23, .ref m24, .int 0, .ref m26, .ref m27, .ref m28, .int 0, .ref m30, .int 0, .int 0, .ref m33, .int 0, .int 0, .ref m36, .int 0, .ref m38, .ref m39, .ref m40, .int 0, .ref m42, .ref m43, .ref m44, .ref m45]))] H := hP
  have hD : va_D A [(h0, .inr (11, [.int 0, .int 0, .int 0, .ref m3, .ref m4, .ref m5, .int 0, .ref m7, .ref m8, .ref m9, .ref m10, .int 0, .ref m12, .int 0, .int (-1), .int 0, .int 0, .int 0, .ref m18, .int 0, .ref m20, .ref m21, .ref m22, .ref m23, .ref m24, .int 0, .ref m26, .ref m27, .ref m28, .int 0, .ref m30, .int 0, .int 0, .ref m33, .int 0, .int 0, .ref m36, .int 0, .ref m38, .ref m39, .ref m40, .int 0, .ref m42, .ref m43, .ref m44, .ref m45]))] := hD
  refine lv_iinc (v := 1) (lv' := [(1, .int 1), (5, .int 0), (4, .int 1), (3, .int 0), (2, .int 0), (0, .ref h0)]) hx hb dX11_findGiven_168 hl (k := 4) rfl (by decide) (by decide) rfl (fun ls hl => ?_)
  refine lv_goto (tgt := 12) hx hb dX11_findGiven_171 (by decide) ?_
  refine lv_iload_n hx hb dX11_findGiven_12 rfl (lv_at hl 0 rfl) ?_
  refine lv_iconst (v := 1) hx hb dX11_findGiven_13 (by decide) ?_
  refine lv_iconst (v := 3) hx hb dX11_findGiven_14 (by decide) ?_
  refine lv_aload_n hx hb dX11_findGiven_15 rfl (lv_at hl 5 rfl) ?_
  refine va_get (D := (dC, dI)) (ci := 11) (v := .int 0) (C := RX11) (T := TX11) (N := 46) hx hb hts hi_X11 hown hK hP 0 rfl rfl 6 (by decide) (hts (.fieldLink RX11 106 "LeftQuillsModel" "hands" "I") (by decide +kernel)) (fun _ h9 => h9) rfl dX11_findGiven_16 ?_
  refine lv_imul hx hb dX11_findGiven_19 ?_
  refine lv_topi (fun z9 ez9 => ?_)
  obtain rfl : z9 = 0 := ez9.trans (by decide)
  refine lv_ishl hx hb dX11_findGiven_20 ?_
  refine lv_topi (fun z10 ez10 => ?_)
  obtain rfl : z10 = 1 := ez10.trans (by decide)
  refine lv_icmp_ge (tgt := 174) hx hb dX11_findGiven_21 (by decide) (fun c11 => ?_) (fun c11 => ?_)
  rotate_left
  · exact absurd c11 (by decide)
  clear c11
  have hP9 := hP.sub (ws' := [(h0, .inr (11, [.int 0, .int 0, .int 0, .ref m3, .ref m4, .ref m5, .int 0, .ref m7, .ref m8, .ref m9, .ref m10, .int 0, .ref m12, .int 0, .int (-1), .int 0, .int 0, .int 0, .ref m18, .int 0, .ref m20, .ref m21, .ref m22, .ref m23, .ref m24, .int 0, .ref m26, .ref m27, .ref m28, .int 0, .ref m30, .int 0, .int 0, .ref m33, .int 0, .int 0, .ref m36, .int 0, .ref m38, .ref m39, .ref m40, .int 0, .ref m42, .ref m43, .ref m44, .ref m45]))]) [0] rfl
  have hD9 := hD.sub (ws' := [(h0, .inr (11, [.int 0, .int 0, .int 0, .ref m3, .ref m4, .ref m5, .int 0, .ref m7, .ref m8, .ref m9, .ref m10, .int 0, .ref m12, .int 0, .int (-1), .int 0, .int 0, .int 0, .ref m18, .int 0, .ref m20, .ref m21, .ref m22, .ref m23, .ref m24, .int 0, .ref m26, .ref m27, .ref m28, .int 0, .ref m30, .int 0, .int 0, .ref m33, .int 0, .int 0, .ref m36, .int 0, .ref m38, .ref m39, .ref m40, .int 0, .ref m42, .ref m43, .ref m44, .ref m45]))]) [0] (by decide) rfl
  exact W.vret hx hb hr (fun t ht hW => ⟨⟨(vn []), rfl, by first | trivial | rfl | (simp_all; done), ⟨by rw [ht]; exact hP9, hD9⟩⟩, hS.F ht⟩) hS.2.2 dX11_findGiven_174
set_option maxHeartbeats 4000000 in
set_option maxRecDepth 100000 in
theorem c_X11_toWhom (l : Launch) (dC : Nat → ClassId) (dI : Nat → Nat → Nat) (cI cZ cQ : ClassId) (h0 : Nat) (m3 : Nat) (m4 : Nat) (m5 : Nat) (m7 : Nat) (m8 : Nat) (m9 : Nat) (m10 : Nat) (m12 : Nat) (m18 : Nat) (m20 : Nat) (m21 : Nat) (m22 : Nat) (m23 : Nat) (m24 : Nat) (m26 : Nat) (m27 : Nat) (m28 : Nat) (m30 : Nat) (m33 : Nat) (m36 : Nat) (m38 : Nat) (m39 : Nat) (m40 : Nat) (m42 : Nat) (m43 : Nat) (m44 : Nat) (m45 : Nat) (a0 : Int32) (sz : Nat)  : Met l yX11_toWhom wsX11_toWhom ({ frames := 2, cells := 0, slots := 0, locals := 86 }) (va_Pc [.ref h0, .int a0] (fun U => U.heap.size = sz ∧ va_P (dC, dI) vwCl [(h0, .inr (11, [.int 0, .int 0, .int 0, .ref m3, .ref m4, .ref m5, .int 0, .ref m7, .ref m8, .ref m9, .ref m10, .int 0, .ref m12, .int 0, .int (-1), .int 0, .int 0, .int 0, .ref m18, .int 0, .ref m20, .ref m21, .ref m22, .ref m23, .ref m24, .int 0, .ref m26, .ref m27, .ref m28, .int 0, .ref m30, .int 0, .int 0, .ref m33, .int 0, .int 0, .ref m36, .int 0, .ref m38, .ref m39, .ref m40, .int 0, .ref m42, .ref m43, .ref m44, .ref m45]))] U.heap ∧ va_K (dC, dI) vwCl (tys0 cI cZ cQ) U ∧ va_D (fun _ => True) [(h0, .inr (11, [.int 0, .int 0, .int 0, .ref m3, .ref m4, .ref m5, .int 0, .ref m7, .ref m8, .ref m9, .ref m10, .int 0, .ref m12, .int 0, .int (-1), .int 0, .int 0, .int 0, .ref m18, .int 0, .ref m20, .ref m21, .ref m22, .ref m23, .ref m24, .int 0, .ref m26, .ref m27, .ref m28, .int 0, .ref m30, .int 0, .int 0, .ref m33, .int 0, .int 0, .ref m36, .int 0, .ref m38, .ref m39, .ref m40, .int 0, .ref m42, .ref m43, .ref m44, .ref m45]))])) (va_Qi (fun (r : Int32) (u : Nat → Nat) => r = if a0 = (-1) then 0 else (-1000000001)) (fun (_ : Nat → Nat) (_ : State) => True) (va_A [(h0, .inr (11, [.int 0, .int 0, .int 0, .ref m3, .ref m4, .ref m5, .int 0, .ref m7, .ref m8, .ref m9, .ref m10, .int 0, .ref m12, .int 0, .int (-1), .int 0, .int 0, .int 0, .ref m18, .int 0, .ref m20, .ref m21, .ref m22, .ref m23, .ref m24, .int 0, .ref m26, .ref m27, .ref m28, .int 0, .ref m30, .int 0, .int 0, .ref m33, .int 0, .int 0, .ref m36, .int 0, .ref m38, .ref m39, .ref m40, .int 0, .ref m42, .ref m43, .ref m44, .ref m45]))] sz)) 0 0 (va_A [(h0, .inr (11, [.int 0, .int 0, .int 0, .ref m3, .ref m4, .ref m5, .int 0, .ref m7, .ref m8, .ref m9, .ref m10, .int 0, .ref m12, .int 0, .int (-1), .int 0, .int 0, .int 0, .ref m18, .int 0, .ref m20, .ref m21, .ref m22, .ref m23, .ref m24, .int 0, .ref m26, .ref m27, .ref m28, .int 0, .ref m30, .int 0, .int 0, .ref m33, .int 0, .int 0, .ref m36, .int 0, .ref m38, .ref m39, .ref m40, .int 0, .ref m42, .ref m43, .ref m44, .ref m45]))] sz) := by
  refine Met.ofW (cc := cX11_toWhom) (maxL := 2) (ret := (some .int)) (by decide) rfl ?_
  intro p e s m args below meth c s₁ B hml hv
  obtain ⟨rfl, hsz, hP, hK, hD0⟩ := hv
  have hx := B.exec
  have hb := B.bytes
  have hr := B.returns
  have hts := atoms_spec (ws := wsX11_toWhom) B.pre
  have hown : s.vm.findClass RX11 = some m.cls := findClass_of_methodNamed B.named
  have hlocks := B.notSynchronized
  have hi_X11 : ∀ w ∈ u_ws RX11 TX11 46, w ∈ wsX11_toWhom := by decide +kernel
  subst hsz
  have hD := hD0.self (sz := s.heap.size)
  generalize hAe : va_A [(h0, .inr (11, [.int 0, .int 0, .int 0, .ref m3, .ref m4, .ref m5, .int 0, .ref m7, .ref m8, .ref m9, .ref m10, .int 0, .ref m12, .int 0, .int (-1), .int 0, .int 0, .int 0, .ref m18, .int 0, .ref m20, .ref m21, .ref m22, .ref m23, .ref m24, .int 0, .ref m26, .ref m27, .ref m28, .int 0, .ref m30, .int 0, .int 0, .ref m33, .int 0, .int 0, .ref m36, .int 0, .ref m38, .ref m39, .ref m40, .int 0, .ref m42, .ref m43, .ref m44, .ref m45]))] s.heap.size = A at hD ⊢
  have hA : ∀ q : Nat, s.heap.size ≤ q → A q := fun q h => by rw [← hAe]; exact Or.inr h
  have hS : va_S A s.heap s.heap [] := va_S.rf
  have hl := lv_entry ([.ref h0, .int a0]) (n := 2) (Nat.le_of_ble_eq_true rfl)
  rw [lg_entry_eq]
  generalize (lg_sl ([.ref h0, .int a0]) ++ List.replicate (2 - (lg_sl ([.ref h0, .int a0])).length) Slot.unset).toArray = ls at hl ⊢
  have hl : lv_has ls 2 [(0, .ref h0), (1, .int a0)] := hl
  refine lv_iload_n hx hb dX11_toWhom_0 rfl (lv_at hl 1 rfl) ?_
  refine lv_iconst (v := (-1)) hx hb dX11_toWhom_1 (by decide) ?_
  refine lv_icmp_eq (tgt := 16) hx hb dX11_toWhom_2 (by decide) (fun c1 => ?_) (fun c1 => ?_)
  ·
    refine lv_aload_n hx hb dX11_toWhom_16 rfl (lv_at hl 0 rfl) ?_
    refine va_get (D := (dC, dI)) (ci := 11) (v := .int 0) (C := RX11) (T := TX11) (N := 46) hx hb hts hi_X11 hown hK hP 0 rfl rfl 2 (by decide) (hts (.fieldLink RX11 99 "LeftQuillsModel" "quills" "I") (by decide +kernel)) (fun _ h9 => h9) rfl dX11_toWhom_17 ?_
    refine lv_aload_n hx hb dX11_toWhom_20 rfl (lv_at hl 0 rfl) ?_
    refine va_get (D := (dC, dI)) (ci := 11) (v := .int 0) (C := RX11) (T := TX11) (N := 46) hx hb hts hi_X11 hown hK hP 0 rfl rfl 6 (by decide) (hts (.fieldLink RX11 106 "LeftQuillsModel" "hands" "I") (by decide +kernel)) (fun _ h9 => h9) rfl dX11_toWhom_21 ?_
    refine lv_icmp_ge (tgt := 29) hx hb dX11_toWhom_24 (by decide) (fun c2 => ?_) (fun c2 => ?_)
    rotate_left
    · exact absurd c2 (by decide)
    clear c2
    refine lv_aload_n hx hb dX11_toWhom_29 rfl (lv_at hl 0 rfl) ?_
    have hPc := hP.sub (ws' := [(h0, .inr (11, [.int 0, .int 0, .int 0, .ref m3, .ref m4, .ref m5, .int 0, .ref m7, .ref m8, .ref m9, .ref m10, .int 0, .ref m12, .int 0, .int (-1), .int 0, .int 0, .int 0, .ref m18, .int 0, .ref m20, .ref m21, .ref m22, .ref m23, .ref m24, .int 0, .ref m26, .ref m27, .ref m28, .int 0, .ref m30, .int 0, .int 0, .ref m33, .int 0, .int 0, .ref m36, .int 0, .ref m38, .ref m39, .ref m40, .int 0, .ref m42, .ref m43, .ref m44, .ref m45]))]) [0] rfl
    have hDc := hD.sub (ws' := [(h0, .inr (11, [.int 0, .int 0, .int 0, .ref m3, .ref m4, .ref m5, .int 0, .ref m7, .ref m8, .ref m9, .ref m10, .int 0, .ref m12, .int 0, .int (-1), .int 0, .int 0, .int 0, .ref m18, .int 0, .ref m20, .ref m21, .ref m22, .ref m23, .ref m24, .int 0, .ref m26, .ref m27, .ref m28, .int 0, .ref m30, .int 0, .int 0, .ref m33, .int 0, .int 0, .ref m36, .int 0, .ref m38, .ref m39, .ref m40, .int 0, .ref m42, .ref m43, .ref m44, .ref m45]))]) [0] (by decide) rfl
    have hFc := va_free (wc := [(h0, .inr (11, [.int 0, .int 0, .int 0, .ref m3, .ref m4, .ref m5, .int 0, .ref m7, .ref m8, .ref m9, .ref m10, .int 0, .ref m12, .int 0, .int (-1), .int 0, .int 0, .int 0, .ref m18, .int 0, .ref m20, .ref m21, .ref m22, .ref m23, .ref m24, .int 0, .ref m26, .ref m27, .ref m28, .int 0, .ref m30, .int 0, .int 0, .ref m33, .int 0, .int 0, .ref m36, .int 0, .ref m38, .ref m39, .ref m40, .int 0, .ref m42, .ref m43, .ref m44, .ref m45]))]) hD hS hA [0] rfl
    refine va_callv (va_runV (As := []) (rest := []) ⟨hx, hb, hml, hown, hts⟩ (c_X11_findGiven l dC dI cI cZ cQ h0 m3 m4 m5 m7 m8 m9 m10 m12 m18 m20 m21 m22 m23 m24 m26 m27 m28 m30 m33 m36 m38 m39 m40 m42 m43 m44 m45 s.heap.size ) (cwV 0 hts gX11_toWhom_X11_findGiven rfl rfl rfl (by decide +kernel) ⟨Nat.le_of_ble_eq_true rfl, Nat.le_of_ble_eq_true rfl⟩) ⟨fun a U g mk q => by obtain ⟨q0, q1, qP, qK, qD⟩ := q; exact ⟨q0, q1, qP, va_K.moved (u := U) (U := U.calling g mk a) (Vm.Alike.refl U.vm) qK, qD⟩, va_recv hK hP (ci := 11) (q0 := 0) rfl rfl, fun U hU hW => ⟨rfl, by rw [hU], by rw [hU]; exact hPc, va_K.moved hW.alike hK, hDc.weaken (fun _ _ _ _ => trivial)⟩⟩ rfl rfl hl.1 rfl (lv_room (Nat.le_of_ble_eq_true rfl)) dX11_toWhom_30 ⟨Nat.le_of_ble_eq_true rfl, Nat.le_of_ble_eq_true rfl⟩) hS (fun q _ h => hFc q h) hFc (fun u4 t H1 locs ht hvm hw5 hB hz1 hk1 hS => ?_)
    obtain ⟨hP1, hD1⟩ := hB
    rw [ht] at hP1
    obtain ⟨hP, hD⟩ := va_join (wr := []) (w1 := [(h0, .inr (11, [.int 0, .int 0, .int 0, .ref m3, .ref m4, .ref m5, .int 0, .ref m7, .ref m8, .ref m9, .ref m10, .int 0, .ref m12, .int 0, .int (-1), .int 0, .int 0, .int 0, .ref m18, .int 0, .ref m20, .ref m21, .ref m22, .ref m23, .ref m24, .int 0, .ref m26, .ref m27, .ref m28, .int 0, .ref m30, .int 0, .int 0, .ref m33, .int 0, .int 0, .ref m36, .int 0, .ref m38, .ref m39, .ref m40, .int 0, .ref m42, .ref m43, .ref m44, .ref m45]))]) hP hD [0] [] rfl rfl (by decide) (by decide) hk1 hFc hP1 hD1
    clear hP1 hD1
    clear hz1 hk1 hPc hDc hFc
    generalize H1 = H at hP hS ht ⊢
    have hP : va_P (dC, dI) vwCl [(h0, .inr (11, [.int 0, .int 0, .int 0, .ref m3, .ref m4, .ref m5, .int 0, .ref m7, .ref m8, .ref m9, .ref m10, .int 0, .ref m12, .int 0, .int (-1), .int 0, .int 0, .int 0, .ref m18, .int 0, .ref m20, .ref m21, .ref m22, .ref m23, .ref m24, .int 0, .ref m26, .ref m27, .ref m28, .int 0, .ref m30, .int 0, .int 0, .ref m33, .int 0, .int 0, .ref m36, .int 0, .ref m38, .ref m39, .ref m40, .int 0, .ref m42, .ref m43, .ref m44, .ref m45]))] H := hP
    have hD : va_D A [(h0, .inr (11, [.int 0, .int 0, .int 0, .ref m3, .ref m4, .ref m5, .int 0, .ref m7, .ref m8, .ref m9, .ref m10, .int 0, .ref m12, .int 0, .int (-1), .int 0, .int 0, .int 0, .ref m18, .int 0, .ref m20, .ref m21, .ref m22, .ref m23, .ref m24, .int 0, .ref m26, .ref m27, .ref m28, .int 0, .ref m30, .int 0, .int 0, .ref m33, .int 0, .int 0, .ref m36, .int 0, .ref m38, .ref m39, .ref m40, .int 0, .ref m42, .ref m43, .ref m44, .ref m45]))] := hD
    try dsimp only at hw5
    refine lv_iload_n hx hb dX11_toWhom_33 rfl (lv_at hl 1 rfl) ?_
    refine lv_iconst (v := (-1)) hx hb dX11_toWhom_34 (by decide) ?_
    refine lv_icmp_ne (tgt := 45) hx hb dX11_toWhom_35 (by decide) (fun c6 => ?_) (fun c6 => ?_)
    · exact absurd c1 c6
    refine lv_aload_n hx hb dX11_toWhom_38 rfl (lv_at hl 0 rfl) ?_
    refine va_get (D := (dC, dI)) (ci := 11) (v := .int 0) (C := RX11) (T := TX11) (N := 46) hx hb hts hi_X11 hown hK hP 0 rfl rfl 32 (by decide) (hts (.fieldLink RX11 272 "LeftQuillsModel" "givenMost" "I") (by decide +kernel)) (fun _ h9 => h9) rfl dX11_toWhom_39 ?_
    refine lv_goto (tgt := 57) hx hb dX11_toWhom_42 (by decide) ?_
    exact W.iret (v := 0) hx hb hr (fun t ht hW => ⟨⟨0, (fun _ => 0), rfl, (if_pos c1).symm, trivial⟩, hS.F ht⟩) hS.2.2 dX11_toWhom_57
  ·
    refine lv_aload_n hx hb dX11_toWhom_5 rfl (lv_at hl 0 rfl) ?_
    refine lv_iload_n hx hb dX11_toWhom_6 rfl (lv_at hl 1 rfl) ?_
    have hPc := hP.sub (ws' := [(h0, .inr (11, [.int 0, .int 0, .int 0, .ref m3, .ref m4, .ref m5, .int 0, .ref m7, .ref m8, .ref m9, .ref m10, .int 0, .ref m12, .int 0, .int (-1), .int 0, .int 0, .int 0, .ref m18, .int 0, .ref m20, .ref m21, .ref m22, .ref m23, .ref m24, .int 0, .ref m26, .ref m27, .ref m28, .int 0, .ref m30, .int 0, .int 0, .ref m33, .int 0, .int 0, .ref m36, .int 0, .ref m38, .ref m39, .ref m40, .int 0, .ref m42, .ref m43, .ref m44, .ref m45]))]) [0] rfl
    refine va_calli (va_runV (As := [.int a0]) (rest := []) ⟨hx, hb, hml, hown, hts⟩ (c_X11_isHand l dC dI cI cZ cQ h0 ([.int 0, .int 0, .int 0, .ref m3, .ref m4, .ref m5, .int 0, .ref m7, .ref m8, .ref m9, .ref m10, .int 0, .ref m12, .int 0, .int (-1), .int 0, .int 0, .int 0, .ref m18, .int 0, .ref m20, .ref m21, .ref m22, .ref m23, .ref m24, .int 0, .ref m26, .ref m27, .ref m28, .int 0, .ref m30, .int 0, .int 0, .ref m33, .int 0, .int 0, .ref m36, .int 0, .ref m38, .ref m39, .ref m40, .int 0, .ref m42, .ref m43, .ref m44, .ref m45]) a0 0 s.heap.size rfl (by decide)) (cwV 1 hts gX11_toWhom_X11_isHand rfl rfl rfl (by decide +kernel) ⟨Nat.le_of_ble_eq_true rfl, Nat.le_of_ble_eq_true rfl⟩) ⟨fun a U g mk q => by obtain ⟨q0, q1, qP, qK⟩ := q; exact ⟨q0, q1, qP, va_K.moved (u := U) (U := U.calling g mk a) (Vm.Alike.refl U.vm) qK⟩, va_recv hK hP (ci := 11) (q0 := 0) rfl rfl, fun U hU hW => ⟨rfl, by rw [hU], by rw [hU]; exact hPc, va_K.moved hW.alike hK⟩⟩ rfl rfl hl.1 rfl (lv_room (Nat.le_of_ble_eq_true rfl)) dX11_toWhom_7 ⟨Nat.le_of_ble_eq_true rfl, Nat.le_of_ble_eq_true rfl⟩) hS (fun q _ h => False.elim h) (fun q h => False.elim h) (fun r7 u8 t H1 locs ht hvm hw9 hB hz1 hk1 hS => ?_)
    have hP := hP.kept (fun k q hk => hk1 q.1 (hP k q hk).lt (fun h => h))
    clear hz1 hk1 hPc
    generalize H1 = H at hP hS ht ⊢
    try dsimp only at hw9
    obtain rfl : r7 = 0 := x_no hw9
    refine lv_if_ne (tgt := 16) hx hb dX11_toWhom_10 (by decide) (fun c10 => ?_) (fun c10 => ?_)
    · exact absurd c10 (by decide)
    clear c10
    refine lv_ldc (v := (-1000000001)) hx hb hown (hts (.constant RX11 188 (-1000000001)) (by decide +kernel)) dX11_toWhom_13 ?_
    exact W.iret (v := (-1000000001)) hx hb hr (fun t ht hW => ⟨⟨(-1000000001), (fun _ => 0), rfl, (if_neg c1).symm, trivial⟩, hS.F ht⟩) hS.2.2 dX11_toWhom_15
set_option maxHeartbeats 4000000 in
set_option maxRecDepth 100000 in
theorem c_X11_takeRead (l : Launch) (dC : Nat → ClassId) (dI : Nat → Nat → Nat) (cI cZ cQ : ClassId) (h0 : Nat) (m3 : Nat) (m4 : Nat) (m5 : Nat) (m7 : Nat) (m8 : Nat) (m9 : Nat) (m10 : Nat) (m12 : Nat) (m18 : Nat) (m20 : Nat) (m21 : Nat) (m22 : Nat) (m23 : Nat) (m24 : Nat) (m26 : Nat) (m27 : Nat) (m28 : Nat) (m30 : Nat) (m33 : Nat) (m36 : Nat) (m38 : Nat) (m39 : Nat) (m40 : Nat) (m42 : Nat) (m43 : Nat) (m44 : Nat) (m45 : Nat) (sz : Nat)  : Met l yX11_takeRead wsX11_takeRead ({ frames := 0, cells := 0, slots := 0, locals := 40 }) (va_Pc [.ref h0] (fun U => U.heap.size = sz ∧ va_P (dC, dI) vwCl [(h0, .inr (11, [.int 0, .int 0, .int 0, .ref m3, .ref m4, .ref m5, .int 0, .ref m7, .ref m8, .ref m9, .ref m10, .int 0, .ref m12, .int 0, .int (-1), .int 0, .int 0, .int 0, .ref m18, .int 0, .ref m20, .ref m21, .ref m22, .ref m23, .ref m24, .int 0, .ref m26, .ref m27, .ref m28, .int 0, .ref m30, .int 0, .int 0, .ref m33, .int 0, .int 0, .ref m36, .int 0, .ref m38, .ref m39, .ref m40, .int 0, .ref m42, .ref m43, .ref m44, .ref m45])), (m18, .inl (cI, 2, .inl (fun _ => 0))), (m10, .inl (cI, 34, .inl (fun _ => 0)))] U.heap ∧ va_K (dC, dI) vwCl (tys0 cI cZ cQ) U ∧ va_D (fun _ => True) [(h0, .inr (11, [.int 0, .int 0, .int 0, .ref m3, .ref m4, .ref m5, .int 0, .ref m7, .ref m8, .ref m9, .ref m10, .int 0, .ref m12, .int 0, .int (-1), .int 0, .int 0, .int 0, .ref m18, .int 0, .ref m20, .ref m21, .ref m22, .ref m23, .ref m24, .int 0, .ref m26, .ref m27, .ref m28, .int 0, .ref m30, .int 0, .int 0, .ref m33, .int 0, .int 0, .ref m36, .int 0, .ref m38, .ref m39, .ref m40, .int 0, .ref m42, .ref m43, .ref m44, .ref m45])), (m18, .inl (cI, 2, .inl (fun _ => 0))), (m10, .inl (cI, 34, .inl (fun _ => 0)))])) (va_Qv (fun (u : Nat → Nat) => True) (fun (u : Nat → Nat) (t : State) => va_P (dC, dI) vwCl [(h0, .inr (11, [.int 0, .int 0, .int 0, .ref m3, .ref m4, .ref m5, .int 0, .ref m7, .ref m8, .ref m9, .ref m10, .int 0, .ref m12, .int 0, .int (-1), .int 0, .int 0, .int 0, .ref m18, .int 0, .ref m20, .ref m21, .ref m22, .ref m23, .ref m24, .int 0, .ref m26, .ref m27, .ref m28, .int 0, .ref m30, .int 0, .int 0, .ref m33, .int 0, .int 0, .ref m36, .int 0, .ref m38, .ref m39, .ref m40, .int 0, .ref m42, .ref m43, .ref m44, .ref m45]))] t.heap ∧ va_D (va_A [(h0, .inr (11, [.int 0, .int 0, .int 0, .ref m3, .ref m4, .ref m5, .int 0, .ref m7, .ref m8, .ref m9, .ref m10, .int 0, .ref m12, .int 0, .int (-1), .int 0, .int 0, .int 0, .ref m18, .int 0, .ref m20, .ref m21, .ref m22, .ref m23, .ref m24, .int 0, .ref m26, .ref m27, .ref m28, .int 0, .ref m30, .int 0, .int 0, .ref m33, .int 0, .int 0, .ref m36, .int 0, .ref m38, .ref m39, .ref m40, .int 0, .ref m42, .ref m43, .ref m44, .ref m45])), (m18, .inl (cI, 2, .inl (fun _ => 0))), (m10, .inl (cI, 34, .inl (fun _ => 0)))] sz) [(h0, .inr (11, [.int 0, .int 0, .int 0, .ref m3, .ref m4, .ref m5, .int 0, .ref m7, .ref m8, .ref m9, .ref m10, .int 0, .ref m12, .int 0, .int (-1), .int 0, .int 0, .int 0, .ref m18, .int 0, .ref m20, .ref m21, .ref m22, .ref m23, .ref m24, .int 0, .ref m26, .ref m27, .ref m28, .int 0, .ref m30, .int 0, .int 0, .ref m33, .int 0, .int 0, .ref m36, .int 0, .ref m38, .ref m39, .ref m40, .int 0, .ref m42, .ref m43, .ref m44, .ref m45]))]) (va_A [(h0, .inr (11, [.int 0, .int 0, .int 0, .ref m3, .ref m4, .ref m5, .int 0, .ref m7, .ref m8, .ref m9, .ref m10, .int 0, .ref m12, .int 0, .int (-1), .int 0, .int 0, .int 0, .ref m18, .int 0, .ref m20, .ref m21, .ref m22, .ref m23, .ref m24, .int 0, .ref m26, .ref m27, .ref m28, .int 0, .ref m30, .int 0, .int 0, .ref m33, .int 0, .int 0, .ref m36, .int 0, .ref m38, .ref m39, .ref m40, .int 0, .ref m42, .ref m43, .ref m44, .ref m45])), (m18, .inl (cI, 2, .inl (fun _ => 0))), (m10, .inl (cI, 34, .inl (fun _ => 0)))] sz)) 0 0 (va_A [(h0, .inr (11, [.int 0, .int 0, .int 0, .ref m3, .ref m4, .ref m5, .int 0, .ref m7, .ref m8, .ref m9, .ref m10, .int 0, .ref m12, .int 0, .int (-1), .int 0, .int 0, .int 0, .ref m18, .int 0, .ref m20, .ref m21, .ref m22, .ref m23, .ref m24, .int 0, .ref m26, .ref m27, .ref m28, .int 0, .ref m30, .int 0, .int 0, .ref m33, .int 0, .int 0, .ref m36, .int 0, .ref m38, .ref m39, .ref m40, .int 0, .ref m42, .ref m43, .ref m44, .ref m45])), (m18, .inl (cI, 2, .inl (fun _ => 0))), (m10, .inl (cI, 34, .inl (fun _ => 0)))] sz) := by
  refine Met.ofW (cc := cX11_takeRead) (maxL := 2) (ret := none) (by decide) rfl ?_
  intro p e s m args below meth c s₁ B hml hv
  obtain ⟨rfl, hsz, hP, hK, hD0⟩ := hv
  have hx := B.exec
  have hb := B.bytes
  have hr := B.returns
  have hts := atoms_spec (ws := wsX11_takeRead) B.pre
  have hown : s.vm.findClass RX11 = some m.cls := findClass_of_methodNamed B.named
  have hlocks := B.notSynchronized
  have hi_X11 : ∀ w ∈ u_ws RX11 TX11 46, w ∈ wsX11_takeRead := by decide +kernel
  subst hsz
  have hD := hD0.self (sz := s.heap.size)
  generalize hAe : va_A [(h0, .inr (11, [.int 0, .int 0, .int 0, .ref m3, .ref m4, .ref m5, .int 0, .ref m7, .ref m8, .ref m9, .ref m10, .int 0, .ref m12, .int 0, .int (-1), .int 0, .int 0, .int 0, .ref m18, .int 0, .ref m20, .ref m21, .ref m22, .ref m23, .ref m24, .int 0, .ref m26, .ref m27, .ref m28, .int 0, .ref m30, .int 0, .int 0, .ref m33, .int 0, .int 0, .ref m36, .int 0, .ref m38, .ref m39, .ref m40, .int 0, .ref m42, .ref m43, .ref m44, .ref m45])), (m18, .inl (cI, 2, .inl (fun _ => 0))), (m10, .inl (cI, 34, .inl (fun _ => 0)))] s.heap.size = A at hD ⊢
  have hA : ∀ q : Nat, s.heap.size ≤ q → A q := fun q h => by rw [← hAe]; exact Or.inr h
  have hS : va_S A s.heap s.heap [] := va_S.rf
  have hl := lv_entry ([.ref h0]) (n := 2) (Nat.le_of_ble_eq_true rfl)
  rw [lg_entry_eq]
  generalize (lg_sl ([.ref h0]) ++ List.replicate (2 - (lg_sl ([.ref h0])).length) Slot.unset).toArray = ls at hl ⊢
  have hl : lv_has ls 2 [(0, .ref h0)] := hl
  refine lv_aload_n hx hb dX11_takeRead_0 rfl (lv_at hl 0 rfl) ?_
  refine lv_aload_n hx hb dX11_takeRead_1 rfl (lv_at hl 0 rfl) ?_
  refine va_get (D := (dC, dI)) (ci := 11) (v := .ref m18) (C := RX11) (T := TX11) (N := 46) hx hb hts hi_X11 hown hK hP 0 rfl rfl 18 (by decide) (hts (.fieldLink RX11 38 "LeftQuillsModel" "readOffice" "[I") (by decide +kernel)) (fun _ h9 => h9) rfl dX11_takeRead_2 ?_
  refine lv_iconst (v := 0) hx hb dX11_takeRead_5 (by decide) ?_
  refine va_iald hx hb hK hP 1 0 rfl rfl (vp_in_iff.mpr ⟨by decide, by decide⟩) dX11_takeRead_6 ?_
  refine W.eq (g2 := F0 m 7 ls (.int 0 :: [.ref h0])) rfl ?_
  refine va_put (D := (dC, dI)) (ci := 11) (v := .int 0) (ty := .int) (C := RX11) (T := TX11) (N := 46) hx hb hts hi_X11 tyX11 tyX11_ok nmX11 hown hK hP hD hS 0 rfl rfl 0 (by decide) (hts (.fieldLink RX11 96 "LeftQuillsModel" "blunt" "I") (by decide +kernel)) (fun _ h9 => h9) rfl (by decide +kernel) rfl rfl (Nat.le_of_ble_eq_true rfl) dX11_takeRead_7 (fun H locs hP hD hS => ?_)
  have hP : va_P (dC, dI) vwCl [(h0, .inr (11, [.int 0, .int 0, .int 0, .ref m3, .ref m4, .ref m5, .int 0, .ref m7, .ref m8, .ref m9, .ref m10, .int 0, .ref m12, .int 0, .int (-1), .int 0, .int 0, .int 0, .ref m18, .int 0, .ref m20, .ref m21, .ref m22, .ref m23, .ref m24, .int 0, .ref m26, .ref m27, .ref m28, .int 0, .ref m30, .int 0, .int 0, .ref m33, .int 0, .int 0, .ref m36, .int 0, .ref m38, .ref m39, .ref m40, .int 0, .ref m42, .ref m43, .ref m44, .ref m45])), (m18, .inl (cI, 2, .inl (fun _ => 0))), (m10, .inl (cI, 34, .inl (fun _ => 0)))] H := hP
  have hD : va_D A [(h0, .inr (11, [.int 0, .int 0, .int 0, .ref m3, .ref m4, .ref m5, .int 0, .ref m7, .ref m8, .ref m9, .ref m10, .int 0, .ref m12, .int 0, .int (-1), .int 0, .int 0, .int 0, .ref m18, .int 0, .ref m20, .ref m21, .ref m22, .ref m23, .ref m24, .int 0, .ref m26, .ref m27, .ref m28, .int 0, .ref m30, .int 0, .int 0, .ref m33, .int 0, .int 0, .ref m36, .int 0, .ref m38, .ref m39, .ref m40, .int 0, .ref m42, .ref m43, .ref m44, .ref m45])), (m18, .inl (cI, 2, .inl (fun _ => 0))), (m10, .inl (cI, 34, .inl (fun _ => 0)))] := hD
  refine lv_aload_n hx hb dX11_takeRead_10 rfl (lv_at hl 0 rfl) ?_
  refine lv_aload_n hx hb dX11_takeRead_11 rfl (lv_at hl 0 rfl) ?_
  refine va_get (D := (dC, dI)) (ci := 11) (v := .ref m18) (C := RX11) (T := TX11) (N := 46) hx hb hts hi_X11 hown hK hP 0 rfl rfl 18 (by decide) (hts (.fieldLink RX11 38 "LeftQuillsModel" "readOffice" "[I") (by decide +kernel)) (fun _ h9 => h9) rfl dX11_takeRead_12 ?_
  refine lv_iconst (v := 1) hx hb dX11_takeRead_15 (by decide) ?_
  refine va_iald hx hb hK hP 1 0 rfl rfl (vp_in_iff.mpr ⟨by decide, by decide⟩) dX11_takeRead_16 ?_
  refine W.eq (g2 := F0 m 17 ls (.int 0 :: [.ref h0])) rfl ?_
  refine va_put (D := (dC, dI)) (ci := 11) (v := .int 0) (ty := .int) (C := RX11) (T := TX11) (N := 46) hx hb hts hi_X11 tyX11 tyX11_ok nmX11 hown hK hP hD hS 0 rfl rfl 1 (by decide) (hts (.fieldLink RX11 159 "LeftQuillsModel" "mendTakes" "I") (by decide +kernel)) (fun _ h9 => h9) rfl (by decide +kernel) rfl rfl (Nat.le_of_ble_eq_true rfl) dX11_takeRead_17 (fun H locs hP hD hS => ?_)
  have hP : va_P (dC, dI) vwCl [(h0, .inr (11, [.int 0, .int 0, .int 0, .ref m3, .ref m4, .ref m5, .int 0, .ref m7, .ref m8, .ref m9, .ref m10, .int 0, .ref m12, .int 0, .int (-1), .int 0, .int 0, .int 0, .ref m18, .int 0, .ref m20, .ref m21, .ref m22, .ref m23, .ref m24, .int 0, .ref m26, .ref m27, .ref m28, .int 0, .ref m30, .int 0, .int 0, .ref m33, .int 0, .int 0, .ref m36, .int 0, .ref m38, .ref m39, .ref m40, .int 0, .ref m42, .ref m43, .ref m44, .ref m45])), (m18, .inl (cI, 2, .inl (fun _ => 0))), (m10, .inl (cI, 34, .inl (fun _ => 0)))] H := hP
  have hD : va_D A [(h0, .inr (11, [.int 0, .int 0, .int 0, .ref m3, .ref m4, .ref m5, .int 0, .ref m7, .ref m8, .ref m9, .ref m10, .int 0, .ref m12, .int 0, .int (-1), .int 0, .int 0, .int 0, .ref m18, .int 0, .ref m20, .ref m21, .ref m22, .ref m23, .ref m24, .int 0, .ref m26, .ref m27, .ref m28, .int 0, .ref m30, .int 0, .int 0, .ref m33, .int 0, .int 0, .ref m36, .int 0, .ref m38, .ref m39, .ref m40, .int 0, .ref m42, .ref m43, .ref m44, .ref m45])), (m18, .inl (cI, 2, .inl (fun _ => 0))), (m10, .inl (cI, 34, .inl (fun _ => 0)))] := hD
  refine lv_aload_n hx hb dX11_takeRead_20 rfl (lv_at hl 0 rfl) ?_
  refine lv_aload_n hx hb dX11_takeRead_21 rfl (lv_at hl 0 rfl) ?_
  refine va_get (D := (dC, dI)) (ci := 11) (v := .int 0) (C := RX11) (T := TX11) (N := 46) hx hb hts hi_X11 hown hK hP 0 rfl rfl 19 (by decide) (hts (.fieldLink RX11 144 "LeftQuillsModel" "readQuills" "I") (by decide +kernel)) (fun _ h9 => h9) rfl dX11_takeRead_22 ?_
  refine va_put (D := (dC, dI)) (ci := 11) (v := .int 0) (ty := .int) (C := RX11) (T := TX11) (N := 46) hx hb hts hi_X11 tyX11 tyX11_ok nmX11 hown hK hP hD hS 0 rfl rfl 2 (by decide) (hts (.fieldLink RX11 99 "LeftQuillsModel" "quills" "I") (by decide +kernel)) (fun _ h9 => h9) rfl (by decide +kernel) rfl rfl (Nat.le_of_ble_eq_true rfl) dX11_takeRead_25 (fun H locs hP hD hS => ?_)
  have hP : va_P (dC, dI) vwCl [(h0, .inr (11, [.int 0, .int 0, .int 0, .ref m3, .ref m4, .ref m5, .int 0, .ref m7, .ref m8, .ref m9, .ref m10, .int 0, .ref m12, .int 0, .int (-1), .int 0, .int 0, .int 0, .ref m18, .int 0, .ref m20, .ref m21, .ref m22, .ref m23, .ref m24, .int 0, .ref m26, .ref m27, .ref m28, .int 0, .ref m30, .int 0, .int 0, .ref m33, .int 0, .int 0, .ref m36, .int 0, .ref m38, .ref m39, .ref m40, .int 0, .ref m42, .ref m43, .ref m44, .ref m45])), (m18, .inl (cI, 2, .inl (fun _ => 0))), (m10, .inl (cI, 34, .inl (fun _ => 0)))] H := hP
  have hD : va_D A [(h0, .inr (11, [.int 0, .int 0, .int 0, .ref m3, .ref m4, .ref m5, .int 0, .ref m7, .ref m8, .ref m9, .ref m10, .int 0, .ref m12, .int 0, .int (-1), .int 0, .int 0, .int 0, .ref m18, .int 0, .ref m20, .ref m21, .ref m22, .ref m23, .ref m24, .int 0, .ref m26, .ref m27, .ref m28, .int 0, .ref m30, .int 0, .int 0, .ref m33, .int 0, .int 0, .ref m36, .int 0, .ref m38, .ref m39, .ref m40, .int 0, .ref m42, .ref m43, .ref m44, .ref m45])), (m18, .inl (cI, 2, .inl (fun _ => 0))), (m10, .inl (cI, 34, .inl (fun _ => 0)))] := hD
  refine lv_aload_n hx hb dX11_takeRead_28 rfl (lv_at hl 0 rfl) ?_
  refine lv_aload_n hx hb dX11_takeRead_29 rfl (lv_at hl 0 rfl) ?_
  refine va_get (D := (dC, dI)) (ci := 11) (v := .int 0) (C := RX11) (T := TX11) (N := 46) hx hb hts hi_X11 hown hK hP 0 rfl rfl 25 (by decide) (hts (.fieldLink RX11 147 "LeftQuillsModel" "readHands" "I") (by decide +kernel)) (fun _ h9 => h9) rfl dX11_takeRead_30 ?_
  refine va_put (D := (dC, dI)) (ci := 11) (v := .int 0) (ty := .int) (C := RX11) (T := TX11) (N := 46) hx hb hts hi_X11 tyX11 tyX11_ok nmX11 hown hK hP hD hS 0 rfl rfl 6 (by decide) (hts (.fieldLink RX11 106 "LeftQuillsModel" "hands" "I") (by decide +kernel)) (fun _ h9 => h9) rfl (by decide +kernel) rfl rfl (Nat.le_of_ble_eq_true rfl) dX11_takeRead_33 (fun H locs hP hD hS => ?_)
  have hP : va_P (dC, dI) vwCl [(h0, .inr (11, [.int 0, .int 0, .int 0, .ref m3, .ref m4, .ref m5, .int 0, .ref m7, .ref m8, .ref m9, .ref m10, .int 0, .ref m12, .int 0, .int (-1), .int 0, .int 0, .int 0, .ref m18, .int 0, .ref m20, .ref m21, .ref m22, .ref m23, .ref m24, .int 0, .ref m26, .ref m27, .ref m28, .int 0, .ref m30, .int 0, .int 0, .ref m33, .int 0, .int 0, .ref m36, .int 0, .ref m38, .ref m39, .ref m40, .int 0, .ref m42, .ref m43, .ref m44, .ref m45])), (m18, .inl (cI, 2, .inl (fun _ => 0))), (m10, .inl (cI, 34, .inl (fun _ => 0)))] H := hP
  have hD : va_D A [(h0, .inr (11, [.int 0, .int 0, .int 0, .ref m3, .ref m4, .ref m5, .int 0, .ref m7, .ref m8, .ref m9, .ref m10, .int 0, .ref m12, .int 0, .int (-1), .int 0, .int 0, .int 0, .ref m18, .int 0, .ref m20, .ref m21, .ref m22, .ref m23, .ref m24, .int 0, .ref m26, .ref m27, .ref m28, .int 0, .ref m30, .int 0, .int 0, .ref m33, .int 0, .int 0, .ref m36, .int 0, .ref m38, .ref m39, .ref m40, .int 0, .ref m42, .ref m43, .ref m44, .ref m45])), (m18, .inl (cI, 2, .inl (fun _ => 0))), (m10, .inl (cI, 34, .inl (fun _ => 0)))] := hD
  refine lv_iconst (v := 0) hx hb dX11_takeRead_36 (by decide) ?_
  refine lv_istore_n (lv' := [(1, .int 0), (0, .ref h0)]) hx hb dX11_takeRead_37 rfl hl (by decide) rfl (fun ls hl => ?_)
  refine lv_iload_n hx hb dX11_takeRead_38 rfl (lv_at hl 0 rfl) ?_
  refine lv_bipush (v := 34) hx hb dX11_takeRead_39 (by decide) ?_
  refine lv_icmp_ge (tgt := 57) hx hb dX11_takeRead_41 (by decide) (fun c1 => ?_) (fun c1 => ?_)
  · exact absurd c1 (by decide)
  clear c1
  refine lv_aload_n hx hb dX11_takeRead_44 rfl (lv_at hl 1 rfl) ?_
  refine va_get (D := (dC, dI)) (ci := 11) (v := .ref m10) (C := RX11) (T := TX11) (N := 46) hx hb hts hi_X11 hown hK hP 0 rfl rfl 10 (by decide) (hts (.fieldLink RX11 28 "LeftQuillsModel" "now" "[I") (by decide +kernel)) (fun _ h9 => h9) rfl dX11_takeRead_45 ?_
  refine lv_iload_n hx hb dX11_takeRead_48 rfl (lv_at hl 0 rfl) ?_
  refine lv_iconst (v := 0) hx hb dX11_takeRead_49 (by decide) ?_
  refine va_iast hx hb hK hP hD hS 2 0 rfl rfl (vp_in_iff.mpr ⟨by decide, by decide⟩) dX11_takeRead_50 (fun H locs hP hD hS => ?_)
  rw [x_upd0] at hP hD
  have hP : va_P (dC, dI) vwCl [(h0, .inr (11, [.int 0, .int 0, .int 0, .ref m3, .ref m4, .ref m5, .int 0, .ref m7, .ref m8, .ref m9, .ref m10, .int 0, .ref m12, .int 0, .int (-1), .int 0, .int 0, .int 0, .ref m18, .int 0, .ref m20, .ref m21, .ref m22, .ref m23, .ref m24, .int 0, .ref m26, .ref m27, .ref m28, .int 0, .ref m30, .int 0, .int 0, .ref m33, .int 0, .int 0, .ref m36, .int 0, .ref m38, .ref m39, .ref m40, .int 0, .ref m42, .ref m43, .ref m44, .ref m45])), (m18, .inl (cI, 2, .inl (fun _ => 0))), (m10, .inl (cI, 34, .inl (fun _ => 0)))] H := hP
  have hD : va_D A [(h0, .inr (11, [.int 0, .int 0, .int 0, .ref m3, .ref m4, .ref m5, .int 0, .ref m7, .ref m8, .ref m9, .ref m10, .int 0, .ref m12, .int 0, .int (-1), .int 0, .int 0, .int 0, .ref m18, .int 0, .ref m20, .ref m21, .ref m22, .ref m23, .ref m24, .int 0, .ref m26, .ref m27, .ref m28, .int 0, .ref m30, .int 0, .int 0, .ref m33, .int 0, .int 0, .ref m36, .int 0, .ref m38, .ref m39, .ref m40, .int 0, .ref m42, .ref m43, .ref m44, .ref m45])), (m18, .inl (cI, 2, .inl (fun _ => 0))), (m10, .inl (cI, 34, .inl (fun _ => 0)))] := hD
  refine lv_iinc (v := 1) (lv' := [(1, .int 1), (0, .ref h0)]) hx hb dX11_takeRead_51 hl (k := 0) rfl (by decide) (by decide) rfl (fun ls hl => ?_)
  refine lv_goto (tgt := 38) hx hb dX11_takeRead_54 (by decide) ?_
  refine lv_iload_n hx hb dX11_takeRead_38 rfl (lv_at hl 0 rfl) ?_
  refine lv_bipush (v := 34) hx hb dX11_takeRead_39 (by decide) ?_
  refine lv_icmp_ge (tgt := 57) hx hb dX11_takeRead_41 (by decide) (fun c3 => ?_) (fun c3 => ?_)
  · exact absurd c3 (by decide)
  clear c3
  refine lv_aload_n hx hb dX11_takeRead_44 rfl (lv_at hl 1 rfl) ?_
  refine va_get (D := (dC, dI)) (ci := 11) (v := .ref m10) (C := RX11) (T := TX11) (N := 46) hx hb hts hi_X11 hown hK hP 0 rfl rfl 10 (by decide) (hts (.fieldLink RX11 28 "LeftQuillsModel" "now" "[I") (by decide +kernel)) (fun _ h9 => h9) rfl dX11_takeRead_45 ?_
  refine lv_iload_n hx hb dX11_takeRead_48 rfl (lv_at hl 0 rfl) ?_
  refine lv_iconst (v := 0) hx hb dX11_takeRead_49 (by decide) ?_
  refine va_iast hx hb hK hP hD hS 2 0 rfl rfl (vp_in_iff.mpr ⟨by decide, by decide⟩) dX11_takeRead_50 (fun H locs hP hD hS => ?_)
  rw [x_upd0] at hP hD
  have hP : va_P (dC, dI) vwCl [(h0, .inr (11, [.int 0, .int 0, .int 0, .ref m3, .ref m4, .ref m5, .int 0, .ref m7, .ref m8, .ref m9, .ref m10, .int 0, .ref m12, .int 0, .int (-1), .int 0, .int 0, .int 0, .ref m18, .int 0, .ref m20, .ref m21, .ref m22, .ref m23, .ref m24, .int 0, .ref m26, .ref m27, .ref m28, .int 0, .ref m30, .int 0, .int 0, .ref m33, .int 0, .int 0, .ref m36, .int 0, .ref m38, .ref m39, .ref m40, .int 0, .ref m42, .ref m43, .ref m44, .ref m45])), (m18, .inl (cI, 2, .inl (fun _ => 0))), (m10, .inl (cI, 34, .inl (fun _ => 0)))] H := hP
  have hD : va_D A [(h0, .inr (11, [.int 0, .int 0, .int 0, .ref m3, .ref m4, .ref m5, .int 0, .ref m7, .ref m8, .ref m9, .ref m10, .int 0, .ref m12, .int 0, .int (-1), .int 0, .int 0, .int 0, .ref m18, .int 0, .ref m20, .ref m21, .ref m22, .ref m23, .ref m24, .int 0, .ref m26, .ref m27, .ref m28, .int 0, .ref m30, .int 0, .int 0, .ref m33, .int 0, .int 0, .ref m36, .int 0, .ref m38, .ref m39, .ref m40, .int 0, .ref m42, .ref m43, .ref m44, .ref m45])), (m18, .inl (cI, 2, .inl (fun _ => 0))), (m10, .inl (cI, 34, .inl (fun _ => 0)))] := hD
  refine lv_iinc (v := 2) (lv' := [(1, .int 2), (0, .ref h0)]) hx hb dX11_takeRead_51 hl (k := 0) rfl (by decide) (by decide) rfl (fun ls hl => ?_)
  refine lv_goto (tgt := 38) hx hb dX11_takeRead_54 (by decide) ?_
  refine lv_iload_n hx hb dX11_takeRead_38 rfl (lv_at hl 0 rfl) ?_
  refine lv_bipush (v := 34) hx hb dX11_takeRead_39 (by decide) ?_
  refine lv_icmp_ge (tgt := 57) hx hb dX11_takeRead_41 (by decide) (fun c5 => ?_) (fun c5 => ?_)
  · exact absurd c5 (by decide)
  clear c5
  refine lv_aload_n hx hb dX11_takeRead_44 rfl (lv_at hl 1 rfl) ?_
  refine va_get (D := (dC, dI)) (ci := 11) (v := .ref m10) (C := RX11) (T := TX11) (N := 46) hx hb hts hi_X11 hown hK hP 0 rfl rfl 10 (by decide) (hts (.fieldLink RX11 28 "LeftQuillsModel" "now" "[I") (by decide +kernel)) (fun _ h9 => h9) rfl dX11_takeRead_45 ?_
  refine lv_iload_n hx hb dX11_takeRead_48 rfl (lv_at hl 0 rfl) ?_
  refine lv_iconst (v := 0) hx hb dX11_takeRead_49 (by decide) ?_
  refine va_iast hx hb hK hP hD hS 2 0 rfl rfl (vp_in_iff.mpr ⟨by decide, by decide⟩) dX11_takeRead_50 (fun H locs hP hD hS => ?_)
  rw [x_upd0] at hP hD
  have hP : va_P (dC, dI) vwCl [(h0, .inr (11, [.int 0, .int 0, .int 0, .ref m3, .ref m4, .ref m5, .int 0, .ref m7, .ref m8, .ref m9, .ref m10, .int 0, .ref m12, .int 0, .int (-1), .int 0, .int 0, .int 0, .ref m18, .int 0, .ref m20, .ref m21, .ref m22, .ref m23, .ref m24, .int 0, .ref m26, .ref m27, .ref m28, .int 0, .ref m30, .int 0, .int 0, .ref m33, .int 0, .int 0, .ref m36, .int 0, .ref m38, .ref m39, .ref m40, .int 0, .ref m42, .ref m43, .ref m44, .ref m45])), (m18, .inl (cI, 2, .inl (fun _ => 0))), (m10, .inl (cI, 34, .inl (fun _ => 0)))] H := hP
  have hD : va_D A [(h0, .inr (11, [.int 0, .int 0, .int 0, .ref m3, .ref m4, .ref m5, .int 0, .ref m7, .ref m8, .ref m9, .ref m10, .int 0, .ref m12, .int 0, .int (-1), .int 0, .int 0, .int 0, .ref m18, .int 0, .ref m20, .ref m21, .ref m22, .ref m23, .ref m24, .int 0, .ref m26, .ref m27, .ref m28, .int 0, .ref m30, .int 0, .int 0, .ref m33, .int 0, .int 0, .ref m36, .int 0, .ref m38, .ref m39, .ref m40, .int 0, .ref m42, .ref m43, .ref m44, .ref m45])), (m18, .inl (cI, 2, .inl (fun _ => 0))), (m10, .inl (cI, 34, .inl (fun _ => 0)))] := hD
  refine lv_iinc (v := 3) (lv' := [(1, .int 3), (0, .ref h0)]) hx hb dX11_takeRead_51 hl (k := 0) rfl (by decide) (by decide) rfl (fun ls hl => ?_)
  refine lv_goto (tgt := 38) hx hb dX11_takeRead_54 (by decide) ?_
  refine lv_iload_n hx hb dX11_takeRead_38 rfl (lv_at hl 0 rfl) ?_
  refine lv_bipush (v := 34) hx hb dX11_takeRead_39 (by decide) ?_
  refine lv_icmp_ge (tgt := 57) hx hb dX11_takeRead_41 (by decide) (fun c7 => ?_) (fun c7 => ?_)
  · exact absurd c7 (by decide)
  clear c7
  refine lv_aload_n hx hb dX11_takeRead_44 rfl (lv_at hl 1 rfl) ?_
  refine va_get (D := (dC, dI)) (ci := 11) (v := .ref m10) (C := RX11) (T := TX11) (N := 46) hx hb hts hi_X11 hown hK hP 0 rfl rfl 10 (by decide) (hts (.fieldLink RX11 28 "LeftQuillsModel" "now" "[I") (by decide +kernel)) (fun _ h9 => h9) rfl dX11_takeRead_45 ?_
  refine lv_iload_n hx hb dX11_takeRead_48 rfl (lv_at hl 0 rfl) ?_
  refine lv_iconst (v := 0) hx hb dX11_takeRead_49 (by decide) ?_
  refine va_iast hx hb hK hP hD hS 2 0 rfl rfl (vp_in_iff.mpr ⟨by decide, by decide⟩) dX11_takeRead_50 (fun H locs hP hD hS => ?_)
  rw [x_upd0] at hP hD
  have hP : va_P (dC, dI) vwCl [(h0, .inr (11, [.int 0, .int 0, .int 0, .ref m3, .ref m4, .ref m5, .int 0, .ref m7, .ref m8, .ref m9, .ref m10, .int 0, .ref m12, .int 0, .int (-1), .int 0, .int 0, .int 0, .ref m18, .int 0, .ref m20, .ref m21, .ref m22, .ref m23, .ref m24, .int 0, .ref m26, .ref m27, .ref m28, .int 0, .ref m30, .int 0, .int 0, .ref m33, .int 0, .int 0, .ref m36, .int 0, .ref m38, .ref m39, .ref m40, .int 0, .ref m42, .ref m43, .ref m44, .ref m45])), (m18, .inl (cI, 2, .inl (fun _ => 0))), (m10, .inl (cI, 34, .inl (fun _ => 0)))] H := hP
  have hD : va_D A [(h0, .inr (11, [.int 0, .int 0, .int 0, .ref m3, .ref m4, .ref m5, .int 0, .ref m7, .ref m8, .ref m9, .ref m10, .int 0, .ref m12, .int 0, .int (-1), .int 0, .int 0, .int 0, .ref m18, .int 0, .ref m20, .ref m21, .ref m22, .ref m23, .ref m24, .int 0, .ref m26, .ref m27, .ref m28, .int 0, .ref m30, .int 0, .int 0, .ref m33, .int 0, .int 0, .ref m36, .int 0, .ref m38, .ref m39, .ref m40, .int 0, .ref m42, .ref m43, .ref m44, .ref m45])), (m18, .inl (cI, 2, .inl (fun _ => 0))), (m10, .inl (cI, 34, .inl (fun _ => 0)))] := hD
  refine lv_iinc (v := 4) (lv' := [(1, .int 4), (0, .ref h0)]) hx hb dX11_takeRead_51 hl (k := 0) rfl (by decide) (by decide) rfl (fun ls hl => ?_)
  refine lv_goto (tgt := 38) hx hb dX11_takeRead_54 (by decide) ?_
  refine lv_iload_n hx hb dX11_takeRead_38 rfl (lv_at hl 0 rfl) ?_
  refine lv_bipush (v := 34) hx hb dX11_takeRead_39 (by decide) ?_
  refine lv_icmp_ge (tgt := 57) hx hb dX11_takeRead_41 (by decide) (fun c9 => ?_) (fun c9 => ?_)
  · exact absurd c9 (by decide)
  clear c9
  refine lv_aload_n hx hb dX11_takeRead_44 rfl (lv_at hl 1 rfl) ?_
  refine va_get (D := (dC, dI)) (ci := 11) (v := .ref m10) (C := RX11) (T := TX11) (N := 46) hx hb hts hi_X11 hown hK hP 0 rfl rfl 10 (by decide) (hts (.fieldLink RX11 28 "LeftQuillsModel" "now" "[I") (by decide +kernel)) (fun _ h9 => h9) rfl dX11_takeRead_45 ?_
  refine lv_iload_n hx hb dX11_takeRead_48 rfl (lv_at hl 0 rfl) ?_
  refine lv_iconst (v := 0) hx hb dX11_takeRead_49 (by decide) ?_
  refine va_iast hx hb hK hP hD hS 2 0 rfl rfl (vp_in_iff.mpr ⟨by decide, by decide⟩) dX11_takeRead_50 (fun H locs hP hD hS => ?_)
  rw [x_upd0] at hP hD
  have hP : va_P (dC, dI) vwCl [(h0, .inr (11, [.int 0, .int 0, .int 0, .ref m3, .ref m4, .ref m5, .int 0, .ref m7, .ref m8, .ref m9, .ref m10, .int 0, .ref m12, .int 0, .int (-1), .int 0, .int 0, .int 0, .ref m18, .int 0, .ref m20, .ref m21, .ref m22, .ref m23, .ref m24, .int 0, .ref m26, .ref m27, .ref m28, .int 0, .ref m30, .int 0, .int 0, .ref m33, .int 0, .int 0, .ref m36, .int 0, .ref m38, .ref m39, .ref m40, .int 0, .ref m42, .ref m43, .ref m44, .ref m45])), (m18, .inl (cI, 2, .inl (fun _ => 0))), (m10, .inl (cI, 34, .inl (fun _ => 0)))] H := hP
  have hD : va_D A [(h0, .inr (11, [.int 0, .int 0, .int 0, .ref m3, .ref m4, .ref m5, .int 0, .ref m7, .ref m8, .ref m9, .ref m10, .int 0, .ref m12, .int 0, .int (-1), .int 0, .int 0, .int 0, .ref m18, .int 0, .ref m20, .ref m21, .ref m22, .ref m23, .ref m24, .int 0, .ref m26, .ref m27, .ref m28, .int 0, .ref m30, .int 0, .int 0, .ref m33, .int 0, .int 0, .ref m36, .int 0, .ref m38, .ref m39, .ref m40, .int 0, .ref m42, .ref m43, .ref m44, .ref m45])), (m18, .inl (cI, 2, .inl (fun _ => 0))), (m10, .inl (cI, 34, .inl (fun _ => 0)))] := hD
  refine lv_iinc (v := 5) (lv' := [(1, .int 5), (0, .ref h0)]) hx hb dX11_takeRead_51 hl (k := 0) rfl (by decide) (by decide) rfl (fun ls hl => ?_)
  refine lv_goto (tgt := 38) hx hb dX11_takeRead_54 (by decide) ?_
  refine lv_iload_n hx hb dX11_takeRead_38 rfl (lv_at hl 0 rfl) ?_
  refine lv_bipush (v := 34) hx hb dX11_takeRead_39 (by decide) ?_
  refine lv_icmp_ge (tgt := 57) hx hb dX11_takeRead_41 (by decide) (fun c11 => ?_) (fun c11 => ?_)
  · exact absurd c11 (by decide)
  clear c11
  refine lv_aload_n hx hb dX11_takeRead_44 rfl (lv_at hl 1 rfl) ?_
  refine va_get (D := (dC, dI)) (ci := 11) (v := .ref m10) (C := RX11) (T := TX11) (N := 46) hx hb hts hi_X11 hown hK hP 0 rfl rfl 10 (by decide) (hts (.fieldLink RX11 28 "LeftQuillsModel" "now" "[I") (by decide +kernel)) (fun _ h9 => h9) rfl dX11_takeRead_45 ?_
  refine lv_iload_n hx hb dX11_takeRead_48 rfl (lv_at hl 0 rfl) ?_
  refine lv_iconst (v := 0) hx hb dX11_takeRead_49 (by decide) ?_
  refine va_iast hx hb hK hP hD hS 2 0 rfl rfl (vp_in_iff.mpr ⟨by decide, by decide⟩) dX11_takeRead_50 (fun H locs hP hD hS => ?_)
  rw [x_upd0] at hP hD
  have hP : va_P (dC, dI) vwCl [(h0, .inr (11, [.int 0, .int 0, .int 0, .ref m3, .ref m4, .ref m5, .int 0, .ref m7, .ref m8, .ref m9, .ref m10, .int 0, .ref m12, .int 0, .int (-1), .int 0, .int 0, .int 0, .ref m18, .int 0, .ref m20, .ref m21, .ref m22, .ref m23, .ref m24, .int 0, .ref m26, .ref m27, .ref m28, .int 0, .ref m30, .int 0, .int 0, .ref m33, .int 0, .int 0, .ref m36, .int 0, .ref m38, .ref m39, .ref m40, .int 0, .ref m42, .ref m43, .ref m44, .ref m45])), (m18, .inl (cI, 2, .inl (fun _ => 0))), (m10, .inl (cI, 34, .inl (fun _ => 0)))] H := hP
  have hD : va_D A [(h0, .inr (11, [.int 0, .int 0, .int 0, .ref m3, .ref m4, .ref m5, .int 0, .ref m7, .ref m8, .ref m9, .ref m10, .int 0, .ref m12, .int 0, .int (-1), .int 0, .int 0, .int 0, .ref m18, .int 0, .ref m20, .ref m21, .ref m22, .ref m23, .ref m24, .int 0, .ref m26, .ref m27, .ref m28, .int 0, .ref m30, .int 0, .int 0, .ref m33, .int 0, .int 0, .ref m36, .int 0, .ref m38, .ref m39, .ref m40, .int 0, .ref m42, .ref m43, .ref m44, .ref m45])), (m18, .inl (cI, 2, .inl (fun _ => 0))), (m10, .inl (cI, 34, .inl (fun _ => 0)))] := hD
  refine lv_iinc (v := 6) (lv' := [(1, .int 6), (0, .ref h0)]) hx hb dX11_takeRead_51 hl (k := 0) rfl (by decide) (by decide) rfl (fun ls hl => ?_)
  refine lv_goto (tgt := 38) hx hb dX11_takeRead_54 (by decide) ?_
  refine lv_iload_n hx hb dX11_takeRead_38 rfl (lv_at hl 0 rfl) ?_
  refine lv_bipush (v := 34) hx hb dX11_takeRead_39 (by decide) ?_
  refine lv_icmp_ge (tgt := 57) hx hb dX11_takeRead_41 (by decide) (fun c13 => ?_) (fun c13 => ?_)
  · exact absurd c13 (by decide)
  clear c13
  refine lv_aload_n hx hb dX11_takeRead_44 rfl (lv_at hl 1 rfl) ?_
  refine va_get (D := (dC, dI)) (ci := 11) (v := .ref m10) (C := RX11) (T := TX11) (N := 46) hx hb hts hi_X11 hown hK hP 0 rfl rfl 10 (by decide) (hts (.fieldLink RX11 28 "LeftQuillsModel" "now" "[I") (by decide +kernel)) (fun _ h9 => h9) rfl dX11_takeRead_45 ?_
  refine lv_iload_n hx hb dX11_takeRead_48 rfl (lv_at hl 0 rfl) ?_
  refine lv_iconst (v := 0) hx hb dX11_takeRead_49 (by decide) ?_
  refine va_iast hx hb hK hP hD hS 2 0 rfl rfl (vp_in_iff.mpr ⟨by decide, by decide⟩) dX11_takeRead_50 (fun H locs hP hD hS => ?_)
  rw [x_upd0] at hP hD
  have hP : va_P (dC, dI) vwCl [(h0, .inr (11, [.int 0, .int 0, .int 0, .ref m3, .ref m4, .ref m5, .int 0, .ref m7, .ref m8, .ref m9, .ref m10, .int 0, .ref m12, .int 0, .int (-1), .int 0, .int 0, .int 0, .ref m18, .int 0, .ref m20, .ref m21, .ref m22, .ref m23, .ref m24, .int 0, .ref m26, .ref m27, .ref m28, .int 0, .ref m30, .int 0, .int 0, .ref m33, .int 0, .int 0, .ref m36, .int 0, .ref m38, .ref m39, .ref m40, .int 0, .ref m42, .ref m43, .ref m44, .ref m45])), (m18, .inl (cI, 2, .inl (fun _ => 0))), (m10, .inl (cI, 34, .inl (fun _ => 0)))] H := hP
  have hD : va_D A [(h0, .inr (11, [.int 0, .int 0, .int 0, .ref m3, .ref m4, .ref m5, .int 0, .ref m7, .ref m8, .ref m9, .ref m10, .int 0, .ref m12, .int 0, .int (-1), .int 0, .int 0, .int 0, .ref m18, .int 0, .ref m20, .ref m21, .ref m22, .ref m23, .ref m24, .int 0, .ref m26, .ref m27, .ref m28, .int 0, .ref m30, .int 0, .int 0, .ref m33, .int 0, .int 0, .ref m36, .int 0, .ref m38, .ref m39, .ref m40, .int 0, .ref m42, .ref m43, .ref m44, .ref m45])), (m18, .inl (cI, 2, .inl (fun _ => 0))), (m10, .inl (cI, 34, .inl (fun _ => 0)))] := hD
  refine lv_iinc (v := 7) (lv' := [(1, .int 7), (0, .ref h0)]) hx hb dX11_takeRead_51 hl (k := 0) rfl (by decide) (by decide) rfl (fun ls hl => ?_)
  refine lv_goto (tgt := 38) hx hb dX11_takeRead_54 (by decide) ?_
  refine lv_iload_n hx hb dX11_takeRead_38 rfl (lv_at hl 0 rfl) ?_
  refine lv_bipush (v := 34) hx hb dX11_takeRead_39 (by decide) ?_
  refine lv_icmp_ge (tgt := 57) hx hb dX11_takeRead_41 (by decide) (fun c15 => ?_) (fun c15 => ?_)
  · exact absurd c15 (by decide)
  clear c15
  refine lv_aload_n hx hb dX11_takeRead_44 rfl (lv_at hl 1 rfl) ?_
  refine va_get (D := (dC, dI)) (ci := 11) (v := .ref m10) (C := RX11) (T := TX11) (N := 46) hx hb hts hi_X11 hown hK hP 0 rfl rfl 10 (by decide) (hts (.fieldLink RX11 28 "LeftQuillsModel" "now" "[I") (by decide +kernel)) (fun _ h9 => h9) rfl dX11_takeRead_45 ?_
  refine lv_iload_n hx hb dX11_takeRead_48 rfl (lv_at hl 0 rfl) ?_
  refine lv_iconst (v := 0) hx hb dX11_takeRead_49 (by decide) ?_
  refine va_iast hx hb hK hP hD hS 2 0 rfl rfl (vp_in_iff.mpr ⟨by decide, by decide⟩) dX11_takeRead_50 (fun H locs hP hD hS => ?_)
  rw [x_upd0] at hP hD
  have hP : va_P (dC, dI) vwCl [(h0, .inr (11, [.int 0, .int 0, .int 0, .ref m3, .ref m4, .ref m5, .int 0, .ref m7, .ref m8, .ref m9, .ref m10, .int 0, .ref m12, .int 0, .int (-1), .int 0, .int 0, .int 0, .ref m18, .int 0, .ref m20, .ref m21, .ref m22, .ref m23, .ref m24, .int 0, .ref m26, .ref m27, .ref m28, .int 0, .ref m30, .int 0, .int 0, .ref m33, .int 0, .int 0, .ref m36, .int 0, .ref m38, .ref m39, .ref m40, .int 0, .ref m42, .ref m43, .ref m44, .ref m45])), (m18, .inl (cI, 2, .inl (fun _ => 0))), (m10, .inl (cI, 34, .inl (fun _ => 0)))] H := hP
  have hD : va_D A [(h0, .inr (11, [.int 0, .int 0, .int 0, .ref m3, .ref m4, .ref m5, .int 0, .ref m7, .ref m8, .ref m9, .ref m10, .int 0, .ref m12, .int 0, .int (-1), .int 0, .int 0, .int 0, .ref m18, .int 0, .ref m20, .ref m21, .ref m22, .ref m23, .ref m24, .int 0, .ref m26, .ref m27, .ref m28, .int 0, .ref m30, .int 0, .int 0, .ref m33, .int 0, .int 0, .ref m36, .int 0, .ref m38, .ref m39, .ref m40, .int 0, .ref m42, .ref m43, .ref m44, .ref m45])), (m18, .inl (cI, 2, .inl (fun _ => 0))), (m10, .inl (cI, 34, .inl (fun _ => 0)))] := hD
  refine lv_iinc (v := 8) (lv' := [(1, .int 8), (0, .ref h0)]) hx hb dX11_takeRead_51 hl (k := 0) rfl (by decide) (by decide) rfl (fun ls hl => ?_)
  refine lv_goto (tgt := 38) hx hb dX11_takeRead_54 (by decide) ?_
  refine lv_iload_n hx hb dX11_takeRead_38 rfl (lv_at hl 0 rfl) ?_
  refine lv_bipush (v := 34) hx hb dX11_takeRead_39 (by decide) ?_
  refine lv_icmp_ge (tgt := 57) hx hb dX11_takeRead_41 (by decide) (fun c17 => ?_) (fun c17 => ?_)
  · exact absurd c17 (by decide)
  clear c17
  refine lv_aload_n hx hb dX11_takeRead_44 rfl (lv_at hl 1 rfl) ?_
  refine va_get (D := (dC, dI)) (ci := 11) (v := .ref m10) (C := RX11) (T := TX11) (N := 46) hx hb hts hi_X11 hown hK hP 0 rfl rfl 10 (by decide) (hts (.fieldLink RX11 28 "LeftQuillsModel" "now" "[I") (by decide +kernel)) (fun _ h9 => h9) rfl dX11_takeRead_45 ?_
  refine lv_iload_n hx hb dX11_takeRead_48 rfl (lv_at hl 0 rfl) ?_
  refine lv_iconst (v := 0) hx hb dX11_takeRead_49 (by decide) ?_
  refine va_iast hx hb hK hP hD hS 2 0 rfl rfl (vp_in_iff.mpr ⟨by decide, by decide⟩) dX11_takeRead_50 (fun H locs hP hD hS => ?_)
  rw [x_upd0] at hP hD
  have hP : va_P (dC, dI) vwCl [(h0, .inr (11, [.int 0, .int 0, .int 0, .ref m3, .ref m4, .ref m5, .int 0, .ref m7, .ref m8, .ref m9, .ref m10, .int 0, .ref m12, .int 0, .int (-1), .int 0, .int 0, .int 0, .ref m18, .int 0, .ref m20, .ref m21, .ref m22, .ref m23, .ref m24, .int 0, .ref m26, .ref m27, .ref m28, .int 0, .ref m30, .int 0, .int 0, .ref m33, .int 0, .int 0, .ref m36, .int 0, .ref m38, .ref m39, .ref m40, .int 0, .ref m42, .ref m43, .ref m44, .ref m45])), (m18, .inl (cI, 2, .inl (fun _ => 0))), (m10, .inl (cI, 34, .inl (fun _ => 0)))] H := hP
  have hD : va_D A [(h0, .inr (11, [.int 0, .int 0, .int 0, .ref m3, .ref m4, .ref m5, .int 0, .ref m7, .ref m8, .ref m9, .ref m10, .int 0, .ref m12, .int 0, .int (-1), .int 0, .int 0, .int 0, .ref m18, .int 0, .ref m20, .ref m21, .ref m22, .ref m23, .ref m24, .int 0, .ref m26, .ref m27, .ref m28, .int 0, .ref m30, .int 0, .int 0, .ref m33, .int 0, .int 0, .ref m36, .int 0, .ref m38, .ref m39, .ref m40, .int 0, .ref m42, .ref m43, .ref m44, .ref m45])), (m18, .inl (cI, 2, .inl (fun _ => 0))), (m10, .inl (cI, 34, .inl (fun _ => 0)))] := hD
  refine lv_iinc (v := 9) (lv' := [(1, .int 9), (0, .ref h0)]) hx hb dX11_takeRead_51 hl (k := 0) rfl (by decide) (by decide) rfl (fun ls hl => ?_)
  refine lv_goto (tgt := 38) hx hb dX11_takeRead_54 (by decide) ?_
  refine lv_iload_n hx hb dX11_takeRead_38 rfl (lv_at hl 0 rfl) ?_
  refine lv_bipush (v := 34) hx hb dX11_takeRead_39 (by decide) ?_
  refine lv_icmp_ge (tgt := 57) hx hb dX11_takeRead_41 (by decide) (fun c19 => ?_) (fun c19 => ?_)
  · exact absurd c19 (by decide)
  clear c19
  refine lv_aload_n hx hb dX11_takeRead_44 rfl (lv_at hl 1 rfl) ?_
  refine va_get (D := (dC, dI)) (ci := 11) (v := .ref m10) (C := RX11) (T := TX11) (N := 46) hx hb hts hi_X11 hown hK hP 0 rfl rfl 10 (by decide) (hts (.fieldLink RX11 28 "LeftQuillsModel" "now" "[I") (by decide +kernel)) (fun _ h9 => h9) rfl dX11_takeRead_45 ?_
  refine lv_iload_n hx hb dX11_takeRead_48 rfl (lv_at hl 0 rfl) ?_
  refine lv_iconst (v := 0) hx hb dX11_takeRead_49 (by decide) ?_
  refine va_iast hx hb hK hP hD hS 2 0 rfl rfl (vp_in_iff.mpr ⟨by decide, by decide⟩) dX11_takeRead_50 (fun H locs hP hD hS => ?_)
  rw [x_upd0] at hP hD
  have hP : va_P (dC, dI) vwCl [(h0, .inr (11, [.int 0, .int 0, .int 0, .ref m3, .ref m4, .ref m5, .int 0, .ref m7, .ref m8, .ref m9, .ref m10, .int 0, .ref m12, .int 0, .int (-1), .int 0, .int 0, .int 0, .ref m18, .int 0, .ref m20, .ref m21, .ref m22, .ref m23, .ref m24, .int 0, .ref m26, .ref m27, .ref m28, .int 0, .ref m30, .int 0, .int 0, .ref m33, .int 0, .int 0, .ref m36, .int 0, .ref m38, .ref m39, .ref m40, .int 0, .ref m42, .ref m43, .ref m44, .ref m45])), (m18, .inl (cI, 2, .inl (fun _ => 0))), (m10, .inl (cI, 34, .inl (fun _ => 0)))] H := hP
  have hD : va_D A [(h0, .inr (11, [.int 0, .int 0, .int 0, .ref m3, .ref m4, .ref m5, .int 0, .ref m7, .ref m8, .ref m9, .ref m10, .int 0, .ref m12, .int 0, .int (-1), .int 0, .int 0, .int 0, .ref m18, .int 0, .ref m20, .ref m21, .ref m22, .ref m23, .ref m24, .int 0, .ref m26, .ref m27, .ref m28, .int 0, .ref m30, .int 0, .int 0, .ref m33, .int 0, .int 0, .ref m36, .int 0, .ref m38, .ref m39, .ref m40, .int 0, .ref m42, .ref m43, .ref m44, .ref m45])), (m18, .inl (cI, 2, .inl (fun _ => 0))), (m10, .inl (cI, 34, .inl (fun _ => 0)))] := hD
  refine lv_iinc (v := 10) (lv' := [(1, .int 10), (0, .ref h0)]) hx hb dX11_takeRead_51 hl (k := 0) rfl (by decide) (by decide) rfl (fun ls hl => ?_)
  refine lv_goto (tgt := 38) hx hb dX11_takeRead_54 (by decide) ?_
  refine lv_iload_n hx hb dX11_takeRead_38 rfl (lv_at hl 0 rfl) ?_
  refine lv_bipush (v := 34) hx hb dX11_takeRead_39 (by decide) ?_
  refine lv_icmp_ge (tgt := 57) hx hb dX11_takeRead_41 (by decide) (fun c21 => ?_) (fun c21 => ?_)
  · exact absurd c21 (by decide)
  clear c21
  refine lv_aload_n hx hb dX11_takeRead_44 rfl (lv_at hl 1 rfl) ?_
  refine va_get (D := (dC, dI)) (ci := 11) (v := .ref m10) (C := RX11) (T := TX11) (N := 46) hx hb hts hi_X11 hown hK hP 0 rfl rfl 10 (by decide) (hts (.fieldLink RX11 28 "LeftQuillsModel" "now" "[I") (by decide +kernel)) (fun _ h9 => h9) rfl dX11_takeRead_45 ?_
  refine lv_iload_n hx hb dX11_takeRead_48 rfl (lv_at hl 0 rfl) ?_
  refine lv_iconst (v := 0) hx hb dX11_takeRead_49 (by decide) ?_
  refine va_iast hx hb hK hP hD hS 2 0 rfl rfl (vp_in_iff.mpr ⟨by decide, by decide⟩) dX11_takeRead_50 (fun H locs hP hD hS => ?_)
  rw [x_upd0] at hP hD
  have hP : va_P (dC, dI) vwCl [(h0, .inr (11, [.int 0, .int 0, .int 0, .ref m3, .ref m4, .ref m5, .int 0, .ref m7, .ref m8, .ref m9, .ref m10, .int 0, .ref m12, .int 0, .int (-1), .int 0, .int 0, .int 0, .ref m18, .int 0, .ref m20, .ref m21, .ref m22, .ref m23, .ref m24, .int 0, .ref m26, .ref m27, .ref m28, .int 0, .ref m30, .int 0, .int 0, .ref m33, .int 0, .int 0, .ref m36, .int 0, .ref m38, .ref m39, .ref m40, .int 0, .ref m42, .ref m43, .ref m44, .ref m45])), (m18, .inl (cI, 2, .inl (fun _ => 0))), (m10, .inl (cI, 34, .inl (fun _ => 0)))] H := hP
  have hD : va_D A [(h0, .inr (11, [.int 0, .int 0, .int 0, .ref m3, .ref m4, .ref m5, .int 0, .ref m7, .ref m8, .ref m9, .ref m10, .int 0, .ref m12, .int 0, .int (-1), .int 0, .int 0, .int 0, .ref m18, .int 0, .ref m20, .ref m21, .ref m22, .ref m23, .ref m24, .int 0, .ref m26, .ref m27, .ref m28, .int 0, .ref m30, .int 0, .int 0, .ref m33, .int 0, .int 0, .ref m36, .int 0, .ref m38, .ref m39, .ref m40, .int 0, .ref m42, .ref m43, .ref m44, .ref m45])), (m18, .inl (cI, 2, .inl (fun _ => 0))), (m10, .inl (cI, 34, .inl (fun _ => 0)))] := hD
  refine lv_iinc (v := 11) (lv' := [(1, .int 11), (0, .ref h0)]) hx hb dX11_takeRead_51 hl (k := 0) rfl (by decide) (by decide) rfl (fun ls hl => ?_)
  refine lv_goto (tgt := 38) hx hb dX11_takeRead_54 (by decide) ?_
  refine lv_iload_n hx hb dX11_takeRead_38 rfl (lv_at hl 0 rfl) ?_
  refine lv_bipush (v := 34) hx hb dX11_takeRead_39 (by decide) ?_
  refine lv_icmp_ge (tgt := 57) hx hb dX11_takeRead_41 (by decide) (fun c23 => ?_) (fun c23 => ?_)
  · exact absurd c23 (by decide)
  clear c23
  refine lv_aload_n hx hb dX11_takeRead_44 rfl (lv_at hl 1 rfl) ?_
  refine va_get (D := (dC, dI)) (ci := 11) (v := .ref m10) (C := RX11) (T := TX11) (N := 46) hx hb hts hi_X11 hown hK hP 0 rfl rfl 10 (by decide) (hts (.fieldLink RX11 28 "LeftQuillsModel" "now" "[I") (by decide +kernel)) (fun _ h9 => h9) rfl dX11_takeRead_45 ?_
  refine lv_iload_n hx hb dX11_takeRead_48 rfl (lv_at hl 0 rfl) ?_
  refine lv_iconst (v := 0) hx hb dX11_takeRead_49 (by decide) ?_
  refine va_iast hx hb hK hP hD hS 2 0 rfl rfl (vp_in_iff.mpr ⟨by decide, by decide⟩) dX11_takeRead_50 (fun H locs hP hD hS => ?_)
  rw [x_upd0] at hP hD
  have hP : va_P (dC, dI) vwCl [(h0, .inr (11, [.int 0, .int 0, .int 0, .ref m3, .ref m4, .ref m5, .int 0, .ref m7, .ref m8, .ref m9, .ref m10, .int 0, .ref m12, .int 0, .int (-1), .int 0, .int 0, .int 0, .ref m18, .int 0, .ref m20, .ref m21, .ref m22, .ref m23, .ref m24, .int 0, .ref m26, .ref m27, .ref m28, .int 0, .ref m30, .int 0, .int 0, .ref m33, .int 0, .int 0, .ref m36, .int 0, .ref m38, .ref m39, .ref m40, .int 0, .ref m42, .ref m43, .ref m44, .ref m45])), (m18, .inl (cI, 2, .inl (fun _ => 0))), (m10, .inl (cI, 34, .inl (fun _ => 0)))] H := hP
  have hD : va_D A [(h0, .inr (11, [.int 0, .int 0, .int 0, .ref m3, .ref m4, .ref m5, .int 0, .ref m7, .ref m8, .ref m9, .ref m10, .int 0, .ref m12, .int 0, .int (-1), .int 0, .int 0, .int 0, .ref m18, .int 0, .ref m20, .ref m21, .ref m22, .ref m23, .ref m24, .int 0, .ref m26, .ref m27, .ref m28, .int 0, .ref m30, .int 0, .int 0, .ref m33, .int 0, .int 0, .ref m36, .int 0, .ref m38, .ref m39, .ref m40, .int 0, .ref m42, .ref m43, .ref m44, .ref m45])), (m18, .inl (cI, 2, .inl (fun _ => 0))), (m10, .inl (cI, 34, .inl (fun _ => 0)))] := hD
  refine lv_iinc (v := 12) (lv' := [(1, .int 12), (0, .ref h0)]) hx hb dX11_takeRead_51 hl (k := 0) rfl (by decide) (by decide) rfl (fun ls hl => ?_)
  refine lv_goto (tgt := 38) hx hb dX11_takeRead_54 (by decide) ?_
  refine lv_iload_n hx hb dX11_takeRead_38 rfl (lv_at hl 0 rfl) ?_
  refine lv_bipush (v := 34) hx hb dX11_takeRead_39 (by decide) ?_
  refine lv_icmp_ge (tgt := 57) hx hb dX11_takeRead_41 (by decide) (fun c25 => ?_) (fun c25 => ?_)
  · exact absurd c25 (by decide)
  clear c25
  refine lv_aload_n hx hb dX11_takeRead_44 rfl (lv_at hl 1 rfl) ?_
  refine va_get (D := (dC, dI)) (ci := 11) (v := .ref m10) (C := RX11) (T := TX11) (N := 46) hx hb hts hi_X11 hown hK hP 0 rfl rfl 10 (by decide) (hts (.fieldLink RX11 28 "LeftQuillsModel" "now" "[I") (by decide +kernel)) (fun _ h9 => h9) rfl dX11_takeRead_45 ?_
  refine lv_iload_n hx hb dX11_takeRead_48 rfl (lv_at hl 0 rfl) ?_
  refine lv_iconst (v := 0) hx hb dX11_takeRead_49 (by decide) ?_
  refine va_iast hx hb hK hP hD hS 2 0 rfl rfl (vp_in_iff.mpr ⟨by decide, by decide⟩) dX11_takeRead_50 (fun H locs hP hD hS => ?_)
  rw [x_upd0] at hP hD
  have hP : va_P (dC, dI) vwCl [(h0, .inr (11, [.int 0, .int 0, .int 0, .ref m3, .ref m4, .ref m5, .int 0, .ref m7, .ref m8, .ref m9, .ref m10, .int 0, .ref m12, .int 0, .int (-1), .int 0, .int 0, .int 0, .ref m18, .int 0, .ref m20, .ref m21, .ref m22, .ref m23, .ref m24, .int 0, .ref m26, .ref m27, .ref m28, .int 0, .ref m30, .int 0, .int 0, .ref m33, .int 0, .int 0, .ref m36, .int 0, .ref m38, .ref m39, .ref m40, .int 0, .ref m42, .ref m43, .ref m44, .ref m45])), (m18, .inl (cI, 2, .inl (fun _ => 0))), (m10, .inl (cI, 34, .inl (fun _ => 0)))] H := hP
  have hD : va_D A [(h0, .inr (11, [.int 0, .int 0, .int 0, .ref m3, .ref m4, .ref m5, .int 0, .ref m7, .ref m8, .ref m9, .ref m10, .int 0, .ref m12, .int 0, .int (-1), .int 0, .int 0, .int 0, .ref m18, .int 0, .ref m20, .ref m21, .ref m22, .ref m23, .ref m24, .int 0, .ref m26, .ref m27, .ref m28, .int 0, .ref m30, .int 0, .int 0, .ref m33, .int 0, .int 0, .ref m36, .int 0, .ref m38, .ref m39, .ref m40, .int 0, .ref m42, .ref m43, .ref m44, .ref m45])), (m18, .inl (cI, 2, .inl (fun _ => 0))), (m10, .inl (cI, 34, .inl (fun _ => 0)))] := hD
  refine lv_iinc (v := 13) (lv' := [(1, .int 13), (0, .ref h0)]) hx hb dX11_takeRead_51 hl (k := 0) rfl (by decide) (by decide) rfl (fun ls hl => ?_)
  refine lv_goto (tgt := 38) hx hb dX11_takeRead_54 (by decide) ?_
  refine lv_iload_n hx hb dX11_takeRead_38 rfl (lv_at hl 0 rfl) ?_
  refine lv_bipush (v := 34) hx hb dX11_takeRead_39 (by decide) ?_
  refine lv_icmp_ge (tgt := 57) hx hb dX11_takeRead_41 (by decide) (fun c27 => ?_) (fun c27 => ?_)
  · exact absurd c27 (by decide)
  clear c27
  refine lv_aload_n hx hb dX11_takeRead_44 rfl (lv_at hl 1 rfl) ?_
  refine va_get (D := (dC, dI)) (ci := 11) (v := .ref m10) (C := RX11) (T := TX11) (N := 46) hx hb hts hi_X11 hown hK hP 0 rfl rfl 10 (by decide) (hts (.fieldLink RX11 28 "LeftQuillsModel" "now" "[I") (by decide +kernel)) (fun _ h9 => h9) rfl dX11_takeRead_45 ?_
  refine lv_iload_n hx hb dX11_takeRead_48 rfl (lv_at hl 0 rfl) ?_
  refine lv_iconst (v := 0) hx hb dX11_takeRead_49 (by decide) ?_
  refine va_iast hx hb hK hP hD hS 2 0 rfl rfl (vp_in_iff.mpr ⟨by decide, by decide⟩) dX11_takeRead_50 (fun H locs hP hD hS => ?_)
  rw [x_upd0] at hP hD
  have hP : va_P (dC, dI) vwCl [(h0, .inr (11, [.int 0, .int 0, .int 0, .ref m3, .ref m4, .ref m5, .int 0, .ref m7, .ref m8, .ref m9, .ref m10, .int 0, .ref m12, .int 0, .int (-1), .int 0, .int 0, .int 0, .ref m18, .int 0, .ref m20, .ref m21, .ref m22, .ref m23, .ref m24, .int 0, .ref m26, .ref m27, .ref m28, .int 0, .ref m30, .int 0, .int 0, .ref m33, .int 0, .int 0, .ref m36, .int 0, .ref m38, .ref m39, .ref m40, .int 0, .ref m42, .ref m43, .ref m44, .ref m45])), (m18, .inl (cI, 2, .inl (fun _ => 0))), (m10, .inl (cI, 34, .inl (fun _ => 0)))] H := hP
  have hD : va_D A [(h0, .inr (11, [.int 0, .int 0, .int 0, .ref m3, .ref m4, .ref m5, .int 0, .ref m7, .ref m8, .ref m9, .ref m10, .int 0, .ref m12, .int 0, .int (-1), .int 0, .int 0, .int 0, .ref m18, .int 0, .ref m20, .ref m21, .ref m22, .ref m23, .ref m24, .int 0, .ref m26, .ref m27, .ref m28, .int 0, .ref m30, .int 0, .int 0, .ref m33, .int 0, .int 0, .ref m36, .int 0, .ref m38, .ref m39, .ref m40, .int 0, .ref m42, .ref m43, .ref m44, .ref m45])), (m18, .inl (cI, 2, .inl (fun _ => 0))), (m10, .inl (cI, 34, .inl (fun _ => 0)))] := hD
  refine lv_iinc (v := 14) (lv' := [(1, .int 14), (0, .ref h0)]) hx hb dX11_takeRead_51 hl (k := 0) rfl (by decide) (by decide) rfl (fun ls hl => ?_)
  refine lv_goto (tgt := 38) hx hb dX11_takeRead_54 (by decide) ?_
  refine lv_iload_n hx hb dX11_takeRead_38 rfl (lv_at hl 0 rfl) ?_
  refine lv_bipush (v := 34) hx hb dX11_takeRead_39 (by decide) ?_
  refine lv_icmp_ge (tgt := 57) hx hb dX11_takeRead_41 (by decide) (fun c29 => ?_) (fun c29 => ?_)
  · exact absurd c29 (by decide)
  clear c29
  refine lv_aload_n hx hb dX11_takeRead_44 rfl (lv_at hl 1 rfl) ?_
  refine va_get (D := (dC, dI)) (ci := 11) (v := .ref m10) (C := RX11) (T := TX11) (N := 46) hx hb hts hi_X11 hown hK hP 0 rfl rfl 10 (by decide) (hts (.fieldLink RX11 28 "LeftQuillsModel" "now" "[I") (by decide +kernel)) (fun _ h9 => h9) rfl dX11_takeRead_45 ?_
  refine lv_iload_n hx hb dX11_takeRead_48 rfl (lv_at hl 0 rfl) ?_
  refine lv_iconst (v := 0) hx hb dX11_takeRead_49 (by decide) ?_
  refine va_iast hx hb hK hP hD hS 2 0 rfl rfl (vp_in_iff.mpr ⟨by decide, by decide⟩) dX11_takeRead_50 (fun H locs hP hD hS => ?_)
  rw [x_upd0] at hP hD
  have hP : va_P (dC, dI) vwCl [(h0, .inr (11, [.int 0, .int 0, .int 0, .ref m3, .ref m4, .ref m5, .int 0, .ref m7, .ref m8, .ref m9, .ref m10, .int 0, .ref m12, .int 0, .int (-1), .int 0, .int 0, .int 0, .ref m18, .int 0, .ref m20, .ref m21, .ref m22, .ref m23, .ref m24, .int 0, .ref m26, .ref m27, .ref m28, .int 0, .ref m30, .int 0, .int 0, .ref m33, .int 0, .int 0, .ref m36, .int 0, .ref m38, .ref m39, .ref m40, .int 0, .ref m42, .ref m43, .ref m44, .ref m45])), (m18, .inl (cI, 2, .inl (fun _ => 0))), (m10, .inl (cI, 34, .inl (fun _ => 0)))] H := hP
  have hD : va_D A [(h0, .inr (11, [.int 0, .int 0, .int 0, .ref m3, .ref m4, .ref m5, .int 0, .ref m7, .ref m8, .ref m9, .ref m10, .int 0, .ref m12, .int 0, .int (-1), .int 0, .int 0, .int 0, .ref m18, .int 0, .ref m20, .ref m21, .ref m22, .ref m23, .ref m24, .int 0, .ref m26, .ref m27, .ref m28, .int 0, .ref m30, .int 0, .int 0, .ref m33, .int 0, .int 0, .ref m36, .int 0, .ref m38, .ref m39, .ref m40, .int 0, .ref m42, .ref m43, .ref m44, .ref m45])), (m18, .inl (cI, 2, .inl (fun _ => 0))), (m10, .inl (cI, 34, .inl (fun _ => 0)))] := hD
  refine lv_iinc (v := 15) (lv' := [(1, .int 15), (0, .ref h0)]) hx hb dX11_takeRead_51 hl (k := 0) rfl (by decide) (by decide) rfl (fun ls hl => ?_)
  refine lv_goto (tgt := 38) hx hb dX11_takeRead_54 (by decide) ?_
  refine lv_iload_n hx hb dX11_takeRead_38 rfl (lv_at hl 0 rfl) ?_
  refine lv_bipush (v := 34) hx hb dX11_takeRead_39 (by decide) ?_
  refine lv_icmp_ge (tgt := 57) hx hb dX11_takeRead_41 (by decide) (fun c31 => ?_) (fun c31 => ?_)
  · exact absurd c31 (by decide)
  clear c31
  refine lv_aload_n hx hb dX11_takeRead_44 rfl (lv_at hl 1 rfl) ?_
  refine va_get (D := (dC, dI)) (ci := 11) (v := .ref m10) (C := RX11) (T := TX11) (N := 46) hx hb hts hi_X11 hown hK hP 0 rfl rfl 10 (by decide) (hts (.fieldLink RX11 28 "LeftQuillsModel" "now" "[I") (by decide +kernel)) (fun _ h9 => h9) rfl dX11_takeRead_45 ?_
  refine lv_iload_n hx hb dX11_takeRead_48 rfl (lv_at hl 0 rfl) ?_
  refine lv_iconst (v := 0) hx hb dX11_takeRead_49 (by decide) ?_
  refine va_iast hx hb hK hP hD hS 2 0 rfl rfl (vp_in_iff.mpr ⟨by decide, by decide⟩) dX11_takeRead_50 (fun H locs hP hD hS => ?_)
  rw [x_upd0] at hP hD
  have hP : va_P (dC, dI) vwCl [(h0, .inr (11, [.int 0, .int 0, .int 0, .ref m3, .ref m4, .ref m5, .int 0, .ref m7, .ref m8, .ref m9, .ref m10, .int 0, .ref m12, .int 0, .int (-1), .int 0, .int 0, .int 0, .ref m18, .int 0, .ref m20, .ref m21, .ref m22, .ref m23, .ref m24, .int 0, .ref m26, .ref m27, .ref m28, .int 0, .ref m30, .int 0, .int 0, .ref m33, .int 0, .int 0, .ref m36, .int 0, .ref m38, .ref m39, .ref m40, .int 0, .ref m42, .ref m43, .ref m44, .ref m45])), (m18, .inl (cI, 2, .inl (fun _ => 0))), (m10, .inl (cI, 34, .inl (fun _ => 0)))] H := hP
  have hD : va_D A [(h0, .inr (11, [.int 0, .int 0, .int 0, .ref m3, .ref m4, .ref m5, .int 0, .ref m7, .ref m8, .ref m9, .ref m10, .int 0, .ref m12, .int 0, .int (-1), .int 0, .int 0, .int 0, .ref m18, .int 0, .ref m20, .ref m21, .ref m22, .ref m23, .ref m24, .int 0, .ref m26, .ref m27, .ref m28, .int 0, .ref m30, .int 0, .int 0, .ref m33, .int 0, .int 0, .ref m36, .int 0, .ref m38, .ref m39, .ref m40, .int 0, .ref m42, .ref m43, .ref m44, .ref m45])), (m18, .inl (cI, 2, .inl (fun _ => 0))), (m10, .inl (cI, 34, .inl (fun _ => 0)))] := hD
  refine lv_iinc (v := 16) (lv' := [(1, .int 16), (0, .ref h0)]) hx hb dX11_takeRead_51 hl (k := 0) rfl (by decide) (by decide) rfl (fun ls hl => ?_)
  refine lv_goto (tgt := 38) hx hb dX11_takeRead_54 (by decide) ?_
  refine lv_iload_n hx hb dX11_takeRead_38 rfl (lv_at hl 0 rfl) ?_
  refine lv_bipush (v := 34) hx hb dX11_takeRead_39 (by decide) ?_
  refine lv_icmp_ge (tgt := 57) hx hb dX11_takeRead_41 (by decide) (fun c33 => ?_) (fun c33 => ?_)
  · exact absurd c33 (by decide)
  clear c33
  refine lv_aload_n hx hb dX11_takeRead_44 rfl (lv_at hl 1 rfl) ?_
  refine va_get (D := (dC, dI)) (ci := 11) (v := .ref m10) (C := RX11) (T := TX11) (N := 46) hx hb hts hi_X11 hown hK hP 0 rfl rfl 10 (by decide) (hts (.fieldLink RX11 28 "LeftQuillsModel" "now" "[I") (by decide +kernel)) (fun _ h9 => h9) rfl dX11_takeRead_45 ?_
  refine lv_iload_n hx hb dX11_takeRead_48 rfl (lv_at hl 0 rfl) ?_
  refine lv_iconst (v := 0) hx hb dX11_takeRead_49 (by decide) ?_
  refine va_iast hx hb hK hP hD hS 2 0 rfl rfl (vp_in_iff.mpr ⟨by decide, by decide⟩) dX11_takeRead_50 (fun H locs hP hD hS => ?_)
  rw [x_upd0] at hP hD
  have hP : va_P (dC, dI) vwCl [(h0, .inr (11, [.int 0, .int 0, .int 0, .ref m3, .ref m4, .ref m5, .int 0, .ref m7, .ref m8, .ref m9, .ref m10, .int 0, .ref m12, .int 0, .int (-1), .int 0, .int 0, .int 0, .ref m18, .int 0, .ref m20, .ref m21, .ref m22, .ref m23, .ref m24, .int 0, .ref m26, .ref m27, .ref m28, .int 0, .ref m30, .int 0, .int 0, .ref m33, .int 0, .int 0, .ref m36, .int 0, .ref m38, .ref m39, .ref m40, .int 0, .ref m42, .ref m43, .ref m44, .ref m45])), (m18, .inl (cI, 2, .inl (fun _ => 0))), (m10, .inl (cI, 34, .inl (fun _ => 0)))] H := hP
  have hD : va_D A [(h0, .inr (11, [.int 0, .int 0, .int 0, .ref m3, .ref m4, .ref m5, .int 0, .ref m7, .ref m8, .ref m9, .ref m10, .int 0, .ref m12, .int 0, .int (-1), .int 0, .int 0, .int 0, .ref m18, .int 0, .ref m20, .ref m21, .ref m22, .ref m23, .ref m24, .int 0, .ref m26, .ref m27, .ref m28, .int 0, .ref m30, .int 0, .int 0, .ref m33, .int 0, .int 0, .ref m36, .int 0, .ref m38, .ref m39, .ref m40, .int 0, .ref m42, .ref m43, .ref m44, .ref m45])), (m18, .inl (cI, 2, .inl (fun _ => 0))), (m10, .inl (cI, 34, .inl (fun _ => 0)))] := hD
  refine lv_iinc (v := 17) (lv' := [(1, .int 17), (0, .ref h0)]) hx hb dX11_takeRead_51 hl (k := 0) rfl (by decide) (by decide) rfl (fun ls hl => ?_)
  refine lv_goto (tgt := 38) hx hb dX11_takeRead_54 (by decide) ?_
  refine lv_iload_n hx hb dX11_takeRead_38 rfl (lv_at hl 0 rfl) ?_
  refine lv_bipush (v := 34) hx hb dX11_takeRead_39 (by decide) ?_
  refine lv_icmp_ge (tgt := 57) hx hb dX11_takeRead_41 (by decide) (fun c35 => ?_) (fun c35 => ?_)
  · exact absurd c35 (by decide)
  clear c35
  refine lv_aload_n hx hb dX11_takeRead_44 rfl (lv_at hl 1 rfl) ?_
  refine va_get (D := (dC, dI)) (ci := 11) (v := .ref m10) (C := RX11) (T := TX11) (N := 46) hx hb hts hi_X11 hown hK hP 0 rfl rfl 10 (by decide) (hts (.fieldLink RX11 28 "LeftQuillsModel" "now" "[I") (by decide +kernel)) (fun _ h9 => h9) rfl dX11_takeRead_45 ?_
  refine lv_iload_n hx hb dX11_takeRead_48 rfl (lv_at hl 0 rfl) ?_
  refine lv_iconst (v := 0) hx hb dX11_takeRead_49 (by decide) ?_
  refine va_iast hx hb hK hP hD hS 2 0 rfl rfl (vp_in_iff.mpr ⟨by decide, by decide⟩) dX11_takeRead_50 (fun H locs hP hD hS => ?_)
  rw [x_upd0] at hP hD
  have hP : va_P (dC, dI) vwCl [(h0, .inr (11, [.int 0, .int 0, .int 0, .ref m3, .ref m4, .ref m5, .int 0, .ref m7, .ref m8, .ref m9, .ref m10, .int 0, .ref m12, .int 0, .int (-1), .int 0, .int 0, .int 0, .ref m18, .int 0, .ref m20, .ref m21, .ref m22, .ref m23, .ref m24, .int 0, .ref m26, .ref m27, .ref m28, .int 0, .ref m30, .int 0, .int 0, .ref m33, .int 0, .int 0, .ref m36, .int 0, .ref m38, .ref m39, .ref m40, .int 0, .ref m42, .ref m43, .ref m44, .ref m45])), (m18, .inl (cI, 2, .inl (fun _ => 0))), (m10, .inl (cI, 34, .inl (fun _ => 0)))] H := hP
  have hD : va_D A [(h0, .inr (11, [.int 0, .int 0, .int 0, .ref m3, .ref m4, .ref m5, .int 0, .ref m7, .ref m8, .ref m9, .ref m10, .int 0, .ref m12, .int 0, .int (-1), .int 0, .int 0, .int 0, .ref m18, .int 0, .ref m20, .ref m21, .ref m22, .ref m23, .ref m24, .int 0, .ref m26, .ref m27, .ref m28, .int 0, .ref m30, .int 0, .int 0, .ref m33, .int 0, .int 0, .ref m36, .int 0, .ref m38, .ref m39, .ref m40, .int 0, .ref m42, .ref m43, .ref m44, .ref m45])), (m18, .inl (cI, 2, .inl (fun _ => 0))), (m10, .inl (cI, 34, .inl (fun _ => 0)))] := hD
  refine lv_iinc (v := 18) (lv' := [(1, .int 18), (0, .ref h0)]) hx hb dX11_takeRead_51 hl (k := 0) rfl (by decide) (by decide) rfl (fun ls hl => ?_)
  refine lv_goto (tgt := 38) hx hb dX11_takeRead_54 (by decide) ?_
  refine lv_iload_n hx hb dX11_takeRead_38 rfl (lv_at hl 0 rfl) ?_
  refine lv_bipush (v := 34) hx hb dX11_takeRead_39 (by decide) ?_
  refine lv_icmp_ge (tgt := 57) hx hb dX11_takeRead_41 (by decide) (fun c37 => ?_) (fun c37 => ?_)
  · exact absurd c37 (by decide)
  clear c37
  refine lv_aload_n hx hb dX11_takeRead_44 rfl (lv_at hl 1 rfl) ?_
  refine va_get (D := (dC, dI)) (ci := 11) (v := .ref m10) (C := RX11) (T := TX11) (N := 46) hx hb hts hi_X11 hown hK hP 0 rfl rfl 10 (by decide) (hts (.fieldLink RX11 28 "LeftQuillsModel" "now" "[I") (by decide +kernel)) (fun _ h9 => h9) rfl dX11_takeRead_45 ?_
  refine lv_iload_n hx hb dX11_takeRead_48 rfl (lv_at hl 0 rfl) ?_
  refine lv_iconst (v := 0) hx hb dX11_takeRead_49 (by decide) ?_
  refine va_iast hx hb hK hP hD hS 2 0 rfl rfl (vp_in_iff.mpr ⟨by decide, by decide⟩) dX11_takeRead_50 (fun H locs hP hD hS => ?_)
  rw [x_upd0] at hP hD
  have hP : va_P (dC, dI) vwCl [(h0, .inr (11, [.int 0, .int 0, .int 0, .ref m3, .ref m4, .ref m5, .int 0, .ref m7, .ref m8, .ref m9, .ref m10, .int 0, .ref m12, .int 0, .int (-1), .int 0, .int 0, .int 0, .ref m18, .int 0, .ref m20, .ref m21, .ref m22, .ref m23, .ref m24, .int 0, .ref m26, .ref m27, .ref m28, .int 0, .ref m30, .int 0, .int 0, .ref m33, .int 0, .int 0, .ref m36, .int 0, .ref m38, .ref m39, .ref m40, .int 0, .ref m42, .ref m43, .ref m44, .ref m45])), (m18, .inl (cI, 2, .inl (fun _ => 0))), (m10, .inl (cI, 34, .inl (fun _ => 0)))] H := hP
  have hD : va_D A [(h0, .inr (11, [.int 0, .int 0, .int 0, .ref m3, .ref m4, .ref m5, .int 0, .ref m7, .ref m8, .ref m9, .ref m10, .int 0, .ref m12, .int 0, .int (-1), .int 0, .int 0, .int 0, .ref m18, .int 0, .ref m20, .ref m21, .ref m22, .ref m23, .ref m24, .int 0, .ref m26, .ref m27, .ref m28, .int 0, .ref m30, .int 0, .int 0, .ref m33, .int 0, .int 0, .ref m36, .int 0, .ref m38, .ref m39, .ref m40, .int 0, .ref m42, .ref m43, .ref m44, .ref m45])), (m18, .inl (cI, 2, .inl (fun _ => 0))), (m10, .inl (cI, 34, .inl (fun _ => 0)))] := hD
  refine lv_iinc (v := 19) (lv' := [(1, .int 19), (0, .ref h0)]) hx hb dX11_takeRead_51 hl (k := 0) rfl (by decide) (by decide) rfl (fun ls hl => ?_)
  refine lv_goto (tgt := 38) hx hb dX11_takeRead_54 (by decide) ?_
  refine lv_iload_n hx hb dX11_takeRead_38 rfl (lv_at hl 0 rfl) ?_
  refine lv_bipush (v := 34) hx hb dX11_takeRead_39 (by decide) ?_
  refine lv_icmp_ge (tgt := 57) hx hb dX11_takeRead_41 (by decide) (fun c39 => ?_) (fun c39 => ?_)
  · exact absurd c39 (by decide)
  clear c39
  refine lv_aload_n hx hb dX11_takeRead_44 rfl (lv_at hl 1 rfl) ?_
  refine va_get (D := (dC, dI)) (ci := 11) (v := .ref m10) (C := RX11) (T := TX11) (N := 46) hx hb hts hi_X11 hown hK hP 0 rfl rfl 10 (by decide) (hts (.fieldLink RX11 28 "LeftQuillsModel" "now" "[I") (by decide +kernel)) (fun _ h9 => h9) rfl dX11_takeRead_45 ?_
  refine lv_iload_n hx hb dX11_takeRead_48 rfl (lv_at hl 0 rfl) ?_
  refine lv_iconst (v := 0) hx hb dX11_takeRead_49 (by decide) ?_
  refine va_iast hx hb hK hP hD hS 2 0 rfl rfl (vp_in_iff.mpr ⟨by decide, by decide⟩) dX11_takeRead_50 (fun H locs hP hD hS => ?_)
  rw [x_upd0] at hP hD
  have hP : va_P (dC, dI) vwCl [(h0, .inr (11, [.int 0, .int 0, .int 0, .ref m3, .ref m4, .ref m5, .int 0, .ref m7, .ref m8, .ref m9, .ref m10, .int 0, .ref m12, .int 0, .int (-1), .int 0, .int 0, .int 0, .ref m18, .int 0, .ref m20, .ref m21, .ref m22, .ref m23, .ref m24, .int 0, .ref m26, .ref m27, .ref m28, .int 0, .ref m30, .int 0, .int 0, .ref m33, .int 0, .int 0, .ref m36, .int 0, .ref m38, .ref m39, .ref m40, .int 0, .ref m42, .ref m43, .ref m44, .ref m45])), (m18, .inl (cI, 2, .inl (fun _ => 0))), (m10, .inl (cI, 34, .inl (fun _ => 0)))] H := hP
  have hD : va_D A [(h0, .inr (11, [.int 0, .int 0, .int 0, .ref m3, .ref m4, .ref m5, .int 0, .ref m7, .ref m8, .ref m9, .ref m10, .int 0, .ref m12, .int 0, .int (-1), .int 0, .int 0, .int 0, .ref m18, .int 0, .ref m20, .ref m21, .ref m22, .ref m23, .ref m24, .int 0, .ref m26, .ref m27, .ref m28, .int 0, .ref m30, .int 0, .int 0, .ref m33, .int 0, .int 0, .ref m36, .int 0, .ref m38, .ref m39, .ref m40, .int 0, .ref m42, .ref m43, .ref m44, .ref m45])), (m18, .inl (cI, 2, .inl (fun _ => 0))), (m10, .inl (cI, 34, .inl (fun _ => 0)))] := hD
  refine lv_iinc (v := 20) (lv' := [(1, .int 20), (0, .ref h0)]) hx hb dX11_takeRead_51 hl (k := 0) rfl (by decide) (by decide) rfl (fun ls hl => ?_)
  refine lv_goto (tgt := 38) hx hb dX11_takeRead_54 (by decide) ?_
  refine lv_iload_n hx hb dX11_takeRead_38 rfl (lv_at hl 0 rfl) ?_
  refine lv_bipush (v := 34) hx hb dX11_takeRead_39 (by decide) ?_
  refine lv_icmp_ge (tgt := 57) hx hb dX11_takeRead_41 (by decide) (fun c41 => ?_) (fun c41 => ?_)
  · exact absurd c41 (by decide)
  clear c41
  refine lv_aload_n hx hb dX11_takeRead_44 rfl (lv_at hl 1 rfl) ?_
  refine va_get (D := (dC, dI)) (ci := 11) (v := .ref m10) (C := RX11) (T := TX11) (N := 46) hx hb hts hi_X11 hown hK hP 0 rfl rfl 10 (by decide) (hts (.fieldLink RX11 28 "LeftQuillsModel" "now" "[I") (by decide +kernel)) (fun _ h9 => h9) rfl dX11_takeRead_45 ?_
  refine lv_iload_n hx hb dX11_takeRead_48 rfl (lv_at hl 0 rfl) ?_
  refine lv_iconst (v := 0) hx hb dX11_takeRead_49 (by decide) ?_
  refine va_iast hx hb hK hP hD hS 2 0 rfl rfl (vp_in_iff.mpr ⟨by decide, by decide⟩) dX11_takeRead_50 (fun H locs hP hD hS => ?_)
  rw [x_upd0] at hP hD
  have hP : va_P (dC, dI) vwCl [(h0, .inr (11, [.int 0, .int 0, .int 0, .ref m3, .ref m4, .ref m5, .int 0, .ref m7, .ref m8, .ref m9, .ref m10, .int 0, .ref m12, .int 0, .int (-1), .int 0, .int 0, .int 0, .ref m18, .int 0, .ref m20, .ref m21, .ref m22, .ref m23, .ref m24, .int 0, .ref m26, .ref m27, .ref m28, .int 0, .ref m30, .int 0, .int 0, .ref m33, .int 0, .int 0, .ref m36, .int 0, .ref m38, .ref m39, .ref m40, .int 0, .ref m42, .ref m43, .ref m44, .ref m45])), (m18, .inl (cI, 2, .inl (fun _ => 0))), (m10, .inl (cI, 34, .inl (fun _ => 0)))] H := hP
  have hD : va_D A [(h0, .inr (11, [.int 0, .int 0, .int 0, .ref m3, .ref m4, .ref m5, .int 0, .ref m7, .ref m8, .ref m9, .ref m10, .int 0, .ref m12, .int 0, .int (-1), .int 0, .int 0, .int 0, .ref m18, .int 0, .ref m20, .ref m21, .ref m22, .ref m23, .ref m24, .int 0, .ref m26, .ref m27, .ref m28, .int 0, .ref m30, .int 0, .int 0, .ref m33, .int 0, .int 0, .ref m36, .int 0, .ref m38, .ref m39, .ref m40, .int 0, .ref m42, .ref m43, .ref m44, .ref m45])), (m18, .inl (cI, 2, .inl (fun _ => 0))), (m10, .inl (cI, 34, .inl (fun _ => 0)))] := hD
  refine lv_iinc (v := 21) (lv' := [(1, .int 21), (0, .ref h0)]) hx hb dX11_takeRead_51 hl (k := 0) rfl (by decide) (by decide) rfl (fun ls hl => ?_)
  refine lv_goto (tgt := 38) hx hb dX11_takeRead_54 (by decide) ?_
  refine lv_iload_n hx hb dX11_takeRead_38 rfl (lv_at hl 0 rfl) ?_
  refine lv_bipush (v := 34) hx hb dX11_takeRead_39 (by decide) ?_
  refine lv_icmp_ge (tgt := 57) hx hb dX11_takeRead_41 (by decide) (fun c43 => ?_) (fun c43 => ?_)
  · exact absurd c43 (by decide)
  clear c43
  refine lv_aload_n hx hb dX11_takeRead_44 rfl (lv_at hl 1 rfl) ?_
  refine va_get (D := (dC, dI)) (ci := 11) (v := .ref m10) (C := RX11) (T := TX11) (N := 46) hx hb hts hi_X11 hown hK hP 0 rfl rfl 10 (by decide) (hts (.fieldLink RX11 28 "LeftQuillsModel" "now" "[I") (by decide +kernel)) (fun _ h9 => h9) rfl dX11_takeRead_45 ?_
  refine lv_iload_n hx hb dX11_takeRead_48 rfl (lv_at hl 0 rfl) ?_
  refine lv_iconst (v := 0) hx hb dX11_takeRead_49 (by decide) ?_
  refine va_iast hx hb hK hP hD hS 2 0 rfl rfl (vp_in_iff.mpr ⟨by decide, by decide⟩) dX11_takeRead_50 (fun H locs hP hD hS => ?_)
  rw [x_upd0] at hP hD
  have hP : va_P (dC, dI) vwCl [(h0, .inr (11, [.int 0, .int 0, .int 0, .ref m3, .ref m4, .ref m5, .int 0, .ref m7, .ref m8, .ref m9, .ref m10, .int 0, .ref m12, .int 0, .int (-1), .int 0, .int 0, .int 0, .ref m18, .int 0, .ref m20, .ref m21, .ref m22, .ref m23, .ref m24, .int 0, .ref m26, .ref m27, .ref m28, .int 0, .ref m30, .int 0, .int 0, .ref m33, .int 0, .int 0, .ref m36, .int 0, .ref m38, .ref m39, .ref m40, .int 0, .ref m42, .ref m43, .ref m44, .ref m45])), (m18, .inl (cI, 2, .inl (fun _ => 0))), (m10, .inl (cI, 34, .inl (fun _ => 0)))] H := hP
  have hD : va_D A [(h0, .inr (11, [.int 0, .int 0, .int 0, .ref m3, .ref m4, .ref m5, .int 0, .ref m7, .ref m8, .ref m9, .ref m10, .int 0, .ref m12, .int 0, .int (-1), .int 0, .int 0, .int 0, .ref m18, .int 0, .ref m20, .ref m21, .ref m22, .ref m23, .ref m24, .int 0, .ref m26, .ref m27, .ref m28, .int 0, .ref m30, .int 0, .int 0, .ref m33, .int 0, .int 0, .ref m36, .int 0, .ref m38, .ref m39, .ref m40, .int 0, .ref m42, .ref m43, .ref m44, .ref m45])), (m18, .inl (cI, 2, .inl (fun _ => 0))), (m10, .inl (cI, 34, .inl (fun _ => 0)))] := hD
  refine lv_iinc (v := 22) (lv' := [(1, .int 22), (0, .ref h0)]) hx hb dX11_takeRead_51 hl (k := 0) rfl (by decide) (by decide) rfl (fun ls hl => ?_)
  refine lv_goto (tgt := 38) hx hb dX11_takeRead_54 (by decide) ?_
  refine lv_iload_n hx hb dX11_takeRead_38 rfl (lv_at hl 0 rfl) ?_
  refine lv_bipush (v := 34) hx hb dX11_takeRead_39 (by decide) ?_
  refine lv_icmp_ge (tgt := 57) hx hb dX11_takeRead_41 (by decide) (fun c45 => ?_) (fun c45 => ?_)
  · exact absurd c45 (by decide)
  clear c45
  refine lv_aload_n hx hb dX11_takeRead_44 rfl (lv_at hl 1 rfl) ?_
  refine va_get (D := (dC, dI)) (ci := 11) (v := .ref m10) (C := RX11) (T := TX11) (N := 46) hx hb hts hi_X11 hown hK hP 0 rfl rfl 10 (by decide) (hts (.fieldLink RX11 28 "LeftQuillsModel" "now" "[I") (by decide +kernel)) (fun _ h9 => h9) rfl dX11_takeRead_45 ?_
  refine lv_iload_n hx hb dX11_takeRead_48 rfl (lv_at hl 0 rfl) ?_
  refine lv_iconst (v := 0) hx hb dX11_takeRead_49 (by decide) ?_
  refine va_iast hx hb hK hP hD hS 2 0 rfl rfl (vp_in_iff.mpr ⟨by decide, by decide⟩) dX11_takeRead_50 (fun H locs hP hD hS => ?_)
  rw [x_upd0] at hP hD
  have hP : va_P (dC, dI) vwCl [(h0, .inr (11, [.int 0, .int 0, .int 0, .ref m3, .ref m4, .ref m5, .int 0, .ref m7, .ref m8, .ref m9, .ref m10, .int 0, .ref m12, .int 0, .int (-1), .int 0, .int 0, .int 0, .ref m18, .int 0, .ref m20, .ref m21, .ref m22, .ref m23, .ref m24, .int 0, .ref m26, .ref m27, .ref m28, .int 0, .ref m30, .int 0, .int 0, .ref m33, .int 0, .int 0, .ref m36, .int 0, .ref m38, .ref m39, .ref m40, .int 0, .ref m42, .ref m43, .ref m44, .ref m45])), (m18, .inl (cI, 2, .inl (fun _ => 0))), (m10, .inl (cI, 34, .inl (fun _ => 0)))] H := hP
  have hD : va_D A [(h0, .inr (11, [.int 0, .int 0, .int 0, .ref m3, .ref m4, .ref m5, .int 0, .ref m7, .ref m8, .ref m9, .ref m10, .int 0, .ref m12, .int 0, .int (-1), .int 0, .int 0, .int 0, .ref m18, .int 0, .ref m20, .ref m21, .ref m22, .ref m23, .ref m24, .int 0, .ref m26, .ref m27, .ref m28, .int 0, .ref m30, .int 0, .int 0, .ref m33, .int 0, .int 0, .ref m36, .int 0, .ref m38, .ref m39, .ref m40, .int 0, .ref m42, .ref m43, .ref m44, .ref m45])), (m18, .inl (cI, 2, .inl (fun _ => 0))), (m10, .inl (cI, 34, .inl (fun _ => 0)))] := hD
  refine lv_iinc (v := 23) (lv' := [(1, .int 23), (0, .ref h0)]) hx hb dX11_takeRead_51 hl (k := 0) rfl (by decide) (by decide) rfl (fun ls hl => ?_)
  refine lv_goto (tgt := 38) hx hb dX11_takeRead_54 (by decide) ?_
  refine lv_iload_n hx hb dX11_takeRead_38 rfl (lv_at hl 0 rfl) ?_
  refine lv_bipush (v := 34) hx hb dX11_takeRead_39 (by decide) ?_
  refine lv_icmp_ge (tgt := 57) hx hb dX11_takeRead_41 (by decide) (fun c47 => ?_) (fun c47 => ?_)
  · exact absurd c47 (by decide)
  clear c47
  refine lv_aload_n hx hb dX11_takeRead_44 rfl (lv_at hl 1 rfl) ?_
  refine va_get (D := (dC, dI)) (ci := 11) (v := .ref m10) (C := RX11) (T := TX11) (N := 46) hx hb hts hi_X11 hown hK hP 0 rfl rfl 10 (by decide) (hts (.fieldLink RX11 28 "LeftQuillsModel" "now" "[I") (by decide +kernel)) (fun _ h9 => h9) rfl dX11_takeRead_45 ?_
  refine lv_iload_n hx hb dX11_takeRead_48 rfl (lv_at hl 0 rfl) ?_
  refine lv_iconst (v := 0) hx hb dX11_takeRead_49 (by decide) ?_
  refine va_iast hx hb hK hP hD hS 2 0 rfl rfl (vp_in_iff.mpr ⟨by decide, by decide⟩) dX11_takeRead_50 (fun H locs hP hD hS => ?_)
  rw [x_upd0] at hP hD
  have hP : va_P (dC, dI) vwCl [(h0, .inr (11, [.int 0, .int 0, .int 0, .ref m3, .ref m4, .ref m5, .int 0, .ref m7, .ref m8, .ref m9, .ref m10, .int 0, .ref m12, .int 0, .int (-1), .int 0, .int 0, .int 0, .ref m18, .int 0, .ref m20, .ref m21, .ref m22, .ref m23, .ref m24, .int 0, .ref m26, .ref m27, .ref m28, .int 0, .ref m30, .int 0, .int 0, .ref m33, .int 0, .int 0, .ref m36, .int 0, .ref m38, .ref m39, .ref m40, .int 0, .ref m42, .ref m43, .ref m44, .ref m45])), (m18, .inl (cI, 2, .inl (fun _ => 0))), (m10, .inl (cI, 34, .inl (fun _ => 0)))] H := hP
  have hD : va_D A [(h0, .inr (11, [.int 0, .int 0, .int 0, .ref m3, .ref m4, .ref m5, .int 0, .ref m7, .ref m8, .ref m9, .ref m10, .int 0, .ref m12, .int 0, .int (-1), .int 0, .int 0, .int 0, .ref m18, .int 0, .ref m20, .ref m21, .ref m22, .ref m23, .ref m24, .int 0, .ref m26, .ref m27, .ref m28, .int 0, .ref m30, .int 0, .int 0, .ref m33, .int 0, .int 0, .ref m36, .int 0, .ref m38, .ref m39, .ref m40, .int 0, .ref m42, .ref m43, .ref m44, .ref m45])), (m18, .inl (cI, 2, .inl (fun _ => 0))), (m10, .inl (cI, 34, .inl (fun _ => 0)))] := hD
  refine lv_iinc (v := 24) (lv' := [(1, .int 24), (0, .ref h0)]) hx hb dX11_takeRead_51 hl (k := 0) rfl (by decide) (by decide) rfl (fun ls hl => ?_)
  refine lv_goto (tgt := 38) hx hb dX11_takeRead_54 (by decide) ?_
  refine lv_iload_n hx hb dX11_takeRead_38 rfl (lv_at hl 0 rfl) ?_
  refine lv_bipush (v := 34) hx hb dX11_takeRead_39 (by decide) ?_
  refine lv_icmp_ge (tgt := 57) hx hb dX11_takeRead_41 (by decide) (fun c49 => ?_) (fun c49 => ?_)
  · exact absurd c49 (by decide)
  clear c49
  refine lv_aload_n hx hb dX11_takeRead_44 rfl (lv_at hl 1 rfl) ?_
  refine va_get (D := (dC, dI)) (ci := 11) (v := .ref m10) (C := RX11) (T := TX11) (N := 46) hx hb hts hi_X11 hown hK hP 0 rfl rfl 10 (by decide) (hts (.fieldLink RX11 28 "LeftQuillsModel" "now" "[I") (by decide +kernel)) (fun _ h9 => h9) rfl dX11_takeRead_45 ?_
  refine lv_iload_n hx hb dX11_takeRead_48 rfl (lv_at hl 0 rfl) ?_
  refine lv_iconst (v := 0) hx hb dX11_takeRead_49 (by decide) ?_
  refine va_iast hx hb hK hP hD hS 2 0 rfl rfl (vp_in_iff.mpr ⟨by decide, by decide⟩) dX11_takeRead_50 (fun H locs hP hD hS => ?_)
  rw [x_upd0] at hP hD
  have hP : va_P (dC, dI) vwCl [(h0, .inr (11, [.int 0, .int 0, .int 0, .ref m3, .ref m4, .ref m5, .int 0, .ref m7, .ref m8, .ref m9, .ref m10, .int 0, .ref m12, .int 0, .int (-1), .int 0, .int 0, .int 0, .ref m18, .int 0, .ref m20, .ref m21, .ref m22, .ref m23, .ref m24, .int 0, .ref m26, .ref m27, .ref m28, .int 0, .ref m30, .int 0, .int 0, .ref m33, .int 0, .int 0, .ref m36, .int 0, .ref m38, .ref m39, .ref m40, .int 0, .ref m42, .ref m43, .ref m44, .ref m45])), (m18, .inl (cI, 2, .inl (fun _ => 0))), (m10, .inl (cI, 34, .inl (fun _ => 0)))] H := hP
  have hD : va_D A [(h0, .inr (11, [.int 0, .int 0, .int 0, .ref m3, .ref m4, .ref m5, .int 0, .ref m7, .ref m8, .ref m9, .ref m10, .int 0, .ref m12, .int 0, .int (-1), .int 0, .int 0, .int 0, .ref m18, .int 0, .ref m20, .ref m21, .ref m22, .ref m23, .ref m24, .int 0, .ref m26, .ref m27, .ref m28, .int 0, .ref m30, .int 0, .int 0, .ref m33, .int 0, .int 0, .ref m36, .int 0, .ref m38, .ref m39, .ref m40, .int 0, .ref m42, .ref m43, .ref m44, .ref m45])), (m18, .inl (cI, 2, .inl (fun _ => 0))), (m10, .inl (cI, 34, .inl (fun _ => 0)))] := hD
  refine lv_iinc (v := 25) (lv' := [(1, .int 25), (0, .ref h0)]) hx hb dX11_takeRead_51 hl (k := 0) rfl (by decide) (by decide) rfl (fun ls hl => ?_)
  refine lv_goto (tgt := 38) hx hb dX11_takeRead_54 (by decide) ?_
  refine lv_iload_n hx hb dX11_takeRead_38 rfl (lv_at hl 0 rfl) ?_
  refine lv_bipush (v := 34) hx hb dX11_takeRead_39 (by decide) ?_
  refine lv_icmp_ge (tgt := 57) hx hb dX11_takeRead_41 (by decide) (fun c51 => ?_) (fun c51 => ?_)
  · exact absurd c51 (by decide)
  clear c51
  refine lv_aload_n hx hb dX11_takeRead_44 rfl (lv_at hl 1 rfl) ?_
  refine va_get (D := (dC, dI)) (ci := 11) (v := .ref m10) (C := RX11) (T := TX11) (N := 46) hx hb hts hi_X11 hown hK hP 0 rfl rfl 10 (by decide) (hts (.fieldLink RX11 28 "LeftQuillsModel" "now" "[I") (by decide +kernel)) (fun _ h9 => h9) rfl dX11_takeRead_45 ?_
  refine lv_iload_n hx hb dX11_takeRead_48 rfl (lv_at hl 0 rfl) ?_
  refine lv_iconst (v := 0) hx hb dX11_takeRead_49 (by decide) ?_
  refine va_iast hx hb hK hP hD hS 2 0 rfl rfl (vp_in_iff.mpr ⟨by decide, by decide⟩) dX11_takeRead_50 (fun H locs hP hD hS => ?_)
  rw [x_upd0] at hP hD
  have hP : va_P (dC, dI) vwCl [(h0, .inr (11, [.int 0, .int 0, .int 0, .ref m3, .ref m4, .ref m5, .int 0, .ref m7, .ref m8, .ref m9, .ref m10, .int 0, .ref m12, .int 0, .int (-1), .int 0, .int 0, .int 0, .ref m18, .int 0, .ref m20, .ref m21, .ref m22, .ref m23, .ref m24, .int 0, .ref m26, .ref m27, .ref m28, .int 0, .ref m30, .int 0, .int 0, .ref m33, .int 0, .int 0, .ref m36, .int 0, .ref m38, .ref m39, .ref m40, .int 0, .ref m42, .ref m43, .ref m44, .ref m45])), (m18, .inl (cI, 2, .inl (fun _ => 0))), (m10, .inl (cI, 34, .inl (fun _ => 0)))] H := hP
  have hD : va_D A [(h0, .inr (11, [.int 0, .int 0, .int 0, .ref m3, .ref m4, .ref m5, .int 0, .ref m7, .ref m8, .ref m9, .ref m10, .int 0, .ref m12, .int 0, .int (-1), .int 0, .int 0, .int 0, .ref m18, .int 0, .ref m20, .ref m21, .ref m22, .ref m23, .ref m24, .int 0, .ref m26, .ref m27, .ref m28, .int 0, .ref m30, .int 0, .int 0, .ref m33, .int 0, .int 0, .ref m36, .int 0, .ref m38, .ref m39, .ref m40, .int 0, .ref m42, .ref m43, .ref m44, .ref m45])), (m18, .inl (cI, 2, .inl (fun _ => 0))), (m10, .inl (cI, 34, .inl (fun _ => 0)))] := hD
  refine lv_iinc (v := 26) (lv' := [(1, .int 26), (0, .ref h0)]) hx hb dX11_takeRead_51 hl (k := 0) rfl (by decide) (by decide) rfl (fun ls hl => ?_)
  refine lv_goto (tgt := 38) hx hb dX11_takeRead_54 (by decide) ?_
  refine lv_iload_n hx hb dX11_takeRead_38 rfl (lv_at hl 0 rfl) ?_
  refine lv_bipush (v := 34) hx hb dX11_takeRead_39 (by decide) ?_
  refine lv_icmp_ge (tgt := 57) hx hb dX11_takeRead_41 (by decide) (fun c53 => ?_) (fun c53 => ?_)
  · exact absurd c53 (by decide)
  clear c53
  refine lv_aload_n hx hb dX11_takeRead_44 rfl (lv_at hl 1 rfl) ?_
  refine va_get (D := (dC, dI)) (ci := 11) (v := .ref m10) (C := RX11) (T := TX11) (N := 46) hx hb hts hi_X11 hown hK hP 0 rfl rfl 10 (by decide) (hts (.fieldLink RX11 28 "LeftQuillsModel" "now" "[I") (by decide +kernel)) (fun _ h9 => h9) rfl dX11_takeRead_45 ?_
  refine lv_iload_n hx hb dX11_takeRead_48 rfl (lv_at hl 0 rfl) ?_
  refine lv_iconst (v := 0) hx hb dX11_takeRead_49 (by decide) ?_
  refine va_iast hx hb hK hP hD hS 2 0 rfl rfl (vp_in_iff.mpr ⟨by decide, by decide⟩) dX11_takeRead_50 (fun H locs hP hD hS => ?_)
  rw [x_upd0] at hP hD
  have hP : va_P (dC, dI) vwCl [(h0, .inr (11, [.int 0, .int 0, .int 0, .ref m3, .ref m4, .ref m5, .int 0, .ref m7, .ref m8, .ref m9, .ref m10, .int 0, .ref m12, .int 0, .int (-1), .int 0, .int 0, .int 0, .ref m18, .int 0, .ref m20, .ref m21, .ref m22, .ref m23, .ref m24, .int 0, .ref m26, .ref m27, .ref m28, .int 0, .ref m30, .int 0, .int 0, .ref m33, .int 0, .int 0, .ref m36, .int 0, .ref m38, .ref m39, .ref m40, .int 0, .ref m42, .ref m43, .ref m44, .ref m45])), (m18, .inl (cI, 2, .inl (fun _ => 0))), (m10, .inl (cI, 34, .inl (fun _ => 0)))] H := hP
  have hD : va_D A [(h0, .inr (11, [.int 0, .int 0, .int 0, .ref m3, .ref m4, .ref m5, .int 0, .ref m7, .ref m8, .ref m9, .ref m10, .int 0, .ref m12, .int 0, .int (-1), .int 0, .int 0, .int 0, .ref m18, .int 0, .ref m20, .ref m21, .ref m22, .ref m23, .ref m24, .int 0, .ref m26, .ref m27, .ref m28, .int 0, .ref m30, .int 0, .int 0, .ref m33, .int 0, .int 0, .ref m36, .int 0, .ref m38, .ref m39, .ref m40, .int 0, .ref m42, .ref m43, .ref m44, .ref m45])), (m18, .inl (cI, 2, .inl (fun _ => 0))), (m10, .inl (cI, 34, .inl (fun _ => 0)))] := hD
  refine lv_iinc (v := 27) (lv' := [(1, .int 27), (0, .ref h0)]) hx hb dX11_takeRead_51 hl (k := 0) rfl (by decide) (by decide) rfl (fun ls hl => ?_)
  refine lv_goto (tgt := 38) hx hb dX11_takeRead_54 (by decide) ?_
  refine lv_iload_n hx hb dX11_takeRead_38 rfl (lv_at hl 0 rfl) ?_
  refine lv_bipush (v := 34) hx hb dX11_takeRead_39 (by decide) ?_
  refine lv_icmp_ge (tgt := 57) hx hb dX11_takeRead_41 (by decide) (fun c55 => ?_) (fun c55 => ?_)
  · exact absurd c55 (by decide)
  clear c55
  refine lv_aload_n hx hb dX11_takeRead_44 rfl (lv_at hl 1 rfl) ?_
  refine va_get (D := (dC, dI)) (ci := 11) (v := .ref m10) (C := RX11) (T := TX11) (N := 46) hx hb hts hi_X11 hown hK hP 0 rfl rfl 10 (by decide) (hts (.fieldLink RX11 28 "LeftQuillsModel" "now" "[I") (by decide +kernel)) (fun _ h9 => h9) rfl dX11_takeRead_45 ?_
  refine lv_iload_n hx hb dX11_takeRead_48 rfl (lv_at hl 0 rfl) ?_
  refine lv_iconst (v := 0) hx hb dX11_takeRead_49 (by decide) ?_
  refine va_iast hx hb hK hP hD hS 2 0 rfl rfl (vp_in_iff.mpr ⟨by decide, by decide⟩) dX11_takeRead_50 (fun H locs hP hD hS => ?_)
  rw [x_upd0] at hP hD
  have hP : va_P (dC, dI) vwCl [(h0, .inr (11, [.int 0, .int 0, .int 0, .ref m3, .ref m4, .ref m5, .int 0, .ref m7, .ref m8, .ref m9, .ref m10, .int 0, .ref m12, .int 0, .int (-1), .int 0, .int 0, .int 0, .ref m18, .int 0, .ref m20, .ref m21, .ref m22, .ref m23, .ref m24, .int 0, .ref m26, .ref m27, .ref m28, .int 0, .ref m30, .int 0, .int 0, .ref m33, .int 0, .int 0, .ref m36, .int 0, .ref m38, .ref m39, .ref m40, .int 0, .ref m42, .ref m43, .ref m44, .ref m45])), (m18, .inl (cI, 2, .inl (fun _ => 0))), (m10, .inl (cI, 34, .inl (fun _ => 0)))] H := hP
  have hD : va_D A [(h0, .inr (11, [.int 0, .int 0, .int 0, .ref m3, .ref m4, .ref m5, .int 0, .ref m7, .ref m8, .ref m9, .ref m10, .int 0, .ref m12, .int 0, .int (-1), .int 0, .int 0, .int 0, .ref m18, .int 0, .ref m20, .ref m21, .ref m22, .ref m23, .ref m24, .int 0, .ref m26, .ref m27, .ref m28, .int 0, .ref m30, .int 0, .int 0, .ref m33, .int 0, .int 0, .ref m36, .int 0, .ref m38, .ref m39, .ref m40, .int 0, .ref m42, .ref m43, .ref m44, .ref m45])), (m18, .inl (cI, 2, .inl (fun _ => 0))), (m10, .inl (cI, 34, .inl (fun _ => 0)))] := hD
  refine lv_iinc (v := 28) (lv' := [(1, .int 28), (0, .ref h0)]) hx hb dX11_takeRead_51 hl (k := 0) rfl (by decide) (by decide) rfl (fun ls hl => ?_)
  refine lv_goto (tgt := 38) hx hb dX11_takeRead_54 (by decide) ?_
  refine lv_iload_n hx hb dX11_takeRead_38 rfl (lv_at hl 0 rfl) ?_
  refine lv_bipush (v := 34) hx hb dX11_takeRead_39 (by decide) ?_
  refine lv_icmp_ge (tgt := 57) hx hb dX11_takeRead_41 (by decide) (fun c57 => ?_) (fun c57 => ?_)
  · exact absurd c57 (by decide)
  clear c57
  refine lv_aload_n hx hb dX11_takeRead_44 rfl (lv_at hl 1 rfl) ?_
  refine va_get (D := (dC, dI)) (ci := 11) (v := .ref m10) (C := RX11) (T := TX11) (N := 46) hx hb hts hi_X11 hown hK hP 0 rfl rfl 10 (by decide) (hts (.fieldLink RX11 28 "LeftQuillsModel" "now" "[I") (by decide +kernel)) (fun _ h9 => h9) rfl dX11_takeRead_45 ?_
  refine lv_iload_n hx hb dX11_takeRead_48 rfl (lv_at hl 0 rfl) ?_
  refine lv_iconst (v := 0) hx hb dX11_takeRead_49 (by decide) ?_
  refine va_iast hx hb hK hP hD hS 2 0 rfl rfl (vp_in_iff.mpr ⟨by decide, by decide⟩) dX11_takeRead_50 (fun H locs hP hD hS => ?_)
  rw [x_upd0] at hP hD
  have hP : va_P (dC, dI) vwCl [(h0, .inr (11, [.int 0, .int 0, .int 0, .ref m3, .ref m4, .ref m5, .int 0, .ref m7, .ref m8, .ref m9, .ref m10, .int 0, .ref m12, .int 0, .int (-1), .int 0, .int 0, .int 0, .ref m18, .int 0, .ref m20, .ref m21, .ref m22, .ref m23, .ref m24, .int 0, .ref m26, .ref m27, .ref m28, .int 0, .ref m30, .int 0, .int 0, .ref m33, .int 0, .int 0, .ref m36, .int 0, .ref m38, .ref m39, .ref m40, .int 0, .ref m42, .ref m43, .ref m44, .ref m45])), (m18, .inl (cI, 2, .inl (fun _ => 0))), (m10, .inl (cI, 34, .inl (fun _ => 0)))] H := hP
  have hD : va_D A [(h0, .inr (11, [.int 0, .int 0, .int 0, .ref m3, .ref m4, .ref m5, .int 0, .ref m7, .ref m8, .ref m9, .ref m10, .int 0, .ref m12, .int 0, .int (-1), .int 0, .int 0, .int 0, .ref m18, .int 0, .ref m20, .ref m21, .ref m22, .ref m23, .ref m24, .int 0, .ref m26, .ref m27, .ref m28, .int 0, .ref m30, .int 0, .int 0, .ref m33, .int 0, .int 0, .ref m36, .int 0, .ref m38, .ref m39, .ref m40, .int 0, .ref m42, .ref m43, .ref m44, .ref m45])), (m18, .inl (cI, 2, .inl (fun _ => 0))), (m10, .inl (cI, 34, .inl (fun _ => 0)))] := hD
  refine lv_iinc (v := 29) (lv' := [(1, .int 29), (0, .ref h0)]) hx hb dX11_takeRead_51 hl (k := 0) rfl (by decide) (by decide) rfl (fun ls hl => ?_)
  refine lv_goto (tgt := 38) hx hb dX11_takeRead_54 (by decide) ?_
  refine lv_iload_n hx hb dX11_takeRead_38 rfl (lv_at hl 0 rfl) ?_
  refine lv_bipush (v := 34) hx hb dX11_takeRead_39 (by decide) ?_
  refine lv_icmp_ge (tgt := 57) hx hb dX11_takeRead_41 (by decide) (fun c59 => ?_) (fun c59 => ?_)
  · exact absurd c59 (by decide)
  clear c59
  refine lv_aload_n hx hb dX11_takeRead_44 rfl (lv_at hl 1 rfl) ?_
  refine va_get (D := (dC, dI)) (ci := 11) (v := .ref m10) (C := RX11) (T := TX11) (N := 46) hx hb hts hi_X11 hown hK hP 0 rfl rfl 10 (by decide) (hts (.fieldLink RX11 28 "LeftQuillsModel" "now" "[I") (by decide +kernel)) (fun _ h9 => h9) rfl dX11_takeRead_45 ?_
  refine lv_iload_n hx hb dX11_takeRead_48 rfl (lv_at hl 0 rfl) ?_
  refine lv_iconst (v := 0) hx hb dX11_takeRead_49 (by decide) ?_
  refine va_iast hx hb hK hP hD hS 2 0 rfl rfl (vp_in_iff.mpr ⟨by decide, by decide⟩) dX11_takeRead_50 (fun H locs hP hD hS => ?_)
  rw [x_upd0] at hP hD
  have hP : va_P (dC, dI) vwCl [(h0, .inr (11, [.int 0, .int 0, .int 0, .ref m3, .ref m4, .ref m5, .int 0, .ref m7, .ref m8, .ref m9, .ref m10, .int 0, .ref m12, .int 0, .int (-1), .int 0, .int 0, .int 0, .ref m18, .int 0, .ref m20, .ref m21, .ref m22, .ref m23, .ref m24, .int 0, .ref m26, .ref m27, .ref m28, .int 0, .ref m30, .int 0, .int 0, .ref m33, .int 0, .int 0, .ref m36, .int 0, .ref m38, .ref m39, .ref m40, .int 0, .ref m42, .ref m43, .ref m44, .ref m45])), (m18, .inl (cI, 2, .inl (fun _ => 0))), (m10, .inl (cI, 34, .inl (fun _ => 0)))] H := hP
  have hD : va_D A [(h0, .inr (11, [.int 0, .int 0, .int 0, .ref m3, .ref m4, .ref m5, .int 0, .ref m7, .ref m8, .ref m9, .ref m10, .int 0, .ref m12, .int 0, .int (-1), .int 0, .int 0, .int 0, .ref m18, .int 0, .ref m20, .ref m21, .ref m22, .ref m23, .ref m24, .int 0, .ref m26, .ref m27, .ref m28, .int 0, .ref m30, .int 0, .int 0, .ref m33, .int 0, .int 0, .ref m36, .int 0, .ref m38, .ref m39, .ref m40, .int 0, .ref m42, .ref m43, .ref m44, .ref m45])), (m18, .inl (cI, 2, .inl (fun _ => 0))), (m10, .inl (cI, 34, .inl (fun _ => 0)))] := hD
  refine lv_iinc (v := 30) (lv' := [(1, .int 30), (0, .ref h0)]) hx hb dX11_takeRead_51 hl (k := 0) rfl (by decide) (by decide) rfl (fun ls hl => ?_)
  refine lv_goto (tgt := 38) hx hb dX11_takeRead_54 (by decide) ?_
  refine lv_iload_n hx hb dX11_takeRead_38 rfl (lv_at hl 0 rfl) ?_
  refine lv_bipush (v := 34) hx hb dX11_takeRead_39 (by decide) ?_
  refine lv_icmp_ge (tgt := 57) hx hb dX11_takeRead_41 (by decide) (fun c61 => ?_) (fun c61 => ?_)
  · exact absurd c61 (by decide)
  clear c61
  refine lv_aload_n hx hb dX11_takeRead_44 rfl (lv_at hl 1 rfl) ?_
  refine va_get (D := (dC, dI)) (ci := 11) (v := .ref m10) (C := RX11) (T := TX11) (N := 46) hx hb hts hi_X11 hown hK hP 0 rfl rfl 10 (by decide) (hts (.fieldLink RX11 28 "LeftQuillsModel" "now" "[I") (by decide +kernel)) (fun _ h9 => h9) rfl dX11_takeRead_45 ?_
  refine lv_iload_n hx hb dX11_takeRead_48 rfl (lv_at hl 0 rfl) ?_
  refine lv_iconst (v := 0) hx hb dX11_takeRead_49 (by decide) ?_
  refine va_iast hx hb hK hP hD hS 2 0 rfl rfl (vp_in_iff.mpr ⟨by decide, by decide⟩) dX11_takeRead_50 (fun H locs hP hD hS => ?_)
  rw [x_upd0] at hP hD
  have hP : va_P (dC, dI) vwCl [(h0, .inr (11, [.int 0, .int 0, .int 0, .ref m3, .ref m4, .ref m5, .int 0, .ref m7, .ref m8, .ref m9, .ref m10, .int 0, .ref m12, .int 0, .int (-1), .int 0, .int 0, .int 0, .ref m18, .int 0, .ref m20, .ref m21, .ref m22, .ref m23, .ref m24, .int 0, .ref m26, .ref m27, .ref m28, .int 0, .ref m30, .int 0, .int 0, .ref m33, .int 0, .int 0, .ref m36, .int 0, .ref m38, .ref m39, .ref m40, .int 0, .ref m42, .ref m43, .ref m44, .ref m45])), (m18, .inl (cI, 2, .inl (fun _ => 0))), (m10, .inl (cI, 34, .inl (fun _ => 0)))] H := hP
  have hD : va_D A [(h0, .inr (11, [.int 0, .int 0, .int 0, .ref m3, .ref m4, .ref m5, .int 0, .ref m7, .ref m8, .ref m9, .ref m10, .int 0, .ref m12, .int 0, .int (-1), .int 0, .int 0, .int 0, .ref m18, .int 0, .ref m20, .ref m21, .ref m22, .ref m23, .ref m24, .int 0, .ref m26, .ref m27, .ref m28, .int 0, .ref m30, .int 0, .int 0, .ref m33, .int 0, .int 0, .ref m36, .int 0, .ref m38, .ref m39, .ref m40, .int 0, .ref m42, .ref m43, .ref m44, .ref m45])), (m18, .inl (cI, 2, .inl (fun _ => 0))), (m10, .inl (cI, 34, .inl (fun _ => 0)))] := hD
  refine lv_iinc (v := 31) (lv' := [(1, .int 31), (0, .ref h0)]) hx hb dX11_takeRead_51 hl (k := 0) rfl (by decide) (by decide) rfl (fun ls hl => ?_)
  refine lv_goto (tgt := 38) hx hb dX11_takeRead_54 (by decide) ?_
  refine lv_iload_n hx hb dX11_takeRead_38 rfl (lv_at hl 0 rfl) ?_
  refine lv_bipush (v := 34) hx hb dX11_takeRead_39 (by decide) ?_
  refine lv_icmp_ge (tgt := 57) hx hb dX11_takeRead_41 (by decide) (fun c63 => ?_) (fun c63 => ?_)
  · exact absurd c63 (by decide)
  clear c63
  refine lv_aload_n hx hb dX11_takeRead_44 rfl (lv_at hl 1 rfl) ?_
  refine va_get (D := (dC, dI)) (ci := 11) (v := .ref m10) (C := RX11) (T := TX11) (N := 46) hx hb hts hi_X11 hown hK hP 0 rfl rfl 10 (by decide) (hts (.fieldLink RX11 28 "LeftQuillsModel" "now" "[I") (by decide +kernel)) (fun _ h9 => h9) rfl dX11_takeRead_45 ?_
  refine lv_iload_n hx hb dX11_takeRead_48 rfl (lv_at hl 0 rfl) ?_
  refine lv_iconst (v := 0) hx hb dX11_takeRead_49 (by decide) ?_
  refine va_iast hx hb hK hP hD hS 2 0 rfl rfl (vp_in_iff.mpr ⟨by decide, by decide⟩) dX11_takeRead_50 (fun H locs hP hD hS => ?_)
  rw [x_upd0] at hP hD
  have hP : va_P (dC, dI) vwCl [(h0, .inr (11, [.int 0, .int 0, .int 0, .ref m3, .ref m4, .ref m5, .int 0, .ref m7, .ref m8, .ref m9, .ref m10, .int 0, .ref m12, .int 0, .int (-1), .int 0, .int 0, .int 0, .ref m18, .int 0, .ref m20, .ref m21, .ref m22, .ref m23, .ref m24, .int 0, .ref m26, .ref m27, .ref m28, .int 0, .ref m30, .int 0, .int 0, .ref m33, .int 0, .int 0, .ref m36, .int 0, .ref m38, .ref m39, .ref m40, .int 0, .ref m42, .ref m43, .ref m44, .ref m45])), (m18, .inl (cI, 2, .inl (fun _ => 0))), (m10, .inl (cI, 34, .inl (fun _ => 0)))] H := hP
  have hD : va_D A [(h0, .inr (11, [.int 0, .int 0, .int 0, .ref m3, .ref m4, .ref m5, .int 0, .ref m7, .ref m8, .ref m9, .ref m10, .int 0, .ref m12, .int 0, .int (-1), .int 0, .int 0, .int 0, .ref m18, .int 0, .ref m20, .ref m21, .ref m22, .ref m23, .ref m24, .int 0, .ref m26, .ref m27, .ref m28, .int 0, .ref m30, .int 0, .int 0, .ref m33, .int 0, .int 0, .ref m36, .int 0, .ref m38, .ref m39, .ref m40, .int 0, .ref m42, .ref m43, .ref m44, .ref m45])), (m18, .inl (cI, 2, .inl (fun _ => 0))), (m10, .inl (cI, 34, .inl (fun _ => 0)))] := hD
  refine lv_iinc (v := 32) (lv' := [(1, .int 32), (0, .ref h0)]) hx hb dX11_takeRead_51 hl (k := 0) rfl (by decide) (by decide) rfl (fun ls hl => ?_)
  refine lv_goto (tgt := 38) hx hb dX11_takeRead_54 (by decide) ?_
  refine lv_iload_n hx hb dX11_takeRead_38 rfl (lv_at hl 0 rfl) ?_
  refine lv_bipush (v := 34) hx hb dX11_takeRead_39 (by decide) ?_
  refine lv_icmp_ge (tgt := 57) hx hb dX11_takeRead_41 (by decide) (fun c65 => ?_) (fun c65 => ?_)
  · exact absurd c65 (by decide)
  clear c65
  refine lv_aload_n hx hb dX11_takeRead_44 rfl (lv_at hl 1 rfl) ?_
  refine va_get (D := (dC, dI)) (ci := 11) (v := .ref m10) (C := RX11) (T := TX11) (N := 46) hx hb hts hi_X11 hown hK hP 0 rfl rfl 10 (by decide) (hts (.fieldLink RX11 28 "LeftQuillsModel" "now" "[I") (by decide +kernel)) (fun _ h9 => h9) rfl dX11_takeRead_45 ?_
  refine lv_iload_n hx hb dX11_takeRead_48 rfl (lv_at hl 0 rfl) ?_
  refine lv_iconst (v := 0) hx hb dX11_takeRead_49 (by decide) ?_
  refine va_iast hx hb hK hP hD hS 2 0 rfl rfl (vp_in_iff.mpr ⟨by decide, by decide⟩) dX11_takeRead_50 (fun H locs hP hD hS => ?_)
  rw [x_upd0] at hP hD
  have hP : va_P (dC, dI) vwCl [(h0, .inr (11, [.int 0, .int 0, .int 0, .ref m3, .ref m4, .ref m5, .int 0, .ref m7, .ref m8, .ref m9, .ref m10, .int 0, .ref m12, .int 0, .int (-1), .int 0, .int 0, .int 0, .ref m18, .int 0, .ref m20, .ref m21, .ref m22, .ref m23, .ref m24, .int 0, .ref m26, .ref m27, .ref m28, .int 0, .ref m30, .int 0, .int 0, .ref m33, .int 0, .int 0, .ref m36, .int 0, .ref m38, .ref m39, .ref m40, .int 0, .ref m42, .ref m43, .ref m44, .ref m45])), (m18, .inl (cI, 2, .inl (fun _ => 0))), (m10, .inl (cI, 34, .inl (fun _ => 0)))] H := hP
  have hD : va_D A [(h0, .inr (11, [.int 0, .int 0, .int 0, .ref m3, .ref m4, .ref m5, .int 0, .ref m7, .ref m8, .ref m9, .ref m10, .int 0, .ref m12, .int 0, .int (-1), .int 0, .int 0, .int 0, .ref m18, .int 0, .ref m20, .ref m21, .ref m22, .ref m23, .ref m24, .int 0, .ref m26, .ref m27, .ref m28, .int 0, .ref m30, .int 0, .int 0, .ref m33, .int 0, .int 0, .ref m36, .int 0, .ref m38, .ref m39, .ref m40, .int 0, .ref m42, .ref m43, .ref m44, .ref m45])), (m18, .inl (cI, 2, .inl (fun _ => 0))), (m10, .inl (cI, 34, .inl (fun _ => 0)))] := hD
  refine lv_iinc (v := 33) (lv' := [(1, .int 33), (0, .ref h0)]) hx hb dX11_takeRead_51 hl (k := 0) rfl (by decide) (by decide) rfl (fun ls hl => ?_)
  refine lv_goto (tgt := 38) hx hb dX11_takeRead_54 (by decide) ?_
  refine lv_iload_n hx hb dX11_takeRead_38 rfl (lv_at hl 0 rfl) ?_
  refine lv_bipush (v := 34) hx hb dX11_takeRead_39 (by decide) ?_
  refine lv_icmp_ge (tgt := 57) hx hb dX11_takeRead_41 (by decide) (fun c67 => ?_) (fun c67 => ?_)
  · exact absurd c67 (by decide)
  clear c67
  refine lv_aload_n hx hb dX11_takeRead_44 rfl (lv_at hl 1 rfl) ?_
  refine va_get (D := (dC, dI)) (ci := 11) (v := .ref m10) (C := RX11) (T := TX11) (N := 46) hx hb hts hi_X11 hown hK hP 0 rfl rfl 10 (by decide) (hts (.fieldLink RX11 28 "LeftQuillsModel" "now" "[I") (by decide +kernel)) (fun _ h9 => h9) rfl dX11_takeRead_45 ?_
  refine lv_iload_n hx hb dX11_takeRead_48 rfl (lv_at hl 0 rfl) ?_
  refine lv_iconst (v := 0) hx hb dX11_takeRead_49 (by decide) ?_
  refine va_iast hx hb hK hP hD hS 2 0 rfl rfl (vp_in_iff.mpr ⟨by decide, by decide⟩) dX11_takeRead_50 (fun H locs hP hD hS => ?_)
  rw [x_upd0] at hP hD
  have hP : va_P (dC, dI) vwCl [(h0, .inr (11, [.int 0, .int 0, .int 0, .ref m3, .ref m4, .ref m5, .int 0, .ref m7, .ref m8, .ref m9, .ref m10, .int 0, .ref m12, .int 0, .int (-1), .int 0, .int 0, .int 0, .ref m18, .int 0, .ref m20, .ref m21, .ref m22, .ref m23, .ref m24, .int 0, .ref m26, .ref m27, .ref m28, .int 0, .ref m30, .int 0, .int 0, .ref m33, .int 0, .int 0, .ref m36, .int 0, .ref m38, .ref m39, .ref m40, .int 0, .ref m42, .ref m43, .ref m44, .ref m45])), (m18, .inl (cI, 2, .inl (fun _ => 0))), (m10, .inl (cI, 34, .inl (fun _ => 0)))] H := hP
  have hD : va_D A [(h0, .inr (11, [.int 0, .int 0, .int 0, .ref m3, .ref m4, .ref m5, .int 0, .ref m7, .ref m8, .ref m9, .ref m10, .int 0, .ref m12, .int 0, .int (-1), .int 0, .int 0, .int 0, .ref m18, .int 0, .ref m20, .ref m21, .ref m22, .ref m23, .ref m24, .int 0, .ref m26, .ref m27, .ref m28, .int 0, .ref m30, .int 0, .int 0, .ref m33, .int 0, .int 0, .ref m36, .int 0, .ref m38, .ref m39, .ref m40, .int 0, .ref m42, .ref m43, .ref m44, .ref m45])), (m18, .inl (cI, 2, .inl (fun _ => 0))), (m10, .inl (cI, 34, .inl (fun _ => 0)))] := hD
  refine lv_iinc (v := 34) (lv' := [(1, .int 34), (0, .ref h0)]) hx hb dX11_takeRead_51 hl (k := 0) rfl (by decide) (by decide) rfl (fun ls hl => ?_)
  refine lv_goto (tgt := 38) hx hb dX11_takeRead_54 (by decide) ?_
  refine lv_iload_n hx hb dX11_takeRead_38 rfl (lv_at hl 0 rfl) ?_
  refine lv_bipush (v := 34) hx hb dX11_takeRead_39 (by decide) ?_
  refine lv_icmp_ge (tgt := 57) hx hb dX11_takeRead_41 (by decide) (fun c69 => ?_) (fun c69 => ?_)
  rotate_left
  · exact absurd c69 (by decide)
  clear c69
  refine lv_iconst (v := 0) hx hb dX11_takeRead_57 (by decide) ?_
  refine lv_istore_n (lv' := [(1, .int 0), (0, .ref h0)]) hx hb dX11_takeRead_58 rfl hl (by decide) rfl (fun ls hl => ?_)
  refine lv_iload_n hx hb dX11_takeRead_59 rfl (lv_at hl 0 rfl) ?_
  refine lv_aload_n hx hb dX11_takeRead_60 rfl (lv_at hl 1 rfl) ?_
  refine va_get (D := (dC, dI)) (ci := 11) (v := .int 0) (C := RX11) (T := TX11) (N := 46) hx hb hts hi_X11 hown hK hP 0 rfl rfl 2 (by decide) (hts (.fieldLink RX11 99 "LeftQuillsModel" "quills" "I") (by decide +kernel)) (fun _ h9 => h9) rfl dX11_takeRead_61 ?_
  refine lv_icmp_ge (tgt := 136) hx hb dX11_takeRead_64 (by decide) (fun c70 => ?_) (fun c70 => ?_)
  rotate_left
  · exact absurd c70 (by decide)
  clear c70
  refine lv_iconst (v := 0) hx hb dX11_takeRead_136 (by decide) ?_
  refine lv_istore_n (lv' := [(1, .int 0), (0, .ref h0)]) hx hb dX11_takeRead_137 rfl hl (by decide) rfl (fun ls hl => ?_)
  refine lv_iload_n hx hb dX11_takeRead_138 rfl (lv_at hl 0 rfl) ?_
  refine lv_aload_n hx hb dX11_takeRead_139 rfl (lv_at hl 1 rfl) ?_
  refine va_get (D := (dC, dI)) (ci := 11) (v := .int 0) (C := RX11) (T := TX11) (N := 46) hx hb hts hi_X11 hown hK hP 0 rfl rfl 6 (by decide) (hts (.fieldLink RX11 106 "LeftQuillsModel" "hands" "I") (by decide +kernel)) (fun _ h9 => h9) rfl dX11_takeRead_140 ?_
  refine lv_icmp_ge (tgt := 188) hx hb dX11_takeRead_143 (by decide) (fun c71 => ?_) (fun c71 => ?_)
  rotate_left
  · exact absurd c71 (by decide)
  clear c71
  have hP9 := hP.sub (ws' := [(h0, .inr (11, [.int 0, .int 0, .int 0, .ref m3, .ref m4, .ref m5, .int 0, .ref m7, .ref m8, .ref m9, .ref m10, .int 0, .ref m12, .int 0, .int (-1), .int 0, .int 0, .int 0, .ref m18, .int 0, .ref m20, .ref m21, .ref m22, .ref m23, .ref m24, .int 0, .ref m26, .ref m27, .ref m28, .int 0, .ref m30, .int 0, .int 0, .ref m33, .int 0, .int 0, .ref m36, .int 0, .ref m38, .ref m39, .ref m40, .int 0, .ref m42, .ref m43, .ref m44, .ref m45]))]) [0] rfl
  have hD9 := hD.sub (ws' := [(h0, .inr (11, [.int 0, .int 0, .int 0, .ref m3, .ref m4, .ref m5, .int 0, .ref m7, .ref m8, .ref m9, .ref m10, .int 0, .ref m12, .int 0, .int (-1), .int 0, .int 0, .int 0, .ref m18, .int 0, .ref m20, .ref m21, .ref m22, .ref m23, .ref m24, .int 0, .ref m26, .ref m27, .ref m28, .int 0, .ref m30, .int 0, .int 0, .ref m33, .int 0, .int 0, .ref m36, .int 0, .ref m38, .ref m39, .ref m40, .int 0, .ref m42, .ref m43, .ref m44, .ref m45]))]) [0] (by decide) rfl
  exact W.vret hx hb hr (fun t ht hW => ⟨⟨(vn []), rfl, by first | trivial | rfl | (simp_all; done), ⟨by rw [ht]; exact hP9, hD9⟩⟩, hS.F ht⟩) hS.2.2 dX11_takeRead_188
set_option maxHeartbeats 4000000 in
set_option maxRecDepth 100000 in
theorem c_X11_office (l : Launch) (dC : Nat → ClassId) (dI : Nat → Nat → Nat) (cI cZ cQ : ClassId) (h0 : Nat) (m3 : Nat) (m4 : Nat) (m5 : Nat) (m7 : Nat) (m8 : Nat) (m9 : Nat) (m10 : Nat) (m12 : Nat) (m18 : Nat) (m20 : Nat) (m21 : Nat) (m22 : Nat) (m23 : Nat) (m24 : Nat) (m26 : Nat) (m27 : Nat) (m28 : Nat) (m30 : Nat) (m33 : Nat) (m36 : Nat) (m38 : Nat) (m39 : Nat) (m40 : Nat) (m42 : Nat) (m43 : Nat) (m44 : Nat) (m45 : Nat) (sz : Nat)  : Met l yX11_office wsX11_office ({ frames := 1, cells := 0, slots := 0, locals := 61 }) (va_Pc [.ref h0] (fun U => U.heap.size = sz ∧ va_P (dC, dI) vwCl [(h0, .inr (11, [.int 0, .int 0, .int 0, .ref m3, .ref m4, .ref m5, .int 0, .ref m7, .ref m8, .ref m9, .ref m10, .int 0, .ref m12, .int 0, .int (-1), .int 0, .int 0, .int 0, .ref m18, .int 0, .ref m20, .ref m21, .ref m22, .ref m23, .ref m24, .int 0, .ref m26, .ref m27, .ref m28, .int 0, .ref m30, .int 0, .int 0, .ref m33, .int 0, .int 0, .ref m36, .int 0, .ref m38, .ref m39, .ref m40, .int 0, .ref m42, .ref m43, .ref m44, .ref m45])), (m18, .inl (cI, 2, .inl (fun _ => 0))), (m10, .inl (cI, 34, .inl (fun _ => 0))), (m45, .inl (cZ, 2, .inl (fun _ => 0)))] U.heap ∧ va_K (dC, dI) vwCl (tys0 cI cZ cQ) U ∧ va_D (fun _ => True) [(h0, .inr (11, [.int 0, .int 0, .int 0, .ref m3, .ref m4, .ref m5, .int 0, .ref m7, .ref m8, .ref m9, .ref m10, .int 0, .ref m12, .int 0, .int (-1), .int 0, .int 0, .int 0, .ref m18, .int 0, .ref m20, .ref m21, .ref m22, .ref m23, .ref m24, .int 0, .ref m26, .ref m27, .ref m28, .int 0, .ref m30, .int 0, .int 0, .ref m33, .int 0, .int 0, .ref m36, .int 0, .ref m38, .ref m39, .ref m40, .int 0, .ref m42, .ref m43, .ref m44, .ref m45])), (m18, .inl (cI, 2, .inl (fun _ => 0))), (m10, .inl (cI, 34, .inl (fun _ => 0))), (m45, .inl (cZ, 2, .inl (fun _ => 0)))])) (va_Qi (fun (r : Int32) (u : Nat → Nat) => r = 0) (fun (_ : Nat → Nat) (_ : State) => True) (va_A [(h0, .inr (11, [.int 0, .int 0, .int 0, .ref m3, .ref m4, .ref m5, .int 0, .ref m7, .ref m8, .ref m9, .ref m10, .int 0, .ref m12, .int 0, .int (-1), .int 0, .int 0, .int 0, .ref m18, .int 0, .ref m20, .ref m21, .ref m22, .ref m23, .ref m24, .int 0, .ref m26, .ref m27, .ref m28, .int 0, .ref m30, .int 0, .int 0, .ref m33, .int 0, .int 0, .ref m36, .int 0, .ref m38, .ref m39, .ref m40, .int 0, .ref m42, .ref m43, .ref m44, .ref m45])), (m18, .inl (cI, 2, .inl (fun _ => 0))), (m10, .inl (cI, 34, .inl (fun _ => 0))), (m45, .inl (cZ, 2, .inl (fun _ => 0)))] sz)) 0 0 (va_A [(h0, .inr (11, [.int 0, .int 0, .int 0, .ref m3, .ref m4, .ref m5, .int 0, .ref m7, .ref m8, .ref m9, .ref m10, .int 0, .ref m12, .int 0, .int (-1), .int 0, .int 0, .int 0, .ref m18, .int 0, .ref m20, .ref m21, .ref m22, .ref m23, .ref m24, .int 0, .ref m26, .ref m27, .ref m28, .int 0, .ref m30, .int 0, .int 0, .ref m33, .int 0, .int 0, .ref m36, .int 0, .ref m38, .ref m39, .ref m40, .int 0, .ref m42, .ref m43, .ref m44, .ref m45])), (m18, .inl (cI, 2, .inl (fun _ => 0))), (m10, .inl (cI, 34, .inl (fun _ => 0))), (m45, .inl (cZ, 2, .inl (fun _ => 0)))] sz) := by
  refine Met.ofW (cc := cX11_office) (maxL := 2) (ret := (some .int)) (by decide) rfl ?_
  intro p e s m args below meth c s₁ B hml hv
  obtain ⟨rfl, hsz, hP, hK, hD0⟩ := hv
  have hx := B.exec
  have hb := B.bytes
  have hr := B.returns
  have hts := atoms_spec (ws := wsX11_office) B.pre
  have hown : s.vm.findClass RX11 = some m.cls := findClass_of_methodNamed B.named
  have hlocks := B.notSynchronized
  have hi_X11 : ∀ w ∈ u_ws RX11 TX11 46, w ∈ wsX11_office := by decide +kernel
  subst hsz
  have hD := hD0.self (sz := s.heap.size)
  generalize hAe : va_A [(h0, .inr (11, [.int 0, .int 0, .int 0, .ref m3, .ref m4, .ref m5, .int 0, .ref m7, .ref m8, .ref m9, .ref m10, .int 0, .ref m12, .int 0, .int (-1), .int 0, .int 0, .int 0, .ref m18, .int 0, .ref m20, .ref m21, .ref m22, .ref m23, .ref m24, .int 0, .ref m26, .ref m27, .ref m28, .int 0, .ref m30, .int 0, .int 0, .ref m33, .int 0, .int 0, .ref m36, .int 0, .ref m38, .ref m39, .ref m40, .int 0, .ref m42, .ref m43, .ref m44, .ref m45])), (m18, .inl (cI, 2, .inl (fun _ => 0))), (m10, .inl (cI, 34, .inl (fun _ => 0))), (m45, .inl (cZ, 2, .inl (fun _ => 0)))] s.heap.size = A at hD ⊢
  have hA : ∀ q : Nat, s.heap.size ≤ q → A q := fun q h => by rw [← hAe]; exact Or.inr h
  have hS : va_S A s.heap s.heap [] := va_S.rf
  have hl := lv_entry ([.ref h0]) (n := 2) (Nat.le_of_ble_eq_true rfl)
  rw [lg_entry_eq]
  generalize (lg_sl ([.ref h0]) ++ List.replicate (2 - (lg_sl ([.ref h0])).length) Slot.unset).toArray = ls at hl ⊢
  have hl : lv_has ls 2 [(0, .ref h0)] := hl
  refine lv_aload_n hx hb dX11_office_0 rfl (lv_at hl 0 rfl) ?_
  refine lv_iconst (v := (-1)) hx hb dX11_office_1 (by decide) ?_
  refine va_put (D := (dC, dI)) (ci := 11) (v := .int (-1)) (ty := .int) (C := RX11) (T := TX11) (N := 46) hx hb hts hi_X11 tyX11 tyX11_ok nmX11 hown hK hP hD hS 0 rfl rfl 14 (by decide) (hts (.fieldLink RX11 34 "LeftQuillsModel" "faultPlace" "I") (by decide +kernel)) (fun _ h9 => h9) rfl (by decide +kernel) rfl rfl (Nat.le_of_ble_eq_true rfl) dX11_office_2 (fun H locs hP hD hS => ?_)
  have hP : va_P (dC, dI) vwCl [(h0, .inr (11, [.int 0, .int 0, .int 0, .ref m3, .ref m4, .ref m5, .int 0, .ref m7, .ref m8, .ref m9, .ref m10, .int 0, .ref m12, .int 0, .int (-1), .int 0, .int 0, .int 0, .ref m18, .int 0, .ref m20, .ref m21, .ref m22, .ref m23, .ref m24, .int 0, .ref m26, .ref m27, .ref m28, .int 0, .ref m30, .int 0, .int 0, .ref m33, .int 0, .int 0, .ref m36, .int 0, .ref m38, .ref m39, .ref m40, .int 0, .ref m42, .ref m43, .ref m44, .ref m45])), (m18, .inl (cI, 2, .inl (fun _ => 0))), (m10, .inl (cI, 34, .inl (fun _ => 0))), (m45, .inl (cZ, 2, .inl (fun _ => 0)))] H := hP
  have hD : va_D A [(h0, .inr (11, [.int 0, .int 0, .int 0, .ref m3, .ref m4, .ref m5, .int 0, .ref m7, .ref m8, .ref m9, .ref m10, .int 0, .ref m12, .int 0, .int (-1), .int 0, .int 0, .int 0, .ref m18, .int 0, .ref m20, .ref m21, .ref m22, .ref m23, .ref m24, .int 0, .ref m26, .ref m27, .ref m28, .int 0, .ref m30, .int 0, .int 0, .ref m33, .int 0, .int 0, .ref m36, .int 0, .ref m38, .ref m39, .ref m40, .int 0, .ref m42, .ref m43, .ref m44, .ref m45])), (m18, .inl (cI, 2, .inl (fun _ => 0))), (m10, .inl (cI, 34, .inl (fun _ => 0))), (m45, .inl (cZ, 2, .inl (fun _ => 0)))] := hD
  refine lv_aload_n hx hb dX11_office_5 rfl (lv_at hl 0 rfl) ?_
  refine lv_iconst (v := 0) hx hb dX11_office_6 (by decide) ?_
  refine va_put (D := (dC, dI)) (ci := 11) (v := .int 0) (ty := .int) (C := RX11) (T := TX11) (N := 46) hx hb hts hi_X11 tyX11 tyX11_ok nmX11 hown hK hP hD hS 0 rfl rfl 15 (by decide) (hts (.fieldLink RX11 116 "LeftQuillsModel" "at0" "I") (by decide +kernel)) (fun _ h9 => h9) rfl (by decide +kernel) rfl rfl (Nat.le_of_ble_eq_true rfl) dX11_office_7 (fun H locs hP hD hS => ?_)
  have hP : va_P (dC, dI) vwCl [(h0, .inr (11, [.int 0, .int 0, .int 0, .ref m3, .ref m4, .ref m5, .int 0, .ref m7, .ref m8, .ref m9, .ref m10, .int 0, .ref m12, .int 0, .int (-1), .int 0, .int 0, .int 0, .ref m18, .int 0, .ref m20, .ref m21, .ref m22, .ref m23, .ref m24, .int 0, .ref m26, .ref m27, .ref m28, .int 0, .ref m30, .int 0, .int 0, .ref m33, .int 0, .int 0, .ref m36, .int 0, .ref m38, .ref m39, .ref m40, .int 0, .ref m42, .ref m43, .ref m44, .ref m45])), (m18, .inl (cI, 2, .inl (fun _ => 0))), (m10, .inl (cI, 34, .inl (fun _ => 0))), (m45, .inl (cZ, 2, .inl (fun _ => 0)))] H := hP
  have hD : va_D A [(h0, .inr (11, [.int 0, .int 0, .int 0, .ref m3, .ref m4, .ref m5, .int 0, .ref m7, .ref m8, .ref m9, .ref m10, .int 0, .ref m12, .int 0, .int (-1), .int 0, .int 0, .int 0, .ref m18, .int 0, .ref m20, .ref m21, .ref m22, .ref m23, .ref m24, .int 0, .ref m26, .ref m27, .ref m28, .int 0, .ref m30, .int 0, .int 0, .ref m33, .int 0, .int 0, .ref m36, .int 0, .ref m38, .ref m39, .ref m40, .int 0, .ref m42, .ref m43, .ref m44, .ref m45])), (m18, .inl (cI, 2, .inl (fun _ => 0))), (m10, .inl (cI, 34, .inl (fun _ => 0))), (m45, .inl (cZ, 2, .inl (fun _ => 0)))] := hD
  refine lv_aload_n hx hb dX11_office_10 rfl (lv_at hl 0 rfl) ?_
  refine va_get (D := (dC, dI)) (ci := 11) (v := .ref m18) (C := RX11) (T := TX11) (N := 46) hx hb hts hi_X11 hown hK hP 0 rfl rfl 18 (by decide) (hts (.fieldLink RX11 38 "LeftQuillsModel" "readOffice" "[I") (by decide +kernel)) (fun _ h9 => h9) rfl dX11_office_11 ?_
  refine lv_iconst (v := 0) hx hb dX11_office_14 (by decide) ?_
  refine lv_iconst (v := 0) hx hb dX11_office_15 (by decide) ?_
  refine va_iast hx hb hK hP hD hS 1 0 rfl rfl (vp_in_iff.mpr ⟨by decide, by decide⟩) dX11_office_16 (fun H locs hP hD hS => ?_)
  rw [x_upd0] at hP hD
  have hP : va_P (dC, dI) vwCl [(h0, .inr (11, [.int 0, .int 0, .int 0, .ref m3, .ref m4, .ref m5, .int 0, .ref m7, .ref m8, .ref m9, .ref m10, .int 0, .ref m12, .int 0, .int (-1), .int 0, .int 0, .int 0, .ref m18, .int 0, .ref m20, .ref m21, .ref m22, .ref m23, .ref m24, .int 0, .ref m26, .ref m27, .ref m28, .int 0, .ref m30, .int 0, .int 0, .ref m33, .int 0, .int 0, .ref m36, .int 0, .ref m38, .ref m39, .ref m40, .int 0, .ref m42, .ref m43, .ref m44, .ref m45])), (m18, .inl (cI, 2, .inl (fun _ => 0))), (m10, .inl (cI, 34, .inl (fun _ => 0))), (m45, .inl (cZ, 2, .inl (fun _ => 0)))] H := hP
  have hD : va_D A [(h0, .inr (11, [.int 0, .int 0, .int 0, .ref m3, .ref m4, .ref m5, .int 0, .ref m7, .ref m8, .ref m9, .ref m10, .int 0, .ref m12, .int 0, .int (-1), .int 0, .int 0, .int 0, .ref m18, .int 0, .ref m20, .ref m21, .ref m22, .ref m23, .ref m24, .int 0, .ref m26, .ref m27, .ref m28, .int 0, .ref m30, .int 0, .int 0, .ref m33, .int 0, .int 0, .ref m36, .int 0, .ref m38, .ref m39, .ref m40, .int 0, .ref m42, .ref m43, .ref m44, .ref m45])), (m18, .inl (cI, 2, .inl (fun _ => 0))), (m10, .inl (cI, 34, .inl (fun _ => 0))), (m45, .inl (cZ, 2, .inl (fun _ => 0)))] := hD
  refine lv_aload_n hx hb dX11_office_17 rfl (lv_at hl 0 rfl) ?_
  refine va_get (D := (dC, dI)) (ci := 11) (v := .ref m18) (C := RX11) (T := TX11) (N := 46) hx hb hts hi_X11 hown hK hP 0 rfl rfl 18 (by decide) (hts (.fieldLink RX11 38 "LeftQuillsModel" "readOffice" "[I") (by decide +kernel)) (fun _ h9 => h9) rfl dX11_office_18 ?_
  refine lv_iconst (v := 1) hx hb dX11_office_21 (by decide) ?_
  refine lv_iconst (v := 0) hx hb dX11_office_22 (by decide) ?_
  refine va_iast hx hb hK hP hD hS 1 0 rfl rfl (vp_in_iff.mpr ⟨by decide, by decide⟩) dX11_office_23 (fun H locs hP hD hS => ?_)
  rw [x_upd0] at hP hD
  have hP : va_P (dC, dI) vwCl [(h0, .inr (11, [.int 0, .int 0, .int 0, .ref m3, .ref m4, .ref m5, .int 0, .ref m7, .ref m8, .ref m9, .ref m10, .int 0, .ref m12, .int 0, .int (-1), .int 0, .int 0, .int 0, .ref m18, .int 0, .ref m20, .ref m21, .ref m22, .ref m23, .ref m24, .int 0, .ref m26, .ref m27, .ref m28, .int 0, .ref m30, .int 0, .int 0, .ref m33, .int 0, .int 0, .ref m36, .int 0, .ref m38, .ref m39, .ref m40, .int 0, .ref m42, .ref m43, .ref m44, .ref m45])), (m18, .inl (cI, 2, .inl (fun _ => 0))), (m10, .inl (cI, 34, .inl (fun _ => 0))), (m45, .inl (cZ, 2, .inl (fun _ => 0)))] H := hP
  have hD : va_D A [(h0, .inr (11, [.int 0, .int 0, .int 0, .ref m3, .ref m4, .ref m5, .int 0, .ref m7, .ref m8, .ref m9, .ref m10, .int 0, .ref m12, .int 0, .int (-1), .int 0, .int 0, .int 0, .ref m18, .int 0, .ref m20, .ref m21, .ref m22, .ref m23, .ref m24, .int 0, .ref m26, .ref m27, .ref m28, .int 0, .ref m30, .int 0, .int 0, .ref m33, .int 0, .int 0, .ref m36, .int 0, .ref m38, .ref m39, .ref m40, .int 0, .ref m42, .ref m43, .ref m44, .ref m45])), (m18, .inl (cI, 2, .inl (fun _ => 0))), (m10, .inl (cI, 34, .inl (fun _ => 0))), (m45, .inl (cZ, 2, .inl (fun _ => 0)))] := hD
  refine lv_aload_n hx hb dX11_office_24 rfl (lv_at hl 0 rfl) ?_
  refine lv_iconst (v := 0) hx hb dX11_office_25 (by decide) ?_
  refine va_put (D := (dC, dI)) (ci := 11) (v := .int 0) (ty := .int) (C := RX11) (T := TX11) (N := 46) hx hb hts hi_X11 tyX11 tyX11_ok nmX11 hown hK hP hD hS 0 rfl rfl 19 (by decide) (hts (.fieldLink RX11 144 "LeftQuillsModel" "readQuills" "I") (by decide +kernel)) (fun _ h9 => h9) rfl (by decide +kernel) rfl rfl (Nat.le_of_ble_eq_true rfl) dX11_office_26 (fun H locs hP hD hS => ?_)
  have hP : va_P (dC, dI) vwCl [(h0, .inr (11, [.int 0, .int 0, .int 0, .ref m3, .ref m4, .ref m5, .int 0, .ref m7, .ref m8, .ref m9, .ref m10, .int 0, .ref m12, .int 0, .int (-1), .int 0, .int 0, .int 0, .ref m18, .int 0, .ref m20, .ref m21, .ref m22, .ref m23, .ref m24, .int 0, .ref m26, .ref m27, .ref m28, .int 0, .ref m30, .int 0, .int 0, .ref m33, .int 0, .int 0, .ref m36, .int 0, .ref m38, .ref m39, .ref m40, .int 0, .ref m42, .ref m43, .ref m44, .ref m45])), (m18, .inl (cI, 2, .inl (fun _ => 0))), (m10, .inl (cI, 34, .inl (fun _ => 0))), (m45, .inl (cZ, 2, .inl (fun _ => 0)))] H := hP
  have hD : va_D A [(h0, .inr (11, [.int 0, .int 0, .int 0, .ref m3, .ref m4, .ref m5, .int 0, .ref m7, .ref m8, .ref m9, .ref m10, .int 0, .ref m12, .int 0, .int (-1), .int 0, .int 0, .int 0, .ref m18, .int 0, .ref m20, .ref m21, .ref m22, .ref m23, .ref m24, .int 0, .ref m26, .ref m27, .ref m28, .int 0, .ref m30, .int 0, .int 0, .ref m33, .int 0, .int 0, .ref m36, .int 0, .ref m38, .ref m39, .ref m40, .int 0, .ref m42, .ref m43, .ref m44, .ref m45])), (m18, .inl (cI, 2, .inl (fun _ => 0))), (m10, .inl (cI, 34, .inl (fun _ => 0))), (m45, .inl (cZ, 2, .inl (fun _ => 0)))] := hD
  refine lv_aload_n hx hb dX11_office_29 rfl (lv_at hl 0 rfl) ?_
  refine lv_iconst (v := 0) hx hb dX11_office_30 (by decide) ?_
  refine va_put (D := (dC, dI)) (ci := 11) (v := .int 0) (ty := .int) (C := RX11) (T := TX11) (N := 46) hx hb hts hi_X11 tyX11 tyX11_ok nmX11 hown hK hP hD hS 0 rfl rfl 25 (by decide) (hts (.fieldLink RX11 147 "LeftQuillsModel" "readHands" "I") (by decide +kernel)) (fun _ h9 => h9) rfl (by decide +kernel) rfl rfl (Nat.le_of_ble_eq_true rfl) dX11_office_31 (fun H locs hP hD hS => ?_)
  have hP : va_P (dC, dI) vwCl [(h0, .inr (11, [.int 0, .int 0, .int 0, .ref m3, .ref m4, .ref m5, .int 0, .ref m7, .ref m8, .ref m9, .ref m10, .int 0, .ref m12, .int 0, .int (-1), .int 0, .int 0, .int 0, .ref m18, .int 0, .ref m20, .ref m21, .ref m22, .ref m23, .ref m24, .int 0, .ref m26, .ref m27, .ref m28, .int 0, .ref m30, .int 0, .int 0, .ref m33, .int 0, .int 0, .ref m36, .int 0, .ref m38, .ref m39, .ref m40, .int 0, .ref m42, .ref m43, .ref m44, .ref m45])), (m18, .inl (cI, 2, .inl (fun _ => 0))), (m10, .inl (cI, 34, .inl (fun _ => 0))), (m45, .inl (cZ, 2, .inl (fun _ => 0)))] H := hP
  have hD : va_D A [(h0, .inr (11, [.int 0, .int 0, .int 0, .ref m3, .ref m4, .ref m5, .int 0, .ref m7, .ref m8, .ref m9, .ref m10, .int 0, .ref m12, .int 0, .int (-1), .int 0, .int 0, .int 0, .ref m18, .int 0, .ref m20, .ref m21, .ref m22, .ref m23, .ref m24, .int 0, .ref m26, .ref m27, .ref m28, .int 0, .ref m30, .int 0, .int 0, .ref m33, .int 0, .int 0, .ref m36, .int 0, .ref m38, .ref m39, .ref m40, .int 0, .ref m42, .ref m43, .ref m44, .ref m45])), (m18, .inl (cI, 2, .inl (fun _ => 0))), (m10, .inl (cI, 34, .inl (fun _ => 0))), (m45, .inl (cZ, 2, .inl (fun _ => 0)))] := hD
  refine lv_iconst (v := 0) hx hb dX11_office_34 (by decide) ?_
  refine lv_istore_n (lv' := [(1, .int 0), (0, .ref h0)]) hx hb dX11_office_35 rfl hl (by decide) rfl (fun ls hl => ?_)
  refine lv_iload_n hx hb dX11_office_36 rfl (lv_at hl 0 rfl) ?_
  refine lv_if_ne (tgt := 55) hx hb dX11_office_37 (by decide) (fun c3 => ?_) (fun c3 => ?_)
  · exact absurd c3 (by decide)
  clear c3
  refine lv_aload_n hx hb dX11_office_40 rfl (lv_at hl 1 rfl) ?_
  have hPc := hP.sub (ws' := [(h0, .inr (11, [.int 0, .int 0, .int 0, .ref m3, .ref m4, .ref m5, .int 0, .ref m7, .ref m8, .ref m9, .ref m10, .int 0, .ref m12, .int 0, .int (-1), .int 0, .int 0, .int 0, .ref m18, .int 0, .ref m20, .ref m21, .ref m22, .ref m23, .ref m24, .int 0, .ref m26, .ref m27, .ref m28, .int 0, .ref m30, .int 0, .int 0, .ref m33, .int 0, .int 0, .ref m36, .int 0, .ref m38, .ref m39, .ref m40, .int 0, .ref m42, .ref m43, .ref m44, .ref m45]))]) [0] rfl
  refine va_calli (va_runV (As := []) (rest := []) ⟨hx, hb, hml, hown, hts⟩ (c_X11_here l dC dI cI cZ cQ h0 ([.int 0, .int 0, .int 0, .ref m3, .ref m4, .ref m5, .int 0, .ref m7, .ref m8, .ref m9, .ref m10, .int 0, .ref m12, .int 0, .int (-1), .int 0, .int 0, .int 0, .ref m18, .int 0, .ref m20, .ref m21, .ref m22, .ref m23, .ref m24, .int 0, .ref m26, .ref m27, .ref m28, .int 0, .ref m30, .int 0, .int 0, .ref m33, .int 0, .int 0, .ref m36, .int 0, .ref m38, .ref m39, .ref m40, .int 0, .ref m42, .ref m43, .ref m44, .ref m45]) H.size rfl rfl) (cwV 0 hts gX11_office_X11_here rfl rfl rfl (by decide +kernel) ⟨Nat.le_of_ble_eq_true rfl, Nat.le_of_ble_eq_true rfl⟩) ⟨fun a U g mk q => by obtain ⟨q0, q1, qP, qK⟩ := q; exact ⟨q0, q1, qP, va_K.moved (u := U) (U := U.calling g mk a) (Vm.Alike.refl U.vm) qK⟩, va_recv hK hP (ci := 11) (q0 := 0) rfl rfl, fun U hU hW => ⟨rfl, by rw [hU], by rw [hU]; exact hPc, va_K.moved hW.alike hK⟩⟩ rfl rfl hl.1 rfl (lv_room (Nat.le_of_ble_eq_true rfl)) dX11_office_41 ⟨Nat.le_of_ble_eq_true rfl, Nat.le_of_ble_eq_true rfl⟩) hS (fun q _ h => False.elim h) (fun q h => False.elim h) (fun r4 u5 t H1 locs ht hvm hw6 hB hz1 hk1 hS => ?_)
  have hP := hP.kept (fun k q hk => hk1 q.1 (hP k q hk).lt (fun h => h))
  clear hz1 hk1 hPc
  generalize H1 = H at hP hS ht ⊢
  try dsimp only at hw6
  obtain rfl : r4 = (-1) := hw6
  refine lv_if_lt (tgt := 55) hx hb dX11_office_44 (by decide) (fun c7 => ?_) (fun c7 => ?_)
  rotate_left
  · exact absurd c7 (by decide)
  clear c7
  refine lv_aload_n hx hb dX11_office_55 rfl (lv_at hl 1 rfl) ?_
  refine lv_iconst (v := 0) hx hb dX11_office_56 (by decide) ?_
  refine va_put (D := (dC, dI)) (ci := 11) (v := .int 0) (ty := .int) (C := RX11) (T := TX11) (N := 46) hx hb hts hi_X11 tyX11 tyX11_ok nmX11 hown hK hP hD hS 0 rfl rfl 13 (by decide) (hts (.fieldLink RX11 112 "LeftQuillsModel" "texted" "I") (by decide +kernel)) (fun _ h9 => h9) rfl (by decide +kernel) rfl rfl (Nat.le_of_ble_eq_true rfl) dX11_office_57 (fun H locs hP hD hS => ?_)
  have hP : va_P (dC, dI) vwCl [(h0, .inr (11, [.int 0, .int 0, .int 0, .ref m3, .ref m4, .ref m5, .int 0, .ref m7, .ref m8, .ref m9, .ref m10, .int 0, .ref m12, .int 0, .int (-1), .int 0, .int 0, .int 0, .ref m18, .int 0, .ref m20, .ref m21, .ref m22, .ref m23, .ref m24, .int 0, .ref m26, .ref m27, .ref m28, .int 0, .ref m30, .int 0, .int 0, .ref m33, .int 0, .int 0, .ref m36, .int 0, .ref m38, .ref m39, .ref m40, .int 0, .ref m42, .ref m43, .ref m44, .ref m45])), (m18, .inl (cI, 2, .inl (fun _ => 0))), (m10, .inl (cI, 34, .inl (fun _ => 0))), (m45, .inl (cZ, 2, .inl (fun _ => 0)))] H := hP
  have hD : va_D A [(h0, .inr (11, [.int 0, .int 0, .int 0, .ref m3, .ref m4, .ref m5, .int 0, .ref m7, .ref m8, .ref m9, .ref m10, .int 0, .ref m12, .int 0, .int (-1), .int 0, .int 0, .int 0, .ref m18, .int 0, .ref m20, .ref m21, .ref m22, .ref m23, .ref m24, .int 0, .ref m26, .ref m27, .ref m28, .int 0, .ref m30, .int 0, .int 0, .ref m33, .int 0, .int 0, .ref m36, .int 0, .ref m38, .ref m39, .ref m40, .int 0, .ref m42, .ref m43, .ref m44, .ref m45])), (m18, .inl (cI, 2, .inl (fun _ => 0))), (m10, .inl (cI, 34, .inl (fun _ => 0))), (m45, .inl (cZ, 2, .inl (fun _ => 0)))] := hD
  refine lv_iload_n hx hb dX11_office_60 rfl (lv_at hl 0 rfl) ?_
  refine lv_if_le (tgt := 69) hx hb dX11_office_61 (by decide) (fun c8 => ?_) (fun c8 => ?_)
  rotate_left
  · exact absurd c8 (by decide)
  clear c8
  refine lv_aload_n hx hb dX11_office_69 rfl (lv_at hl 1 rfl) ?_
  have hPc := hP.sub (ws' := [(h0, .inr (11, [.int 0, .int 0, .int 0, .ref m3, .ref m4, .ref m5, .int 0, .ref m7, .ref m8, .ref m9, .ref m10, .int 0, .ref m12, .int 0, .int (-1), .int 0, .int 0, .int 0, .ref m18, .int 0, .ref m20, .ref m21, .ref m22, .ref m23, .ref m24, .int 0, .ref m26, .ref m27, .ref m28, .int 0, .ref m30, .int 0, .int 0, .ref m33, .int 0, .int 0, .ref m36, .int 0, .ref m38, .ref m39, .ref m40, .int 0, .ref m42, .ref m43, .ref m44, .ref m45])), (m18, .inl (cI, 2, .inl (fun _ => 0))), (m10, .inl (cI, 34, .inl (fun _ => 0)))]) [0, 1, 2] rfl
  have hDc := hD.sub (ws' := [(h0, .inr (11, [.int 0, .int 0, .int 0, .ref m3, .ref m4, .ref m5, .int 0, .ref m7, .ref m8, .ref m9, .ref m10, .int 0, .ref m12, .int 0, .int (-1), .int 0, .int 0, .int 0, .ref m18, .int 0, .ref m20, .ref m21, .ref m22, .ref m23, .ref m24, .int 0, .ref m26, .ref m27, .ref m28, .int 0, .ref m30, .int 0, .int 0, .ref m33, .int 0, .int 0, .ref m36, .int 0, .ref m38, .ref m39, .ref m40, .int 0, .ref m42, .ref m43, .ref m44, .ref m45])), (m18, .inl (cI, 2, .inl (fun _ => 0))), (m10, .inl (cI, 34, .inl (fun _ => 0)))]) [0, 1, 2] (by decide) rfl
  have hFc := va_free (wc := [(h0, .inr (11, [.int 0, .int 0, .int 0, .ref m3, .ref m4, .ref m5, .int 0, .ref m7, .ref m8, .ref m9, .ref m10, .int 0, .ref m12, .int 0, .int (-1), .int 0, .int 0, .int 0, .ref m18, .int 0, .ref m20, .ref m21, .ref m22, .ref m23, .ref m24, .int 0, .ref m26, .ref m27, .ref m28, .int 0, .ref m30, .int 0, .int 0, .ref m33, .int 0, .int 0, .ref m36, .int 0, .ref m38, .ref m39, .ref m40, .int 0, .ref m42, .ref m43, .ref m44, .ref m45])), (m18, .inl (cI, 2, .inl (fun _ => 0))), (m10, .inl (cI, 34, .inl (fun _ => 0)))]) hD hS hA [0, 1, 2] rfl
  refine va_callv (va_runV (As := []) (rest := []) ⟨hx, hb, hml, hown, hts⟩ (c_X11_takeRead l dC dI cI cZ cQ h0 m3 m4 m5 m7 m8 m9 m10 m12 m18 m20 m21 m22 m23 m24 m26 m27 m28 m30 m33 m36 m38 m39 m40 m42 m43 m44 m45 H.size ) (cwV 0 hts gX11_office_X11_takeRead rfl rfl rfl (by decide +kernel) ⟨Nat.le_of_ble_eq_true rfl, Nat.le_of_ble_eq_true rfl⟩) ⟨fun a U g mk q => by obtain ⟨q0, q1, qP, qK, qD⟩ := q; exact ⟨q0, q1, qP, va_K.moved (u := U) (U := U.calling g mk a) (Vm.Alike.refl U.vm) qK, qD⟩, va_recv hK hP (ci := 11) (q0 := 0) rfl rfl, fun U hU hW => ⟨rfl, by rw [hU], by rw [hU]; exact hPc, va_K.moved hW.alike hK, hDc.weaken (fun _ _ _ _ => trivial)⟩⟩ rfl rfl hl.1 rfl (lv_room (Nat.le_of_ble_eq_true rfl)) dX11_office_70 ⟨Nat.le_of_ble_eq_true rfl, Nat.le_of_ble_eq_true rfl⟩) hS (fun q _ h => hFc q h) hFc (fun u10 t H1 locs ht hvm hw11 hB hz1 hk1 hS => ?_)
  obtain ⟨hP1, hD1⟩ := hB
  rw [ht] at hP1
  obtain ⟨hP, hD⟩ := va_join (wr := [(m45, .inl (cZ, 2, .inl (fun _ => 0)))]) (w1 := [(h0, .inr (11, [.int 0, .int 0, .int 0, .ref m3, .ref m4, .ref m5, .int 0, .ref m7, .ref m8, .ref m9, .ref m10, .int 0, .ref m12, .int 0, .int (-1), .int 0, .int 0, .int 0, .ref m18, .int 0, .ref m20, .ref m21, .ref m22, .ref m23, .ref m24, .int 0, .ref m26, .ref m27, .ref m28, .int 0, .ref m30, .int 0, .int 0, .ref m33, .int 0, .int 0, .ref m36, .int 0, .ref m38, .ref m39, .ref m40, .int 0, .ref m42, .ref m43, .ref m44, .ref m45]))]) hP hD [0, 1, 2] [3] rfl rfl (by decide) (by decide) hk1 hFc hP1 hD1
  clear hP1 hD1
  clear hz1 hk1 hPc hDc hFc
  generalize H1 = H at hP hS ht ⊢
  have hP : va_P (dC, dI) vwCl [(m45, .inl (cZ, 2, .inl (fun _ => 0))), (h0, .inr (11, [.int 0, .int 0, .int 0, .ref m3, .ref m4, .ref m5, .int 0, .ref m7, .ref m8, .ref m9, .ref m10, .int 0, .ref m12, .int 0, .int (-1), .int 0, .int 0, .int 0, .ref m18, .int 0, .ref m20, .ref m21, .ref m22, .ref m23, .ref m24, .int 0, .ref m26, .ref m27, .ref m28, .int 0, .ref m30, .int 0, .int 0, .ref m33, .int 0, .int 0, .ref m36, .int 0, .ref m38, .ref m39, .ref m40, .int 0, .ref m42, .ref m43, .ref m44, .ref m45]))] H := hP
  have hD : va_D A [(m45, .inl (cZ, 2, .inl (fun _ => 0))), (h0, .inr (11, [.int 0, .int 0, .int 0, .ref m3, .ref m4, .ref m5, .int 0, .ref m7, .ref m8, .ref m9, .ref m10, .int 0, .ref m12, .int 0, .int (-1), .int 0, .int 0, .int 0, .ref m18, .int 0, .ref m20, .ref m21, .ref m22, .ref m23, .ref m24, .int 0, .ref m26, .ref m27, .ref m28, .int 0, .ref m30, .int 0, .int 0, .ref m33, .int 0, .int 0, .ref m36, .int 0, .ref m38, .ref m39, .ref m40, .int 0, .ref m42, .ref m43, .ref m44, .ref m45]))] := hD
  try dsimp only at hw11
  refine lv_aload_n hx hb dX11_office_73 rfl (lv_at hl 1 rfl) ?_
  refine lv_iconst (v := 0) hx hb dX11_office_74 (by decide) ?_
  refine va_put (D := (dC, dI)) (ci := 11) (v := .int 0) (ty := .int) (C := RX11) (T := TX11) (N := 46) hx hb hts hi_X11 tyX11 tyX11_ok nmX11 hown hK hP hD hS 1 rfl rfl 37 (by decide) (hts (.fieldLink RX11 168 "LeftQuillsModel" "wornMany" "I") (by decide +kernel)) (fun _ h9 => h9) rfl (by decide +kernel) rfl rfl (Nat.le_of_ble_eq_true rfl) dX11_office_75 (fun H locs hP hD hS => ?_)
  have hP : va_P (dC, dI) vwCl [(m45, .inl (cZ, 2, .inl (fun _ => 0))), (h0, .inr (11, [.int 0, .int 0, .int 0, .ref m3, .ref m4, .ref m5, .int 0, .ref m7, .ref m8, .ref m9, .ref m10, .int 0, .ref m12, .int 0, .int (-1), .int 0, .int 0, .int 0, .ref m18, .int 0, .ref m20, .ref m21, .ref m22, .ref m23, .ref m24, .int 0, .ref m26, .ref m27, .ref m28, .int 0, .ref m30, .int 0, .int 0, .ref m33, .int 0, .int 0, .ref m36, .int 0, .ref m38, .ref m39, .ref m40, .int 0, .ref m42, .ref m43, .ref m44, .ref m45]))] H := hP
  have hD : va_D A [(m45, .inl (cZ, 2, .inl (fun _ => 0))), (h0, .inr (11, [.int 0, .int 0, .int 0, .ref m3, .ref m4, .ref m5, .int 0, .ref m7, .ref m8, .ref m9, .ref m10, .int 0, .ref m12, .int 0, .int (-1), .int 0, .int 0, .int 0, .ref m18, .int 0, .ref m20, .ref m21, .ref m22, .ref m23, .ref m24, .int 0, .ref m26, .ref m27, .ref m28, .int 0, .ref m30, .int 0, .int 0, .ref m33, .int 0, .int 0, .ref m36, .int 0, .ref m38, .ref m39, .ref m40, .int 0, .ref m42, .ref m43, .ref m44, .ref m45]))] := hD
  refine lv_aload_n hx hb dX11_office_78 rfl (lv_at hl 1 rfl) ?_
  refine lv_iconst (v := 0) hx hb dX11_office_79 (by decide) ?_
  refine va_put (D := (dC, dI)) (ci := 11) (v := .int 0) (ty := .int) (C := RX11) (T := TX11) (N := 46) hx hb hts hi_X11 tyX11 tyX11_ok nmX11 hown hK hP hD hS 1 rfl rfl 41 (by decide) (hts (.fieldLink RX11 171 "LeftQuillsModel" "booked" "I") (by decide +kernel)) (fun _ h9 => h9) rfl (by decide +kernel) rfl rfl (Nat.le_of_ble_eq_true rfl) dX11_office_80 (fun H locs hP hD hS => ?_)
  have hP : va_P (dC, dI) vwCl [(m45, .inl (cZ, 2, .inl (fun _ => 0))), (h0, .inr (11, [.int 0, .int 0, .int 0, .ref m3, .ref m4, .ref m5, .int 0, .ref m7, .ref m8, .ref m9, .ref m10, .int 0, .ref m12, .int 0, .int (-1), .int 0, .int 0, .int 0, .ref m18, .int 0, .ref m20, .ref m21, .ref m22, .ref m23, .ref m24, .int 0, .ref m26, .ref m27, .ref m28, .int 0, .ref m30, .int 0, .int 0, .ref m33, .int 0, .int 0, .ref m36, .int 0, .ref m38, .ref m39, .ref m40, .int 0, .ref m42, .ref m43, .ref m44, .ref m45]))] H := hP
  have hD : va_D A [(m45, .inl (cZ, 2, .inl (fun _ => 0))), (h0, .inr (11, [.int 0, .int 0, .int 0, .ref m3, .ref m4, .ref m5, .int 0, .ref m7, .ref m8, .ref m9, .ref m10, .int 0, .ref m12, .int 0, .int (-1), .int 0, .int 0, .int 0, .ref m18, .int 0, .ref m20, .ref m21, .ref m22, .ref m23, .ref m24, .int 0, .ref m26, .ref m27, .ref m28, .int 0, .ref m30, .int 0, .int 0, .ref m33, .int 0, .int 0, .ref m36, .int 0, .ref m38, .ref m39, .ref m40, .int 0, .ref m42, .ref m43, .ref m44, .ref m45]))] := hD
  refine lv_aload_n hx hb dX11_office_83 rfl (lv_at hl 1 rfl) ?_
  refine lv_iconst (v := 0) hx hb dX11_office_84 (by decide) ?_
  refine va_put (D := (dC, dI)) (ci := 11) (v := .int 0) (ty := .int) (C := RX11) (T := TX11) (N := 46) hx hb hts hi_X11 tyX11 tyX11_ok nmX11 hown hK hP hD hS 1 rfl rfl 29 (by decide) (hts (.fieldLink RX11 174 "LeftQuillsModel" "undos" "I") (by decide +kernel)) (fun _ h9 => h9) rfl (by decide +kernel) rfl rfl (Nat.le_of_ble_eq_true rfl) dX11_office_85 (fun H locs hP hD hS => ?_)
  have hP : va_P (dC, dI) vwCl [(m45, .inl (cZ, 2, .inl (fun _ => 0))), (h0, .inr (11, [.int 0, .int 0, .int 0, .ref m3, .ref m4, .ref m5, .int 0, .ref m7, .ref m8, .ref m9, .ref m10, .int 0, .ref m12, .int 0, .int (-1), .int 0, .int 0, .int 0, .ref m18, .int 0, .ref m20, .ref m21, .ref m22, .ref m23, .ref m24, .int 0, .ref m26, .ref m27, .ref m28, .int 0, .ref m30, .int 0, .int 0, .ref m33, .int 0, .int 0, .ref m36, .int 0, .ref m38, .ref m39, .ref m40, .int 0, .ref m42, .ref m43, .ref m44, .ref m45]))] H := hP
  have hD : va_D A [(m45, .inl (cZ, 2, .inl (fun _ => 0))), (h0, .inr (11, [.int 0, .int 0, .int 0, .ref m3, .ref m4, .ref m5, .int 0, .ref m7, .ref m8, .ref m9, .ref m10, .int 0, .ref m12, .int 0, .int (-1), .int 0, .int 0, .int 0, .ref m18, .int 0, .ref m20, .ref m21, .ref m22, .ref m23, .ref m24, .int 0, .ref m26, .ref m27, .ref m28, .int 0, .ref m30, .int 0, .int 0, .ref m33, .int 0, .int 0, .ref m36, .int 0, .ref m38, .ref m39, .ref m40, .int 0, .ref m42, .ref m43, .ref m44, .ref m45]))] := hD
  refine lv_aload_n hx hb dX11_office_88 rfl (lv_at hl 1 rfl) ?_
  refine va_get (D := (dC, dI)) (ci := 11) (v := .ref m45) (C := RX11) (T := TX11) (N := 46) hx hb hts hi_X11 hown hK hP 1 rfl rfl 45 (by decide) (hts (.fieldLink RX11 92 "LeftQuillsModel" "isKept" "[Z") (by decide +kernel)) (fun _ h9 => h9) rfl dX11_office_89 ?_
  refine lv_iconst (v := 0) hx hb dX11_office_92 (by decide) ?_
  refine lv_iconst (v := 0) hx hb dX11_office_93 (by decide) ?_
  refine va_zast hx hb hK hP hD hS 0 1 rfl rfl (vp_in_iff.mpr ⟨by decide, by decide⟩) dX11_office_94 (fun H locs hP hD hS => ?_)
  rw [x_updz0] at hP hD
  have hP : va_P (dC, dI) vwCl [(m45, .inl (cZ, 2, .inl (fun _ => 0))), (h0, .inr (11, [.int 0, .int 0, .int 0, .ref m3, .ref m4, .ref m5, .int 0, .ref m7, .ref m8, .ref m9, .ref m10, .int 0, .ref m12, .int 0, .int (-1), .int 0, .int 0, .int 0, .ref m18, .int 0, .ref m20, .ref m21, .ref m22, .ref m23, .ref m24, .int 0, .ref m26, .ref m27, .ref m28, .int 0, .ref m30, .int 0, .int 0, .ref m33, .int 0, .int 0, .ref m36, .int 0, .ref m38, .ref m39, .ref m40, .int 0, .ref m42, .ref m43, .ref m44, .ref m45]))] H := hP
  have hD : va_D A [(m45, .inl (cZ, 2, .inl (fun _ => 0))), (h0, .inr (11, [.int 0, .int 0, .int 0, .ref m3, .ref m4, .ref m5, .int 0, .ref m7, .ref m8, .ref m9, .ref m10, .int 0, .ref m12, .int 0, .int (-1), .int 0, .int 0, .int 0, .ref m18, .int 0, .ref m20, .ref m21, .ref m22, .ref m23, .ref m24, .int 0, .ref m26, .ref m27, .ref m28, .int 0, .ref m30, .int 0, .int 0, .ref m33, .int 0, .int 0, .ref m36, .int 0, .ref m38, .ref m39, .ref m40, .int 0, .ref m42, .ref m43, .ref m44, .ref m45]))] := hD
  refine lv_aload_n hx hb dX11_office_95 rfl (lv_at hl 1 rfl) ?_
  refine va_get (D := (dC, dI)) (ci := 11) (v := .ref m45) (C := RX11) (T := TX11) (N := 46) hx hb hts hi_X11 hown hK hP 1 rfl rfl 45 (by decide) (hts (.fieldLink RX11 92 "LeftQuillsModel" "isKept" "[Z") (by decide +kernel)) (fun _ h9 => h9) rfl dX11_office_96 ?_
  refine lv_iconst (v := 1) hx hb dX11_office_99 (by decide) ?_
  refine lv_iconst (v := 0) hx hb dX11_office_100 (by decide) ?_
  refine va_zast hx hb hK hP hD hS 0 1 rfl rfl (vp_in_iff.mpr ⟨by decide, by decide⟩) dX11_office_101 (fun H locs hP hD hS => ?_)
  rw [x_updz0] at hP hD
  have hP : va_P (dC, dI) vwCl [(m45, .inl (cZ, 2, .inl (fun _ => 0))), (h0, .inr (11, [.int 0, .int 0, .int 0, .ref m3, .ref m4, .ref m5, .int 0, .ref m7, .ref m8, .ref m9, .ref m10, .int 0, .ref m12, .int 0, .int (-1), .int 0, .int 0, .int 0, .ref m18, .int 0, .ref m20, .ref m21, .ref m22, .ref m23, .ref m24, .int 0, .ref m26, .ref m27, .ref m28, .int 0, .ref m30, .int 0, .int 0, .ref m33, .int 0, .int 0, .ref m36, .int 0, .ref m38, .ref m39, .ref m40, .int 0, .ref m42, .ref m43, .ref m44, .ref m45]))] H := hP
  have hD : va_D A [(m45, .inl (cZ, 2, .inl (fun _ => 0))), (h0, .inr (11, [.int 0, .int 0, .int 0, .ref m3, .ref m4, .ref m5, .int 0, .ref m7, .ref m8, .ref m9, .ref m10, .int 0, .ref m12, .int 0, .int (-1), .int 0, .int 0, .int 0, .ref m18, .int 0, .ref m20, .ref m21, .ref m22, .ref m23, .ref m24, .int 0, .ref m26, .ref m27, .ref m28, .int 0, .ref m30, .int 0, .int 0, .ref m33, .int 0, .int 0, .ref m36, .int 0, .ref m38, .ref m39, .ref m40, .int 0, .ref m42, .ref m43, .ref m44, .ref m45]))] := hD
  refine lv_aload_n hx hb dX11_office_102 rfl (lv_at hl 1 rfl) ?_
  refine va_get (D := (dC, dI)) (ci := 11) (v := .int 0) (C := RX11) (T := TX11) (N := 46) hx hb hts hi_X11 hown hK hP 1 rfl rfl 2 (by decide) (hts (.fieldLink RX11 99 "LeftQuillsModel" "quills" "I") (by decide +kernel)) (fun _ h9 => h9) rfl dX11_office_103 ?_
  exact W.iret (v := 0) hx hb hr (fun t ht hW => ⟨⟨0, (fun _ => 0), rfl, by first | trivial | rfl | (simp_all; done), trivial⟩, hS.F ht⟩) hS.2.2 dX11_office_106
