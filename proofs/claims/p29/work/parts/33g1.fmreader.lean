set_option maxHeartbeats 4000000 in
set_option maxRecDepth 100000 in
theorem c_X11_hereF (l : Launch) (dC : Nat → ClassId) (dI : Nat → Nat → Nat) (cI cZ cQ : ClassId) (h0 : Nat) (n0 : Int32) (n1 : Int32) (nq : Nat) (m3 : Nat) (m4 : Nat) (m5 : Nat) (nh : Nat) (m7 : Nat) (m8 : Nat) (m9 : Nat) (m10 : Nat) (sd : Nat) (m12 : Nat) (tx : Nat) (n14 : Int32) (at9 : Nat) (n16 : Int32) (n17 : Int32) (m18 : Nat) (rq : Nat) (m20 : Nat) (m21 : Nat) (m22 : Nat) (m23 : Nat) (m24 : Nat) (rh : Nat) (m26 : Nat) (m27 : Nat) (m28 : Nat) (un : Nat) (m30 : Nat) (n31 : Int32) (n32 : Int32) (m33 : Nat) (n34 : Int32) (n35 : Int32) (m36 : Nat) (wm : Nat) (m38 : Nat) (m39 : Nat) (m40 : Nat) (bk : Nat) (m42 : Nat) (m43 : Nat) (m44 : Nat) (m45 : Nat) (fm12 : Nat → Int32) (T0 : Nat → Int32) (sz : Nat) (htx : tx ≤ 220) (hat : at9 ≤ tx) (hT : ∀ j, j < tx → fm12 j = T0 j) : Met l yX11_here wsX11_here ({ frames := 0, cells := 0, slots := 0, locals := 40 }) (va_Pc [.ref h0] (fun U => U.heap.size = sz ∧ va_P (dC, dI) vwCl [(h0, .inr (11, (.int n0 :: .int n1 :: .int (nI nq) :: .ref m3 :: .ref m4 :: .ref m5 :: .int (nI nh) :: .ref m7 :: .ref m8 :: .ref m9 :: .ref m10 :: .int (nI sd) :: .ref m12 :: .int (nI tx) :: .int n14 :: .int (nI at9) :: .int n16 :: .int n17 :: .ref m18 :: .int (nI rq) :: .ref m20 :: .ref m21 :: .ref m22 :: .ref m23 :: .ref m24 :: .int (nI rh) :: .ref m26 :: .ref m27 :: .ref m28 :: .int (nI un) :: .ref m30 :: .int n31 :: .int n32 :: .ref m33 :: .int n34 :: .int n35 :: .ref m36 :: .int (nI wm) :: .ref m38 :: .ref m39 :: .ref m40 :: .int (nI bk) :: .ref m42 :: .ref m43 :: .ref m44 :: .ref m45 :: []))), (m12, .inl (cI, 220, .inl fm12))] U.heap ∧ va_K (dC, dI) vwCl (tys0 cI cZ cQ) U ∧ va_D (fun _ => True) [(h0, .inr (11, (.int n0 :: .int n1 :: .int (nI nq) :: .ref m3 :: .ref m4 :: .ref m5 :: .int (nI nh) :: .ref m7 :: .ref m8 :: .ref m9 :: .ref m10 :: .int (nI sd) :: .ref m12 :: .int (nI tx) :: .int n14 :: .int (nI at9) :: .int n16 :: .int n17 :: .ref m18 :: .int (nI rq) :: .ref m20 :: .ref m21 :: .ref m22 :: .ref m23 :: .ref m24 :: .int (nI rh) :: .ref m26 :: .ref m27 :: .ref m28 :: .int (nI un) :: .ref m30 :: .int n31 :: .int n32 :: .ref m33 :: .int n34 :: .int n35 :: .ref m36 :: .int (nI wm) :: .ref m38 :: .ref m39 :: .ref m40 :: .int (nI bk) :: .ref m42 :: .ref m43 :: .ref m44 :: .ref m45 :: []))), (m12, .inl (cI, 220, .inl fm12))])) (va_Qi (fun (r : Int32) (u : Nat → Nat) => r = ltr T0 tx (sk T0 tx at9)) (fun (_ : Nat → Nat) (t : State) => ∃ (kk0 : Nat), kk0 ≤ tx ∧ (kk0 = sk T0 tx at9) ∧ va_P (dC, dI) vwCl [(h0, .inr (11, (.int n0 :: .int n1 :: .int (nI nq) :: .ref m3 :: .ref m4 :: .ref m5 :: .int (nI nh) :: .ref m7 :: .ref m8 :: .ref m9 :: .ref m10 :: .int (nI sd) :: .ref m12 :: .int (nI tx) :: .int n14 :: .int (nI kk0) :: .int n16 :: .int n17 :: .ref m18 :: .int (nI rq) :: .ref m20 :: .ref m21 :: .ref m22 :: .ref m23 :: .ref m24 :: .int (nI rh) :: .ref m26 :: .ref m27 :: .ref m28 :: .int (nI un) :: .ref m30 :: .int n31 :: .int n32 :: .ref m33 :: .int n34 :: .int n35 :: .ref m36 :: .int (nI wm) :: .ref m38 :: .ref m39 :: .ref m40 :: .int (nI bk) :: .ref m42 :: .ref m43 :: .ref m44 :: .ref m45 :: []))), (m12, .inl (cI, 220, .inl fm12))] t.heap ∧ va_D (va_A [(h0, .inr (11, (.int n0 :: .int n1 :: .int (nI nq) :: .ref m3 :: .ref m4 :: .ref m5 :: .int (nI nh) :: .ref m7 :: .ref m8 :: .ref m9 :: .ref m10 :: .int (nI sd) :: .ref m12 :: .int (nI tx) :: .int n14 :: .int (nI at9) :: .int n16 :: .int n17 :: .ref m18 :: .int (nI rq) :: .ref m20 :: .ref m21 :: .ref m22 :: .ref m23 :: .ref m24 :: .int (nI rh) :: .ref m26 :: .ref m27 :: .ref m28 :: .int (nI un) :: .ref m30 :: .int n31 :: .int n32 :: .ref m33 :: .int n34 :: .int n35 :: .ref m36 :: .int (nI wm) :: .ref m38 :: .ref m39 :: .ref m40 :: .int (nI bk) :: .ref m42 :: .ref m43 :: .ref m44 :: .ref m45 :: []))), (m12, .inl (cI, 220, .inl fm12))] sz) [(h0, .inr (11, (.int n0 :: .int n1 :: .int (nI nq) :: .ref m3 :: .ref m4 :: .ref m5 :: .int (nI nh) :: .ref m7 :: .ref m8 :: .ref m9 :: .ref m10 :: .int (nI sd) :: .ref m12 :: .int (nI tx) :: .int n14 :: .int (nI kk0) :: .int n16 :: .int n17 :: .ref m18 :: .int (nI rq) :: .ref m20 :: .ref m21 :: .ref m22 :: .ref m23 :: .ref m24 :: .int (nI rh) :: .ref m26 :: .ref m27 :: .ref m28 :: .int (nI un) :: .ref m30 :: .int n31 :: .int n32 :: .ref m33 :: .int n34 :: .int n35 :: .ref m36 :: .int (nI wm) :: .ref m38 :: .ref m39 :: .ref m40 :: .int (nI bk) :: .ref m42 :: .ref m43 :: .ref m44 :: .ref m45 :: []))), (m12, .inl (cI, 220, .inl fm12))]) (va_A [(h0, .inr (11, (.int n0 :: .int n1 :: .int (nI nq) :: .ref m3 :: .ref m4 :: .ref m5 :: .int (nI nh) :: .ref m7 :: .ref m8 :: .ref m9 :: .ref m10 :: .int (nI sd) :: .ref m12 :: .int (nI tx) :: .int n14 :: .int (nI at9) :: .int n16 :: .int n17 :: .ref m18 :: .int (nI rq) :: .ref m20 :: .ref m21 :: .ref m22 :: .ref m23 :: .ref m24 :: .int (nI rh) :: .ref m26 :: .ref m27 :: .ref m28 :: .int (nI un) :: .ref m30 :: .int n31 :: .int n32 :: .ref m33 :: .int n34 :: .int n35 :: .ref m36 :: .int (nI wm) :: .ref m38 :: .ref m39 :: .ref m40 :: .int (nI bk) :: .ref m42 :: .ref m43 :: .ref m44 :: .ref m45 :: []))), (m12, .inl (cI, 220, .inl fm12))] sz)) 0 0 (va_A [(h0, .inr (11, (.int n0 :: .int n1 :: .int (nI nq) :: .ref m3 :: .ref m4 :: .ref m5 :: .int (nI nh) :: .ref m7 :: .ref m8 :: .ref m9 :: .ref m10 :: .int (nI sd) :: .ref m12 :: .int (nI tx) :: .int n14 :: .int (nI at9) :: .int n16 :: .int n17 :: .ref m18 :: .int (nI rq) :: .ref m20 :: .ref m21 :: .ref m22 :: .ref m23 :: .ref m24 :: .int (nI rh) :: .ref m26 :: .ref m27 :: .ref m28 :: .int (nI un) :: .ref m30 :: .int n31 :: .int n32 :: .ref m33 :: .int n34 :: .int n35 :: .ref m36 :: .int (nI wm) :: .ref m38 :: .ref m39 :: .ref m40 :: .int (nI bk) :: .ref m42 :: .ref m43 :: .ref m44 :: .ref m45 :: []))), (m12, .inl (cI, 220, .inl fm12))] sz) := by
  refine Met.ofW (cc := cX11_here) (maxL := 1) (ret := (some .int)) (by decide) rfl ?_
  intro p e s m args below meth c s₁ B hml hv
  obtain ⟨rfl, hsz, hP, hK, hD0⟩ := hv
  have hx := B.exec
  have hb := B.bytes
  have hr := B.returns
  have hts := atoms_spec (ws := wsX11_here) B.pre
  have hown : s.vm.findClass RX11 = some m.cls := findClass_of_methodNamed B.named
  have hlocks := B.notSynchronized
  have hi_X11 : ∀ w ∈ u_ws RX11 TX11 46, w ∈ wsX11_here := fun _ h => List.mem_cons_of_mem _ (List.mem_append_right _ (h))
  subst hsz
  have hD := hD0.self (sz := s.heap.size)
  generalize hAe : va_A [(h0, .inr (11, (.int n0 :: .int n1 :: .int (nI nq) :: .ref m3 :: .ref m4 :: .ref m5 :: .int (nI nh) :: .ref m7 :: .ref m8 :: .ref m9 :: .ref m10 :: .int (nI sd) :: .ref m12 :: .int (nI tx) :: .int n14 :: .int (nI at9) :: .int n16 :: .int n17 :: .ref m18 :: .int (nI rq) :: .ref m20 :: .ref m21 :: .ref m22 :: .ref m23 :: .ref m24 :: .int (nI rh) :: .ref m26 :: .ref m27 :: .ref m28 :: .int (nI un) :: .ref m30 :: .int n31 :: .int n32 :: .ref m33 :: .int n34 :: .int n35 :: .ref m36 :: .int (nI wm) :: .ref m38 :: .ref m39 :: .ref m40 :: .int (nI bk) :: .ref m42 :: .ref m43 :: .ref m44 :: .ref m45 :: []))), (m12, .inl (cI, 220, .inl fm12))] s.heap.size = A at hD ⊢
  have hA : ∀ q : Nat, s.heap.size ≤ q → A q := fun q h => by rw [← hAe]; exact Or.inr h
  have hS : va_S A s.heap s.heap [] := va_S.rf
  have hl := lv_entry ([.ref h0]) (n := 1) (Nat.le_of_ble_eq_true rfl)
  rw [lg_entry_eq]
  generalize (lg_sl ([.ref h0]) ++ List.replicate (1 - (lg_sl ([.ref h0])).length) Slot.unset).toArray = ls at hl ⊢
  have hl : lv_has ls 1 [(0, .ref h0)] := hl
  refine (fun (K : ∀ (d0 : Nat) (k0 : Nat) (H : Heap) (locs : List Loc) (ls : Array Slot), k0 + d0 = tx → sk T0 tx k0 = sk T0 tx at9 → va_P (dC, dI) vwCl [(h0, .inr (11, (.int n0 :: .int n1 :: .int (nI nq) :: .ref m3 :: .ref m4 :: .ref m5 :: .int (nI nh) :: .ref m7 :: .ref m8 :: .ref m9 :: .ref m10 :: .int (nI sd) :: .ref m12 :: .int (nI tx) :: .int n14 :: .int (nI k0) :: .int n16 :: .int n17 :: .ref m18 :: .int (nI rq) :: .ref m20 :: .ref m21 :: .ref m22 :: .ref m23 :: .ref m24 :: .int (nI rh) :: .ref m26 :: .ref m27 :: .ref m28 :: .int (nI un) :: .ref m30 :: .int n31 :: .int n32 :: .ref m33 :: .int n34 :: .int n35 :: .ref m36 :: .int (nI wm) :: .ref m38 :: .ref m39 :: .ref m40 :: .int (nI bk) :: .ref m42 :: .ref m43 :: .ref m44 :: .ref m45 :: []))), (m12, .inl (cI, 220, .inl fm12))] H → va_D A [(h0, .inr (11, (.int n0 :: .int n1 :: .int (nI nq) :: .ref m3 :: .ref m4 :: .ref m5 :: .int (nI nh) :: .ref m7 :: .ref m8 :: .ref m9 :: .ref m10 :: .int (nI sd) :: .ref m12 :: .int (nI tx) :: .int n14 :: .int (nI k0) :: .int n16 :: .int n17 :: .ref m18 :: .int (nI rq) :: .ref m20 :: .ref m21 :: .ref m22 :: .ref m23 :: .ref m24 :: .int (nI rh) :: .ref m26 :: .ref m27 :: .ref m28 :: .int (nI un) :: .ref m30 :: .int n31 :: .int n32 :: .ref m33 :: .int n34 :: .int n35 :: .ref m36 :: .int (nI wm) :: .ref m38 :: .ref m39 :: .ref m40 :: .int (nI bk) :: .ref m42 :: .ref m43 :: .ref m44 :: .ref m45 :: []))), (m12, .inl (cI, 220, .inl fm12))] → va_S A s.heap H locs → lv_has ls 1 [(0, .ref h0)] → W p l e _ s m _ below meth c H locs _ _ _ (F0 m 0 ls [])) => K (tx - at9) at9 _ _ _ (by omega) rfl hP hD hS (lv_sub hl [0] rfl)) ?_
  intro d0
  induction d0 with
  | zero =>
    intro k0 H locs ls hk0 hv0_0 hP hD hS hl
    refine lv_aload_n hx hb dX11_here_0 rfl (lv_at hl 0 rfl) ?_
    refine va_get (D := (dC, dI)) (ci := 11) (v := .int (nI k0)) (C := RX11) (T := TX11) (N := 46) hx hb hts hi_X11 hown hK hP 0 rfl rfl 15 (by decide) (hts (.fieldLink RX11 116 "LeftQuillsModel" "at0" "I") (wmx 1 rfl)) (fun _ h9 => h9) rfl dX11_here_1 ?_
    refine lv_aload_n hx hb dX11_here_4 rfl (lv_at hl 0 rfl) ?_
    refine va_get (D := (dC, dI)) (ci := 11) (v := .int (nI tx)) (C := RX11) (T := TX11) (N := 46) hx hb hts hi_X11 hown hK hP 0 rfl rfl 13 (by decide) (hts (.fieldLink RX11 112 "LeftQuillsModel" "texted" "I") (wmx 2 rfl)) (fun _ h9 => h9) rfl dX11_here_5 ?_
    refine lv_icmp_ge (tgt := 38) hx hb dX11_here_8 (by decide) (fun c1 => ?_) (fun c1 => ?_)
    ·
      have c1 : tx ≤ k0 := (nI_leI (a := tx) (b := k0) (by omega) (by omega)).mp c1
      refine lv_aload_n hx hb dX11_here_38 rfl (lv_at hl 0 rfl) ?_
      refine va_get (D := (dC, dI)) (ci := 11) (v := .int (nI k0)) (C := RX11) (T := TX11) (N := 46) hx hb hts hi_X11 hown hK hP 0 rfl rfl 15 (by decide) (hts (.fieldLink RX11 116 "LeftQuillsModel" "at0" "I") (wmx 1 rfl)) (fun _ h9 => h9) rfl dX11_here_39 ?_
      refine lv_aload_n hx hb dX11_here_42 rfl (lv_at hl 0 rfl) ?_
      refine va_get (D := (dC, dI)) (ci := 11) (v := .int (nI tx)) (C := RX11) (T := TX11) (N := 46) hx hb hts hi_X11 hown hK hP 0 rfl rfl 13 (by decide) (hts (.fieldLink RX11 112 "LeftQuillsModel" "texted" "I") (wmx 2 rfl)) (fun _ h9 => h9) rfl dX11_here_43 ?_
      refine lv_icmp_ge (tgt := 61) hx hb dX11_here_46 (by decide) (fun c2 => ?_) (fun c2 => ?_)
      ·
        have c2 : tx ≤ k0 := (nI_leI (a := tx) (b := k0) (by omega) (by omega)).mp c2
        refine lv_iconst (v := (-1)) hx hb dX11_here_61 (by decide) ?_
        have hP9 := hP.sub (ws' := [(h0, .inr (11, (.int n0 :: .int n1 :: .int (nI nq) :: .ref m3 :: .ref m4 :: .ref m5 :: .int (nI nh) :: .ref m7 :: .ref m8 :: .ref m9 :: .ref m10 :: .int (nI sd) :: .ref m12 :: .int (nI tx) :: .int n14 :: .int (nI k0) :: .int n16 :: .int n17 :: .ref m18 :: .int (nI rq) :: .ref m20 :: .ref m21 :: .ref m22 :: .ref m23 :: .ref m24 :: .int (nI rh) :: .ref m26 :: .ref m27 :: .ref m28 :: .int (nI un) :: .ref m30 :: .int n31 :: .int n32 :: .ref m33 :: .int n34 :: .int n35 :: .ref m36 :: .int (nI wm) :: .ref m38 :: .ref m39 :: .ref m40 :: .int (nI bk) :: .ref m42 :: .ref m43 :: .ref m44 :: .ref m45 :: []))), (m12, .inl (cI, 220, .inl fm12))]) [0, 1] rfl
        have hD9 := hD.sub (ws' := [(h0, .inr (11, (.int n0 :: .int n1 :: .int (nI nq) :: .ref m3 :: .ref m4 :: .ref m5 :: .int (nI nh) :: .ref m7 :: .ref m8 :: .ref m9 :: .ref m10 :: .int (nI sd) :: .ref m12 :: .int (nI tx) :: .int n14 :: .int (nI k0) :: .int n16 :: .int n17 :: .ref m18 :: .int (nI rq) :: .ref m20 :: .ref m21 :: .ref m22 :: .ref m23 :: .ref m24 :: .int (nI rh) :: .ref m26 :: .ref m27 :: .ref m28 :: .int (nI un) :: .ref m30 :: .int n31 :: .int n32 :: .ref m33 :: .int n34 :: .int n35 :: .ref m36 :: .int (nI wm) :: .ref m38 :: .ref m39 :: .ref m40 :: .int (nI bk) :: .ref m42 :: .ref m43 :: .ref m44 :: .ref m45 :: []))), (m12, .inl (cI, 220, .inl fm12))]) [0, 1] (by decide +kernel) rfl
        exact W.iret (v := (-1)) hx hb hr (fun t ht hW => ⟨⟨(-1), (fun _ => 0), rfl, (by rw [← ((sk_stop (fun c9 => absurd c9.1 (by omega))).symm.trans hv0_0)]; exact (if_neg (by omega)).symm), ⟨k0, by omega, ((sk_stop (fun c9 => absurd c9.1 (by omega))).symm.trans hv0_0), va_hq ht hP9, hD9⟩⟩, hS.F ht⟩) hS.2.2 dX11_here_62
      ·
        have c2 : ¬ tx ≤ k0 := fun h => c2 ((nI_leI (a := tx) (b := k0) (by omega) (by omega)).mpr h)
        refine lv_aload_n hx hb dX11_here_49 rfl (lv_at hl 0 rfl) ?_
        refine va_get (D := (dC, dI)) (ci := 11) (v := .ref m12) (C := RX11) (T := TX11) (N := 46) hx hb hts hi_X11 hown hK hP 0 rfl rfl 12 (by decide) (hts (.fieldLink RX11 31 "LeftQuillsModel" "text" "[I") (wmx 3 rfl)) (fun _ h9 => h9) rfl dX11_here_50 ?_
        refine lv_aload_n hx hb dX11_here_53 rfl (lv_at hl 0 rfl) ?_
        refine va_get (D := (dC, dI)) (ci := 11) (v := .int (nI k0)) (C := RX11) (T := TX11) (N := 46) hx hb hts hi_X11 hown hK hP 0 rfl rfl 15 (by decide) (hts (.fieldLink RX11 116 "LeftQuillsModel" "at0" "I") (wmx 1 rfl)) (fun _ h9 => h9) rfl dX11_here_54 ?_
        refine va_iald hx hb hK hP 1 0 rfl rfl (vp_in_nI (n := k0) (N := 220) (by omega) (by decide)) dX11_here_57 ?_
        refine W.eq (g2 := F0 m 58 ls [.int (fm12 k0)]) (congrArg (fun y9 => F0 m 58 ls (.int (fm12 y9) :: [])) ((nI_clamp (n := k0) (by omega)))) ?_
        refine lv_goto (tgt := 62) hx hb dX11_here_58 (by decide) ?_
        have hP9 := hP.sub (ws' := [(h0, .inr (11, (.int n0 :: .int n1 :: .int (nI nq) :: .ref m3 :: .ref m4 :: .ref m5 :: .int (nI nh) :: .ref m7 :: .ref m8 :: .ref m9 :: .ref m10 :: .int (nI sd) :: .ref m12 :: .int (nI tx) :: .int n14 :: .int (nI k0) :: .int n16 :: .int n17 :: .ref m18 :: .int (nI rq) :: .ref m20 :: .ref m21 :: .ref m22 :: .ref m23 :: .ref m24 :: .int (nI rh) :: .ref m26 :: .ref m27 :: .ref m28 :: .int (nI un) :: .ref m30 :: .int n31 :: .int n32 :: .ref m33 :: .int n34 :: .int n35 :: .ref m36 :: .int (nI wm) :: .ref m38 :: .ref m39 :: .ref m40 :: .int (nI bk) :: .ref m42 :: .ref m43 :: .ref m44 :: .ref m45 :: []))), (m12, .inl (cI, 220, .inl fm12))]) [0, 1] rfl
        have hD9 := hD.sub (ws' := [(h0, .inr (11, (.int n0 :: .int n1 :: .int (nI nq) :: .ref m3 :: .ref m4 :: .ref m5 :: .int (nI nh) :: .ref m7 :: .ref m8 :: .ref m9 :: .ref m10 :: .int (nI sd) :: .ref m12 :: .int (nI tx) :: .int n14 :: .int (nI k0) :: .int n16 :: .int n17 :: .ref m18 :: .int (nI rq) :: .ref m20 :: .ref m21 :: .ref m22 :: .ref m23 :: .ref m24 :: .int (nI rh) :: .ref m26 :: .ref m27 :: .ref m28 :: .int (nI un) :: .ref m30 :: .int n31 :: .int n32 :: .ref m33 :: .int n34 :: .int n35 :: .ref m36 :: .int (nI wm) :: .ref m38 :: .ref m39 :: .ref m40 :: .int (nI bk) :: .ref m42 :: .ref m43 :: .ref m44 :: .ref m45 :: []))), (m12, .inl (cI, 220, .inl fm12))]) [0, 1] (by decide +kernel) rfl
        exact W.iret (v := fm12 k0) hx hb hr (fun t ht hW => ⟨⟨fm12 k0, (fun _ => 0), rfl, (by rw [← ((sk_stop (fun c9 => absurd c9.1 (by omega))).symm.trans hv0_0)]; exact ((hT _ (by omega)).trans (if_pos (by omega)).symm)), ⟨k0, by omega, ((sk_stop (fun c9 => absurd c9.1 (by omega))).symm.trans hv0_0), va_hq ht hP9, hD9⟩⟩, hS.F ht⟩) hS.2.2 dX11_here_62
    ·
      have c1 : ¬ tx ≤ k0 := fun h => c1 ((nI_leI (a := tx) (b := k0) (by omega) (by omega)).mpr h)
      omega
  | succ d0 ih0 =>
    intro k0 H locs ls hk0 hv0_0 hP hD hS hl
    refine lv_aload_n hx hb dX11_here_0 rfl (lv_at hl 0 rfl) ?_
    refine va_get (D := (dC, dI)) (ci := 11) (v := .int (nI k0)) (C := RX11) (T := TX11) (N := 46) hx hb hts hi_X11 hown hK hP 0 rfl rfl 15 (by decide) (hts (.fieldLink RX11 116 "LeftQuillsModel" "at0" "I") (wmx 1 rfl)) (fun _ h9 => h9) rfl dX11_here_1 ?_
    refine lv_aload_n hx hb dX11_here_4 rfl (lv_at hl 0 rfl) ?_
    refine va_get (D := (dC, dI)) (ci := 11) (v := .int (nI tx)) (C := RX11) (T := TX11) (N := 46) hx hb hts hi_X11 hown hK hP 0 rfl rfl 13 (by decide) (hts (.fieldLink RX11 112 "LeftQuillsModel" "texted" "I") (wmx 2 rfl)) (fun _ h9 => h9) rfl dX11_here_5 ?_
    refine lv_icmp_ge (tgt := 38) hx hb dX11_here_8 (by decide) (fun c3 => ?_) (fun c3 => ?_)
    ·
      have c3 : tx ≤ k0 := (nI_leI (a := tx) (b := k0) (by omega) (by omega)).mp c3
      omega
    ·
      have c3 : ¬ tx ≤ k0 := fun h => c3 ((nI_leI (a := tx) (b := k0) (by omega) (by omega)).mpr h)
      refine lv_aload_n hx hb dX11_here_11 rfl (lv_at hl 0 rfl) ?_
      refine va_get (D := (dC, dI)) (ci := 11) (v := .ref m12) (C := RX11) (T := TX11) (N := 46) hx hb hts hi_X11 hown hK hP 0 rfl rfl 12 (by decide) (hts (.fieldLink RX11 31 "LeftQuillsModel" "text" "[I") (wmx 3 rfl)) (fun _ h9 => h9) rfl dX11_here_12 ?_
      refine lv_aload_n hx hb dX11_here_15 rfl (lv_at hl 0 rfl) ?_
      refine va_get (D := (dC, dI)) (ci := 11) (v := .int (nI k0)) (C := RX11) (T := TX11) (N := 46) hx hb hts hi_X11 hown hK hP 0 rfl rfl 15 (by decide) (hts (.fieldLink RX11 116 "LeftQuillsModel" "at0" "I") (wmx 1 rfl)) (fun _ h9 => h9) rfl dX11_here_16 ?_
      refine va_iald hx hb hK hP 1 0 rfl rfl (vp_in_nI (n := k0) (N := 220) (by omega) (by decide)) dX11_here_19 ?_
      refine W.eq (g2 := F0 m 20 ls [.int (fm12 k0)]) (congrArg (fun y9 => F0 m 20 ls (.int (fm12 y9) :: [])) ((nI_clamp (n := k0) (by omega)))) ?_
      refine lv_bipush (v := 32) hx hb dX11_here_20 (by decide) ?_
      refine lv_icmp_ne (tgt := 38) hx hb dX11_here_22 (by decide) (fun c4 => ?_) (fun c4 => ?_)
      ·
        refine lv_aload_n hx hb dX11_here_38 rfl (lv_at hl 0 rfl) ?_
        refine va_get (D := (dC, dI)) (ci := 11) (v := .int (nI k0)) (C := RX11) (T := TX11) (N := 46) hx hb hts hi_X11 hown hK hP 0 rfl rfl 15 (by decide) (hts (.fieldLink RX11 116 "LeftQuillsModel" "at0" "I") (wmx 1 rfl)) (fun _ h9 => h9) rfl dX11_here_39 ?_
        refine lv_aload_n hx hb dX11_here_42 rfl (lv_at hl 0 rfl) ?_
        refine va_get (D := (dC, dI)) (ci := 11) (v := .int (nI tx)) (C := RX11) (T := TX11) (N := 46) hx hb hts hi_X11 hown hK hP 0 rfl rfl 13 (by decide) (hts (.fieldLink RX11 112 "LeftQuillsModel" "texted" "I") (wmx 2 rfl)) (fun _ h9 => h9) rfl dX11_here_43 ?_
        refine lv_icmp_ge (tgt := 61) hx hb dX11_here_46 (by decide) (fun c5 => ?_) (fun c5 => ?_)
        ·
          have c5 : tx ≤ k0 := (nI_leI (a := tx) (b := k0) (by omega) (by omega)).mp c5
          refine lv_iconst (v := (-1)) hx hb dX11_here_61 (by decide) ?_
          have hP9 := hP.sub (ws' := [(h0, .inr (11, (.int n0 :: .int n1 :: .int (nI nq) :: .ref m3 :: .ref m4 :: .ref m5 :: .int (nI nh) :: .ref m7 :: .ref m8 :: .ref m9 :: .ref m10 :: .int (nI sd) :: .ref m12 :: .int (nI tx) :: .int n14 :: .int (nI k0) :: .int n16 :: .int n17 :: .ref m18 :: .int (nI rq) :: .ref m20 :: .ref m21 :: .ref m22 :: .ref m23 :: .ref m24 :: .int (nI rh) :: .ref m26 :: .ref m27 :: .ref m28 :: .int (nI un) :: .ref m30 :: .int n31 :: .int n32 :: .ref m33 :: .int n34 :: .int n35 :: .ref m36 :: .int (nI wm) :: .ref m38 :: .ref m39 :: .ref m40 :: .int (nI bk) :: .ref m42 :: .ref m43 :: .ref m44 :: .ref m45 :: []))), (m12, .inl (cI, 220, .inl fm12))]) [0, 1] rfl
          have hD9 := hD.sub (ws' := [(h0, .inr (11, (.int n0 :: .int n1 :: .int (nI nq) :: .ref m3 :: .ref m4 :: .ref m5 :: .int (nI nh) :: .ref m7 :: .ref m8 :: .ref m9 :: .ref m10 :: .int (nI sd) :: .ref m12 :: .int (nI tx) :: .int n14 :: .int (nI k0) :: .int n16 :: .int n17 :: .ref m18 :: .int (nI rq) :: .ref m20 :: .ref m21 :: .ref m22 :: .ref m23 :: .ref m24 :: .int (nI rh) :: .ref m26 :: .ref m27 :: .ref m28 :: .int (nI un) :: .ref m30 :: .int n31 :: .int n32 :: .ref m33 :: .int n34 :: .int n35 :: .ref m36 :: .int (nI wm) :: .ref m38 :: .ref m39 :: .ref m40 :: .int (nI bk) :: .ref m42 :: .ref m43 :: .ref m44 :: .ref m45 :: []))), (m12, .inl (cI, 220, .inl fm12))]) [0, 1] (by decide +kernel) rfl
          exact W.iret (v := (-1)) hx hb hr (fun t ht hW => ⟨⟨(-1), (fun _ => 0), rfl, (by rw [← ((sk_stop (fun c9 => c4 ((hT _ (by omega)).trans c9.2))).symm.trans hv0_0)]; exact (if_neg (by omega)).symm), ⟨k0, by omega, ((sk_stop (fun c9 => c4 ((hT _ (by omega)).trans c9.2))).symm.trans hv0_0), va_hq ht hP9, hD9⟩⟩, hS.F ht⟩) hS.2.2 dX11_here_62
        ·
          have c5 : ¬ tx ≤ k0 := fun h => c5 ((nI_leI (a := tx) (b := k0) (by omega) (by omega)).mpr h)
          refine lv_aload_n hx hb dX11_here_49 rfl (lv_at hl 0 rfl) ?_
          refine va_get (D := (dC, dI)) (ci := 11) (v := .ref m12) (C := RX11) (T := TX11) (N := 46) hx hb hts hi_X11 hown hK hP 0 rfl rfl 12 (by decide) (hts (.fieldLink RX11 31 "LeftQuillsModel" "text" "[I") (wmx 3 rfl)) (fun _ h9 => h9) rfl dX11_here_50 ?_
          refine lv_aload_n hx hb dX11_here_53 rfl (lv_at hl 0 rfl) ?_
          refine va_get (D := (dC, dI)) (ci := 11) (v := .int (nI k0)) (C := RX11) (T := TX11) (N := 46) hx hb hts hi_X11 hown hK hP 0 rfl rfl 15 (by decide) (hts (.fieldLink RX11 116 "LeftQuillsModel" "at0" "I") (wmx 1 rfl)) (fun _ h9 => h9) rfl dX11_here_54 ?_
          refine va_iald hx hb hK hP 1 0 rfl rfl (vp_in_nI (n := k0) (N := 220) (by omega) (by decide)) dX11_here_57 ?_
          refine W.eq (g2 := F0 m 58 ls [.int (fm12 k0)]) (congrArg (fun y9 => F0 m 58 ls (.int (fm12 y9) :: [])) ((nI_clamp (n := k0) (by omega)))) ?_
          refine lv_goto (tgt := 62) hx hb dX11_here_58 (by decide) ?_
          have hP9 := hP.sub (ws' := [(h0, .inr (11, (.int n0 :: .int n1 :: .int (nI nq) :: .ref m3 :: .ref m4 :: .ref m5 :: .int (nI nh) :: .ref m7 :: .ref m8 :: .ref m9 :: .ref m10 :: .int (nI sd) :: .ref m12 :: .int (nI tx) :: .int n14 :: .int (nI k0) :: .int n16 :: .int n17 :: .ref m18 :: .int (nI rq) :: .ref m20 :: .ref m21 :: .ref m22 :: .ref m23 :: .ref m24 :: .int (nI rh) :: .ref m26 :: .ref m27 :: .ref m28 :: .int (nI un) :: .ref m30 :: .int n31 :: .int n32 :: .ref m33 :: .int n34 :: .int n35 :: .ref m36 :: .int (nI wm) :: .ref m38 :: .ref m39 :: .ref m40 :: .int (nI bk) :: .ref m42 :: .ref m43 :: .ref m44 :: .ref m45 :: []))), (m12, .inl (cI, 220, .inl fm12))]) [0, 1] rfl
          have hD9 := hD.sub (ws' := [(h0, .inr (11, (.int n0 :: .int n1 :: .int (nI nq) :: .ref m3 :: .ref m4 :: .ref m5 :: .int (nI nh) :: .ref m7 :: .ref m8 :: .ref m9 :: .ref m10 :: .int (nI sd) :: .ref m12 :: .int (nI tx) :: .int n14 :: .int (nI k0) :: .int n16 :: .int n17 :: .ref m18 :: .int (nI rq) :: .ref m20 :: .ref m21 :: .ref m22 :: .ref m23 :: .ref m24 :: .int (nI rh) :: .ref m26 :: .ref m27 :: .ref m28 :: .int (nI un) :: .ref m30 :: .int n31 :: .int n32 :: .ref m33 :: .int n34 :: .int n35 :: .ref m36 :: .int (nI wm) :: .ref m38 :: .ref m39 :: .ref m40 :: .int (nI bk) :: .ref m42 :: .ref m43 :: .ref m44 :: .ref m45 :: []))), (m12, .inl (cI, 220, .inl fm12))]) [0, 1] (by decide +kernel) rfl
          exact W.iret (v := fm12 k0) hx hb hr (fun t ht hW => ⟨⟨fm12 k0, (fun _ => 0), rfl, (by rw [← ((sk_stop (fun c9 => c4 ((hT _ (by omega)).trans c9.2))).symm.trans hv0_0)]; exact ((hT _ (by omega)).trans (if_pos (by omega)).symm)), ⟨k0, by omega, ((sk_stop (fun c9 => c4 ((hT _ (by omega)).trans c9.2))).symm.trans hv0_0), va_hq ht hP9, hD9⟩⟩, hS.F ht⟩) hS.2.2 dX11_here_62
      ·
        refine lv_aload_n hx hb dX11_here_25 rfl (lv_at hl 0 rfl) ?_
        refine lv_dup hx hb dX11_here_26 rfl ?_
        refine va_get (D := (dC, dI)) (ci := 11) (v := .int (nI k0)) (C := RX11) (T := TX11) (N := 46) hx hb hts hi_X11 hown hK hP 0 rfl rfl 15 (by decide) (hts (.fieldLink RX11 116 "LeftQuillsModel" "at0" "I") (wmx 1 rfl)) (fun _ h9 => h9) rfl dX11_here_27 ?_
        refine lv_iconst (v := 1) hx hb dX11_here_30 (by decide) ?_
        refine lv_iadd hx hb dX11_here_31 ?_
        refine lv_topi (fun z6 ez6 => ?_)
        obtain rfl : z6 = nI (k0 + 1) := ez6.trans (nI_add k0 1)
        refine va_put (D := (dC, dI)) (ci := 11) (v := .int (nI (k0 + 1))) (ty := .int) (C := RX11) (T := TX11) (N := 46) hx hb hts hi_X11 tyX11 tyX11_ok nmX11 hown hK hP hD hS 0 rfl rfl 15 (by decide) (hts (.fieldLink RX11 116 "LeftQuillsModel" "at0" "I") (wmx 1 rfl)) (fun _ h9 => h9) rfl (by decide +kernel) rfl rfl (Nat.le_of_ble_eq_true rfl) dX11_here_32 (fun H locs hP hD hS => ?_)
        have hPD : pdW (dC, dI) vwCl A [(h0, .inr (11, (.int n0 :: .int n1 :: .int (nI nq) :: .ref m3 :: .ref m4 :: .ref m5 :: .int (nI nh) :: .ref m7 :: .ref m8 :: .ref m9 :: .ref m10 :: .int (nI sd) :: .ref m12 :: .int (nI tx) :: .int n14 :: .int (nI (k0 + 1)) :: .int n16 :: .int n17 :: .ref m18 :: .int (nI rq) :: .ref m20 :: .ref m21 :: .ref m22 :: .ref m23 :: .ref m24 :: .int (nI rh) :: .ref m26 :: .ref m27 :: .ref m28 :: .int (nI un) :: .ref m30 :: .int n31 :: .int n32 :: .ref m33 :: .int n34 :: .int n35 :: .ref m36 :: .int (nI wm) :: .ref m38 :: .ref m39 :: .ref m40 :: .int (nI bk) :: .ref m42 :: .ref m43 :: .ref m44 :: .ref m45 :: []))), (m12, .inl (cI, 220, .inl fm12))] H := ⟨hP, hD⟩
        have hP := hPD.1
        have hD := hPD.2
        clear hPD
        refine lv_goto (tgt := 0) hx hb dX11_here_35 (by decide) ?_
        exact ih0 (k0 + 1) _ _ _ (by omega) ((sk_step (by omega) ((hT _ (by omega)).symm.trans c4)).trans hv0_0) hP hD hS (lv_sub hl [0] rfl)
set_option maxHeartbeats 4000000 in
set_option maxRecDepth 100000 in
theorem c_X11_failsF (l : Launch) (dC : Nat → ClassId) (dI : Nat → Nat → Nat) (cI cZ cQ : ClassId) (h0 : Nat) (n0 : Int32) (n1 : Int32) (nq : Nat) (m3 : Nat) (m4 : Nat) (m5 : Nat) (nh : Nat) (m7 : Nat) (m8 : Nat) (m9 : Nat) (m10 : Nat) (sd : Nat) (m12 : Nat) (tx : Nat) (n14 : Int32) (at9 : Nat) (n16 : Int32) (n17 : Int32) (m18 : Nat) (rq : Nat) (m20 : Nat) (m21 : Nat) (m22 : Nat) (m23 : Nat) (m24 : Nat) (rh : Nat) (m26 : Nat) (m27 : Nat) (m28 : Nat) (un : Nat) (m30 : Nat) (n31 : Int32) (n32 : Int32) (m33 : Nat) (n34 : Int32) (n35 : Int32) (m36 : Nat) (wm : Nat) (m38 : Nat) (m39 : Nat) (m40 : Nat) (bk : Nat) (m42 : Nat) (m43 : Nat) (m44 : Nat) (m45 : Nat) (a0 : Int32) (a1 : Int32) (sz : Nat)  : Met l yX11_fails wsX11_fails ({ frames := 0, cells := 0, slots := 0, locals := 40 }) (va_Pc [.ref h0, .int a0, .int a1] (fun U => U.heap.size = sz ∧ va_P (dC, dI) vwCl [(h0, .inr (11, (.int n0 :: .int n1 :: .int (nI nq) :: .ref m3 :: .ref m4 :: .ref m5 :: .int (nI nh) :: .ref m7 :: .ref m8 :: .ref m9 :: .ref m10 :: .int (nI sd) :: .ref m12 :: .int (nI tx) :: .int n14 :: .int (nI at9) :: .int n16 :: .int n17 :: .ref m18 :: .int (nI rq) :: .ref m20 :: .ref m21 :: .ref m22 :: .ref m23 :: .ref m24 :: .int (nI rh) :: .ref m26 :: .ref m27 :: .ref m28 :: .int (nI un) :: .ref m30 :: .int n31 :: .int n32 :: .ref m33 :: .int n34 :: .int n35 :: .ref m36 :: .int (nI wm) :: .ref m38 :: .ref m39 :: .ref m40 :: .int (nI bk) :: .ref m42 :: .ref m43 :: .ref m44 :: .ref m45 :: [])))] U.heap ∧ va_K (dC, dI) vwCl (tys0 cI cZ cQ) U ∧ va_D (fun _ => True) [(h0, .inr (11, (.int n0 :: .int n1 :: .int (nI nq) :: .ref m3 :: .ref m4 :: .ref m5 :: .int (nI nh) :: .ref m7 :: .ref m8 :: .ref m9 :: .ref m10 :: .int (nI sd) :: .ref m12 :: .int (nI tx) :: .int n14 :: .int (nI at9) :: .int n16 :: .int n17 :: .ref m18 :: .int (nI rq) :: .ref m20 :: .ref m21 :: .ref m22 :: .ref m23 :: .ref m24 :: .int (nI rh) :: .ref m26 :: .ref m27 :: .ref m28 :: .int (nI un) :: .ref m30 :: .int n31 :: .int n32 :: .ref m33 :: .int n34 :: .int n35 :: .ref m36 :: .int (nI wm) :: .ref m38 :: .ref m39 :: .ref m40 :: .int (nI bk) :: .ref m42 :: .ref m43 :: .ref m44 :: .ref m45 :: [])))])) (va_Qi (fun (r : Int32) (u : Nat → Nat) => r = a0) (fun (_ : Nat → Nat) (t : State) => ∃ (ii0 : Int32) , (ii0 = a1) ∧ va_P (dC, dI) vwCl [(h0, .inr (11, (.int n0 :: .int n1 :: .int (nI nq) :: .ref m3 :: .ref m4 :: .ref m5 :: .int (nI nh) :: .ref m7 :: .ref m8 :: .ref m9 :: .ref m10 :: .int (nI sd) :: .ref m12 :: .int (nI tx) :: .int ii0 :: .int (nI at9) :: .int n16 :: .int n17 :: .ref m18 :: .int (nI rq) :: .ref m20 :: .ref m21 :: .ref m22 :: .ref m23 :: .ref m24 :: .int (nI rh) :: .ref m26 :: .ref m27 :: .ref m28 :: .int (nI un) :: .ref m30 :: .int n31 :: .int n32 :: .ref m33 :: .int n34 :: .int n35 :: .ref m36 :: .int (nI wm) :: .ref m38 :: .ref m39 :: .ref m40 :: .int (nI bk) :: .ref m42 :: .ref m43 :: .ref m44 :: .ref m45 :: [])))] t.heap ∧ va_D (va_A [(h0, .inr (11, (.int n0 :: .int n1 :: .int (nI nq) :: .ref m3 :: .ref m4 :: .ref m5 :: .int (nI nh) :: .ref m7 :: .ref m8 :: .ref m9 :: .ref m10 :: .int (nI sd) :: .ref m12 :: .int (nI tx) :: .int n14 :: .int (nI at9) :: .int n16 :: .int n17 :: .ref m18 :: .int (nI rq) :: .ref m20 :: .ref m21 :: .ref m22 :: .ref m23 :: .ref m24 :: .int (nI rh) :: .ref m26 :: .ref m27 :: .ref m28 :: .int (nI un) :: .ref m30 :: .int n31 :: .int n32 :: .ref m33 :: .int n34 :: .int n35 :: .ref m36 :: .int (nI wm) :: .ref m38 :: .ref m39 :: .ref m40 :: .int (nI bk) :: .ref m42 :: .ref m43 :: .ref m44 :: .ref m45 :: [])))] sz) [(h0, .inr (11, (.int n0 :: .int n1 :: .int (nI nq) :: .ref m3 :: .ref m4 :: .ref m5 :: .int (nI nh) :: .ref m7 :: .ref m8 :: .ref m9 :: .ref m10 :: .int (nI sd) :: .ref m12 :: .int (nI tx) :: .int ii0 :: .int (nI at9) :: .int n16 :: .int n17 :: .ref m18 :: .int (nI rq) :: .ref m20 :: .ref m21 :: .ref m22 :: .ref m23 :: .ref m24 :: .int (nI rh) :: .ref m26 :: .ref m27 :: .ref m28 :: .int (nI un) :: .ref m30 :: .int n31 :: .int n32 :: .ref m33 :: .int n34 :: .int n35 :: .ref m36 :: .int (nI wm) :: .ref m38 :: .ref m39 :: .ref m40 :: .int (nI bk) :: .ref m42 :: .ref m43 :: .ref m44 :: .ref m45 :: [])))]) (va_A [(h0, .inr (11, (.int n0 :: .int n1 :: .int (nI nq) :: .ref m3 :: .ref m4 :: .ref m5 :: .int (nI nh) :: .ref m7 :: .ref m8 :: .ref m9 :: .ref m10 :: .int (nI sd) :: .ref m12 :: .int (nI tx) :: .int n14 :: .int (nI at9) :: .int n16 :: .int n17 :: .ref m18 :: .int (nI rq) :: .ref m20 :: .ref m21 :: .ref m22 :: .ref m23 :: .ref m24 :: .int (nI rh) :: .ref m26 :: .ref m27 :: .ref m28 :: .int (nI un) :: .ref m30 :: .int n31 :: .int n32 :: .ref m33 :: .int n34 :: .int n35 :: .ref m36 :: .int (nI wm) :: .ref m38 :: .ref m39 :: .ref m40 :: .int (nI bk) :: .ref m42 :: .ref m43 :: .ref m44 :: .ref m45 :: [])))] sz)) 0 0 (va_A [(h0, .inr (11, (.int n0 :: .int n1 :: .int (nI nq) :: .ref m3 :: .ref m4 :: .ref m5 :: .int (nI nh) :: .ref m7 :: .ref m8 :: .ref m9 :: .ref m10 :: .int (nI sd) :: .ref m12 :: .int (nI tx) :: .int n14 :: .int (nI at9) :: .int n16 :: .int n17 :: .ref m18 :: .int (nI rq) :: .ref m20 :: .ref m21 :: .ref m22 :: .ref m23 :: .ref m24 :: .int (nI rh) :: .ref m26 :: .ref m27 :: .ref m28 :: .int (nI un) :: .ref m30 :: .int n31 :: .int n32 :: .ref m33 :: .int n34 :: .int n35 :: .ref m36 :: .int (nI wm) :: .ref m38 :: .ref m39 :: .ref m40 :: .int (nI bk) :: .ref m42 :: .ref m43 :: .ref m44 :: .ref m45 :: [])))] sz) := by
  refine Met.ofW (cc := cX11_fails) (maxL := 3) (ret := (some .int)) (by decide) rfl ?_
  intro p e s m args below meth c s₁ B hml hv
  obtain ⟨rfl, hsz, hP, hK, hD0⟩ := hv
  have hx := B.exec
  have hb := B.bytes
  have hr := B.returns
  have hts := atoms_spec (ws := wsX11_fails) B.pre
  have hown : s.vm.findClass RX11 = some m.cls := findClass_of_methodNamed B.named
  have hlocks := B.notSynchronized
  have hi_X11 : ∀ w ∈ u_ws RX11 TX11 46, w ∈ wsX11_fails := fun _ h => List.mem_cons_of_mem _ (List.mem_append_right _ (h))
  subst hsz
  have hD := hD0.self (sz := s.heap.size)
  generalize hAe : va_A [(h0, .inr (11, (.int n0 :: .int n1 :: .int (nI nq) :: .ref m3 :: .ref m4 :: .ref m5 :: .int (nI nh) :: .ref m7 :: .ref m8 :: .ref m9 :: .ref m10 :: .int (nI sd) :: .ref m12 :: .int (nI tx) :: .int n14 :: .int (nI at9) :: .int n16 :: .int n17 :: .ref m18 :: .int (nI rq) :: .ref m20 :: .ref m21 :: .ref m22 :: .ref m23 :: .ref m24 :: .int (nI rh) :: .ref m26 :: .ref m27 :: .ref m28 :: .int (nI un) :: .ref m30 :: .int n31 :: .int n32 :: .ref m33 :: .int n34 :: .int n35 :: .ref m36 :: .int (nI wm) :: .ref m38 :: .ref m39 :: .ref m40 :: .int (nI bk) :: .ref m42 :: .ref m43 :: .ref m44 :: .ref m45 :: [])))] s.heap.size = A at hD ⊢
  have hA : ∀ q : Nat, s.heap.size ≤ q → A q := fun q h => by rw [← hAe]; exact Or.inr h
  have hS : va_S A s.heap s.heap [] := va_S.rf
  have hl := lv_entry ([.ref h0, .int a0, .int a1]) (n := 3) (Nat.le_of_ble_eq_true rfl)
  rw [lg_entry_eq]
  generalize (lg_sl ([.ref h0, .int a0, .int a1]) ++ List.replicate (3 - (lg_sl ([.ref h0, .int a0, .int a1])).length) Slot.unset).toArray = ls at hl ⊢
  have hl : lv_has ls 3 [(0, .ref h0), (1, .int a0), (2, .int a1)] := hl
  refine lv_aload_n hx hb dX11_fails_0 rfl (lv_at hl 0 rfl) ?_
  refine lv_iload_n hx hb dX11_fails_1 rfl (lv_at hl 2 rfl) ?_
  refine va_put (D := (dC, dI)) (ci := 11) (v := .int a1) (ty := .int) (C := RX11) (T := TX11) (N := 46) hx hb hts hi_X11 tyX11 tyX11_ok nmX11 hown hK hP hD hS 0 rfl rfl 14 (by decide) (hts (.fieldLink RX11 34 "LeftQuillsModel" "faultPlace" "I") (wmx 1 rfl)) (fun _ h9 => h9) rfl (by decide +kernel) rfl rfl (Nat.le_of_ble_eq_true rfl) dX11_fails_2 (fun H locs hP hD hS => ?_)
  have hPD : pdW (dC, dI) vwCl A [(h0, .inr (11, (.int n0 :: .int n1 :: .int (nI nq) :: .ref m3 :: .ref m4 :: .ref m5 :: .int (nI nh) :: .ref m7 :: .ref m8 :: .ref m9 :: .ref m10 :: .int (nI sd) :: .ref m12 :: .int (nI tx) :: .int a1 :: .int (nI at9) :: .int n16 :: .int n17 :: .ref m18 :: .int (nI rq) :: .ref m20 :: .ref m21 :: .ref m22 :: .ref m23 :: .ref m24 :: .int (nI rh) :: .ref m26 :: .ref m27 :: .ref m28 :: .int (nI un) :: .ref m30 :: .int n31 :: .int n32 :: .ref m33 :: .int n34 :: .int n35 :: .ref m36 :: .int (nI wm) :: .ref m38 :: .ref m39 :: .ref m40 :: .int (nI bk) :: .ref m42 :: .ref m43 :: .ref m44 :: .ref m45 :: [])))] H := ⟨hP, hD⟩
  have hP := hPD.1
  have hD := hPD.2
  clear hPD
  refine lv_iload_n hx hb dX11_fails_5 rfl (lv_at hl 1 rfl) ?_
  have hP9 := hP.sub (ws' := [(h0, .inr (11, (.int n0 :: .int n1 :: .int (nI nq) :: .ref m3 :: .ref m4 :: .ref m5 :: .int (nI nh) :: .ref m7 :: .ref m8 :: .ref m9 :: .ref m10 :: .int (nI sd) :: .ref m12 :: .int (nI tx) :: .int a1 :: .int (nI at9) :: .int n16 :: .int n17 :: .ref m18 :: .int (nI rq) :: .ref m20 :: .ref m21 :: .ref m22 :: .ref m23 :: .ref m24 :: .int (nI rh) :: .ref m26 :: .ref m27 :: .ref m28 :: .int (nI un) :: .ref m30 :: .int n31 :: .int n32 :: .ref m33 :: .int n34 :: .int n35 :: .ref m36 :: .int (nI wm) :: .ref m38 :: .ref m39 :: .ref m40 :: .int (nI bk) :: .ref m42 :: .ref m43 :: .ref m44 :: .ref m45 :: [])))]) [0] rfl
  have hD9 := hD.sub (ws' := [(h0, .inr (11, (.int n0 :: .int n1 :: .int (nI nq) :: .ref m3 :: .ref m4 :: .ref m5 :: .int (nI nh) :: .ref m7 :: .ref m8 :: .ref m9 :: .ref m10 :: .int (nI sd) :: .ref m12 :: .int (nI tx) :: .int a1 :: .int (nI at9) :: .int n16 :: .int n17 :: .ref m18 :: .int (nI rq) :: .ref m20 :: .ref m21 :: .ref m22 :: .ref m23 :: .ref m24 :: .int (nI rh) :: .ref m26 :: .ref m27 :: .ref m28 :: .int (nI un) :: .ref m30 :: .int n31 :: .int n32 :: .ref m33 :: .int n34 :: .int n35 :: .ref m36 :: .int (nI wm) :: .ref m38 :: .ref m39 :: .ref m40 :: .int (nI bk) :: .ref m42 :: .ref m43 :: .ref m44 :: .ref m45 :: [])))]) [0] (by decide +kernel) rfl
  exact W.iret (v := a0) hx hb hr (fun t ht hW => ⟨⟨a0, (fun _ => 0), rfl, rfl, ⟨a1, rfl, va_hq ht hP9, hD9⟩⟩, hS.F ht⟩) hS.2.2 dX11_fails_6
set_option maxHeartbeats 4000000 in
set_option maxRecDepth 100000 in
theorem c_X11_takeNumberF (l : Launch) (dC : Nat → ClassId) (dI : Nat → Nat → Nat) (cI cZ cQ : ClassId) (h0 : Nat) (n0 : Int32) (n1 : Int32) (nq : Nat) (m3 : Nat) (m4 : Nat) (m5 : Nat) (nh : Nat) (m7 : Nat) (m8 : Nat) (m9 : Nat) (m10 : Nat) (sd : Nat) (m12 : Nat) (tx : Nat) (n14 : Int32) (at9 : Nat) (n16 : Int32) (n17 : Int32) (m18 : Nat) (rq : Nat) (m20 : Nat) (m21 : Nat) (m22 : Nat) (m23 : Nat) (m24 : Nat) (rh : Nat) (m26 : Nat) (m27 : Nat) (m28 : Nat) (un : Nat) (m30 : Nat) (n31 : Int32) (n32 : Int32) (m33 : Nat) (n34 : Int32) (n35 : Int32) (m36 : Nat) (wm : Nat) (m38 : Nat) (m39 : Nat) (m40 : Nat) (bk : Nat) (m42 : Nat) (m43 : Nat) (m44 : Nat) (m45 : Nat) (fm12 : Nat → Int32) (lo : Nat) (hi : Nat) (T0 : Nat → Int32) (sz : Nat) (htx : tx ≤ 220) (hat : at9 ≤ tx) (hT : ∀ j, j < tx → fm12 j = T0 j) (hlo : lo ≤ 1000) (hhi : hi ≤ 1000) : Met l yX11_takeNumber wsX11_takeNumber ({ frames := 1, cells := 0, slots := 0, locals := 65 }) (va_Pc [.ref h0, .int (nI lo), .int (nI hi)] (fun U => U.heap.size = sz ∧ va_P (dC, dI) vwCl [(h0, .inr (11, (.int n0 :: .int n1 :: .int (nI nq) :: .ref m3 :: .ref m4 :: .ref m5 :: .int (nI nh) :: .ref m7 :: .ref m8 :: .ref m9 :: .ref m10 :: .int (nI sd) :: .ref m12 :: .int (nI tx) :: .int n14 :: .int (nI at9) :: .int n16 :: .int n17 :: .ref m18 :: .int (nI rq) :: .ref m20 :: .ref m21 :: .ref m22 :: .ref m23 :: .ref m24 :: .int (nI rh) :: .ref m26 :: .ref m27 :: .ref m28 :: .int (nI un) :: .ref m30 :: .int n31 :: .int n32 :: .ref m33 :: .int n34 :: .int n35 :: .ref m36 :: .int (nI wm) :: .ref m38 :: .ref m39 :: .ref m40 :: .int (nI bk) :: .ref m42 :: .ref m43 :: .ref m44 :: .ref m45 :: []))), (m12, .inl (cI, 220, .inl fm12))] U.heap ∧ va_K (dC, dI) vwCl (tys0 cI cZ cQ) U ∧ va_D (fun _ => True) [(h0, .inr (11, (.int n0 :: .int n1 :: .int (nI nq) :: .ref m3 :: .ref m4 :: .ref m5 :: .int (nI nh) :: .ref m7 :: .ref m8 :: .ref m9 :: .ref m10 :: .int (nI sd) :: .ref m12 :: .int (nI tx) :: .int n14 :: .int (nI at9) :: .int n16 :: .int n17 :: .ref m18 :: .int (nI rq) :: .ref m20 :: .ref m21 :: .ref m22 :: .ref m23 :: .ref m24 :: .int (nI rh) :: .ref m26 :: .ref m27 :: .ref m28 :: .int (nI un) :: .ref m30 :: .int n31 :: .int n32 :: .ref m33 :: .int n34 :: .int n35 :: .ref m36 :: .int (nI wm) :: .ref m38 :: .ref m39 :: .ref m40 :: .int (nI bk) :: .ref m42 :: .ref m43 :: .ref m44 :: .ref m45 :: []))), (m12, .inl (cI, 220, .inl fm12))])) (va_Qi (fun (r : Int32) (u : Nat → Nat) => r = nI (u 0) ∧ u 0 ≤ 3) (fun (u : Nat → Nat) (t : State) => ∃ (ii0 ii2 ii3 : Int32) (kk1 : Nat), kk1 ≤ tx ∧ (u 0 = nmF T0 tx at9 (nI lo) (nI hi) ∧ (u 0 = 0 → kk1 = nmE T0 tx at9 ∧ ii2 = nmV T0 tx at9 ∧ n14 = ii0) ∧ (u 0 ≠ 0 → ii0 = nI (sk T0 tx at9))) ∧ (at9 ≤ kk1) ∧ (u 0 = 0 → ∃ c : Nat, c ≤ hi ∧ ii2 = nI c) ∧ va_P (dC, dI) vwCl [(h0, .inr (11, (.int n0 :: .int n1 :: .int (nI nq) :: .ref m3 :: .ref m4 :: .ref m5 :: .int (nI nh) :: .ref m7 :: .ref m8 :: .ref m9 :: .ref m10 :: .int (nI sd) :: .ref m12 :: .int (nI tx) :: .int ii0 :: .int (nI kk1) :: .int ii2 :: .int ii3 :: .ref m18 :: .int (nI rq) :: .ref m20 :: .ref m21 :: .ref m22 :: .ref m23 :: .ref m24 :: .int (nI rh) :: .ref m26 :: .ref m27 :: .ref m28 :: .int (nI un) :: .ref m30 :: .int n31 :: .int n32 :: .ref m33 :: .int n34 :: .int n35 :: .ref m36 :: .int (nI wm) :: .ref m38 :: .ref m39 :: .ref m40 :: .int (nI bk) :: .ref m42 :: .ref m43 :: .ref m44 :: .ref m45 :: []))), (m12, .inl (cI, 220, .inl fm12))] t.heap ∧ va_D (va_A [(h0, .inr (11, (.int n0 :: .int n1 :: .int (nI nq) :: .ref m3 :: .ref m4 :: .ref m5 :: .int (nI nh) :: .ref m7 :: .ref m8 :: .ref m9 :: .ref m10 :: .int (nI sd) :: .ref m12 :: .int (nI tx) :: .int n14 :: .int (nI at9) :: .int n16 :: .int n17 :: .ref m18 :: .int (nI rq) :: .ref m20 :: .ref m21 :: .ref m22 :: .ref m23 :: .ref m24 :: .int (nI rh) :: .ref m26 :: .ref m27 :: .ref m28 :: .int (nI un) :: .ref m30 :: .int n31 :: .int n32 :: .ref m33 :: .int n34 :: .int n35 :: .ref m36 :: .int (nI wm) :: .ref m38 :: .ref m39 :: .ref m40 :: .int (nI bk) :: .ref m42 :: .ref m43 :: .ref m44 :: .ref m45 :: []))), (m12, .inl (cI, 220, .inl fm12))] sz) [(h0, .inr (11, (.int n0 :: .int n1 :: .int (nI nq) :: .ref m3 :: .ref m4 :: .ref m5 :: .int (nI nh) :: .ref m7 :: .ref m8 :: .ref m9 :: .ref m10 :: .int (nI sd) :: .ref m12 :: .int (nI tx) :: .int ii0 :: .int (nI kk1) :: .int ii2 :: .int ii3 :: .ref m18 :: .int (nI rq) :: .ref m20 :: .ref m21 :: .ref m22 :: .ref m23 :: .ref m24 :: .int (nI rh) :: .ref m26 :: .ref m27 :: .ref m28 :: .int (nI un) :: .ref m30 :: .int n31 :: .int n32 :: .ref m33 :: .int n34 :: .int n35 :: .ref m36 :: .int (nI wm) :: .ref m38 :: .ref m39 :: .ref m40 :: .int (nI bk) :: .ref m42 :: .ref m43 :: .ref m44 :: .ref m45 :: []))), (m12, .inl (cI, 220, .inl fm12))]) (va_A [(h0, .inr (11, (.int n0 :: .int n1 :: .int (nI nq) :: .ref m3 :: .ref m4 :: .ref m5 :: .int (nI nh) :: .ref m7 :: .ref m8 :: .ref m9 :: .ref m10 :: .int (nI sd) :: .ref m12 :: .int (nI tx) :: .int n14 :: .int (nI at9) :: .int n16 :: .int n17 :: .ref m18 :: .int (nI rq) :: .ref m20 :: .ref m21 :: .ref m22 :: .ref m23 :: .ref m24 :: .int (nI rh) :: .ref m26 :: .ref m27 :: .ref m28 :: .int (nI un) :: .ref m30 :: .int n31 :: .int n32 :: .ref m33 :: .int n34 :: .int n35 :: .ref m36 :: .int (nI wm) :: .ref m38 :: .ref m39 :: .ref m40 :: .int (nI bk) :: .ref m42 :: .ref m43 :: .ref m44 :: .ref m45 :: []))), (m12, .inl (cI, 220, .inl fm12))] sz)) 0 0 (va_A [(h0, .inr (11, (.int n0 :: .int n1 :: .int (nI nq) :: .ref m3 :: .ref m4 :: .ref m5 :: .int (nI nh) :: .ref m7 :: .ref m8 :: .ref m9 :: .ref m10 :: .int (nI sd) :: .ref m12 :: .int (nI tx) :: .int n14 :: .int (nI at9) :: .int n16 :: .int n17 :: .ref m18 :: .int (nI rq) :: .ref m20 :: .ref m21 :: .ref m22 :: .ref m23 :: .ref m24 :: .int (nI rh) :: .ref m26 :: .ref m27 :: .ref m28 :: .int (nI un) :: .ref m30 :: .int n31 :: .int n32 :: .ref m33 :: .int n34 :: .int n35 :: .ref m36 :: .int (nI wm) :: .ref m38 :: .ref m39 :: .ref m40 :: .int (nI bk) :: .ref m42 :: .ref m43 :: .ref m44 :: .ref m45 :: []))), (m12, .inl (cI, 220, .inl fm12))] sz) := by
  refine Met.ofW (cc := cX11_takeNumber) (maxL := 4) (ret := (some .int)) (by decide) rfl ?_
  intro p e s m args below meth c s₁ B hml hv
  obtain ⟨rfl, hsz, hP, hK, hD0⟩ := hv
  have hx := B.exec
  have hb := B.bytes
  have hr := B.returns
  have hts := atoms_spec (ws := wsX11_takeNumber) B.pre
  have hown : s.vm.findClass RX11 = some m.cls := findClass_of_methodNamed B.named
  have hlocks := B.notSynchronized
  have hi_X11 : ∀ w ∈ u_ws RX11 TX11 46, w ∈ wsX11_takeNumber := fun _ h => List.mem_cons_of_mem _ (List.mem_append_right _ (h))
  subst hsz
  have hD := hD0.self (sz := s.heap.size)
  generalize hAe : va_A [(h0, .inr (11, (.int n0 :: .int n1 :: .int (nI nq) :: .ref m3 :: .ref m4 :: .ref m5 :: .int (nI nh) :: .ref m7 :: .ref m8 :: .ref m9 :: .ref m10 :: .int (nI sd) :: .ref m12 :: .int (nI tx) :: .int n14 :: .int (nI at9) :: .int n16 :: .int n17 :: .ref m18 :: .int (nI rq) :: .ref m20 :: .ref m21 :: .ref m22 :: .ref m23 :: .ref m24 :: .int (nI rh) :: .ref m26 :: .ref m27 :: .ref m28 :: .int (nI un) :: .ref m30 :: .int n31 :: .int n32 :: .ref m33 :: .int n34 :: .int n35 :: .ref m36 :: .int (nI wm) :: .ref m38 :: .ref m39 :: .ref m40 :: .int (nI bk) :: .ref m42 :: .ref m43 :: .ref m44 :: .ref m45 :: []))), (m12, .inl (cI, 220, .inl fm12))] s.heap.size = A at hD ⊢
  have hA : ∀ q : Nat, s.heap.size ≤ q → A q := fun q h => by rw [← hAe]; exact Or.inr h
  have hS : va_S A s.heap s.heap [] := va_S.rf
  have hl := lv_entry ([.ref h0, .int (nI lo), .int (nI hi)]) (n := 4) (Nat.le_of_ble_eq_true rfl)
  rw [lg_entry_eq]
  generalize (lg_sl ([.ref h0, .int (nI lo), .int (nI hi)]) ++ List.replicate (4 - (lg_sl ([.ref h0, .int (nI lo), .int (nI hi)])).length) Slot.unset).toArray = ls at hl ⊢
  have hl : lv_has ls 4 [(0, .ref h0), (1, .int (nI lo)), (2, .int (nI hi))] := hl
  refine lv_aload_n hx hb dX11_takeNumber_0 rfl (lv_at hl 0 rfl) ?_
  have hc9 := va_cut (W' := [(h0, .inr (11, (.int n0 :: .int n1 :: .int (nI nq) :: .ref m3 :: .ref m4 :: .ref m5 :: .int (nI nh) :: .ref m7 :: .ref m8 :: .ref m9 :: .ref m10 :: .int (nI sd) :: .ref m12 :: .int (nI tx) :: .int n14 :: .int (nI at9) :: .int n16 :: .int n17 :: .ref m18 :: .int (nI rq) :: .ref m20 :: .ref m21 :: .ref m22 :: .ref m23 :: .ref m24 :: .int (nI rh) :: .ref m26 :: .ref m27 :: .ref m28 :: .int (nI un) :: .ref m30 :: .int n31 :: .int n32 :: .ref m33 :: .int n34 :: .int n35 :: .ref m36 :: .int (nI wm) :: .ref m38 :: .ref m39 :: .ref m40 :: .int (nI bk) :: .ref m42 :: .ref m43 :: .ref m44 :: .ref m45 :: []))), (m12, .inl (cI, 220, .inl fm12))]) hP hD hS hA [0, 1] (by decide) rfl
  have hPc := hc9.1
  have hDc := hc9.2.1
  have hFc := hc9.2.2
  clear hc9
  refine va_calli (va_runV (As := []) (rest := []) ⟨hx, hb, hml, hown, hts⟩ (c_X11_hereF l dC dI cI cZ cQ h0 n0 n1 nq m3 m4 m5 nh m7 m8 m9 m10 sd m12 tx n14 at9 n16 n17 m18 rq m20 m21 m22 m23 m24 rh m26 m27 m28 un m30 n31 n32 m33 n34 n35 m36 wm m38 m39 m40 bk m42 m43 m44 m45 fm12 T0 s.heap.size (by omega) (by omega) hT) (cwV 0 hts gX11_takeNumber_X11_here rfl rfl rfl hd_X11_here_RX11 ⟨Nat.le_of_ble_eq_true rfl, Nat.le_of_ble_eq_true rfl⟩) (pv_D (va_recv hK hP (ci := 11) (q0 := 0) rfl rfl) hK hPc hDc) rfl rfl hl.1 rfl (lv_room (Nat.le_of_ble_eq_true rfl)) dX11_takeNumber_1 ⟨Nat.le_of_ble_eq_true rfl, Nat.le_of_ble_eq_true rfl⟩) hS (fun q _ h => hFc q h) hFc (fun r1 u2 t H1 locs ht hvm hw3 hB hz1 hk1 hS => ?_)
  obtain ⟨k4, hk4, he5, hP1, hD1⟩ := hB
  replace hP1 := va_hp ht hP1
  obtain ⟨hP, hD⟩ := va_join (wr := []) (w1 := [(h0, .inr (11, (.int n0 :: .int n1 :: .int (nI nq) :: .ref m3 :: .ref m4 :: .ref m5 :: .int (nI nh) :: .ref m7 :: .ref m8 :: .ref m9 :: .ref m10 :: .int (nI sd) :: .ref m12 :: .int (nI tx) :: .int n14 :: .int (nI k4) :: .int n16 :: .int n17 :: .ref m18 :: .int (nI rq) :: .ref m20 :: .ref m21 :: .ref m22 :: .ref m23 :: .ref m24 :: .int (nI rh) :: .ref m26 :: .ref m27 :: .ref m28 :: .int (nI un) :: .ref m30 :: .int n31 :: .int n32 :: .ref m33 :: .int n34 :: .int n35 :: .ref m36 :: .int (nI wm) :: .ref m38 :: .ref m39 :: .ref m40 :: .int (nI bk) :: .ref m42 :: .ref m43 :: .ref m44 :: .ref m45 :: []))), (m12, .inl (cI, 220, .inl fm12))]) hP hD [0, 1] [] rfl rfl (by decide +kernel) (by decide +kernel) hk1 hFc hP1 hD1
  clear hP1 hD1
  clear hz1 hk1 hPc hDc hFc
  generalize H1 = H at hP hS ht ⊢
  have hPD : pdW (dC, dI) vwCl A [(h0, .inr (11, (.int n0 :: .int n1 :: .int (nI nq) :: .ref m3 :: .ref m4 :: .ref m5 :: .int (nI nh) :: .ref m7 :: .ref m8 :: .ref m9 :: .ref m10 :: .int (nI sd) :: .ref m12 :: .int (nI tx) :: .int n14 :: .int (nI k4) :: .int n16 :: .int n17 :: .ref m18 :: .int (nI rq) :: .ref m20 :: .ref m21 :: .ref m22 :: .ref m23 :: .ref m24 :: .int (nI rh) :: .ref m26 :: .ref m27 :: .ref m28 :: .int (nI un) :: .ref m30 :: .int n31 :: .int n32 :: .ref m33 :: .int n34 :: .int n35 :: .ref m36 :: .int (nI wm) :: .ref m38 :: .ref m39 :: .ref m40 :: .int (nI bk) :: .ref m42 :: .ref m43 :: .ref m44 :: .ref m45 :: []))), (m12, .inl (cI, 220, .inl fm12))] H := ⟨hP, hD⟩
  have hP := hPD.1
  have hD := hPD.2
  clear hPD
  try dsimp only at hw3
  refine lv_istore_n (lv' := [(3, .int r1), (0, .ref h0), (1, .int (nI lo)), (2, .int (nI hi))]) hx hb dX11_takeNumber_4 rfl hl (by decide) rfl (fun ls hl => ?_)
  refine lv_iload_n hx hb dX11_takeNumber_5 rfl (lv_at hl 0 rfl) ?_
  refine lv_i2l hx hb dX11_takeNumber_6 rfl ?_
  refine lv_ldc2 (v := 48) hx hb hown (hts (.constantLong RX11 123 48) (wmx 1 rfl)) dX11_takeNumber_7 ?_
  refine lv_topl (fun z6 ez6 => ?_)
  obtain rfl : z6 = (48 : Int32).toInt64 := ez6.trans (by decide)
  refine lv_ldc2 (v := 57) hx hb hown (hts (.constantLong RX11 125 57) (wmx 2 rfl)) dX11_takeNumber_10 ?_
  refine lv_topl (fun z7 ez7 => ?_)
  obtain rfl : z7 = (57 : Int32).toInt64 := ez7.trans (by decide)
  have hPc := hP.sub (ws' := []) [] rfl
  refine va_calli (va_runS (As := [.long r1.toInt64, .long ((48 : Int32).toInt64), .long ((57 : Int32).toInt64)]) (rest := []) ⟨hx, hb, hml, hown, hts⟩ (c_X11_in l dC dI cI cZ cQ r1 48 57 H.size ) (va_cwS 3 hts gX11_takeNumber_X11_in rfl rfl rfl (by decide +kernel) ⟨Nat.le_of_ble_eq_true rfl, Nat.le_of_ble_eq_true rfl⟩) (ps_R hK hPc) rfl rfl hl.1 rfl (lv_room (Nat.le_of_ble_eq_true rfl)) dX11_takeNumber_13 ⟨Nat.le_of_ble_eq_true rfl, Nat.le_of_ble_eq_true rfl⟩) hS (fun q _ h => False.elim h) (fun q h => False.elim h) (fun r8 u9 t H1 locs ht hvm hw10 hB hz1 hk1 hS => ?_)
  have hP := hP.kept (fun k q hk => hk1 q.1 (hP k q hk).lt (fun h => h))
  clear hz1 hk1 hPc
  generalize H1 = H at hP hS ht ⊢
  try dsimp only at hw10
  rcases hw10 with ⟨rfl, hw10⟩ | ⟨rfl, hw10⟩
  ·
    have hf11 : isFg (ltr T0 tx k4) := by
      rw [he5, ← hw3]
      exact hw10
    refine lv_if_ne (tgt := 29) hx hb dX11_takeNumber_16 (by decide) (fun c12 => ?_) (fun c12 => ?_)
    rotate_left
    · exact absurd c12 (by decide)
    clear c12
    refine lv_aload_n hx hb dX11_takeNumber_29 rfl (lv_at hl 1 rfl) ?_
    refine lv_aload_n hx hb dX11_takeNumber_30 rfl (lv_at hl 1 rfl) ?_
    refine va_get (D := (dC, dI)) (ci := 11) (v := .int (nI k4)) (C := RX11) (T := TX11) (N := 46) hx hb hts hi_X11 hown hK hP 0 rfl rfl 15 (by decide) (hts (.fieldLink RX11 116 "LeftQuillsModel" "at0" "I") (wmx 3 rfl)) (fun _ h9 => h9) rfl dX11_takeNumber_31 ?_
    refine va_put (D := (dC, dI)) (ci := 11) (v := .int (nI k4)) (ty := .int) (C := RX11) (T := TX11) (N := 46) hx hb hts hi_X11 tyX11 tyX11_ok nmX11 hown hK hP hD hS 0 rfl rfl 17 (by decide) (hts (.fieldLink RX11 131 "LeftQuillsModel" "numberAt" "I") (wmx 4 rfl)) (fun _ h9 => h9) rfl (by decide +kernel) rfl rfl (Nat.le_of_ble_eq_true rfl) dX11_takeNumber_34 (fun H locs hP hD hS => ?_)
    have hPD : pdW (dC, dI) vwCl A [(h0, .inr (11, (.int n0 :: .int n1 :: .int (nI nq) :: .ref m3 :: .ref m4 :: .ref m5 :: .int (nI nh) :: .ref m7 :: .ref m8 :: .ref m9 :: .ref m10 :: .int (nI sd) :: .ref m12 :: .int (nI tx) :: .int n14 :: .int (nI k4) :: .int n16 :: .int (nI k4) :: .ref m18 :: .int (nI rq) :: .ref m20 :: .ref m21 :: .ref m22 :: .ref m23 :: .ref m24 :: .int (nI rh) :: .ref m26 :: .ref m27 :: .ref m28 :: .int (nI un) :: .ref m30 :: .int n31 :: .int n32 :: .ref m33 :: .int n34 :: .int n35 :: .ref m36 :: .int (nI wm) :: .ref m38 :: .ref m39 :: .ref m40 :: .int (nI bk) :: .ref m42 :: .ref m43 :: .ref m44 :: .ref m45 :: []))), (m12, .inl (cI, 220, .inl fm12))] H := ⟨hP, hD⟩
    have hP := hPD.1
    have hD := hPD.2
    clear hPD
    refine lv_aload_n hx hb dX11_takeNumber_37 rfl (lv_at hl 1 rfl) ?_
    refine lv_iconst (v := 0) hx hb dX11_takeNumber_38 (by decide) ?_
    refine va_put (D := (dC, dI)) (ci := 11) (v := .int 0) (ty := .int) (C := RX11) (T := TX11) (N := 46) hx hb hts hi_X11 tyX11 tyX11_ok nmX11 hown hK hP hD hS 0 rfl rfl 16 (by decide) (hts (.fieldLink RX11 134 "LeftQuillsModel" "number" "I") (wmx 5 rfl)) (fun _ h9 => h9) rfl (by decide +kernel) rfl rfl (Nat.le_of_ble_eq_true rfl) dX11_takeNumber_39 (fun H locs hP hD hS => ?_)
    have hPD : pdW (dC, dI) vwCl A [(h0, .inr (11, (.int n0 :: .int n1 :: .int (nI nq) :: .ref m3 :: .ref m4 :: .ref m5 :: .int (nI nh) :: .ref m7 :: .ref m8 :: .ref m9 :: .ref m10 :: .int (nI sd) :: .ref m12 :: .int (nI tx) :: .int n14 :: .int (nI k4) :: .int 0 :: .int (nI k4) :: .ref m18 :: .int (nI rq) :: .ref m20 :: .ref m21 :: .ref m22 :: .ref m23 :: .ref m24 :: .int (nI rh) :: .ref m26 :: .ref m27 :: .ref m28 :: .int (nI un) :: .ref m30 :: .int n31 :: .int n32 :: .ref m33 :: .int n34 :: .int n35 :: .ref m36 :: .int (nI wm) :: .ref m38 :: .ref m39 :: .ref m40 :: .int (nI bk) :: .ref m42 :: .ref m43 :: .ref m44 :: .ref m45 :: []))), (m12, .inl (cI, 220, .inl fm12))] H := ⟨hP, hD⟩
    have hP := hPD.1
    have hD := hPD.2
    clear hPD
    refine (fun (K : ∀ (d42 : Nat) (k42 : Nat) (i42_h0_16 : Int32) (H : Heap) (locs : List Loc) (ls : Array Slot), k42 + d42 = tx → k4 ≤ k42 → dg T0 tx k42 = dg T0 tx k4 → (k42 - k4 ≤ 3 → i42_h0_16 = w3 T0 k4 (k42 - k4)) → va_P (dC, dI) vwCl [(h0, .inr (11, (.int n0 :: .int n1 :: .int (nI nq) :: .ref m3 :: .ref m4 :: .ref m5 :: .int (nI nh) :: .ref m7 :: .ref m8 :: .ref m9 :: .ref m10 :: .int (nI sd) :: .ref m12 :: .int (nI tx) :: .int n14 :: .int (nI k42) :: .int i42_h0_16 :: .int (nI k4) :: .ref m18 :: .int (nI rq) :: .ref m20 :: .ref m21 :: .ref m22 :: .ref m23 :: .ref m24 :: .int (nI rh) :: .ref m26 :: .ref m27 :: .ref m28 :: .int (nI un) :: .ref m30 :: .int n31 :: .int n32 :: .ref m33 :: .int n34 :: .int n35 :: .ref m36 :: .int (nI wm) :: .ref m38 :: .ref m39 :: .ref m40 :: .int (nI bk) :: .ref m42 :: .ref m43 :: .ref m44 :: .ref m45 :: []))), (m12, .inl (cI, 220, .inl fm12))] H → va_D A [(h0, .inr (11, (.int n0 :: .int n1 :: .int (nI nq) :: .ref m3 :: .ref m4 :: .ref m5 :: .int (nI nh) :: .ref m7 :: .ref m8 :: .ref m9 :: .ref m10 :: .int (nI sd) :: .ref m12 :: .int (nI tx) :: .int n14 :: .int (nI k42) :: .int i42_h0_16 :: .int (nI k4) :: .ref m18 :: .int (nI rq) :: .ref m20 :: .ref m21 :: .ref m22 :: .ref m23 :: .ref m24 :: .int (nI rh) :: .ref m26 :: .ref m27 :: .ref m28 :: .int (nI un) :: .ref m30 :: .int n31 :: .int n32 :: .ref m33 :: .int n34 :: .int n35 :: .ref m36 :: .int (nI wm) :: .ref m38 :: .ref m39 :: .ref m40 :: .int (nI bk) :: .ref m42 :: .ref m43 :: .ref m44 :: .ref m45 :: []))), (m12, .inl (cI, 220, .inl fm12))] → va_S A s.heap H locs → lv_has ls 4 [(3, .int r1), (0, .ref h0), (1, .int (nI lo)), (2, .int (nI hi))] → W p l e _ s m _ below meth c H locs _ _ _ (F0 m 42 ls [])) => K (tx - k4) k4 0 _ _ _ (by omega) (by omega) rfl (fun _ => by rw [Nat.sub_self]; rfl) hP hD hS (lv_sub hl [0, 1, 2, 3] rfl)) ?_
    intro d42
    induction d42 with
    | zero =>
      intro k42 i42_h0_16 H locs ls hk42 hlo42 hv42_0 hv42_1 hP hD hS hl
      refine lv_aload_n hx hb dX11_takeNumber_42 rfl (lv_at hl 1 rfl) ?_
      refine va_get (D := (dC, dI)) (ci := 11) (v := .int (nI k42)) (C := RX11) (T := TX11) (N := 46) hx hb hts hi_X11 hown hK hP 0 rfl rfl 15 (by decide) (hts (.fieldLink RX11 116 "LeftQuillsModel" "at0" "I") (wmx 3 rfl)) (fun _ h9 => h9) rfl dX11_takeNumber_43 ?_
      refine lv_aload_n hx hb dX11_takeNumber_46 rfl (lv_at hl 1 rfl) ?_
      refine va_get (D := (dC, dI)) (ci := 11) (v := .int (nI tx)) (C := RX11) (T := TX11) (N := 46) hx hb hts hi_X11 hown hK hP 0 rfl rfl 13 (by decide) (hts (.fieldLink RX11 112 "LeftQuillsModel" "texted" "I") (wmx 6 rfl)) (fun _ h9 => h9) rfl dX11_takeNumber_47 ?_
      refine lv_icmp_ge (tgt := 129) hx hb dX11_takeNumber_50 (by decide) (fun c13 => ?_) (fun c13 => ?_)
      ·
        have c13 : tx ≤ k42 := (nI_leI (a := tx) (b := k42) (by omega) (by omega)).mp c13
        refine lv_aload_n hx hb dX11_takeNumber_129 rfl (lv_at hl 1 rfl) ?_
        refine va_get (D := (dC, dI)) (ci := 11) (v := .int (nI k42)) (C := RX11) (T := TX11) (N := 46) hx hb hts hi_X11 hown hK hP 0 rfl rfl 15 (by decide) (hts (.fieldLink RX11 116 "LeftQuillsModel" "at0" "I") (wmx 3 rfl)) (fun _ h9 => h9) rfl dX11_takeNumber_130 ?_
        refine lv_aload_n hx hb dX11_takeNumber_133 rfl (lv_at hl 1 rfl) ?_
        refine va_get (D := (dC, dI)) (ci := 11) (v := .int (nI k4)) (C := RX11) (T := TX11) (N := 46) hx hb hts hi_X11 hown hK hP 0 rfl rfl 17 (by decide) (hts (.fieldLink RX11 131 "LeftQuillsModel" "numberAt" "I") (wmx 4 rfl)) (fun _ h9 => h9) rfl dX11_takeNumber_134 ?_
        refine lv_isub hx hb dX11_takeNumber_137 ?_
        refine lv_topi (fun z14 ez14 => ?_)
        obtain rfl : z14 = nI (k42 - k4) := ez14.trans (pk_sub (a := k42) (b := k4) (by omega))
        refine lv_iconst (v := 3) hx hb dX11_takeNumber_138 (by decide) ?_
        refine lv_icmp_gt (tgt := 157) hx hb dX11_takeNumber_139 (by decide) (fun c15 => ?_) (fun c15 => ?_)
        ·
          have c15 : 3 < (k42 - k4) := (nI_ltI (a := 3) (b := k42 - k4) (by omega) (by omega)).mp c15
          refine lv_aload_n hx hb dX11_takeNumber_157 rfl (lv_at hl 1 rfl) ?_
          refine lv_iconst (v := 2) hx hb dX11_takeNumber_158 (by decide) ?_
          refine lv_aload_n hx hb dX11_takeNumber_159 rfl (lv_at hl 1 rfl) ?_
          refine va_get (D := (dC, dI)) (ci := 11) (v := .int (nI k4)) (C := RX11) (T := TX11) (N := 46) hx hb hts hi_X11 hown hK hP 0 rfl rfl 17 (by decide) (hts (.fieldLink RX11 131 "LeftQuillsModel" "numberAt" "I") (wmx 4 rfl)) (fun _ h9 => h9) rfl dX11_takeNumber_160 ?_
          have hc9 := va_cut (W' := [(h0, .inr (11, (.int n0 :: .int n1 :: .int (nI nq) :: .ref m3 :: .ref m4 :: .ref m5 :: .int (nI nh) :: .ref m7 :: .ref m8 :: .ref m9 :: .ref m10 :: .int (nI sd) :: .ref m12 :: .int (nI tx) :: .int n14 :: .int (nI k42) :: .int i42_h0_16 :: .int (nI k4) :: .ref m18 :: .int (nI rq) :: .ref m20 :: .ref m21 :: .ref m22 :: .ref m23 :: .ref m24 :: .int (nI rh) :: .ref m26 :: .ref m27 :: .ref m28 :: .int (nI un) :: .ref m30 :: .int n31 :: .int n32 :: .ref m33 :: .int n34 :: .int n35 :: .ref m36 :: .int (nI wm) :: .ref m38 :: .ref m39 :: .ref m40 :: .int (nI bk) :: .ref m42 :: .ref m43 :: .ref m44 :: .ref m45 :: [])))]) hP hD hS hA [0] (by decide) rfl
          have hPc := hc9.1
          have hDc := hc9.2.1
          have hFc := hc9.2.2
          clear hc9
          refine va_calli (va_runV (As := [.int 2, .int (nI k4)]) (rest := []) ⟨hx, hb, hml, hown, hts⟩ (c_X11_failsF l dC dI cI cZ cQ h0 n0 n1 nq m3 m4 m5 nh m7 m8 m9 m10 sd m12 tx n14 k42 i42_h0_16 (nI k4) m18 rq m20 m21 m22 m23 m24 rh m26 m27 m28 un m30 n31 n32 m33 n34 n35 m36 wm m38 m39 m40 bk m42 m43 m44 m45 2 (nI k4) H.size ) (cwV 2 hts gX11_takeNumber_X11_fails rfl rfl rfl hd_X11_fails_RX11 ⟨Nat.le_of_ble_eq_true rfl, Nat.le_of_ble_eq_true rfl⟩) (pv_D (va_recv hK hP (ci := 11) (q0 := 0) rfl rfl) hK hPc hDc) rfl rfl hl.1 rfl (lv_room (Nat.le_of_ble_eq_true rfl)) dX11_takeNumber_163 ⟨Nat.le_of_ble_eq_true rfl, Nat.le_of_ble_eq_true rfl⟩) hS (fun q _ h => hFc q h) hFc (fun r16 u17 t H1 locs ht hvm hw18 hB hz1 hk1 hS => ?_)
          obtain ⟨i19, he20, hP1, hD1⟩ := hB
          replace hP1 := va_hp ht hP1
          obtain ⟨hP, hD⟩ := va_join (wr := [(m12, .inl (cI, 220, .inl fm12))]) (w1 := [(h0, .inr (11, (.int n0 :: .int n1 :: .int (nI nq) :: .ref m3 :: .ref m4 :: .ref m5 :: .int (nI nh) :: .ref m7 :: .ref m8 :: .ref m9 :: .ref m10 :: .int (nI sd) :: .ref m12 :: .int (nI tx) :: .int i19 :: .int (nI k42) :: .int i42_h0_16 :: .int (nI k4) :: .ref m18 :: .int (nI rq) :: .ref m20 :: .ref m21 :: .ref m22 :: .ref m23 :: .ref m24 :: .int (nI rh) :: .ref m26 :: .ref m27 :: .ref m28 :: .int (nI un) :: .ref m30 :: .int n31 :: .int n32 :: .ref m33 :: .int n34 :: .int n35 :: .ref m36 :: .int (nI wm) :: .ref m38 :: .ref m39 :: .ref m40 :: .int (nI bk) :: .ref m42 :: .ref m43 :: .ref m44 :: .ref m45 :: [])))]) hP hD [0] [1] rfl rfl (by decide +kernel) (by decide +kernel) hk1 hFc hP1 hD1
          clear hP1 hD1
          clear hz1 hk1 hPc hDc hFc
          generalize H1 = H at hP hS ht ⊢
          have hPD : pdW (dC, dI) vwCl A [(m12, .inl (cI, 220, .inl fm12)), (h0, .inr (11, (.int n0 :: .int n1 :: .int (nI nq) :: .ref m3 :: .ref m4 :: .ref m5 :: .int (nI nh) :: .ref m7 :: .ref m8 :: .ref m9 :: .ref m10 :: .int (nI sd) :: .ref m12 :: .int (nI tx) :: .int i19 :: .int (nI k42) :: .int i42_h0_16 :: .int (nI k4) :: .ref m18 :: .int (nI rq) :: .ref m20 :: .ref m21 :: .ref m22 :: .ref m23 :: .ref m24 :: .int (nI rh) :: .ref m26 :: .ref m27 :: .ref m28 :: .int (nI un) :: .ref m30 :: .int n31 :: .int n32 :: .ref m33 :: .int n34 :: .int n35 :: .ref m36 :: .int (nI wm) :: .ref m38 :: .ref m39 :: .ref m40 :: .int (nI bk) :: .ref m42 :: .ref m43 :: .ref m44 :: .ref m45 :: [])))] H := ⟨hP, hD⟩
          have hP := hPD.1
          have hD := hPD.2
          clear hPD
          try dsimp only at hw18
          obtain rfl : r16 = 2 := hw18
          subst he20
          have hPD : pdW (dC, dI) vwCl A [(m12, .inl (cI, 220, .inl fm12)), (h0, .inr (11, (.int n0 :: .int n1 :: .int (nI nq) :: .ref m3 :: .ref m4 :: .ref m5 :: .int (nI nh) :: .ref m7 :: .ref m8 :: .ref m9 :: .ref m10 :: .int (nI sd) :: .ref m12 :: .int (nI tx) :: .int (nI k4) :: .int (nI k42) :: .int i42_h0_16 :: .int (nI k4) :: .ref m18 :: .int (nI rq) :: .ref m20 :: .ref m21 :: .ref m22 :: .ref m23 :: .ref m24 :: .int (nI rh) :: .ref m26 :: .ref m27 :: .ref m28 :: .int (nI un) :: .ref m30 :: .int n31 :: .int n32 :: .ref m33 :: .int n34 :: .int n35 :: .ref m36 :: .int (nI wm) :: .ref m38 :: .ref m39 :: .ref m40 :: .int (nI bk) :: .ref m42 :: .ref m43 :: .ref m44 :: .ref m45 :: [])))] H := ⟨hP, hD⟩
          have hP := hPD.1
          have hD := hPD.2
          clear hPD
          refine lv_goto (tgt := 170) hx hb dX11_takeNumber_166 (by decide) ?_
          have hP9 := hP.sub (ws' := [(h0, .inr (11, (.int n0 :: .int n1 :: .int (nI nq) :: .ref m3 :: .ref m4 :: .ref m5 :: .int (nI nh) :: .ref m7 :: .ref m8 :: .ref m9 :: .ref m10 :: .int (nI sd) :: .ref m12 :: .int (nI tx) :: .int (nI k4) :: .int (nI k42) :: .int i42_h0_16 :: .int (nI k4) :: .ref m18 :: .int (nI rq) :: .ref m20 :: .ref m21 :: .ref m22 :: .ref m23 :: .ref m24 :: .int (nI rh) :: .ref m26 :: .ref m27 :: .ref m28 :: .int (nI un) :: .ref m30 :: .int n31 :: .int n32 :: .ref m33 :: .int n34 :: .int n35 :: .ref m36 :: .int (nI wm) :: .ref m38 :: .ref m39 :: .ref m40 :: .int (nI bk) :: .ref m42 :: .ref m43 :: .ref m44 :: .ref m45 :: []))), (m12, .inl (cI, 220, .inl fm12))]) [1, 0] rfl
          have hD9 := hD.sub (ws' := [(h0, .inr (11, (.int n0 :: .int n1 :: .int (nI nq) :: .ref m3 :: .ref m4 :: .ref m5 :: .int (nI nh) :: .ref m7 :: .ref m8 :: .ref m9 :: .ref m10 :: .int (nI sd) :: .ref m12 :: .int (nI tx) :: .int (nI k4) :: .int (nI k42) :: .int i42_h0_16 :: .int (nI k4) :: .ref m18 :: .int (nI rq) :: .ref m20 :: .ref m21 :: .ref m22 :: .ref m23 :: .ref m24 :: .int (nI rh) :: .ref m26 :: .ref m27 :: .ref m28 :: .int (nI un) :: .ref m30 :: .int n31 :: .int n32 :: .ref m33 :: .int n34 :: .int n35 :: .ref m36 :: .int (nI wm) :: .ref m38 :: .ref m39 :: .ref m40 :: .int (nI bk) :: .ref m42 :: .ref m43 :: .ref m44 :: .ref m45 :: []))), (m12, .inl (cI, 220, .inl fm12))]) [1, 0] (by decide +kernel) rfl
          exact W.iret (v := 2) hx hb hr (fun t ht hW => ⟨⟨2, (fun _ => 2), rfl, ⟨rfl, by decide⟩, ⟨(nI k4), i42_h0_16, (nI k4), k42, by omega, (by have h9 := nm_2a (lo := nI lo) (hi := nI hi) he5 (hv42_0.symm.trans (dg_stop (fun c9 => absurd c9.1 (by omega)))) (by omega); exact ⟨h9.symm, fun h => absurd h (by decide), fun _ => by rw [← he5]⟩), (by have := sk_ge (T := T0) (n := tx) (p := at9); omega), (fun h => absurd h (by decide)), va_hq ht hP9, hD9⟩⟩, hS.F ht⟩) hS.2.2 dX11_takeNumber_170
        ·
          have c15 : ¬ 3 < (k42 - k4) := fun h => c15 ((nI_ltI (a := 3) (b := k42 - k4) (by omega) (by omega)).mpr h)
          refine lv_aload_n hx hb dX11_takeNumber_142 rfl (lv_at hl 1 rfl) ?_
          refine va_get (D := (dC, dI)) (ci := 11) (v := .int i42_h0_16) (C := RX11) (T := TX11) (N := 46) hx hb hts hi_X11 hown hK hP 0 rfl rfl 16 (by decide) (hts (.fieldLink RX11 134 "LeftQuillsModel" "number" "I") (wmx 5 rfl)) (fun _ h9 => h9) rfl dX11_takeNumber_143 ?_
          refine lv_i2l hx hb dX11_takeNumber_146 rfl ?_
          refine lv_iload_n hx hb dX11_takeNumber_147 rfl (lv_at hl 2 rfl) ?_
          refine lv_i2l hx hb dX11_takeNumber_148 rfl ?_
          refine lv_iload_n hx hb dX11_takeNumber_149 rfl (lv_at hl 3 rfl) ?_
          refine lv_i2l hx hb dX11_takeNumber_150 rfl ?_
          have hPc := hP.sub (ws' := []) [] rfl
          refine va_calli (va_runS (As := [.long i42_h0_16.toInt64, .long ((nI lo).toInt64), .long ((nI hi).toInt64)]) (rest := []) ⟨hx, hb, hml, hown, hts⟩ (c_X11_in l dC dI cI cZ cQ i42_h0_16 (nI lo) (nI hi) H.size ) (va_cwS 3 hts gX11_takeNumber_X11_in rfl rfl rfl (by decide +kernel) ⟨Nat.le_of_ble_eq_true rfl, Nat.le_of_ble_eq_true rfl⟩) (ps_R hK hPc) rfl rfl hl.1 rfl (lv_room (Nat.le_of_ble_eq_true rfl)) dX11_takeNumber_151 ⟨Nat.le_of_ble_eq_true rfl, Nat.le_of_ble_eq_true rfl⟩) hS (fun q _ h => False.elim h) (fun q h => False.elim h) (fun r21 u22 t H1 locs ht hvm hw23 hB hz1 hk1 hS => ?_)
          have hP := hP.kept (fun k q hk => hk1 q.1 (hP k q hk).lt (fun h => h))
          clear hz1 hk1 hPc
          generalize H1 = H at hP hS ht ⊢
          try dsimp only at hw23
          rcases hw23 with ⟨rfl, hw23⟩ | ⟨rfl, hw23⟩
          ·
            refine lv_if_ne (tgt := 169) hx hb dX11_takeNumber_154 (by decide) (fun c24 => ?_) (fun c24 => ?_)
            rotate_left
            · exact absurd c24 (by decide)
            clear c24
            refine lv_iconst (v := 0) hx hb dX11_takeNumber_169 (by decide) ?_
            have hP9 := hP.sub (ws' := [(h0, .inr (11, (.int n0 :: .int n1 :: .int (nI nq) :: .ref m3 :: .ref m4 :: .ref m5 :: .int (nI nh) :: .ref m7 :: .ref m8 :: .ref m9 :: .ref m10 :: .int (nI sd) :: .ref m12 :: .int (nI tx) :: .int n14 :: .int (nI k42) :: .int i42_h0_16 :: .int (nI k4) :: .ref m18 :: .int (nI rq) :: .ref m20 :: .ref m21 :: .ref m22 :: .ref m23 :: .ref m24 :: .int (nI rh) :: .ref m26 :: .ref m27 :: .ref m28 :: .int (nI un) :: .ref m30 :: .int n31 :: .int n32 :: .ref m33 :: .int n34 :: .int n35 :: .ref m36 :: .int (nI wm) :: .ref m38 :: .ref m39 :: .ref m40 :: .int (nI bk) :: .ref m42 :: .ref m43 :: .ref m44 :: .ref m45 :: []))), (m12, .inl (cI, 220, .inl fm12))]) [0, 1] rfl
            have hD9 := hD.sub (ws' := [(h0, .inr (11, (.int n0 :: .int n1 :: .int (nI nq) :: .ref m3 :: .ref m4 :: .ref m5 :: .int (nI nh) :: .ref m7 :: .ref m8 :: .ref m9 :: .ref m10 :: .int (nI sd) :: .ref m12 :: .int (nI tx) :: .int n14 :: .int (nI k42) :: .int i42_h0_16 :: .int (nI k4) :: .ref m18 :: .int (nI rq) :: .ref m20 :: .ref m21 :: .ref m22 :: .ref m23 :: .ref m24 :: .int (nI rh) :: .ref m26 :: .ref m27 :: .ref m28 :: .int (nI un) :: .ref m30 :: .int n31 :: .int n32 :: .ref m33 :: .int n34 :: .int n35 :: .ref m36 :: .int (nI wm) :: .ref m38 :: .ref m39 :: .ref m40 :: .int (nI bk) :: .ref m42 :: .ref m43 :: .ref m44 :: .ref m45 :: []))), (m12, .inl (cI, 220, .inl fm12))]) [0, 1] (by decide +kernel) rfl
            exact W.iret (v := 0) hx hb hr (fun t ht hW => ⟨⟨0, (fun _ => 0), rfl, ⟨rfl, by decide⟩, ⟨n14, i42_h0_16, (nI k4), k42, by omega, (by have h9 := nm_0c (lo := nI lo) (hi := nI hi) he5 (hv42_0.symm.trans (dg_stop (fun c9 => absurd c9.1 (by omega)))) (fun h9 => dg_ne hf11 ((hv42_0.symm.trans (dg_stop (fun c9 => absurd c9.1 (by omega)))).trans h9)) (by omega) (hv42_1 (by omega)) hw23; exact ⟨h9.1.symm, fun _ => ⟨h9.2.1, h9.2.2, rfl⟩, fun h => absurd rfl h⟩), (by have := sk_ge (T := T0) (n := tx) (p := at9); omega), (fun _ => by obtain ⟨c, _, hc, e⟩ := x_rng (by omega) (by omega) hw23; exact ⟨c, hc, e⟩), va_hq ht hP9, hD9⟩⟩, hS.F ht⟩) hS.2.2 dX11_takeNumber_170
          ·
            refine lv_if_ne (tgt := 169) hx hb dX11_takeNumber_154 (by decide) (fun c25 => ?_) (fun c25 => ?_)
            · exact absurd c25 (by decide)
            clear c25
            refine lv_aload_n hx hb dX11_takeNumber_157 rfl (lv_at hl 1 rfl) ?_
            refine lv_iconst (v := 2) hx hb dX11_takeNumber_158 (by decide) ?_
            refine lv_aload_n hx hb dX11_takeNumber_159 rfl (lv_at hl 1 rfl) ?_
            refine va_get (D := (dC, dI)) (ci := 11) (v := .int (nI k4)) (C := RX11) (T := TX11) (N := 46) hx hb hts hi_X11 hown hK hP 0 rfl rfl 17 (by decide) (hts (.fieldLink RX11 131 "LeftQuillsModel" "numberAt" "I") (wmx 4 rfl)) (fun _ h9 => h9) rfl dX11_takeNumber_160 ?_
            have hc9 := va_cut (W' := [(h0, .inr (11, (.int n0 :: .int n1 :: .int (nI nq) :: .ref m3 :: .ref m4 :: .ref m5 :: .int (nI nh) :: .ref m7 :: .ref m8 :: .ref m9 :: .ref m10 :: .int (nI sd) :: .ref m12 :: .int (nI tx) :: .int n14 :: .int (nI k42) :: .int i42_h0_16 :: .int (nI k4) :: .ref m18 :: .int (nI rq) :: .ref m20 :: .ref m21 :: .ref m22 :: .ref m23 :: .ref m24 :: .int (nI rh) :: .ref m26 :: .ref m27 :: .ref m28 :: .int (nI un) :: .ref m30 :: .int n31 :: .int n32 :: .ref m33 :: .int n34 :: .int n35 :: .ref m36 :: .int (nI wm) :: .ref m38 :: .ref m39 :: .ref m40 :: .int (nI bk) :: .ref m42 :: .ref m43 :: .ref m44 :: .ref m45 :: [])))]) hP hD hS hA [0] (by decide) rfl
            have hPc := hc9.1
            have hDc := hc9.2.1
            have hFc := hc9.2.2
            clear hc9
            refine va_calli (va_runV (As := [.int 2, .int (nI k4)]) (rest := []) ⟨hx, hb, hml, hown, hts⟩ (c_X11_failsF l dC dI cI cZ cQ h0 n0 n1 nq m3 m4 m5 nh m7 m8 m9 m10 sd m12 tx n14 k42 i42_h0_16 (nI k4) m18 rq m20 m21 m22 m23 m24 rh m26 m27 m28 un m30 n31 n32 m33 n34 n35 m36 wm m38 m39 m40 bk m42 m43 m44 m45 2 (nI k4) H.size ) (cwV 2 hts gX11_takeNumber_X11_fails rfl rfl rfl hd_X11_fails_RX11 ⟨Nat.le_of_ble_eq_true rfl, Nat.le_of_ble_eq_true rfl⟩) (pv_D (va_recv hK hP (ci := 11) (q0 := 0) rfl rfl) hK hPc hDc) rfl rfl hl.1 rfl (lv_room (Nat.le_of_ble_eq_true rfl)) dX11_takeNumber_163 ⟨Nat.le_of_ble_eq_true rfl, Nat.le_of_ble_eq_true rfl⟩) hS (fun q _ h => hFc q h) hFc (fun r26 u27 t H1 locs ht hvm hw28 hB hz1 hk1 hS => ?_)
            obtain ⟨i29, he30, hP1, hD1⟩ := hB
            replace hP1 := va_hp ht hP1
            obtain ⟨hP, hD⟩ := va_join (wr := [(m12, .inl (cI, 220, .inl fm12))]) (w1 := [(h0, .inr (11, (.int n0 :: .int n1 :: .int (nI nq) :: .ref m3 :: .ref m4 :: .ref m5 :: .int (nI nh) :: .ref m7 :: .ref m8 :: .ref m9 :: .ref m10 :: .int (nI sd) :: .ref m12 :: .int (nI tx) :: .int i29 :: .int (nI k42) :: .int i42_h0_16 :: .int (nI k4) :: .ref m18 :: .int (nI rq) :: .ref m20 :: .ref m21 :: .ref m22 :: .ref m23 :: .ref m24 :: .int (nI rh) :: .ref m26 :: .ref m27 :: .ref m28 :: .int (nI un) :: .ref m30 :: .int n31 :: .int n32 :: .ref m33 :: .int n34 :: .int n35 :: .ref m36 :: .int (nI wm) :: .ref m38 :: .ref m39 :: .ref m40 :: .int (nI bk) :: .ref m42 :: .ref m43 :: .ref m44 :: .ref m45 :: [])))]) hP hD [0] [1] rfl rfl (by decide +kernel) (by decide +kernel) hk1 hFc hP1 hD1
            clear hP1 hD1
            clear hz1 hk1 hPc hDc hFc
            generalize H1 = H at hP hS ht ⊢
            have hPD : pdW (dC, dI) vwCl A [(m12, .inl (cI, 220, .inl fm12)), (h0, .inr (11, (.int n0 :: .int n1 :: .int (nI nq) :: .ref m3 :: .ref m4 :: .ref m5 :: .int (nI nh) :: .ref m7 :: .ref m8 :: .ref m9 :: .ref m10 :: .int (nI sd) :: .ref m12 :: .int (nI tx) :: .int i29 :: .int (nI k42) :: .int i42_h0_16 :: .int (nI k4) :: .ref m18 :: .int (nI rq) :: .ref m20 :: .ref m21 :: .ref m22 :: .ref m23 :: .ref m24 :: .int (nI rh) :: .ref m26 :: .ref m27 :: .ref m28 :: .int (nI un) :: .ref m30 :: .int n31 :: .int n32 :: .ref m33 :: .int n34 :: .int n35 :: .ref m36 :: .int (nI wm) :: .ref m38 :: .ref m39 :: .ref m40 :: .int (nI bk) :: .ref m42 :: .ref m43 :: .ref m44 :: .ref m45 :: [])))] H := ⟨hP, hD⟩
            have hP := hPD.1
            have hD := hPD.2
            clear hPD
            try dsimp only at hw28
            obtain rfl : r26 = 2 := hw28
            subst he30
            have hPD : pdW (dC, dI) vwCl A [(m12, .inl (cI, 220, .inl fm12)), (h0, .inr (11, (.int n0 :: .int n1 :: .int (nI nq) :: .ref m3 :: .ref m4 :: .ref m5 :: .int (nI nh) :: .ref m7 :: .ref m8 :: .ref m9 :: .ref m10 :: .int (nI sd) :: .ref m12 :: .int (nI tx) :: .int (nI k4) :: .int (nI k42) :: .int i42_h0_16 :: .int (nI k4) :: .ref m18 :: .int (nI rq) :: .ref m20 :: .ref m21 :: .ref m22 :: .ref m23 :: .ref m24 :: .int (nI rh) :: .ref m26 :: .ref m27 :: .ref m28 :: .int (nI un) :: .ref m30 :: .int n31 :: .int n32 :: .ref m33 :: .int n34 :: .int n35 :: .ref m36 :: .int (nI wm) :: .ref m38 :: .ref m39 :: .ref m40 :: .int (nI bk) :: .ref m42 :: .ref m43 :: .ref m44 :: .ref m45 :: [])))] H := ⟨hP, hD⟩
            have hP := hPD.1
            have hD := hPD.2
            clear hPD
            refine lv_goto (tgt := 170) hx hb dX11_takeNumber_166 (by decide) ?_
            have hP9 := hP.sub (ws' := [(h0, .inr (11, (.int n0 :: .int n1 :: .int (nI nq) :: .ref m3 :: .ref m4 :: .ref m5 :: .int (nI nh) :: .ref m7 :: .ref m8 :: .ref m9 :: .ref m10 :: .int (nI sd) :: .ref m12 :: .int (nI tx) :: .int (nI k4) :: .int (nI k42) :: .int i42_h0_16 :: .int (nI k4) :: .ref m18 :: .int (nI rq) :: .ref m20 :: .ref m21 :: .ref m22 :: .ref m23 :: .ref m24 :: .int (nI rh) :: .ref m26 :: .ref m27 :: .ref m28 :: .int (nI un) :: .ref m30 :: .int n31 :: .int n32 :: .ref m33 :: .int n34 :: .int n35 :: .ref m36 :: .int (nI wm) :: .ref m38 :: .ref m39 :: .ref m40 :: .int (nI bk) :: .ref m42 :: .ref m43 :: .ref m44 :: .ref m45 :: []))), (m12, .inl (cI, 220, .inl fm12))]) [1, 0] rfl
            have hD9 := hD.sub (ws' := [(h0, .inr (11, (.int n0 :: .int n1 :: .int (nI nq) :: .ref m3 :: .ref m4 :: .ref m5 :: .int (nI nh) :: .ref m7 :: .ref m8 :: .ref m9 :: .ref m10 :: .int (nI sd) :: .ref m12 :: .int (nI tx) :: .int (nI k4) :: .int (nI k42) :: .int i42_h0_16 :: .int (nI k4) :: .ref m18 :: .int (nI rq) :: .ref m20 :: .ref m21 :: .ref m22 :: .ref m23 :: .ref m24 :: .int (nI rh) :: .ref m26 :: .ref m27 :: .ref m28 :: .int (nI un) :: .ref m30 :: .int n31 :: .int n32 :: .ref m33 :: .int n34 :: .int n35 :: .ref m36 :: .int (nI wm) :: .ref m38 :: .ref m39 :: .ref m40 :: .int (nI bk) :: .ref m42 :: .ref m43 :: .ref m44 :: .ref m45 :: []))), (m12, .inl (cI, 220, .inl fm12))]) [1, 0] (by decide +kernel) rfl
            exact W.iret (v := 2) hx hb hr (fun t ht hW => ⟨⟨2, (fun _ => 2), rfl, ⟨rfl, by decide⟩, ⟨(nI k4), i42_h0_16, (nI k4), k42, by omega, (by have h9 := nm_2c (lo := nI lo) (hi := nI hi) he5 (hv42_0.symm.trans (dg_stop (fun c9 => absurd c9.1 (by omega)))) (fun h9 => dg_ne hf11 ((hv42_0.symm.trans (dg_stop (fun c9 => absurd c9.1 (by omega)))).trans h9)) (by omega) (hv42_1 (by omega)) hw23; exact ⟨h9.symm, fun h => absurd h (by decide), fun _ => by rw [← he5]⟩), (by have := sk_ge (T := T0) (n := tx) (p := at9); omega), (fun h => absurd h (by decide)), va_hq ht hP9, hD9⟩⟩, hS.F ht⟩) hS.2.2 dX11_takeNumber_170
      ·
        have c13 : ¬ tx ≤ k42 := fun h => c13 ((nI_leI (a := tx) (b := k42) (by omega) (by omega)).mpr h)
        omega
    | succ d42 ih42 =>
      intro k42 i42_h0_16 H locs ls hk42 hlo42 hv42_0 hv42_1 hP hD hS hl
      refine lv_aload_n hx hb dX11_takeNumber_42 rfl (lv_at hl 1 rfl) ?_
      refine va_get (D := (dC, dI)) (ci := 11) (v := .int (nI k42)) (C := RX11) (T := TX11) (N := 46) hx hb hts hi_X11 hown hK hP 0 rfl rfl 15 (by decide) (hts (.fieldLink RX11 116 "LeftQuillsModel" "at0" "I") (wmx 3 rfl)) (fun _ h9 => h9) rfl dX11_takeNumber_43 ?_
      refine lv_aload_n hx hb dX11_takeNumber_46 rfl (lv_at hl 1 rfl) ?_
      refine va_get (D := (dC, dI)) (ci := 11) (v := .int (nI tx)) (C := RX11) (T := TX11) (N := 46) hx hb hts hi_X11 hown hK hP 0 rfl rfl 13 (by decide) (hts (.fieldLink RX11 112 "LeftQuillsModel" "texted" "I") (wmx 6 rfl)) (fun _ h9 => h9) rfl dX11_takeNumber_47 ?_
      refine lv_icmp_ge (tgt := 129) hx hb dX11_takeNumber_50 (by decide) (fun c31 => ?_) (fun c31 => ?_)
      ·
        have c31 : tx ≤ k42 := (nI_leI (a := tx) (b := k42) (by omega) (by omega)).mp c31
        omega
      ·
        have c31 : ¬ tx ≤ k42 := fun h => c31 ((nI_leI (a := tx) (b := k42) (by omega) (by omega)).mpr h)
        refine lv_aload_n hx hb dX11_takeNumber_53 rfl (lv_at hl 1 rfl) ?_
        refine va_get (D := (dC, dI)) (ci := 11) (v := .ref m12) (C := RX11) (T := TX11) (N := 46) hx hb hts hi_X11 hown hK hP 0 rfl rfl 12 (by decide) (hts (.fieldLink RX11 31 "LeftQuillsModel" "text" "[I") (wmx 7 rfl)) (fun _ h9 => h9) rfl dX11_takeNumber_54 ?_
        refine lv_aload_n hx hb dX11_takeNumber_57 rfl (lv_at hl 1 rfl) ?_
        refine va_get (D := (dC, dI)) (ci := 11) (v := .int (nI k42)) (C := RX11) (T := TX11) (N := 46) hx hb hts hi_X11 hown hK hP 0 rfl rfl 15 (by decide) (hts (.fieldLink RX11 116 "LeftQuillsModel" "at0" "I") (wmx 3 rfl)) (fun _ h9 => h9) rfl dX11_takeNumber_58 ?_
        refine va_iald hx hb hK hP 1 0 rfl rfl (vp_in_nI (n := k42) (N := 220) (by omega) (by decide)) dX11_takeNumber_61 ?_
        refine W.eq (g2 := F0 m 62 ls [.int (fm12 k42)]) (congrArg (fun y9 => F0 m 62 ls (.int (fm12 y9) :: [])) ((nI_clamp (n := k42) (by omega)))) ?_
        refine lv_i2l hx hb dX11_takeNumber_62 rfl ?_
        refine lv_ldc2 (v := 48) hx hb hown (hts (.constantLong RX11 123 48) (wmx 1 rfl)) dX11_takeNumber_63 ?_
        refine lv_topl (fun z32 ez32 => ?_)
        obtain rfl : z32 = (48 : Int32).toInt64 := ez32.trans (by decide)
        refine lv_ldc2 (v := 57) hx hb hown (hts (.constantLong RX11 125 57) (wmx 2 rfl)) dX11_takeNumber_66 ?_
        refine lv_topl (fun z33 ez33 => ?_)
        obtain rfl : z33 = (57 : Int32).toInt64 := ez33.trans (by decide)
        have hPc := hP.sub (ws' := []) [] rfl
        refine va_calli (va_runS (As := [.long ((fm12 k42).toInt64), .long ((48 : Int32).toInt64), .long ((57 : Int32).toInt64)]) (rest := []) ⟨hx, hb, hml, hown, hts⟩ (c_X11_in l dC dI cI cZ cQ (fm12 k42) 48 57 H.size ) (va_cwS 3 hts gX11_takeNumber_X11_in rfl rfl rfl (by decide +kernel) ⟨Nat.le_of_ble_eq_true rfl, Nat.le_of_ble_eq_true rfl⟩) (ps_R hK hPc) rfl rfl hl.1 rfl (lv_room (Nat.le_of_ble_eq_true rfl)) dX11_takeNumber_69 ⟨Nat.le_of_ble_eq_true rfl, Nat.le_of_ble_eq_true rfl⟩) hS (fun q _ h => False.elim h) (fun q h => False.elim h) (fun r34 u35 t H1 locs ht hvm hw36 hB hz1 hk1 hS => ?_)
        have hP := hP.kept (fun k q hk => hk1 q.1 (hP k q hk).lt (fun h => h))
        clear hz1 hk1 hPc
        generalize H1 = H at hP hS ht ⊢
        try dsimp only at hw36
        rcases hw36 with ⟨rfl, hw36⟩ | ⟨rfl, hw36⟩
        ·
          refine lv_if_eq (tgt := 129) hx hb dX11_takeNumber_72 (by decide) (fun c37 => ?_) (fun c37 => ?_)
          · exact absurd c37 (by decide)
          clear c37
          refine lv_aload_n hx hb dX11_takeNumber_75 rfl (lv_at hl 1 rfl) ?_
          refine lv_aload_n hx hb dX11_takeNumber_76 rfl (lv_at hl 1 rfl) ?_
          refine va_get (D := (dC, dI)) (ci := 11) (v := .int i42_h0_16) (C := RX11) (T := TX11) (N := 46) hx hb hts hi_X11 hown hK hP 0 rfl rfl 16 (by decide) (hts (.fieldLink RX11 134 "LeftQuillsModel" "number" "I") (wmx 5 rfl)) (fun _ h9 => h9) rfl dX11_takeNumber_77 ?_
          refine lv_sipush (v := 10000) hx hb dX11_takeNumber_80 (by decide) ?_
          refine lv_icmp_le (tgt := 93) hx hb dX11_takeNumber_83 (by decide) (fun c38 => ?_) (fun c38 => ?_)
          ·
            refine lv_bipush (v := 10) hx hb dX11_takeNumber_93 (by decide) ?_
            refine lv_aload_n hx hb dX11_takeNumber_95 rfl (lv_at hl 1 rfl) ?_
            refine va_get (D := (dC, dI)) (ci := 11) (v := .int i42_h0_16) (C := RX11) (T := TX11) (N := 46) hx hb hts hi_X11 hown hK hP 0 rfl rfl 16 (by decide) (hts (.fieldLink RX11 134 "LeftQuillsModel" "number" "I") (wmx 5 rfl)) (fun _ h9 => h9) rfl dX11_takeNumber_96 ?_
            refine lv_imul hx hb dX11_takeNumber_99 ?_
            refine lv_aload_n hx hb dX11_takeNumber_100 rfl (lv_at hl 1 rfl) ?_
            refine va_get (D := (dC, dI)) (ci := 11) (v := .ref m12) (C := RX11) (T := TX11) (N := 46) hx hb hts hi_X11 hown hK hP 0 rfl rfl 12 (by decide) (hts (.fieldLink RX11 31 "LeftQuillsModel" "text" "[I") (wmx 7 rfl)) (fun _ h9 => h9) rfl dX11_takeNumber_101 ?_
            refine lv_aload_n hx hb dX11_takeNumber_104 rfl (lv_at hl 1 rfl) ?_
            refine va_get (D := (dC, dI)) (ci := 11) (v := .int (nI k42)) (C := RX11) (T := TX11) (N := 46) hx hb hts hi_X11 hown hK hP 0 rfl rfl 15 (by decide) (hts (.fieldLink RX11 116 "LeftQuillsModel" "at0" "I") (wmx 3 rfl)) (fun _ h9 => h9) rfl dX11_takeNumber_105 ?_
            refine va_iald hx hb hK hP 1 0 rfl rfl (vp_in_nI (n := k42) (N := 220) (by omega) (by decide)) dX11_takeNumber_108 ?_
            refine W.eq (g2 := F0 m 109 ls [.int (fm12 k42), .int (10 * i42_h0_16), .ref h0]) (congrArg (fun y9 => F0 m 109 ls (.int (fm12 y9) :: [.int (10 * i42_h0_16), .ref h0])) ((nI_clamp (n := k42) (by omega)))) ?_
            refine lv_iadd hx hb dX11_takeNumber_109 ?_
            refine lv_bipush (v := 48) hx hb dX11_takeNumber_110 (by decide) ?_
            refine lv_isub hx hb dX11_takeNumber_112 ?_
            refine va_put (D := (dC, dI)) (ci := 11) (v := .int (((10 * i42_h0_16) + (fm12 k42)) - 48)) (ty := .int) (C := RX11) (T := TX11) (N := 46) hx hb hts hi_X11 tyX11 tyX11_ok nmX11 hown hK hP hD hS 0 rfl rfl 16 (by decide) (hts (.fieldLink RX11 134 "LeftQuillsModel" "number" "I") (wmx 5 rfl)) (fun _ h9 => h9) rfl (by decide +kernel) rfl rfl (Nat.le_of_ble_eq_true rfl) dX11_takeNumber_113 (fun H locs hP hD hS => ?_)
            have hPD : pdW (dC, dI) vwCl A [(h0, .inr (11, (.int n0 :: .int n1 :: .int (nI nq) :: .ref m3 :: .ref m4 :: .ref m5 :: .int (nI nh) :: .ref m7 :: .ref m8 :: .ref m9 :: .ref m10 :: .int (nI sd) :: .ref m12 :: .int (nI tx) :: .int n14 :: .int (nI k42) :: .int (((10 * i42_h0_16) + (fm12 k42)) - 48) :: .int (nI k4) :: .ref m18 :: .int (nI rq) :: .ref m20 :: .ref m21 :: .ref m22 :: .ref m23 :: .ref m24 :: .int (nI rh) :: .ref m26 :: .ref m27 :: .ref m28 :: .int (nI un) :: .ref m30 :: .int n31 :: .int n32 :: .ref m33 :: .int n34 :: .int n35 :: .ref m36 :: .int (nI wm) :: .ref m38 :: .ref m39 :: .ref m40 :: .int (nI bk) :: .ref m42 :: .ref m43 :: .ref m44 :: .ref m45 :: []))), (m12, .inl (cI, 220, .inl fm12))] H := ⟨hP, hD⟩
            have hP := hPD.1
            have hD := hPD.2
            clear hPD
            refine lv_aload_n hx hb dX11_takeNumber_116 rfl (lv_at hl 1 rfl) ?_
            refine lv_dup hx hb dX11_takeNumber_117 rfl ?_
            refine va_get (D := (dC, dI)) (ci := 11) (v := .int (nI k42)) (C := RX11) (T := TX11) (N := 46) hx hb hts hi_X11 hown hK hP 0 rfl rfl 15 (by decide) (hts (.fieldLink RX11 116 "LeftQuillsModel" "at0" "I") (wmx 3 rfl)) (fun _ h9 => h9) rfl dX11_takeNumber_118 ?_
            refine lv_iconst (v := 1) hx hb dX11_takeNumber_121 (by decide) ?_
            refine lv_iadd hx hb dX11_takeNumber_122 ?_
            refine lv_topi (fun z39 ez39 => ?_)
            obtain rfl : z39 = nI (k42 + 1) := ez39.trans (nI_add k42 1)
            refine va_put (D := (dC, dI)) (ci := 11) (v := .int (nI (k42 + 1))) (ty := .int) (C := RX11) (T := TX11) (N := 46) hx hb hts hi_X11 tyX11 tyX11_ok nmX11 hown hK hP hD hS 0 rfl rfl 15 (by decide) (hts (.fieldLink RX11 116 "LeftQuillsModel" "at0" "I") (wmx 3 rfl)) (fun _ h9 => h9) rfl (by decide +kernel) rfl rfl (Nat.le_of_ble_eq_true rfl) dX11_takeNumber_123 (fun H locs hP hD hS => ?_)
            have hPD : pdW (dC, dI) vwCl A [(h0, .inr (11, (.int n0 :: .int n1 :: .int (nI nq) :: .ref m3 :: .ref m4 :: .ref m5 :: .int (nI nh) :: .ref m7 :: .ref m8 :: .ref m9 :: .ref m10 :: .int (nI sd) :: .ref m12 :: .int (nI tx) :: .int n14 :: .int (nI (k42 + 1)) :: .int (((10 * i42_h0_16) + (fm12 k42)) - 48) :: .int (nI k4) :: .ref m18 :: .int (nI rq) :: .ref m20 :: .ref m21 :: .ref m22 :: .ref m23 :: .ref m24 :: .int (nI rh) :: .ref m26 :: .ref m27 :: .ref m28 :: .int (nI un) :: .ref m30 :: .int n31 :: .int n32 :: .ref m33 :: .int n34 :: .int n35 :: .ref m36 :: .int (nI wm) :: .ref m38 :: .ref m39 :: .ref m40 :: .int (nI bk) :: .ref m42 :: .ref m43 :: .ref m44 :: .ref m45 :: []))), (m12, .inl (cI, 220, .inl fm12))] H := ⟨hP, hD⟩
            have hP := hPD.1
            have hD := hPD.2
            clear hPD
            refine lv_goto (tgt := 42) hx hb dX11_takeNumber_126 (by decide) ?_
            exact ih42 (k42 + 1) (((10 * i42_h0_16) + (fm12 k42)) - 48) _ _ _ (by omega) (by omega) ((dg_step (by omega) (by rw [← hT _ (by omega)]; exact hw36)).trans hv42_0) (fun h9 => by rw [w3_s (by omega), ← hv42_1 (by omega), ← hT _ (by omega), Int32.mul_comm]) hP hD hS (lv_sub hl [0, 1, 2, 3] rfl)
          ·
            refine lv_aload_n hx hb dX11_takeNumber_86 rfl (lv_at hl 1 rfl) ?_
            refine va_get (D := (dC, dI)) (ci := 11) (v := .int i42_h0_16) (C := RX11) (T := TX11) (N := 46) hx hb hts hi_X11 hown hK hP 0 rfl rfl 16 (by decide) (hts (.fieldLink RX11 134 "LeftQuillsModel" "number" "I") (wmx 5 rfl)) (fun _ h9 => h9) rfl dX11_takeNumber_87 ?_
            refine lv_goto (tgt := 113) hx hb dX11_takeNumber_90 (by decide) ?_
            refine va_put (D := (dC, dI)) (ci := 11) (v := .int i42_h0_16) (ty := .int) (C := RX11) (T := TX11) (N := 46) hx hb hts hi_X11 tyX11 tyX11_ok nmX11 hown hK hP hD hS 0 rfl rfl 16 (by decide) (hts (.fieldLink RX11 134 "LeftQuillsModel" "number" "I") (wmx 5 rfl)) (fun _ h9 => h9) rfl (by decide +kernel) rfl rfl (Nat.le_of_ble_eq_true rfl) dX11_takeNumber_113 (fun H locs hP hD hS => ?_)
            have hPD : pdW (dC, dI) vwCl A [(h0, .inr (11, (.int n0 :: .int n1 :: .int (nI nq) :: .ref m3 :: .ref m4 :: .ref m5 :: .int (nI nh) :: .ref m7 :: .ref m8 :: .ref m9 :: .ref m10 :: .int (nI sd) :: .ref m12 :: .int (nI tx) :: .int n14 :: .int (nI k42) :: .int i42_h0_16 :: .int (nI k4) :: .ref m18 :: .int (nI rq) :: .ref m20 :: .ref m21 :: .ref m22 :: .ref m23 :: .ref m24 :: .int (nI rh) :: .ref m26 :: .ref m27 :: .ref m28 :: .int (nI un) :: .ref m30 :: .int n31 :: .int n32 :: .ref m33 :: .int n34 :: .int n35 :: .ref m36 :: .int (nI wm) :: .ref m38 :: .ref m39 :: .ref m40 :: .int (nI bk) :: .ref m42 :: .ref m43 :: .ref m44 :: .ref m45 :: []))), (m12, .inl (cI, 220, .inl fm12))] H := ⟨hP, hD⟩
            have hP := hPD.1
            have hD := hPD.2
            clear hPD
            refine lv_aload_n hx hb dX11_takeNumber_116 rfl (lv_at hl 1 rfl) ?_
            refine lv_dup hx hb dX11_takeNumber_117 rfl ?_
            refine va_get (D := (dC, dI)) (ci := 11) (v := .int (nI k42)) (C := RX11) (T := TX11) (N := 46) hx hb hts hi_X11 hown hK hP 0 rfl rfl 15 (by decide) (hts (.fieldLink RX11 116 "LeftQuillsModel" "at0" "I") (wmx 3 rfl)) (fun _ h9 => h9) rfl dX11_takeNumber_118 ?_
            refine lv_iconst (v := 1) hx hb dX11_takeNumber_121 (by decide) ?_
            refine lv_iadd hx hb dX11_takeNumber_122 ?_
            refine lv_topi (fun z40 ez40 => ?_)
            obtain rfl : z40 = nI (k42 + 1) := ez40.trans (nI_add k42 1)
            refine va_put (D := (dC, dI)) (ci := 11) (v := .int (nI (k42 + 1))) (ty := .int) (C := RX11) (T := TX11) (N := 46) hx hb hts hi_X11 tyX11 tyX11_ok nmX11 hown hK hP hD hS 0 rfl rfl 15 (by decide) (hts (.fieldLink RX11 116 "LeftQuillsModel" "at0" "I") (wmx 3 rfl)) (fun _ h9 => h9) rfl (by decide +kernel) rfl rfl (Nat.le_of_ble_eq_true rfl) dX11_takeNumber_123 (fun H locs hP hD hS => ?_)
            have hPD : pdW (dC, dI) vwCl A [(h0, .inr (11, (.int n0 :: .int n1 :: .int (nI nq) :: .ref m3 :: .ref m4 :: .ref m5 :: .int (nI nh) :: .ref m7 :: .ref m8 :: .ref m9 :: .ref m10 :: .int (nI sd) :: .ref m12 :: .int (nI tx) :: .int n14 :: .int (nI (k42 + 1)) :: .int i42_h0_16 :: .int (nI k4) :: .ref m18 :: .int (nI rq) :: .ref m20 :: .ref m21 :: .ref m22 :: .ref m23 :: .ref m24 :: .int (nI rh) :: .ref m26 :: .ref m27 :: .ref m28 :: .int (nI un) :: .ref m30 :: .int n31 :: .int n32 :: .ref m33 :: .int n34 :: .int n35 :: .ref m36 :: .int (nI wm) :: .ref m38 :: .ref m39 :: .ref m40 :: .int (nI bk) :: .ref m42 :: .ref m43 :: .ref m44 :: .ref m45 :: []))), (m12, .inl (cI, 220, .inl fm12))] H := ⟨hP, hD⟩
            have hP := hPD.1
            have hD := hPD.2
            clear hPD
            refine lv_goto (tgt := 42) hx hb dX11_takeNumber_126 (by decide) ?_
            exact ih42 (k42 + 1) i42_h0_16 _ _ _ (by omega) (by omega) ((dg_step (by omega) (by rw [← hT _ (by omega)]; exact hw36)).trans hv42_0) (fun h9 => absurd (w3_big (by omega) (by omega) hv42_0 (hv42_1 (by omega))) c38) hP hD hS (lv_sub hl [0, 1, 2, 3] rfl)
        ·
          refine lv_if_eq (tgt := 129) hx hb dX11_takeNumber_72 (by decide) (fun c41 => ?_) (fun c41 => ?_)
          rotate_left
          · exact absurd c41 (by decide)
          clear c41
          refine lv_aload_n hx hb dX11_takeNumber_129 rfl (lv_at hl 1 rfl) ?_
          refine va_get (D := (dC, dI)) (ci := 11) (v := .int (nI k42)) (C := RX11) (T := TX11) (N := 46) hx hb hts hi_X11 hown hK hP 0 rfl rfl 15 (by decide) (hts (.fieldLink RX11 116 "LeftQuillsModel" "at0" "I") (wmx 3 rfl)) (fun _ h9 => h9) rfl dX11_takeNumber_130 ?_
          refine lv_aload_n hx hb dX11_takeNumber_133 rfl (lv_at hl 1 rfl) ?_
          refine va_get (D := (dC, dI)) (ci := 11) (v := .int (nI k4)) (C := RX11) (T := TX11) (N := 46) hx hb hts hi_X11 hown hK hP 0 rfl rfl 17 (by decide) (hts (.fieldLink RX11 131 "LeftQuillsModel" "numberAt" "I") (wmx 4 rfl)) (fun _ h9 => h9) rfl dX11_takeNumber_134 ?_
          refine lv_isub hx hb dX11_takeNumber_137 ?_
          refine lv_topi (fun z42 ez42 => ?_)
          obtain rfl : z42 = nI (k42 - k4) := ez42.trans (pk_sub (a := k42) (b := k4) (by omega))
          refine lv_iconst (v := 3) hx hb dX11_takeNumber_138 (by decide) ?_
          refine lv_icmp_gt (tgt := 157) hx hb dX11_takeNumber_139 (by decide) (fun c43 => ?_) (fun c43 => ?_)
          ·
            have c43 : 3 < (k42 - k4) := (nI_ltI (a := 3) (b := k42 - k4) (by omega) (by omega)).mp c43
            refine lv_aload_n hx hb dX11_takeNumber_157 rfl (lv_at hl 1 rfl) ?_
            refine lv_iconst (v := 2) hx hb dX11_takeNumber_158 (by decide) ?_
            refine lv_aload_n hx hb dX11_takeNumber_159 rfl (lv_at hl 1 rfl) ?_
            refine va_get (D := (dC, dI)) (ci := 11) (v := .int (nI k4)) (C := RX11) (T := TX11) (N := 46) hx hb hts hi_X11 hown hK hP 0 rfl rfl 17 (by decide) (hts (.fieldLink RX11 131 "LeftQuillsModel" "numberAt" "I") (wmx 4 rfl)) (fun _ h9 => h9) rfl dX11_takeNumber_160 ?_
            have hc9 := va_cut (W' := [(h0, .inr (11, (.int n0 :: .int n1 :: .int (nI nq) :: .ref m3 :: .ref m4 :: .ref m5 :: .int (nI nh) :: .ref m7 :: .ref m8 :: .ref m9 :: .ref m10 :: .int (nI sd) :: .ref m12 :: .int (nI tx) :: .int n14 :: .int (nI k42) :: .int i42_h0_16 :: .int (nI k4) :: .ref m18 :: .int (nI rq) :: .ref m20 :: .ref m21 :: .ref m22 :: .ref m23 :: .ref m24 :: .int (nI rh) :: .ref m26 :: .ref m27 :: .ref m28 :: .int (nI un) :: .ref m30 :: .int n31 :: .int n32 :: .ref m33 :: .int n34 :: .int n35 :: .ref m36 :: .int (nI wm) :: .ref m38 :: .ref m39 :: .ref m40 :: .int (nI bk) :: .ref m42 :: .ref m43 :: .ref m44 :: .ref m45 :: [])))]) hP hD hS hA [0] (by decide) rfl
            have hPc := hc9.1
            have hDc := hc9.2.1
            have hFc := hc9.2.2
            clear hc9
            refine va_calli (va_runV (As := [.int 2, .int (nI k4)]) (rest := []) ⟨hx, hb, hml, hown, hts⟩ (c_X11_failsF l dC dI cI cZ cQ h0 n0 n1 nq m3 m4 m5 nh m7 m8 m9 m10 sd m12 tx n14 k42 i42_h0_16 (nI k4) m18 rq m20 m21 m22 m23 m24 rh m26 m27 m28 un m30 n31 n32 m33 n34 n35 m36 wm m38 m39 m40 bk m42 m43 m44 m45 2 (nI k4) H.size ) (cwV 2 hts gX11_takeNumber_X11_fails rfl rfl rfl hd_X11_fails_RX11 ⟨Nat.le_of_ble_eq_true rfl, Nat.le_of_ble_eq_true rfl⟩) (pv_D (va_recv hK hP (ci := 11) (q0 := 0) rfl rfl) hK hPc hDc) rfl rfl hl.1 rfl (lv_room (Nat.le_of_ble_eq_true rfl)) dX11_takeNumber_163 ⟨Nat.le_of_ble_eq_true rfl, Nat.le_of_ble_eq_true rfl⟩) hS (fun q _ h => hFc q h) hFc (fun r44 u45 t H1 locs ht hvm hw46 hB hz1 hk1 hS => ?_)
            obtain ⟨i47, he48, hP1, hD1⟩ := hB
            replace hP1 := va_hp ht hP1
            obtain ⟨hP, hD⟩ := va_join (wr := [(m12, .inl (cI, 220, .inl fm12))]) (w1 := [(h0, .inr (11, (.int n0 :: .int n1 :: .int (nI nq) :: .ref m3 :: .ref m4 :: .ref m5 :: .int (nI nh) :: .ref m7 :: .ref m8 :: .ref m9 :: .ref m10 :: .int (nI sd) :: .ref m12 :: .int (nI tx) :: .int i47 :: .int (nI k42) :: .int i42_h0_16 :: .int (nI k4) :: .ref m18 :: .int (nI rq) :: .ref m20 :: .ref m21 :: .ref m22 :: .ref m23 :: .ref m24 :: .int (nI rh) :: .ref m26 :: .ref m27 :: .ref m28 :: .int (nI un) :: .ref m30 :: .int n31 :: .int n32 :: .ref m33 :: .int n34 :: .int n35 :: .ref m36 :: .int (nI wm) :: .ref m38 :: .ref m39 :: .ref m40 :: .int (nI bk) :: .ref m42 :: .ref m43 :: .ref m44 :: .ref m45 :: [])))]) hP hD [0] [1] rfl rfl (by decide +kernel) (by decide +kernel) hk1 hFc hP1 hD1
            clear hP1 hD1
            clear hz1 hk1 hPc hDc hFc
            generalize H1 = H at hP hS ht ⊢
            have hPD : pdW (dC, dI) vwCl A [(m12, .inl (cI, 220, .inl fm12)), (h0, .inr (11, (.int n0 :: .int n1 :: .int (nI nq) :: .ref m3 :: .ref m4 :: .ref m5 :: .int (nI nh) :: .ref m7 :: .ref m8 :: .ref m9 :: .ref m10 :: .int (nI sd) :: .ref m12 :: .int (nI tx) :: .int i47 :: .int (nI k42) :: .int i42_h0_16 :: .int (nI k4) :: .ref m18 :: .int (nI rq) :: .ref m20 :: .ref m21 :: .ref m22 :: .ref m23 :: .ref m24 :: .int (nI rh) :: .ref m26 :: .ref m27 :: .ref m28 :: .int (nI un) :: .ref m30 :: .int n31 :: .int n32 :: .ref m33 :: .int n34 :: .int n35 :: .ref m36 :: .int (nI wm) :: .ref m38 :: .ref m39 :: .ref m40 :: .int (nI bk) :: .ref m42 :: .ref m43 :: .ref m44 :: .ref m45 :: [])))] H := ⟨hP, hD⟩
            have hP := hPD.1
            have hD := hPD.2
            clear hPD
            try dsimp only at hw46
            obtain rfl : r44 = 2 := hw46
            subst he48
            have hPD : pdW (dC, dI) vwCl A [(m12, .inl (cI, 220, .inl fm12)), (h0, .inr (11, (.int n0 :: .int n1 :: .int (nI nq) :: .ref m3 :: .ref m4 :: .ref m5 :: .int (nI nh) :: .ref m7 :: .ref m8 :: .ref m9 :: .ref m10 :: .int (nI sd) :: .ref m12 :: .int (nI tx) :: .int (nI k4) :: .int (nI k42) :: .int i42_h0_16 :: .int (nI k4) :: .ref m18 :: .int (nI rq) :: .ref m20 :: .ref m21 :: .ref m22 :: .ref m23 :: .ref m24 :: .int (nI rh) :: .ref m26 :: .ref m27 :: .ref m28 :: .int (nI un) :: .ref m30 :: .int n31 :: .int n32 :: .ref m33 :: .int n34 :: .int n35 :: .ref m36 :: .int (nI wm) :: .ref m38 :: .ref m39 :: .ref m40 :: .int (nI bk) :: .ref m42 :: .ref m43 :: .ref m44 :: .ref m45 :: [])))] H := ⟨hP, hD⟩
            have hP := hPD.1
            have hD := hPD.2
            clear hPD
            refine lv_goto (tgt := 170) hx hb dX11_takeNumber_166 (by decide) ?_
            have hP9 := hP.sub (ws' := [(h0, .inr (11, (.int n0 :: .int n1 :: .int (nI nq) :: .ref m3 :: .ref m4 :: .ref m5 :: .int (nI nh) :: .ref m7 :: .ref m8 :: .ref m9 :: .ref m10 :: .int (nI sd) :: .ref m12 :: .int (nI tx) :: .int (nI k4) :: .int (nI k42) :: .int i42_h0_16 :: .int (nI k4) :: .ref m18 :: .int (nI rq) :: .ref m20 :: .ref m21 :: .ref m22 :: .ref m23 :: .ref m24 :: .int (nI rh) :: .ref m26 :: .ref m27 :: .ref m28 :: .int (nI un) :: .ref m30 :: .int n31 :: .int n32 :: .ref m33 :: .int n34 :: .int n35 :: .ref m36 :: .int (nI wm) :: .ref m38 :: .ref m39 :: .ref m40 :: .int (nI bk) :: .ref m42 :: .ref m43 :: .ref m44 :: .ref m45 :: []))), (m12, .inl (cI, 220, .inl fm12))]) [1, 0] rfl
            have hD9 := hD.sub (ws' := [(h0, .inr (11, (.int n0 :: .int n1 :: .int (nI nq) :: .ref m3 :: .ref m4 :: .ref m5 :: .int (nI nh) :: .ref m7 :: .ref m8 :: .ref m9 :: .ref m10 :: .int (nI sd) :: .ref m12 :: .int (nI tx) :: .int (nI k4) :: .int (nI k42) :: .int i42_h0_16 :: .int (nI k4) :: .ref m18 :: .int (nI rq) :: .ref m20 :: .ref m21 :: .ref m22 :: .ref m23 :: .ref m24 :: .int (nI rh) :: .ref m26 :: .ref m27 :: .ref m28 :: .int (nI un) :: .ref m30 :: .int n31 :: .int n32 :: .ref m33 :: .int n34 :: .int n35 :: .ref m36 :: .int (nI wm) :: .ref m38 :: .ref m39 :: .ref m40 :: .int (nI bk) :: .ref m42 :: .ref m43 :: .ref m44 :: .ref m45 :: []))), (m12, .inl (cI, 220, .inl fm12))]) [1, 0] (by decide +kernel) rfl
            exact W.iret (v := 2) hx hb hr (fun t ht hW => ⟨⟨2, (fun _ => 2), rfl, ⟨rfl, by decide⟩, ⟨(nI k4), i42_h0_16, (nI k4), k42, by omega, (by have h9 := nm_2a (lo := nI lo) (hi := nI hi) he5 (hv42_0.symm.trans (dg_stop (fun c9 => hw36 (by rw [hT _ (by omega)]; exact c9.2)))) (by omega); exact ⟨h9.symm, fun h => absurd h (by decide), fun _ => by rw [← he5]⟩), (by have := sk_ge (T := T0) (n := tx) (p := at9); omega), (fun h => absurd h (by decide)), va_hq ht hP9, hD9⟩⟩, hS.F ht⟩) hS.2.2 dX11_takeNumber_170
          ·
            have c43 : ¬ 3 < (k42 - k4) := fun h => c43 ((nI_ltI (a := 3) (b := k42 - k4) (by omega) (by omega)).mpr h)
            refine lv_aload_n hx hb dX11_takeNumber_142 rfl (lv_at hl 1 rfl) ?_
            refine va_get (D := (dC, dI)) (ci := 11) (v := .int i42_h0_16) (C := RX11) (T := TX11) (N := 46) hx hb hts hi_X11 hown hK hP 0 rfl rfl 16 (by decide) (hts (.fieldLink RX11 134 "LeftQuillsModel" "number" "I") (wmx 5 rfl)) (fun _ h9 => h9) rfl dX11_takeNumber_143 ?_
            refine lv_i2l hx hb dX11_takeNumber_146 rfl ?_
            refine lv_iload_n hx hb dX11_takeNumber_147 rfl (lv_at hl 2 rfl) ?_
            refine lv_i2l hx hb dX11_takeNumber_148 rfl ?_
            refine lv_iload_n hx hb dX11_takeNumber_149 rfl (lv_at hl 3 rfl) ?_
            refine lv_i2l hx hb dX11_takeNumber_150 rfl ?_
            have hPc := hP.sub (ws' := []) [] rfl
            refine va_calli (va_runS (As := [.long i42_h0_16.toInt64, .long ((nI lo).toInt64), .long ((nI hi).toInt64)]) (rest := []) ⟨hx, hb, hml, hown, hts⟩ (c_X11_in l dC dI cI cZ cQ i42_h0_16 (nI lo) (nI hi) H.size ) (va_cwS 3 hts gX11_takeNumber_X11_in rfl rfl rfl (by decide +kernel) ⟨Nat.le_of_ble_eq_true rfl, Nat.le_of_ble_eq_true rfl⟩) (ps_R hK hPc) rfl rfl hl.1 rfl (lv_room (Nat.le_of_ble_eq_true rfl)) dX11_takeNumber_151 ⟨Nat.le_of_ble_eq_true rfl, Nat.le_of_ble_eq_true rfl⟩) hS (fun q _ h => False.elim h) (fun q h => False.elim h) (fun r49 u50 t H1 locs ht hvm hw51 hB hz1 hk1 hS => ?_)
            have hP := hP.kept (fun k q hk => hk1 q.1 (hP k q hk).lt (fun h => h))
            clear hz1 hk1 hPc
            generalize H1 = H at hP hS ht ⊢
            try dsimp only at hw51
            rcases hw51 with ⟨rfl, hw51⟩ | ⟨rfl, hw51⟩
            ·
              refine lv_if_ne (tgt := 169) hx hb dX11_takeNumber_154 (by decide) (fun c52 => ?_) (fun c52 => ?_)
              rotate_left
              · exact absurd c52 (by decide)
              clear c52
              refine lv_iconst (v := 0) hx hb dX11_takeNumber_169 (by decide) ?_
              have hP9 := hP.sub (ws' := [(h0, .inr (11, (.int n0 :: .int n1 :: .int (nI nq) :: .ref m3 :: .ref m4 :: .ref m5 :: .int (nI nh) :: .ref m7 :: .ref m8 :: .ref m9 :: .ref m10 :: .int (nI sd) :: .ref m12 :: .int (nI tx) :: .int n14 :: .int (nI k42) :: .int i42_h0_16 :: .int (nI k4) :: .ref m18 :: .int (nI rq) :: .ref m20 :: .ref m21 :: .ref m22 :: .ref m23 :: .ref m24 :: .int (nI rh) :: .ref m26 :: .ref m27 :: .ref m28 :: .int (nI un) :: .ref m30 :: .int n31 :: .int n32 :: .ref m33 :: .int n34 :: .int n35 :: .ref m36 :: .int (nI wm) :: .ref m38 :: .ref m39 :: .ref m40 :: .int (nI bk) :: .ref m42 :: .ref m43 :: .ref m44 :: .ref m45 :: []))), (m12, .inl (cI, 220, .inl fm12))]) [0, 1] rfl
              have hD9 := hD.sub (ws' := [(h0, .inr (11, (.int n0 :: .int n1 :: .int (nI nq) :: .ref m3 :: .ref m4 :: .ref m5 :: .int (nI nh) :: .ref m7 :: .ref m8 :: .ref m9 :: .ref m10 :: .int (nI sd) :: .ref m12 :: .int (nI tx) :: .int n14 :: .int (nI k42) :: .int i42_h0_16 :: .int (nI k4) :: .ref m18 :: .int (nI rq) :: .ref m20 :: .ref m21 :: .ref m22 :: .ref m23 :: .ref m24 :: .int (nI rh) :: .ref m26 :: .ref m27 :: .ref m28 :: .int (nI un) :: .ref m30 :: .int n31 :: .int n32 :: .ref m33 :: .int n34 :: .int n35 :: .ref m36 :: .int (nI wm) :: .ref m38 :: .ref m39 :: .ref m40 :: .int (nI bk) :: .ref m42 :: .ref m43 :: .ref m44 :: .ref m45 :: []))), (m12, .inl (cI, 220, .inl fm12))]) [0, 1] (by decide +kernel) rfl
              exact W.iret (v := 0) hx hb hr (fun t ht hW => ⟨⟨0, (fun _ => 0), rfl, ⟨rfl, by decide⟩, ⟨n14, i42_h0_16, (nI k4), k42, by omega, (by have h9 := nm_0c (lo := nI lo) (hi := nI hi) he5 (hv42_0.symm.trans (dg_stop (fun c9 => hw36 (by rw [hT _ (by omega)]; exact c9.2)))) (fun h9 => dg_ne hf11 ((hv42_0.symm.trans (dg_stop (fun c9 => hw36 (by rw [hT _ (by omega)]; exact c9.2)))).trans h9)) (by omega) (hv42_1 (by omega)) hw51; exact ⟨h9.1.symm, fun _ => ⟨h9.2.1, h9.2.2, rfl⟩, fun h => absurd rfl h⟩), (by have := sk_ge (T := T0) (n := tx) (p := at9); omega), (fun _ => by obtain ⟨c, _, hc, e⟩ := x_rng (by omega) (by omega) hw51; exact ⟨c, hc, e⟩), va_hq ht hP9, hD9⟩⟩, hS.F ht⟩) hS.2.2 dX11_takeNumber_170
            ·
              refine lv_if_ne (tgt := 169) hx hb dX11_takeNumber_154 (by decide) (fun c53 => ?_) (fun c53 => ?_)
              · exact absurd c53 (by decide)
              clear c53
              refine lv_aload_n hx hb dX11_takeNumber_157 rfl (lv_at hl 1 rfl) ?_
              refine lv_iconst (v := 2) hx hb dX11_takeNumber_158 (by decide) ?_
              refine lv_aload_n hx hb dX11_takeNumber_159 rfl (lv_at hl 1 rfl) ?_
              refine va_get (D := (dC, dI)) (ci := 11) (v := .int (nI k4)) (C := RX11) (T := TX11) (N := 46) hx hb hts hi_X11 hown hK hP 0 rfl rfl 17 (by decide) (hts (.fieldLink RX11 131 "LeftQuillsModel" "numberAt" "I") (wmx 4 rfl)) (fun _ h9 => h9) rfl dX11_takeNumber_160 ?_
              have hc9 := va_cut (W' := [(h0, .inr (11, (.int n0 :: .int n1 :: .int (nI nq) :: .ref m3 :: .ref m4 :: .ref m5 :: .int (nI nh) :: .ref m7 :: .ref m8 :: .ref m9 :: .ref m10 :: .int (nI sd) :: .ref m12 :: .int (nI tx) :: .int n14 :: .int (nI k42) :: .int i42_h0_16 :: .int (nI k4) :: .ref m18 :: .int (nI rq) :: .ref m20 :: .ref m21 :: .ref m22 :: .ref m23 :: .ref m24 :: .int (nI rh) :: .ref m26 :: .ref m27 :: .ref m28 :: .int (nI un) :: .ref m30 :: .int n31 :: .int n32 :: .ref m33 :: .int n34 :: .int n35 :: .ref m36 :: .int (nI wm) :: .ref m38 :: .ref m39 :: .ref m40 :: .int (nI bk) :: .ref m42 :: .ref m43 :: .ref m44 :: .ref m45 :: [])))]) hP hD hS hA [0] (by decide) rfl
              have hPc := hc9.1
              have hDc := hc9.2.1
              have hFc := hc9.2.2
              clear hc9
              refine va_calli (va_runV (As := [.int 2, .int (nI k4)]) (rest := []) ⟨hx, hb, hml, hown, hts⟩ (c_X11_failsF l dC dI cI cZ cQ h0 n0 n1 nq m3 m4 m5 nh m7 m8 m9 m10 sd m12 tx n14 k42 i42_h0_16 (nI k4) m18 rq m20 m21 m22 m23 m24 rh m26 m27 m28 un m30 n31 n32 m33 n34 n35 m36 wm m38 m39 m40 bk m42 m43 m44 m45 2 (nI k4) H.size ) (cwV 2 hts gX11_takeNumber_X11_fails rfl rfl rfl hd_X11_fails_RX11 ⟨Nat.le_of_ble_eq_true rfl, Nat.le_of_ble_eq_true rfl⟩) (pv_D (va_recv hK hP (ci := 11) (q0 := 0) rfl rfl) hK hPc hDc) rfl rfl hl.1 rfl (lv_room (Nat.le_of_ble_eq_true rfl)) dX11_takeNumber_163 ⟨Nat.le_of_ble_eq_true rfl, Nat.le_of_ble_eq_true rfl⟩) hS (fun q _ h => hFc q h) hFc (fun r54 u55 t H1 locs ht hvm hw56 hB hz1 hk1 hS => ?_)
              obtain ⟨i57, he58, hP1, hD1⟩ := hB
              replace hP1 := va_hp ht hP1
              obtain ⟨hP, hD⟩ := va_join (wr := [(m12, .inl (cI, 220, .inl fm12))]) (w1 := [(h0, .inr (11, (.int n0 :: .int n1 :: .int (nI nq) :: .ref m3 :: .ref m4 :: .ref m5 :: .int (nI nh) :: .ref m7 :: .ref m8 :: .ref m9 :: .ref m10 :: .int (nI sd) :: .ref m12 :: .int (nI tx) :: .int i57 :: .int (nI k42) :: .int i42_h0_16 :: .int (nI k4) :: .ref m18 :: .int (nI rq) :: .ref m20 :: .ref m21 :: .ref m22 :: .ref m23 :: .ref m24 :: .int (nI rh) :: .ref m26 :: .ref m27 :: .ref m28 :: .int (nI un) :: .ref m30 :: .int n31 :: .int n32 :: .ref m33 :: .int n34 :: .int n35 :: .ref m36 :: .int (nI wm) :: .ref m38 :: .ref m39 :: .ref m40 :: .int (nI bk) :: .ref m42 :: .ref m43 :: .ref m44 :: .ref m45 :: [])))]) hP hD [0] [1] rfl rfl (by decide +kernel) (by decide +kernel) hk1 hFc hP1 hD1
              clear hP1 hD1
              clear hz1 hk1 hPc hDc hFc
              generalize H1 = H at hP hS ht ⊢
              have hPD : pdW (dC, dI) vwCl A [(m12, .inl (cI, 220, .inl fm12)), (h0, .inr (11, (.int n0 :: .int n1 :: .int (nI nq) :: .ref m3 :: .ref m4 :: .ref m5 :: .int (nI nh) :: .ref m7 :: .ref m8 :: .ref m9 :: .ref m10 :: .int (nI sd) :: .ref m12 :: .int (nI tx) :: .int i57 :: .int (nI k42) :: .int i42_h0_16 :: .int (nI k4) :: .ref m18 :: .int (nI rq) :: .ref m20 :: .ref m21 :: .ref m22 :: .ref m23 :: .ref m24 :: .int (nI rh) :: .ref m26 :: .ref m27 :: .ref m28 :: .int (nI un) :: .ref m30 :: .int n31 :: .int n32 :: .ref m33 :: .int n34 :: .int n35 :: .ref m36 :: .int (nI wm) :: .ref m38 :: .ref m39 :: .ref m40 :: .int (nI bk) :: .ref m42 :: .ref m43 :: .ref m44 :: .ref m45 :: [])))] H := ⟨hP, hD⟩
              have hP := hPD.1
              have hD := hPD.2
              clear hPD
              try dsimp only at hw56
              obtain rfl : r54 = 2 := hw56
              subst he58
              have hPD : pdW (dC, dI) vwCl A [(m12, .inl (cI, 220, .inl fm12)), (h0, .inr (11, (.int n0 :: .int n1 :: .int (nI nq) :: .ref m3 :: .ref m4 :: .ref m5 :: .int (nI nh) :: .ref m7 :: .ref m8 :: .ref m9 :: .ref m10 :: .int (nI sd) :: .ref m12 :: .int (nI tx) :: .int (nI k4) :: .int (nI k42) :: .int i42_h0_16 :: .int (nI k4) :: .ref m18 :: .int (nI rq) :: .ref m20 :: .ref m21 :: .ref m22 :: .ref m23 :: .ref m24 :: .int (nI rh) :: .ref m26 :: .ref m27 :: .ref m28 :: .int (nI un) :: .ref m30 :: .int n31 :: .int n32 :: .ref m33 :: .int n34 :: .int n35 :: .ref m36 :: .int (nI wm) :: .ref m38 :: .ref m39 :: .ref m40 :: .int (nI bk) :: .ref m42 :: .ref m43 :: .ref m44 :: .ref m45 :: [])))] H := ⟨hP, hD⟩
              have hP := hPD.1
              have hD := hPD.2
              clear hPD
              refine lv_goto (tgt := 170) hx hb dX11_takeNumber_166 (by decide) ?_
              have hP9 := hP.sub (ws' := [(h0, .inr (11, (.int n0 :: .int n1 :: .int (nI nq) :: .ref m3 :: .ref m4 :: .ref m5 :: .int (nI nh) :: .ref m7 :: .ref m8 :: .ref m9 :: .ref m10 :: .int (nI sd) :: .ref m12 :: .int (nI tx) :: .int (nI k4) :: .int (nI k42) :: .int i42_h0_16 :: .int (nI k4) :: .ref m18 :: .int (nI rq) :: .ref m20 :: .ref m21 :: .ref m22 :: .ref m23 :: .ref m24 :: .int (nI rh) :: .ref m26 :: .ref m27 :: .ref m28 :: .int (nI un) :: .ref m30 :: .int n31 :: .int n32 :: .ref m33 :: .int n34 :: .int n35 :: .ref m36 :: .int (nI wm) :: .ref m38 :: .ref m39 :: .ref m40 :: .int (nI bk) :: .ref m42 :: .ref m43 :: .ref m44 :: .ref m45 :: []))), (m12, .inl (cI, 220, .inl fm12))]) [1, 0] rfl
              have hD9 := hD.sub (ws' := [(h0, .inr (11, (.int n0 :: .int n1 :: .int (nI nq) :: .ref m3 :: .ref m4 :: .ref m5 :: .int (nI nh) :: .ref m7 :: .ref m8 :: .ref m9 :: .ref m10 :: .int (nI sd) :: .ref m12 :: .int (nI tx) :: .int (nI k4) :: .int (nI k42) :: .int i42_h0_16 :: .int (nI k4) :: .ref m18 :: .int (nI rq) :: .ref m20 :: .ref m21 :: .ref m22 :: .ref m23 :: .ref m24 :: .int (nI rh) :: .ref m26 :: .ref m27 :: .ref m28 :: .int (nI un) :: .ref m30 :: .int n31 :: .int n32 :: .ref m33 :: .int n34 :: .int n35 :: .ref m36 :: .int (nI wm) :: .ref m38 :: .ref m39 :: .ref m40 :: .int (nI bk) :: .ref m42 :: .ref m43 :: .ref m44 :: .ref m45 :: []))), (m12, .inl (cI, 220, .inl fm12))]) [1, 0] (by decide +kernel) rfl
              exact W.iret (v := 2) hx hb hr (fun t ht hW => ⟨⟨2, (fun _ => 2), rfl, ⟨rfl, by decide⟩, ⟨(nI k4), i42_h0_16, (nI k4), k42, by omega, (by have h9 := nm_2c (lo := nI lo) (hi := nI hi) he5 (hv42_0.symm.trans (dg_stop (fun c9 => hw36 (by rw [hT _ (by omega)]; exact c9.2)))) (fun h9 => dg_ne hf11 ((hv42_0.symm.trans (dg_stop (fun c9 => hw36 (by rw [hT _ (by omega)]; exact c9.2)))).trans h9)) (by omega) (hv42_1 (by omega)) hw51; exact ⟨h9.symm, fun h => absurd h (by decide), fun _ => by rw [← he5]⟩), (by have := sk_ge (T := T0) (n := tx) (p := at9); omega), (fun h => absurd h (by decide)), va_hq ht hP9, hD9⟩⟩, hS.F ht⟩) hS.2.2 dX11_takeNumber_170
  ·
    have hf59 : ¬ isFg (ltr T0 tx k4) := by
      rw [he5, ← hw3]
      exact hw10
    refine lv_if_ne (tgt := 29) hx hb dX11_takeNumber_16 (by decide) (fun c60 => ?_) (fun c60 => ?_)
    · exact absurd c60 (by decide)
    clear c60
    refine lv_aload_n hx hb dX11_takeNumber_19 rfl (lv_at hl 1 rfl) ?_
    refine lv_iconst (v := 1) hx hb dX11_takeNumber_20 (by decide) ?_
    refine lv_aload_n hx hb dX11_takeNumber_21 rfl (lv_at hl 1 rfl) ?_
    refine va_get (D := (dC, dI)) (ci := 11) (v := .int (nI k4)) (C := RX11) (T := TX11) (N := 46) hx hb hts hi_X11 hown hK hP 0 rfl rfl 15 (by decide) (hts (.fieldLink RX11 116 "LeftQuillsModel" "at0" "I") (wmx 3 rfl)) (fun _ h9 => h9) rfl dX11_takeNumber_22 ?_
    have hc9 := va_cut (W' := [(h0, .inr (11, (.int n0 :: .int n1 :: .int (nI nq) :: .ref m3 :: .ref m4 :: .ref m5 :: .int (nI nh) :: .ref m7 :: .ref m8 :: .ref m9 :: .ref m10 :: .int (nI sd) :: .ref m12 :: .int (nI tx) :: .int n14 :: .int (nI k4) :: .int n16 :: .int n17 :: .ref m18 :: .int (nI rq) :: .ref m20 :: .ref m21 :: .ref m22 :: .ref m23 :: .ref m24 :: .int (nI rh) :: .ref m26 :: .ref m27 :: .ref m28 :: .int (nI un) :: .ref m30 :: .int n31 :: .int n32 :: .ref m33 :: .int n34 :: .int n35 :: .ref m36 :: .int (nI wm) :: .ref m38 :: .ref m39 :: .ref m40 :: .int (nI bk) :: .ref m42 :: .ref m43 :: .ref m44 :: .ref m45 :: [])))]) hP hD hS hA [0] (by decide) rfl
    have hPc := hc9.1
    have hDc := hc9.2.1
    have hFc := hc9.2.2
    clear hc9
    refine va_calli (va_runV (As := [.int 1, .int (nI k4)]) (rest := []) ⟨hx, hb, hml, hown, hts⟩ (c_X11_failsF l dC dI cI cZ cQ h0 n0 n1 nq m3 m4 m5 nh m7 m8 m9 m10 sd m12 tx n14 k4 n16 n17 m18 rq m20 m21 m22 m23 m24 rh m26 m27 m28 un m30 n31 n32 m33 n34 n35 m36 wm m38 m39 m40 bk m42 m43 m44 m45 1 (nI k4) H.size ) (cwV 2 hts gX11_takeNumber_X11_fails rfl rfl rfl hd_X11_fails_RX11 ⟨Nat.le_of_ble_eq_true rfl, Nat.le_of_ble_eq_true rfl⟩) (pv_D (va_recv hK hP (ci := 11) (q0 := 0) rfl rfl) hK hPc hDc) rfl rfl hl.1 rfl (lv_room (Nat.le_of_ble_eq_true rfl)) dX11_takeNumber_25 ⟨Nat.le_of_ble_eq_true rfl, Nat.le_of_ble_eq_true rfl⟩) hS (fun q _ h => hFc q h) hFc (fun r61 u62 t H1 locs ht hvm hw63 hB hz1 hk1 hS => ?_)
    obtain ⟨i64, he65, hP1, hD1⟩ := hB
    replace hP1 := va_hp ht hP1
    obtain ⟨hP, hD⟩ := va_join (wr := [(m12, .inl (cI, 220, .inl fm12))]) (w1 := [(h0, .inr (11, (.int n0 :: .int n1 :: .int (nI nq) :: .ref m3 :: .ref m4 :: .ref m5 :: .int (nI nh) :: .ref m7 :: .ref m8 :: .ref m9 :: .ref m10 :: .int (nI sd) :: .ref m12 :: .int (nI tx) :: .int i64 :: .int (nI k4) :: .int n16 :: .int n17 :: .ref m18 :: .int (nI rq) :: .ref m20 :: .ref m21 :: .ref m22 :: .ref m23 :: .ref m24 :: .int (nI rh) :: .ref m26 :: .ref m27 :: .ref m28 :: .int (nI un) :: .ref m30 :: .int n31 :: .int n32 :: .ref m33 :: .int n34 :: .int n35 :: .ref m36 :: .int (nI wm) :: .ref m38 :: .ref m39 :: .ref m40 :: .int (nI bk) :: .ref m42 :: .ref m43 :: .ref m44 :: .ref m45 :: [])))]) hP hD [0] [1] rfl rfl (by decide +kernel) (by decide +kernel) hk1 hFc hP1 hD1
    clear hP1 hD1
    clear hz1 hk1 hPc hDc hFc
    generalize H1 = H at hP hS ht ⊢
    have hPD : pdW (dC, dI) vwCl A [(m12, .inl (cI, 220, .inl fm12)), (h0, .inr (11, (.int n0 :: .int n1 :: .int (nI nq) :: .ref m3 :: .ref m4 :: .ref m5 :: .int (nI nh) :: .ref m7 :: .ref m8 :: .ref m9 :: .ref m10 :: .int (nI sd) :: .ref m12 :: .int (nI tx) :: .int i64 :: .int (nI k4) :: .int n16 :: .int n17 :: .ref m18 :: .int (nI rq) :: .ref m20 :: .ref m21 :: .ref m22 :: .ref m23 :: .ref m24 :: .int (nI rh) :: .ref m26 :: .ref m27 :: .ref m28 :: .int (nI un) :: .ref m30 :: .int n31 :: .int n32 :: .ref m33 :: .int n34 :: .int n35 :: .ref m36 :: .int (nI wm) :: .ref m38 :: .ref m39 :: .ref m40 :: .int (nI bk) :: .ref m42 :: .ref m43 :: .ref m44 :: .ref m45 :: [])))] H := ⟨hP, hD⟩
    have hP := hPD.1
    have hD := hPD.2
    clear hPD
    try dsimp only at hw63
    obtain rfl : r61 = 1 := hw63
    subst he65
    have hPD : pdW (dC, dI) vwCl A [(m12, .inl (cI, 220, .inl fm12)), (h0, .inr (11, (.int n0 :: .int n1 :: .int (nI nq) :: .ref m3 :: .ref m4 :: .ref m5 :: .int (nI nh) :: .ref m7 :: .ref m8 :: .ref m9 :: .ref m10 :: .int (nI sd) :: .ref m12 :: .int (nI tx) :: .int (nI k4) :: .int (nI k4) :: .int n16 :: .int n17 :: .ref m18 :: .int (nI rq) :: .ref m20 :: .ref m21 :: .ref m22 :: .ref m23 :: .ref m24 :: .int (nI rh) :: .ref m26 :: .ref m27 :: .ref m28 :: .int (nI un) :: .ref m30 :: .int n31 :: .int n32 :: .ref m33 :: .int n34 :: .int n35 :: .ref m36 :: .int (nI wm) :: .ref m38 :: .ref m39 :: .ref m40 :: .int (nI bk) :: .ref m42 :: .ref m43 :: .ref m44 :: .ref m45 :: [])))] H := ⟨hP, hD⟩
    have hP := hPD.1
    have hD := hPD.2
    clear hPD
    have hP9 := hP.sub (ws' := [(h0, .inr (11, (.int n0 :: .int n1 :: .int (nI nq) :: .ref m3 :: .ref m4 :: .ref m5 :: .int (nI nh) :: .ref m7 :: .ref m8 :: .ref m9 :: .ref m10 :: .int (nI sd) :: .ref m12 :: .int (nI tx) :: .int (nI k4) :: .int (nI k4) :: .int n16 :: .int n17 :: .ref m18 :: .int (nI rq) :: .ref m20 :: .ref m21 :: .ref m22 :: .ref m23 :: .ref m24 :: .int (nI rh) :: .ref m26 :: .ref m27 :: .ref m28 :: .int (nI un) :: .ref m30 :: .int n31 :: .int n32 :: .ref m33 :: .int n34 :: .int n35 :: .ref m36 :: .int (nI wm) :: .ref m38 :: .ref m39 :: .ref m40 :: .int (nI bk) :: .ref m42 :: .ref m43 :: .ref m44 :: .ref m45 :: []))), (m12, .inl (cI, 220, .inl fm12))]) [1, 0] rfl
    have hD9 := hD.sub (ws' := [(h0, .inr (11, (.int n0 :: .int n1 :: .int (nI nq) :: .ref m3 :: .ref m4 :: .ref m5 :: .int (nI nh) :: .ref m7 :: .ref m8 :: .ref m9 :: .ref m10 :: .int (nI sd) :: .ref m12 :: .int (nI tx) :: .int (nI k4) :: .int (nI k4) :: .int n16 :: .int n17 :: .ref m18 :: .int (nI rq) :: .ref m20 :: .ref m21 :: .ref m22 :: .ref m23 :: .ref m24 :: .int (nI rh) :: .ref m26 :: .ref m27 :: .ref m28 :: .int (nI un) :: .ref m30 :: .int n31 :: .int n32 :: .ref m33 :: .int n34 :: .int n35 :: .ref m36 :: .int (nI wm) :: .ref m38 :: .ref m39 :: .ref m40 :: .int (nI bk) :: .ref m42 :: .ref m43 :: .ref m44 :: .ref m45 :: []))), (m12, .inl (cI, 220, .inl fm12))]) [1, 0] (by decide +kernel) rfl
    exact W.iret (v := 1) hx hb hr (fun t ht hW => ⟨⟨1, (fun _ => 1), rfl, ⟨rfl, by decide⟩, ⟨(nI k4), n16, n17, k4, by omega, (by have h9 := nm_1 (lo := nI lo) (hi := nI hi) he5 (dg_ltr hf59); exact ⟨h9.symm, fun h => absurd h (by decide), fun _ => by rw [← he5]⟩), (by have := sk_ge (T := T0) (n := tx) (p := at9); omega), (fun h => absurd h (by decide)), va_hq ht hP9, hD9⟩⟩, hS.F ht⟩) hS.2.2 dX11_takeNumber_28
set_option maxHeartbeats 4000000 in
set_option maxRecDepth 100000 in
theorem c_X11_intoF (l : Launch) (dC : Nat → ClassId) (dI : Nat → Nat → Nat) (cI cZ cQ : ClassId) (h0 : Nat) (n0 : Int32) (n1 : Int32) (nq : Nat) (m3 : Nat) (m4 : Nat) (m5 : Nat) (nh : Nat) (m7 : Nat) (m8 : Nat) (m9 : Nat) (m10 : Nat) (sd : Nat) (m12 : Nat) (tx : Nat) (n14 : Int32) (at9 : Nat) (n16 : Int32) (n17 : Int32) (m18 : Nat) (rq : Nat) (m20 : Nat) (m21 : Nat) (m22 : Nat) (m23 : Nat) (m24 : Nat) (rh : Nat) (m26 : Nat) (m27 : Nat) (m28 : Nat) (un : Nat) (m30 : Nat) (n31 : Int32) (n32 : Int32) (m33 : Nat) (n34 : Int32) (n35 : Int32) (m36 : Nat) (wm : Nat) (m38 : Nat) (m39 : Nat) (m40 : Nat) (bk : Nat) (m42 : Nat) (m43 : Nat) (m44 : Nat) (m45 : Nat) (fm12 : Nat → Int32) (rw : Nat) (frw : Nat → Int32) (k : Nat) (lo : Nat) (hi : Nat) (rl : Nat) (T0 : Nat → Int32) (sz : Nat) (htx : tx ≤ 220) (hat : at9 ≤ tx) (hT : ∀ j, j < tx → fm12 j = T0 j) (hlo : lo ≤ 1000) (hhi : hi ≤ 1000) (hk : k < rl) (hrl : rl ≤ 8) : Met l yX11_into wsX11_into ({ frames := 2, cells := 0, slots := 0, locals := 88 }) (va_Pc [.ref h0, .ref rw, .int (nI k), .int (nI lo), .int (nI hi)] (fun U => U.heap.size = sz ∧ va_P (dC, dI) vwCl [(h0, .inr (11, (.int n0 :: .int n1 :: .int (nI nq) :: .ref m3 :: .ref m4 :: .ref m5 :: .int (nI nh) :: .ref m7 :: .ref m8 :: .ref m9 :: .ref m10 :: .int (nI sd) :: .ref m12 :: .int (nI tx) :: .int n14 :: .int (nI at9) :: .int n16 :: .int n17 :: .ref m18 :: .int (nI rq) :: .ref m20 :: .ref m21 :: .ref m22 :: .ref m23 :: .ref m24 :: .int (nI rh) :: .ref m26 :: .ref m27 :: .ref m28 :: .int (nI un) :: .ref m30 :: .int n31 :: .int n32 :: .ref m33 :: .int n34 :: .int n35 :: .ref m36 :: .int (nI wm) :: .ref m38 :: .ref m39 :: .ref m40 :: .int (nI bk) :: .ref m42 :: .ref m43 :: .ref m44 :: .ref m45 :: []))), (m12, .inl (cI, 220, .inl fm12)), (rw, .inl (cI, rl, .inl frw))] U.heap ∧ va_K (dC, dI) vwCl (tys0 cI cZ cQ) U ∧ va_D (fun _ => True) [(h0, .inr (11, (.int n0 :: .int n1 :: .int (nI nq) :: .ref m3 :: .ref m4 :: .ref m5 :: .int (nI nh) :: .ref m7 :: .ref m8 :: .ref m9 :: .ref m10 :: .int (nI sd) :: .ref m12 :: .int (nI tx) :: .int n14 :: .int (nI at9) :: .int n16 :: .int n17 :: .ref m18 :: .int (nI rq) :: .ref m20 :: .ref m21 :: .ref m22 :: .ref m23 :: .ref m24 :: .int (nI rh) :: .ref m26 :: .ref m27 :: .ref m28 :: .int (nI un) :: .ref m30 :: .int n31 :: .int n32 :: .ref m33 :: .int n34 :: .int n35 :: .ref m36 :: .int (nI wm) :: .ref m38 :: .ref m39 :: .ref m40 :: .int (nI bk) :: .ref m42 :: .ref m43 :: .ref m44 :: .ref m45 :: []))), (m12, .inl (cI, 220, .inl fm12)), (rw, .inl (cI, rl, .inl frw))])) (va_Qi (fun (r : Int32) (u : Nat → Nat) => r = nI (u 0) ∧ u 0 ≤ 3) (fun (u : Nat → Nat) (t : State) => ∃ (gg0 : Nat → Int32) (ii0 ii2 ii3 : Int32) (kk1 : Nat), kk1 ≤ tx ∧ (Hid (u 0 = nmF T0 tx at9 (nI lo) (nI hi) ∧ (u 0 = 0 → kk1 = nmE T0 tx at9 ∧ gg0 = upd frw k (nmV T0 tx at9) ∧ n14 = ii0) ∧ (u 0 ≠ 0 → ii0 = nI (sk T0 tx at9)))) ∧ (at9 ≤ kk1) ∧ (∀ i, i ≠ k → gg0 i = frw i) ∧ (Hid (u 0 = 0 → ∃ c : Nat, c ≤ hi ∧ gg0 k = nI c)) ∧ va_P (dC, dI) vwCl [(h0, .inr (11, (.int n0 :: .int n1 :: .int (nI nq) :: .ref m3 :: .ref m4 :: .ref m5 :: .int (nI nh) :: .ref m7 :: .ref m8 :: .ref m9 :: .ref m10 :: .int (nI sd) :: .ref m12 :: .int (nI tx) :: .int ii0 :: .int (nI kk1) :: .int ii2 :: .int ii3 :: .ref m18 :: .int (nI rq) :: .ref m20 :: .ref m21 :: .ref m22 :: .ref m23 :: .ref m24 :: .int (nI rh) :: .ref m26 :: .ref m27 :: .ref m28 :: .int (nI un) :: .ref m30 :: .int n31 :: .int n32 :: .ref m33 :: .int n34 :: .int n35 :: .ref m36 :: .int (nI wm) :: .ref m38 :: .ref m39 :: .ref m40 :: .int (nI bk) :: .ref m42 :: .ref m43 :: .ref m44 :: .ref m45 :: []))), (m12, .inl (cI, 220, .inl fm12)), (rw, .inl (cI, rl, .inl gg0))] t.heap ∧ va_D (va_A [(h0, .inr (11, (.int n0 :: .int n1 :: .int (nI nq) :: .ref m3 :: .ref m4 :: .ref m5 :: .int (nI nh) :: .ref m7 :: .ref m8 :: .ref m9 :: .ref m10 :: .int (nI sd) :: .ref m12 :: .int (nI tx) :: .int n14 :: .int (nI at9) :: .int n16 :: .int n17 :: .ref m18 :: .int (nI rq) :: .ref m20 :: .ref m21 :: .ref m22 :: .ref m23 :: .ref m24 :: .int (nI rh) :: .ref m26 :: .ref m27 :: .ref m28 :: .int (nI un) :: .ref m30 :: .int n31 :: .int n32 :: .ref m33 :: .int n34 :: .int n35 :: .ref m36 :: .int (nI wm) :: .ref m38 :: .ref m39 :: .ref m40 :: .int (nI bk) :: .ref m42 :: .ref m43 :: .ref m44 :: .ref m45 :: []))), (m12, .inl (cI, 220, .inl fm12)), (rw, .inl (cI, rl, .inl frw))] sz) [(h0, .inr (11, (.int n0 :: .int n1 :: .int (nI nq) :: .ref m3 :: .ref m4 :: .ref m5 :: .int (nI nh) :: .ref m7 :: .ref m8 :: .ref m9 :: .ref m10 :: .int (nI sd) :: .ref m12 :: .int (nI tx) :: .int ii0 :: .int (nI kk1) :: .int ii2 :: .int ii3 :: .ref m18 :: .int (nI rq) :: .ref m20 :: .ref m21 :: .ref m22 :: .ref m23 :: .ref m24 :: .int (nI rh) :: .ref m26 :: .ref m27 :: .ref m28 :: .int (nI un) :: .ref m30 :: .int n31 :: .int n32 :: .ref m33 :: .int n34 :: .int n35 :: .ref m36 :: .int (nI wm) :: .ref m38 :: .ref m39 :: .ref m40 :: .int (nI bk) :: .ref m42 :: .ref m43 :: .ref m44 :: .ref m45 :: []))), (m12, .inl (cI, 220, .inl fm12)), (rw, .inl (cI, rl, .inl gg0))]) (va_A [(h0, .inr (11, (.int n0 :: .int n1 :: .int (nI nq) :: .ref m3 :: .ref m4 :: .ref m5 :: .int (nI nh) :: .ref m7 :: .ref m8 :: .ref m9 :: .ref m10 :: .int (nI sd) :: .ref m12 :: .int (nI tx) :: .int n14 :: .int (nI at9) :: .int n16 :: .int n17 :: .ref m18 :: .int (nI rq) :: .ref m20 :: .ref m21 :: .ref m22 :: .ref m23 :: .ref m24 :: .int (nI rh) :: .ref m26 :: .ref m27 :: .ref m28 :: .int (nI un) :: .ref m30 :: .int n31 :: .int n32 :: .ref m33 :: .int n34 :: .int n35 :: .ref m36 :: .int (nI wm) :: .ref m38 :: .ref m39 :: .ref m40 :: .int (nI bk) :: .ref m42 :: .ref m43 :: .ref m44 :: .ref m45 :: []))), (m12, .inl (cI, 220, .inl fm12)), (rw, .inl (cI, rl, .inl frw))] sz)) 0 0 (va_A [(h0, .inr (11, (.int n0 :: .int n1 :: .int (nI nq) :: .ref m3 :: .ref m4 :: .ref m5 :: .int (nI nh) :: .ref m7 :: .ref m8 :: .ref m9 :: .ref m10 :: .int (nI sd) :: .ref m12 :: .int (nI tx) :: .int n14 :: .int (nI at9) :: .int n16 :: .int n17 :: .ref m18 :: .int (nI rq) :: .ref m20 :: .ref m21 :: .ref m22 :: .ref m23 :: .ref m24 :: .int (nI rh) :: .ref m26 :: .ref m27 :: .ref m28 :: .int (nI un) :: .ref m30 :: .int n31 :: .int n32 :: .ref m33 :: .int n34 :: .int n35 :: .ref m36 :: .int (nI wm) :: .ref m38 :: .ref m39 :: .ref m40 :: .int (nI bk) :: .ref m42 :: .ref m43 :: .ref m44 :: .ref m45 :: []))), (m12, .inl (cI, 220, .inl fm12)), (rw, .inl (cI, rl, .inl frw))] sz) := by
  refine Met.ofW (cc := cX11_into) (maxL := 6) (ret := (some .int)) (by decide) rfl ?_
  intro p e s m args below meth c s₁ B hml hv
  obtain ⟨rfl, hsz, hP, hK, hD0⟩ := hv
  have hx := B.exec
  have hb := B.bytes
  have hr := B.returns
  have hts := atoms_spec (ws := wsX11_into) B.pre
  have hown : s.vm.findClass RX11 = some m.cls := findClass_of_methodNamed B.named
  have hlocks := B.notSynchronized
  have hi_X11 : ∀ w ∈ u_ws RX11 TX11 46, w ∈ wsX11_into := fun _ h => List.mem_cons_of_mem _ (List.mem_append_right _ (h))
  subst hsz
  have hD := hD0.self (sz := s.heap.size)
  generalize hAe : va_A [(h0, .inr (11, (.int n0 :: .int n1 :: .int (nI nq) :: .ref m3 :: .ref m4 :: .ref m5 :: .int (nI nh) :: .ref m7 :: .ref m8 :: .ref m9 :: .ref m10 :: .int (nI sd) :: .ref m12 :: .int (nI tx) :: .int n14 :: .int (nI at9) :: .int n16 :: .int n17 :: .ref m18 :: .int (nI rq) :: .ref m20 :: .ref m21 :: .ref m22 :: .ref m23 :: .ref m24 :: .int (nI rh) :: .ref m26 :: .ref m27 :: .ref m28 :: .int (nI un) :: .ref m30 :: .int n31 :: .int n32 :: .ref m33 :: .int n34 :: .int n35 :: .ref m36 :: .int (nI wm) :: .ref m38 :: .ref m39 :: .ref m40 :: .int (nI bk) :: .ref m42 :: .ref m43 :: .ref m44 :: .ref m45 :: []))), (m12, .inl (cI, 220, .inl fm12)), (rw, .inl (cI, rl, .inl frw))] s.heap.size = A at hD ⊢
  have hA : ∀ q : Nat, s.heap.size ≤ q → A q := fun q h => by rw [← hAe]; exact Or.inr h
  have hS : va_S A s.heap s.heap [] := va_S.rf
  have hl := lv_entry ([.ref h0, .ref rw, .int (nI k), .int (nI lo), .int (nI hi)]) (n := 6) (Nat.le_of_ble_eq_true rfl)
  rw [lg_entry_eq]
  generalize (lg_sl ([.ref h0, .ref rw, .int (nI k), .int (nI lo), .int (nI hi)]) ++ List.replicate (6 - (lg_sl ([.ref h0, .ref rw, .int (nI k), .int (nI lo), .int (nI hi)])).length) Slot.unset).toArray = ls at hl ⊢
  have hl : lv_has ls 6 [(0, .ref h0), (1, .ref rw), (2, .int (nI k)), (3, .int (nI lo)), (4, .int (nI hi))] := hl
  refine lv_aload_n hx hb dX11_into_0 rfl (lv_at hl 0 rfl) ?_
  refine lv_iload_n hx hb dX11_into_1 rfl (lv_at hl 3 rfl) ?_
  refine lv_iload hx hb dX11_into_2 (lv_at hl 4 rfl) ?_
  have hc9 := va_cut (W' := [(h0, .inr (11, (.int n0 :: .int n1 :: .int (nI nq) :: .ref m3 :: .ref m4 :: .ref m5 :: .int (nI nh) :: .ref m7 :: .ref m8 :: .ref m9 :: .ref m10 :: .int (nI sd) :: .ref m12 :: .int (nI tx) :: .int n14 :: .int (nI at9) :: .int n16 :: .int n17 :: .ref m18 :: .int (nI rq) :: .ref m20 :: .ref m21 :: .ref m22 :: .ref m23 :: .ref m24 :: .int (nI rh) :: .ref m26 :: .ref m27 :: .ref m28 :: .int (nI un) :: .ref m30 :: .int n31 :: .int n32 :: .ref m33 :: .int n34 :: .int n35 :: .ref m36 :: .int (nI wm) :: .ref m38 :: .ref m39 :: .ref m40 :: .int (nI bk) :: .ref m42 :: .ref m43 :: .ref m44 :: .ref m45 :: []))), (m12, .inl (cI, 220, .inl fm12))]) hP hD hS hA [0, 1] (by decide) rfl
  have hPc := hc9.1
  have hDc := hc9.2.1
  have hFc := hc9.2.2
  clear hc9
  refine va_calli (va_runV (As := [.int (nI lo), .int (nI hi)]) (rest := []) ⟨hx, hb, hml, hown, hts⟩ (c_X11_takeNumberF l dC dI cI cZ cQ h0 n0 n1 nq m3 m4 m5 nh m7 m8 m9 m10 sd m12 tx n14 at9 n16 n17 m18 rq m20 m21 m22 m23 m24 rh m26 m27 m28 un m30 n31 n32 m33 n34 n35 m36 wm m38 m39 m40 bk m42 m43 m44 m45 fm12 lo hi T0 s.heap.size (by omega) (by omega) hT (by omega) (by omega)) (cwV 2 hts gX11_into_X11_takeNumber rfl rfl rfl hd_X11_takeNumber_RX11 ⟨Nat.le_of_ble_eq_true rfl, Nat.le_of_ble_eq_true rfl⟩) (pv_D (va_recv hK hP (ci := 11) (q0 := 0) rfl rfl) hK hPc hDc) rfl rfl hl.1 rfl (lv_room (Nat.le_of_ble_eq_true rfl)) dX11_into_4 ⟨Nat.le_of_ble_eq_true rfl, Nat.le_of_ble_eq_true rfl⟩) hS (fun q _ h => hFc q h) hFc (fun r1 u2 t H1 locs ht hvm hw3 hB hz1 hk1 hS => ?_)
  obtain ⟨i4, i6, i7, k5, hk5, he8, he9, he10, hP1, hD1⟩ := hB
  replace hP1 := va_hp ht hP1
  obtain ⟨hP, hD⟩ := va_join (wr := [(rw, .inl (cI, rl, .inl frw))]) (w1 := [(h0, .inr (11, (.int n0 :: .int n1 :: .int (nI nq) :: .ref m3 :: .ref m4 :: .ref m5 :: .int (nI nh) :: .ref m7 :: .ref m8 :: .ref m9 :: .ref m10 :: .int (nI sd) :: .ref m12 :: .int (nI tx) :: .int i4 :: .int (nI k5) :: .int i6 :: .int i7 :: .ref m18 :: .int (nI rq) :: .ref m20 :: .ref m21 :: .ref m22 :: .ref m23 :: .ref m24 :: .int (nI rh) :: .ref m26 :: .ref m27 :: .ref m28 :: .int (nI un) :: .ref m30 :: .int n31 :: .int n32 :: .ref m33 :: .int n34 :: .int n35 :: .ref m36 :: .int (nI wm) :: .ref m38 :: .ref m39 :: .ref m40 :: .int (nI bk) :: .ref m42 :: .ref m43 :: .ref m44 :: .ref m45 :: []))), (m12, .inl (cI, 220, .inl fm12))]) hP hD [0, 1] [2] rfl rfl (by decide +kernel) (by decide +kernel) hk1 hFc hP1 hD1
  clear hP1 hD1
  clear hz1 hk1 hPc hDc hFc
  generalize H1 = H at hP hS ht ⊢
  have hPD : pdW (dC, dI) vwCl A [(rw, .inl (cI, rl, .inl frw)), (h0, .inr (11, (.int n0 :: .int n1 :: .int (nI nq) :: .ref m3 :: .ref m4 :: .ref m5 :: .int (nI nh) :: .ref m7 :: .ref m8 :: .ref m9 :: .ref m10 :: .int (nI sd) :: .ref m12 :: .int (nI tx) :: .int i4 :: .int (nI k5) :: .int i6 :: .int i7 :: .ref m18 :: .int (nI rq) :: .ref m20 :: .ref m21 :: .ref m22 :: .ref m23 :: .ref m24 :: .int (nI rh) :: .ref m26 :: .ref m27 :: .ref m28 :: .int (nI un) :: .ref m30 :: .int n31 :: .int n32 :: .ref m33 :: .int n34 :: .int n35 :: .ref m36 :: .int (nI wm) :: .ref m38 :: .ref m39 :: .ref m40 :: .int (nI bk) :: .ref m42 :: .ref m43 :: .ref m44 :: .ref m45 :: []))), (m12, .inl (cI, 220, .inl fm12))] H := ⟨hP, hD⟩
  have hP := hPD.1
  have hD := hPD.2
  clear hPD
  try dsimp only at hw3
  obtain ⟨rfl, hu_u2⟩ := hw3
  refine lv_istore (lv' := [(5, .int (nI (u2 0))), (0, .ref h0), (1, .ref rw), (2, .int (nI k)), (3, .int (nI lo)), (4, .int (nI hi))]) hx hb dX11_into_7 hl (by decide) rfl (fun ls hl => ?_)
  refine lv_aload_n hx hb dX11_into_9 rfl (lv_at hl 2 rfl) ?_
  refine lv_iload_n hx hb dX11_into_10 rfl (lv_at hl 3 rfl) ?_
  refine lv_aload_n hx hb dX11_into_11 rfl (lv_at hl 1 rfl) ?_
  refine va_get (D := (dC, dI)) (ci := 11) (v := .int i6) (C := RX11) (T := TX11) (N := 46) hx hb hts hi_X11 hown hK hP 1 rfl rfl 16 (by decide) (hts (.fieldLink RX11 134 "LeftQuillsModel" "number" "I") (wmx 1 rfl)) (fun _ h9 => h9) rfl dX11_into_12 ?_
  refine va_iast hx hb hK hP hD hS 0 0 rfl rfl (vp_in_nI (n := k) (N := rl) (by omega) (by omega)) dX11_into_15 (fun H locs hP hD hS => ?_)
  have hcl := (nI_clamp (n := k) (by omega))
  rw [hcl] at hP hD
  clear hcl
  have hPD : pdW (dC, dI) vwCl A [(rw, .inl (cI, rl, .inl (upd frw k i6))), (h0, .inr (11, (.int n0 :: .int n1 :: .int (nI nq) :: .ref m3 :: .ref m4 :: .ref m5 :: .int (nI nh) :: .ref m7 :: .ref m8 :: .ref m9 :: .ref m10 :: .int (nI sd) :: .ref m12 :: .int (nI tx) :: .int i4 :: .int (nI k5) :: .int i6 :: .int i7 :: .ref m18 :: .int (nI rq) :: .ref m20 :: .ref m21 :: .ref m22 :: .ref m23 :: .ref m24 :: .int (nI rh) :: .ref m26 :: .ref m27 :: .ref m28 :: .int (nI un) :: .ref m30 :: .int n31 :: .int n32 :: .ref m33 :: .int n34 :: .int n35 :: .ref m36 :: .int (nI wm) :: .ref m38 :: .ref m39 :: .ref m40 :: .int (nI bk) :: .ref m42 :: .ref m43 :: .ref m44 :: .ref m45 :: []))), (m12, .inl (cI, 220, .inl fm12))] H := ⟨hP, hD⟩
  have hP := hPD.1
  have hD := hPD.2
  clear hPD
  refine lv_iload hx hb dX11_into_16 (lv_at hl 0 rfl) ?_
  have hP9 := hP.sub (ws' := [(h0, .inr (11, (.int n0 :: .int n1 :: .int (nI nq) :: .ref m3 :: .ref m4 :: .ref m5 :: .int (nI nh) :: .ref m7 :: .ref m8 :: .ref m9 :: .ref m10 :: .int (nI sd) :: .ref m12 :: .int (nI tx) :: .int i4 :: .int (nI k5) :: .int i6 :: .int i7 :: .ref m18 :: .int (nI rq) :: .ref m20 :: .ref m21 :: .ref m22 :: .ref m23 :: .ref m24 :: .int (nI rh) :: .ref m26 :: .ref m27 :: .ref m28 :: .int (nI un) :: .ref m30 :: .int n31 :: .int n32 :: .ref m33 :: .int n34 :: .int n35 :: .ref m36 :: .int (nI wm) :: .ref m38 :: .ref m39 :: .ref m40 :: .int (nI bk) :: .ref m42 :: .ref m43 :: .ref m44 :: .ref m45 :: []))), (m12, .inl (cI, 220, .inl fm12)), (rw, .inl (cI, rl, .inl (upd frw k i6)))]) [1, 2, 0] rfl
  have hD9 := hD.sub (ws' := [(h0, .inr (11, (.int n0 :: .int n1 :: .int (nI nq) :: .ref m3 :: .ref m4 :: .ref m5 :: .int (nI nh) :: .ref m7 :: .ref m8 :: .ref m9 :: .ref m10 :: .int (nI sd) :: .ref m12 :: .int (nI tx) :: .int i4 :: .int (nI k5) :: .int i6 :: .int i7 :: .ref m18 :: .int (nI rq) :: .ref m20 :: .ref m21 :: .ref m22 :: .ref m23 :: .ref m24 :: .int (nI rh) :: .ref m26 :: .ref m27 :: .ref m28 :: .int (nI un) :: .ref m30 :: .int n31 :: .int n32 :: .ref m33 :: .int n34 :: .int n35 :: .ref m36 :: .int (nI wm) :: .ref m38 :: .ref m39 :: .ref m40 :: .int (nI bk) :: .ref m42 :: .ref m43 :: .ref m44 :: .ref m45 :: []))), (m12, .inl (cI, 220, .inl fm12)), (rw, .inl (cI, rl, .inl (upd frw k i6)))]) [1, 2, 0] (by decide +kernel) rfl
  exact W.iret (v := nI (u2 0)) hx hb hr (fun t ht hW => ⟨⟨nI (u2 0), (fun _ => u2 0), rfl, ⟨rfl, hu_u2⟩, ⟨(upd frw k i6), i4, i6, i7, k5, by omega, Hid.mk ⟨he8.1, fun h => ⟨(he8.2.1 h).1, by rw [(he8.2.1 h).2.1], (he8.2.1 h).2.2⟩, he8.2.2⟩, he9, (fun i hi9 => pk_un hi9), Hid.mk (fun h => by obtain ⟨c, hc, e⟩ := he10 h; exact ⟨c, hc, pk_us.trans e⟩), va_hq ht hP9, hD9⟩⟩, hS.F ht⟩) hS.2.2 dX11_into_18
