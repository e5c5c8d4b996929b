set_option maxHeartbeats 4000000 in
set_option maxRecDepth 100000 in
theorem c_X11_rememberD (l : Launch) (dC : Nat → ClassId) (dI : Nat → Nat → Nat) (cI cZ cQ : ClassId) (h0 : Nat) (n0 : Int32) (n1 : Int32) (nq : Nat) (m3 : Nat) (m4 : Nat) (m5 : Nat) (nh : Nat) (m7 : Nat) (m8 : Nat) (m9 : Nat) (m10 : Nat) (sd : Nat) (m12 : Nat) (tx : Nat) (n14 : Int32) (at9 : Nat) (n16 : Int32) (n17 : Int32) (m18 : Nat) (rq : Nat) (m20 : Nat) (m21 : Nat) (m22 : Nat) (m23 : Nat) (m24 : Nat) (rh : Nat) (m26 : Nat) (m27 : Nat) (m28 : Nat) (un : Nat) (m30 : Nat) (n31 : Int32) (n32 : Int32) (m33 : Nat) (n34 : Int32) (n35 : Int32) (m36 : Nat) (wm : Nat) (m38 : Nat) (m39 : Nat) (m40 : Nat) (bk : Nat) (m42 : Nat) (m43 : Nat) (m44 : Nat) (m45 : Nat) (fm10 : Nat → Int32) (fm30 : Nat → Int32) (sz : Nat) (hun : un ≤ 20) : Met l yX11_remember wsX11_remember ({ frames := 0, cells := 0, slots := 0, locals := 40 }) (va_Pc [.ref h0] (fun U => U.heap.size = sz ∧ va_P (dC, dI) vwCl [(h0, .inr (11, [.int n0, .int n1, .int (nI nq), .ref m3, .ref m4, .ref m5, .int (nI nh), .ref m7, .ref m8, .ref m9, .ref m10, .int (nI sd), .ref m12, .int (nI tx), .int n14, .int (nI at9), .int n16, .int n17, .ref m18, .int (nI rq), .ref m20, .ref m21, .ref m22, .ref m23, .ref m24, .int (nI rh), .ref m26, .ref m27, .ref m28, .int (nI un), .ref m30, .int n31, .int n32, .ref m33, .int n34, .int n35, .ref m36, .int (nI wm), .ref m38, .ref m39, .ref m40, .int (nI bk), .ref m42, .ref m43, .ref m44, .ref m45])), (m10, .inl (cI, 34, .inl fm10)), (m30, .inl (cI, 680, .inl fm30))] U.heap ∧ va_K (dC, dI) vwCl (tys0 cI cZ cQ) U ∧ va_D (fun _ => True) [(h0, .inr (11, [.int n0, .int n1, .int (nI nq), .ref m3, .ref m4, .ref m5, .int (nI nh), .ref m7, .ref m8, .ref m9, .ref m10, .int (nI sd), .ref m12, .int (nI tx), .int n14, .int (nI at9), .int n16, .int n17, .ref m18, .int (nI rq), .ref m20, .ref m21, .ref m22, .ref m23, .ref m24, .int (nI rh), .ref m26, .ref m27, .ref m28, .int (nI un), .ref m30, .int n31, .int n32, .ref m33, .int n34, .int n35, .ref m36, .int (nI wm), .ref m38, .ref m39, .ref m40, .int (nI bk), .ref m42, .ref m43, .ref m44, .ref m45])), (m10, .inl (cI, 34, .inl fm10)), (m30, .inl (cI, 680, .inl fm30))])) (va_Qv (fun (u : Nat → Nat) => True) (fun (_ : Nat → Nat) (t : State) => ∃ (gg0 : Nat → Int32) (kk0 : Nat), kk0 ≤ 20 ∧ (∀ i, gg0 i = rmF un fm10 fm30 i) ∧ (kk0 = if un < 20 then un + 1 else un) ∧ va_P (dC, dI) vwCl [(h0, .inr (11, [.int n0, .int n1, .int (nI nq), .ref m3, .ref m4, .ref m5, .int (nI nh), .ref m7, .ref m8, .ref m9, .ref m10, .int (nI sd), .ref m12, .int (nI tx), .int n14, .int (nI at9), .int n16, .int n17, .ref m18, .int (nI rq), .ref m20, .ref m21, .ref m22, .ref m23, .ref m24, .int (nI rh), .ref m26, .ref m27, .ref m28, .int (nI kk0), .ref m30, .int n31, .int n32, .ref m33, .int n34, .int n35, .ref m36, .int (nI wm), .ref m38, .ref m39, .ref m40, .int (nI bk), .ref m42, .ref m43, .ref m44, .ref m45])), (m10, .inl (cI, 34, .inl fm10)), (m30, .inl (cI, 680, .inl gg0))] t.heap ∧ va_D (va_A [(h0, .inr (11, [.int n0, .int n1, .int (nI nq), .ref m3, .ref m4, .ref m5, .int (nI nh), .ref m7, .ref m8, .ref m9, .ref m10, .int (nI sd), .ref m12, .int (nI tx), .int n14, .int (nI at9), .int n16, .int n17, .ref m18, .int (nI rq), .ref m20, .ref m21, .ref m22, .ref m23, .ref m24, .int (nI rh), .ref m26, .ref m27, .ref m28, .int (nI un), .ref m30, .int n31, .int n32, .ref m33, .int n34, .int n35, .ref m36, .int (nI wm), .ref m38, .ref m39, .ref m40, .int (nI bk), .ref m42, .ref m43, .ref m44, .ref m45])), (m10, .inl (cI, 34, .inl fm10)), (m30, .inl (cI, 680, .inl fm30))] sz) [(h0, .inr (11, [.int n0, .int n1, .int (nI nq), .ref m3, .ref m4, .ref m5, .int (nI nh), .ref m7, .ref m8, .ref m9, .ref m10, .int (nI sd), .ref m12, .int (nI tx), .int n14, .int (nI at9), .int n16, .int n17, .ref m18, .int (nI rq), .ref m20, .ref m21, .ref m22, .ref m23, .ref m24, .int (nI rh), .ref m26, .ref m27, .ref m28, .int (nI kk0), .ref m30, .int n31, .int n32, .ref m33, .int n34, .int n35, .ref m36, .int (nI wm), .ref m38, .ref m39, .ref m40, .int (nI bk), .ref m42, .ref m43, .ref m44, .ref m45])), (m10, .inl (cI, 34, .inl fm10)), (m30, .inl (cI, 680, .inl gg0))]) (va_A [(h0, .inr (11, [.int n0, .int n1, .int (nI nq), .ref m3, .ref m4, .ref m5, .int (nI nh), .ref m7, .ref m8, .ref m9, .ref m10, .int (nI sd), .ref m12, .int (nI tx), .int n14, .int (nI at9), .int n16, .int n17, .ref m18, .int (nI rq), .ref m20, .ref m21, .ref m22, .ref m23, .ref m24, .int (nI rh), .ref m26, .ref m27, .ref m28, .int (nI un), .ref m30, .int n31, .int n32, .ref m33, .int n34, .int n35, .ref m36, .int (nI wm), .ref m38, .ref m39, .ref m40, .int (nI bk), .ref m42, .ref m43, .ref m44, .ref m45])), (m10, .inl (cI, 34, .inl fm10)), (m30, .inl (cI, 680, .inl fm30))] sz)) 0 0 (va_A [(h0, .inr (11, [.int n0, .int n1, .int (nI nq), .ref m3, .ref m4, .ref m5, .int (nI nh), .ref m7, .ref m8, .ref m9, .ref m10, .int (nI sd), .ref m12, .int (nI tx), .int n14, .int (nI at9), .int n16, .int n17, .ref m18, .int (nI rq), .ref m20, .ref m21, .ref m22, .ref m23, .ref m24, .int (nI rh), .ref m26, .ref m27, .ref m28, .int (nI un), .ref m30, .int n31, .int n32, .ref m33, .int n34, .int n35, .ref m36, .int (nI wm), .ref m38, .ref m39, .ref m40, .int (nI bk), .ref m42, .ref m43, .ref m44, .ref m45])), (m10, .inl (cI, 34, .inl fm10)), (m30, .inl (cI, 680, .inl fm30))] sz) := by
  refine Met.ofW (cc := cX11_remember) (maxL := 2) (ret := none) (by decide) rfl ?_
  intro p e s m args below meth c s₁ B hml hv
  obtain ⟨rfl, hsz, hP, hK, hD0⟩ := hv
  have hx := B.exec
  have hb := B.bytes
  have hr := B.returns
  have hts := atoms_spec (ws := wsX11_remember) B.pre
  have hown : s.vm.findClass RX11 = some m.cls := findClass_of_methodNamed B.named
  have hlocks := B.notSynchronized
  have hi_X11 : ∀ w ∈ u_ws RX11 TX11 46, w ∈ wsX11_remember := fun _ h => List.mem_cons_of_mem _ (List.mem_append_right _ (h))
  subst hsz
  have hD := hD0.self (sz := s.heap.size)
  generalize hAe : va_A [(h0, .inr (11, [.int n0, .int n1, .int (nI nq), .ref m3, .ref m4, .ref m5, .int (nI nh), .ref m7, .ref m8, .ref m9, .ref m10, .int (nI sd), .ref m12, .int (nI tx), .int n14, .int (nI at9), .int n16, .int n17, .ref m18, .int (nI rq), .ref m20, .ref m21, .ref m22, .ref m23, .ref m24, .int (nI rh), .ref m26, .ref m27, .ref m28, .int (nI un), .ref m30, .int n31, .int n32, .ref m33, .int n34, .int n35, .ref m36, .int (nI wm), .ref m38, .ref m39, .ref m40, .int (nI bk), .ref m42, .ref m43, .ref m44, .ref m45])), (m10, .inl (cI, 34, .inl fm10)), (m30, .inl (cI, 680, .inl fm30))] s.heap.size = A at hD ⊢
  have hA : ∀ q : Nat, s.heap.size ≤ q → A q := fun q h => by rw [← hAe]; exact Or.inr h
  have hS : va_S A s.heap s.heap [] := va_S.rf
  have hl := lv_entry ([.ref h0]) (n := 2) (Nat.le_of_ble_eq_true rfl)
  rw [lg_entry_eq]
  generalize (lg_sl ([.ref h0]) ++ List.replicate (2 - (lg_sl ([.ref h0])).length) Slot.unset).toArray = ls at hl ⊢
  have hl : lv_has ls 2 [(0, .ref h0)] := hl
  refine lv_aload_n hx hb dX11_remember_0 rfl (lv_at hl 0 rfl) ?_
  refine va_get (D := (dC, dI)) (ci := 11) (v := .int (nI un)) (C := RX11) (T := TX11) (N := 46) hx hb hts hi_X11 hown hK hP 0 rfl rfl 29 (by decide) (hts (.fieldLink RX11 174 "LeftQuillsModel" "undos" "I") (wmx 1 rfl)) (fun _ h9 => h9) rfl dX11_remember_1 ?_
  refine lv_bipush (v := 20) hx hb dX11_remember_4 (by decide) ?_
  refine lv_icmp_ne (tgt := 50) hx hb dX11_remember_6 (by decide) (fun c1 => ?_) (fun c1 => ?_)
  ·
    have c1 : ¬ un = 20 := fun h => c1 ((nI_eq (a := un) (b := 20) (by omega) (by omega)).mpr h)
    refine lv_iconst (v := 0) hx hb dX11_remember_50 (by decide) ?_
    refine lv_istore_n (lv' := [(1, .int 0), (0, .ref h0)]) hx hb dX11_remember_51 rfl hl (by decide) rfl (fun ls hl => ?_)
    refine (fun (K : ∀ (d52 : Nat) (k52 : Nat) (f52_m30 : Nat → Int32) (H : Heap) (locs : List Loc) (ls : Array Slot), k52 + d52 = 34 → (∀ i, f52_m30 i = if 34 * un ≤ i ∧ i < 34 * un + k52 then fm10 (i - 34 * un) else fm30 i) → va_P (dC, dI) vwCl [(h0, .inr (11, [.int n0, .int n1, .int (nI nq), .ref m3, .ref m4, .ref m5, .int (nI nh), .ref m7, .ref m8, .ref m9, .ref m10, .int (nI sd), .ref m12, .int (nI tx), .int n14, .int (nI at9), .int n16, .int n17, .ref m18, .int (nI rq), .ref m20, .ref m21, .ref m22, .ref m23, .ref m24, .int (nI rh), .ref m26, .ref m27, .ref m28, .int (nI un), .ref m30, .int n31, .int n32, .ref m33, .int n34, .int n35, .ref m36, .int (nI wm), .ref m38, .ref m39, .ref m40, .int (nI bk), .ref m42, .ref m43, .ref m44, .ref m45])), (m10, .inl (cI, 34, .inl fm10)), (m30, .inl (cI, 680, .inl f52_m30))] H → va_D A [(h0, .inr (11, [.int n0, .int n1, .int (nI nq), .ref m3, .ref m4, .ref m5, .int (nI nh), .ref m7, .ref m8, .ref m9, .ref m10, .int (nI sd), .ref m12, .int (nI tx), .int n14, .int (nI at9), .int n16, .int n17, .ref m18, .int (nI rq), .ref m20, .ref m21, .ref m22, .ref m23, .ref m24, .int (nI rh), .ref m26, .ref m27, .ref m28, .int (nI un), .ref m30, .int n31, .int n32, .ref m33, .int n34, .int n35, .ref m36, .int (nI wm), .ref m38, .ref m39, .ref m40, .int (nI bk), .ref m42, .ref m43, .ref m44, .ref m45])), (m10, .inl (cI, 34, .inl fm10)), (m30, .inl (cI, 680, .inl f52_m30))] → va_S A s.heap H locs → lv_has ls 2 [(1, .int (nI k52)), (0, .ref h0)] → W p l e _ s m _ below meth c H locs _ _ _ (F0 m 52 ls [])) => K 34 0 fm30 _ _ _ (by omega) (fun i => (if_neg (by omega)).symm) hP hD hS (lv_sub hl [0, 1] rfl)) ?_
    intro d52
    induction d52 with
    | zero =>
      intro k52 f52_m30 H locs ls hk52 hv52_0 hP hD hS hl
      refine lv_iload_n hx hb dX11_remember_52 rfl (lv_at hl 0 rfl) ?_
      refine lv_bipush (v := 34) hx hb dX11_remember_53 (by decide) ?_
      refine lv_icmp_ge (tgt := 84) hx hb dX11_remember_55 (by decide) (fun c2 => ?_) (fun c2 => ?_)
      ·
        have c2 : 34 ≤ k52 := (nI_leI (a := 34) (b := k52) (by omega) (by omega)).mp c2
        have hv52x : ∀ i, f52_m30 i = if 34 * un ≤ i ∧ i < 34 * un + 34 then fm10 (i - 34 * un) else fm30 i := fun i => by rw [hv52_0 i, show k52 = 34 from by omega]
        refine lv_aload_n hx hb dX11_remember_84 rfl (lv_at hl 1 rfl) ?_
        refine lv_dup hx hb dX11_remember_85 rfl ?_
        refine va_get (D := (dC, dI)) (ci := 11) (v := .int (nI un)) (C := RX11) (T := TX11) (N := 46) hx hb hts hi_X11 hown hK hP 0 rfl rfl 29 (by decide) (hts (.fieldLink RX11 174 "LeftQuillsModel" "undos" "I") (wmx 1 rfl)) (fun _ h9 => h9) rfl dX11_remember_86 ?_
        refine lv_iconst (v := 1) hx hb dX11_remember_89 (by decide) ?_
        refine lv_iadd hx hb dX11_remember_90 ?_
        refine lv_topi (fun z3 ez3 => ?_)
        obtain rfl : z3 = nI (un + 1) := ez3.trans (nI_add un 1)
        refine va_put (D := (dC, dI)) (ci := 11) (v := .int (nI (un + 1))) (ty := .int) (C := RX11) (T := TX11) (N := 46) hx hb hts hi_X11 tyX11 tyX11_ok nmX11 hown hK hP hD hS 0 rfl rfl 29 (by decide) (hts (.fieldLink RX11 174 "LeftQuillsModel" "undos" "I") (wmx 1 rfl)) (fun _ h9 => h9) rfl (by decide +kernel) rfl rfl (Nat.le_of_ble_eq_true rfl) dX11_remember_91 (fun H locs hP hD hS => ?_)
        have hP : va_P (dC, dI) vwCl [(h0, .inr (11, [.int n0, .int n1, .int (nI nq), .ref m3, .ref m4, .ref m5, .int (nI nh), .ref m7, .ref m8, .ref m9, .ref m10, .int (nI sd), .ref m12, .int (nI tx), .int n14, .int (nI at9), .int n16, .int n17, .ref m18, .int (nI rq), .ref m20, .ref m21, .ref m22, .ref m23, .ref m24, .int (nI rh), .ref m26, .ref m27, .ref m28, .int (nI (un + 1)), .ref m30, .int n31, .int n32, .ref m33, .int n34, .int n35, .ref m36, .int (nI wm), .ref m38, .ref m39, .ref m40, .int (nI bk), .ref m42, .ref m43, .ref m44, .ref m45])), (m10, .inl (cI, 34, .inl fm10)), (m30, .inl (cI, 680, .inl f52_m30))] H := hP
        have hD : va_D A [(h0, .inr (11, [.int n0, .int n1, .int (nI nq), .ref m3, .ref m4, .ref m5, .int (nI nh), .ref m7, .ref m8, .ref m9, .ref m10, .int (nI sd), .ref m12, .int (nI tx), .int n14, .int (nI at9), .int n16, .int n17, .ref m18, .int (nI rq), .ref m20, .ref m21, .ref m22, .ref m23, .ref m24, .int (nI rh), .ref m26, .ref m27, .ref m28, .int (nI (un + 1)), .ref m30, .int n31, .int n32, .ref m33, .int n34, .int n35, .ref m36, .int (nI wm), .ref m38, .ref m39, .ref m40, .int (nI bk), .ref m42, .ref m43, .ref m44, .ref m45])), (m10, .inl (cI, 34, .inl fm10)), (m30, .inl (cI, 680, .inl f52_m30))] := hD
        have hP9 := hP.sub (ws' := [(h0, .inr (11, [.int n0, .int n1, .int (nI nq), .ref m3, .ref m4, .ref m5, .int (nI nh), .ref m7, .ref m8, .ref m9, .ref m10, .int (nI sd), .ref m12, .int (nI tx), .int n14, .int (nI at9), .int n16, .int n17, .ref m18, .int (nI rq), .ref m20, .ref m21, .ref m22, .ref m23, .ref m24, .int (nI rh), .ref m26, .ref m27, .ref m28, .int (nI (un + 1)), .ref m30, .int n31, .int n32, .ref m33, .int n34, .int n35, .ref m36, .int (nI wm), .ref m38, .ref m39, .ref m40, .int (nI bk), .ref m42, .ref m43, .ref m44, .ref m45])), (m10, .inl (cI, 34, .inl fm10)), (m30, .inl (cI, 680, .inl f52_m30))]) [0, 1, 2] rfl
        have hD9 := hD.sub (ws' := [(h0, .inr (11, [.int n0, .int n1, .int (nI nq), .ref m3, .ref m4, .ref m5, .int (nI nh), .ref m7, .ref m8, .ref m9, .ref m10, .int (nI sd), .ref m12, .int (nI tx), .int n14, .int (nI at9), .int n16, .int n17, .ref m18, .int (nI rq), .ref m20, .ref m21, .ref m22, .ref m23, .ref m24, .int (nI rh), .ref m26, .ref m27, .ref m28, .int (nI (un + 1)), .ref m30, .int n31, .int n32, .ref m33, .int n34, .int n35, .ref m36, .int (nI wm), .ref m38, .ref m39, .ref m40, .int (nI bk), .ref m42, .ref m43, .ref m44, .ref m45])), (m10, .inl (cI, 34, .inl fm10)), (m30, .inl (cI, 680, .inl f52_m30))]) [0, 1, 2] (by decide +kernel) rfl
        exact W.vret hx hb hr (fun t ht hW => ⟨⟨(fun _ => 0), rfl, trivial, ⟨f52_m30, (un + 1), by omega, (rm_n c1 hv52x), (by rw [if_pos (by omega)]), by rw [ht]; exact hP9, hD9⟩⟩, hS.F ht⟩) hS.2.2 dX11_remember_94
      ·
        have c2 : ¬ 34 ≤ k52 := fun h => c2 ((nI_leI (a := 34) (b := k52) (by omega) (by omega)).mpr h)
        omega
    | succ d52 ih52 =>
      intro k52 f52_m30 H locs ls hk52 hv52_0 hP hD hS hl
      refine lv_iload_n hx hb dX11_remember_52 rfl (lv_at hl 0 rfl) ?_
      refine lv_bipush (v := 34) hx hb dX11_remember_53 (by decide) ?_
      refine lv_icmp_ge (tgt := 84) hx hb dX11_remember_55 (by decide) (fun c4 => ?_) (fun c4 => ?_)
      ·
        have c4 : 34 ≤ k52 := (nI_leI (a := 34) (b := k52) (by omega) (by omega)).mp c4
        omega
      ·
        have c4 : ¬ 34 ≤ k52 := fun h => c4 ((nI_leI (a := 34) (b := k52) (by omega) (by omega)).mpr h)
        refine lv_aload_n hx hb dX11_remember_58 rfl (lv_at hl 1 rfl) ?_
        refine va_get (D := (dC, dI)) (ci := 11) (v := .ref m30) (C := RX11) (T := TX11) (N := 46) hx hb hts hi_X11 hown hK hP 0 rfl rfl 30 (by decide) (hts (.fieldLink RX11 65 "LeftQuillsModel" "past" "[I") (wmx 2 rfl)) (fun _ h9 => h9) rfl dX11_remember_59 ?_
        refine lv_bipush (v := 34) hx hb dX11_remember_62 (by decide) ?_
        refine lv_aload_n hx hb dX11_remember_64 rfl (lv_at hl 1 rfl) ?_
        refine va_get (D := (dC, dI)) (ci := 11) (v := .int (nI un)) (C := RX11) (T := TX11) (N := 46) hx hb hts hi_X11 hown hK hP 0 rfl rfl 29 (by decide) (hts (.fieldLink RX11 174 "LeftQuillsModel" "undos" "I") (wmx 1 rfl)) (fun _ h9 => h9) rfl dX11_remember_65 ?_
        refine lv_imul hx hb dX11_remember_68 ?_
        refine lv_topi (fun z5 ez5 => ?_)
        obtain rfl : z5 = nI (34 * un) := ez5.trans (pk_mul 34 un)
        refine lv_iload_n hx hb dX11_remember_69 rfl (lv_at hl 0 rfl) ?_
        refine lv_iadd hx hb dX11_remember_70 ?_
        refine lv_topi (fun z6 ez6 => ?_)
        obtain rfl : z6 = nI ((34 * un) + k52) := ez6.trans (nI_add (34 * un) k52)
        refine lv_aload_n hx hb dX11_remember_71 rfl (lv_at hl 1 rfl) ?_
        refine va_get (D := (dC, dI)) (ci := 11) (v := .ref m10) (C := RX11) (T := TX11) (N := 46) hx hb hts hi_X11 hown hK hP 0 rfl rfl 10 (by decide) (hts (.fieldLink RX11 28 "LeftQuillsModel" "now" "[I") (wmx 3 rfl)) (fun _ h9 => h9) rfl dX11_remember_72 ?_
        refine lv_iload_n hx hb dX11_remember_75 rfl (lv_at hl 0 rfl) ?_
        refine va_iald hx hb hK hP 1 0 rfl rfl (vp_in_nI (n := k52) (N := 34) (by omega) (by decide)) dX11_remember_76 ?_
        refine W.eq (g2 := F0 m 77 ls [.int (fm10 k52), .int (nI ((34 * un) + k52)), .ref m30]) (congrArg (fun y9 => F0 m 77 ls (.int (fm10 y9) :: [.int (nI ((34 * un) + k52)), .ref m30])) ((nI_clamp (n := k52) (by omega)))) ?_
        refine va_iast hx hb hK hP hD hS 2 0 rfl rfl (vp_in_nI (n := (34 * un) + k52) (N := 680) (by omega) (by decide)) dX11_remember_77 (fun H locs hP hD hS => ?_)
        have hcl := (nI_clamp (n := (34 * un) + k52) (by omega))
        rw [hcl] at hP hD
        clear hcl
        have hP : va_P (dC, dI) vwCl [(h0, .inr (11, [.int n0, .int n1, .int (nI nq), .ref m3, .ref m4, .ref m5, .int (nI nh), .ref m7, .ref m8, .ref m9, .ref m10, .int (nI sd), .ref m12, .int (nI tx), .int n14, .int (nI at9), .int n16, .int n17, .ref m18, .int (nI rq), .ref m20, .ref m21, .ref m22, .ref m23, .ref m24, .int (nI rh), .ref m26, .ref m27, .ref m28, .int (nI un), .ref m30, .int n31, .int n32, .ref m33, .int n34, .int n35, .ref m36, .int (nI wm), .ref m38, .ref m39, .ref m40, .int (nI bk), .ref m42, .ref m43, .ref m44, .ref m45])), (m10, .inl (cI, 34, .inl fm10)), (m30, .inl (cI, 680, .inl (upd f52_m30 ((34 * un) + k52) (fm10 k52))))] H := hP
        have hD : va_D A [(h0, .inr (11, [.int n0, .int n1, .int (nI nq), .ref m3, .ref m4, .ref m5, .int (nI nh), .ref m7, .ref m8, .ref m9, .ref m10, .int (nI sd), .ref m12, .int (nI tx), .int n14, .int (nI at9), .int n16, .int n17, .ref m18, .int (nI rq), .ref m20, .ref m21, .ref m22, .ref m23, .ref m24, .int (nI rh), .ref m26, .ref m27, .ref m28, .int (nI un), .ref m30, .int n31, .int n32, .ref m33, .int n34, .int n35, .ref m36, .int (nI wm), .ref m38, .ref m39, .ref m40, .int (nI bk), .ref m42, .ref m43, .ref m44, .ref m45])), (m10, .inl (cI, 34, .inl fm10)), (m30, .inl (cI, 680, .inl (upd f52_m30 ((34 * un) + k52) (fm10 k52))))] := hD
        refine lv_iinc (v := nI (k52 + 1)) (lv' := [(1, .int (nI (k52 + 1))), (0, .ref h0)]) hx hb dX11_remember_78 hl (k := 0) rfl ((rfl : nI k52 + Int32.ofInt 1 = nI k52 + 1).trans (nI_add k52 1)) (by decide) rfl (fun ls hl => ?_)
        refine lv_goto (tgt := 52) hx hb dX11_remember_81 (by decide) ?_
        exact ih52 (k52 + 1) (upd f52_m30 ((34 * un) + k52) (fm10 k52)) _ _ _ (by omega) (rm_step hv52_0) hP hD hS (lv_sub hl [0, 1] rfl)
  ·
    have c1 : un = 20 := (nI_eq (a := un) (b := 20) (by omega) (by omega)).mp c1
    refine lv_bipush (v := 34) hx hb dX11_remember_9 (by decide) ?_
    refine lv_istore_n (lv' := [(1, .int 34), (0, .ref h0)]) hx hb dX11_remember_11 rfl hl (by decide) rfl (fun ls hl => ?_)
    refine (fun (K : ∀ (d12 : Nat) (k12 : Nat) (f12_m30 : Nat → Int32) (H : Heap) (locs : List Loc) (ls : Array Slot), k12 + d12 = 680 → 34 ≤ k12 → (∀ i, f12_m30 i = if i + 34 < k12 then fm30 (i + 34) else fm30 i) → va_P (dC, dI) vwCl [(h0, .inr (11, [.int n0, .int n1, .int (nI nq), .ref m3, .ref m4, .ref m5, .int (nI nh), .ref m7, .ref m8, .ref m9, .ref m10, .int (nI sd), .ref m12, .int (nI tx), .int n14, .int (nI at9), .int n16, .int n17, .ref m18, .int (nI rq), .ref m20, .ref m21, .ref m22, .ref m23, .ref m24, .int (nI rh), .ref m26, .ref m27, .ref m28, .int (nI un), .ref m30, .int n31, .int n32, .ref m33, .int n34, .int n35, .ref m36, .int (nI wm), .ref m38, .ref m39, .ref m40, .int (nI bk), .ref m42, .ref m43, .ref m44, .ref m45])), (m10, .inl (cI, 34, .inl fm10)), (m30, .inl (cI, 680, .inl f12_m30))] H → va_D A [(h0, .inr (11, [.int n0, .int n1, .int (nI nq), .ref m3, .ref m4, .ref m5, .int (nI nh), .ref m7, .ref m8, .ref m9, .ref m10, .int (nI sd), .ref m12, .int (nI tx), .int n14, .int (nI at9), .int n16, .int n17, .ref m18, .int (nI rq), .ref m20, .ref m21, .ref m22, .ref m23, .ref m24, .int (nI rh), .ref m26, .ref m27, .ref m28, .int (nI un), .ref m30, .int n31, .int n32, .ref m33, .int n34, .int n35, .ref m36, .int (nI wm), .ref m38, .ref m39, .ref m40, .int (nI bk), .ref m42, .ref m43, .ref m44, .ref m45])), (m10, .inl (cI, 34, .inl fm10)), (m30, .inl (cI, 680, .inl f12_m30))] → va_S A s.heap H locs → lv_has ls 2 [(1, .int (nI k12)), (0, .ref h0)] → W p l e _ s m _ below meth c H locs _ _ _ (F0 m 12 ls [])) => K (680 - 34) 34 fm30 _ _ _ (by omega) (by omega) (fun i => (if_neg (by omega)).symm) hP hD hS (lv_sub hl [0, 1] rfl)) ?_
    intro d12
    induction d12 with
    | zero =>
      intro k12 f12_m30 H locs ls hk12 hlo12 hv12_0 hP hD hS hl
      refine lv_iload_n hx hb dX11_remember_12 rfl (lv_at hl 0 rfl) ?_
      refine lv_sipush (v := 680) hx hb dX11_remember_13 (by decide) ?_
      refine lv_icmp_ge (tgt := 40) hx hb dX11_remember_16 (by decide) (fun c8 => ?_) (fun c8 => ?_)
      ·
        have c8 : 680 ≤ k12 := (nI_leI (a := 680) (b := k12) (by omega) (by omega)).mp c8
        have hv12x : ∀ i, f12_m30 i = if i + 34 < 680 then fm30 (i + 34) else fm30 i := fun i => by rw [hv12_0 i, show k12 = 680 from by omega]
        refine lv_aload_n hx hb dX11_remember_40 rfl (lv_at hl 1 rfl) ?_
        refine lv_dup hx hb dX11_remember_41 rfl ?_
        refine va_get (D := (dC, dI)) (ci := 11) (v := .int (nI un)) (C := RX11) (T := TX11) (N := 46) hx hb hts hi_X11 hown hK hP 0 rfl rfl 29 (by decide) (hts (.fieldLink RX11 174 "LeftQuillsModel" "undos" "I") (wmx 1 rfl)) (fun _ h9 => h9) rfl dX11_remember_42 ?_
        refine lv_iconst (v := 1) hx hb dX11_remember_45 (by decide) ?_
        refine lv_isub hx hb dX11_remember_46 ?_
        refine lv_topi (fun z9 ez9 => ?_)
        obtain rfl : z9 = nI (un - 1) := ez9.trans (pk_sub (a := un) (b := 1) (by omega))
        refine va_put (D := (dC, dI)) (ci := 11) (v := .int (nI (un - 1))) (ty := .int) (C := RX11) (T := TX11) (N := 46) hx hb hts hi_X11 tyX11 tyX11_ok nmX11 hown hK hP hD hS 0 rfl rfl 29 (by decide) (hts (.fieldLink RX11 174 "LeftQuillsModel" "undos" "I") (wmx 1 rfl)) (fun _ h9 => h9) rfl (by decide +kernel) rfl rfl (Nat.le_of_ble_eq_true rfl) dX11_remember_47 (fun H locs hP hD hS => ?_)
        have hP : va_P (dC, dI) vwCl [(h0, .inr (11, [.int n0, .int n1, .int (nI nq), .ref m3, .ref m4, .ref m5, .int (nI nh), .ref m7, .ref m8, .ref m9, .ref m10, .int (nI sd), .ref m12, .int (nI tx), .int n14, .int (nI at9), .int n16, .int n17, .ref m18, .int (nI rq), .ref m20, .ref m21, .ref m22, .ref m23, .ref m24, .int (nI rh), .ref m26, .ref m27, .ref m28, .int (nI (un - 1)), .ref m30, .int n31, .int n32, .ref m33, .int n34, .int n35, .ref m36, .int (nI wm), .ref m38, .ref m39, .ref m40, .int (nI bk), .ref m42, .ref m43, .ref m44, .ref m45])), (m10, .inl (cI, 34, .inl fm10)), (m30, .inl (cI, 680, .inl f12_m30))] H := hP
        have hD : va_D A [(h0, .inr (11, [.int n0, .int n1, .int (nI nq), .ref m3, .ref m4, .ref m5, .int (nI nh), .ref m7, .ref m8, .ref m9, .ref m10, .int (nI sd), .ref m12, .int (nI tx), .int n14, .int (nI at9), .int n16, .int n17, .ref m18, .int (nI rq), .ref m20, .ref m21, .ref m22, .ref m23, .ref m24, .int (nI rh), .ref m26, .ref m27, .ref m28, .int (nI (un - 1)), .ref m30, .int n31, .int n32, .ref m33, .int n34, .int n35, .ref m36, .int (nI wm), .ref m38, .ref m39, .ref m40, .int (nI bk), .ref m42, .ref m43, .ref m44, .ref m45])), (m10, .inl (cI, 34, .inl fm10)), (m30, .inl (cI, 680, .inl f12_m30))] := hD
        refine lv_iconst (v := 0) hx hb dX11_remember_50 (by decide) ?_
        refine lv_istore_n (lv' := [(1, .int 0), (0, .ref h0)]) hx hb dX11_remember_51 rfl hl (by decide) rfl (fun ls hl => ?_)
        refine (fun (K : ∀ (d52 : Nat) (k52 : Nat) (f52_m30 : Nat → Int32) (H : Heap) (locs : List Loc) (ls : Array Slot), k52 + d52 = 34 → (∀ i, f52_m30 i = if 34 * (un - 1) ≤ i ∧ i < 34 * (un - 1) + k52 then fm10 (i - 34 * (un - 1)) else f12_m30 i) → va_P (dC, dI) vwCl [(h0, .inr (11, [.int n0, .int n1, .int (nI nq), .ref m3, .ref m4, .ref m5, .int (nI nh), .ref m7, .ref m8, .ref m9, .ref m10, .int (nI sd), .ref m12, .int (nI tx), .int n14, .int (nI at9), .int n16, .int n17, .ref m18, .int (nI rq), .ref m20, .ref m21, .ref m22, .ref m23, .ref m24, .int (nI rh), .ref m26, .ref m27, .ref m28, .int (nI (un - 1)), .ref m30, .int n31, .int n32, .ref m33, .int n34, .int n35, .ref m36, .int (nI wm), .ref m38, .ref m39, .ref m40, .int (nI bk), .ref m42, .ref m43, .ref m44, .ref m45])), (m10, .inl (cI, 34, .inl fm10)), (m30, .inl (cI, 680, .inl f52_m30))] H → va_D A [(h0, .inr (11, [.int n0, .int n1, .int (nI nq), .ref m3, .ref m4, .ref m5, .int (nI nh), .ref m7, .ref m8, .ref m9, .ref m10, .int (nI sd), .ref m12, .int (nI tx), .int n14, .int (nI at9), .int n16, .int n17, .ref m18, .int (nI rq), .ref m20, .ref m21, .ref m22, .ref m23, .ref m24, .int (nI rh), .ref m26, .ref m27, .ref m28, .int (nI (un - 1)), .ref m30, .int n31, .int n32, .ref m33, .int n34, .int n35, .ref m36, .int (nI wm), .ref m38, .ref m39, .ref m40, .int (nI bk), .ref m42, .ref m43, .ref m44, .ref m45])), (m10, .inl (cI, 34, .inl fm10)), (m30, .inl (cI, 680, .inl f52_m30))] → va_S A s.heap H locs → lv_has ls 2 [(1, .int (nI k52)), (0, .ref h0)] → W p l e _ s m _ below meth c H locs _ _ _ (F0 m 52 ls [])) => K 34 0 f12_m30 _ _ _ (by omega) (fun i => (if_neg (by omega)).symm) hP hD hS (lv_sub hl [0, 1] rfl)) ?_
        intro d52
        induction d52 with
        | zero =>
          intro k52 f52_m30 H locs ls hk52 hv52_0 hP hD hS hl
          refine lv_iload_n hx hb dX11_remember_52 rfl (lv_at hl 0 rfl) ?_
          refine lv_bipush (v := 34) hx hb dX11_remember_53 (by decide) ?_
          refine lv_icmp_ge (tgt := 84) hx hb dX11_remember_55 (by decide) (fun c10 => ?_) (fun c10 => ?_)
          ·
            have c10 : 34 ≤ k52 := (nI_leI (a := 34) (b := k52) (by omega) (by omega)).mp c10
            have hv52x : ∀ i, f52_m30 i = if 34 * (un - 1) ≤ i ∧ i < 34 * (un - 1) + 34 then fm10 (i - 34 * (un - 1)) else f12_m30 i := fun i => by rw [hv52_0 i, show k52 = 34 from by omega]
            refine lv_aload_n hx hb dX11_remember_84 rfl (lv_at hl 1 rfl) ?_
            refine lv_dup hx hb dX11_remember_85 rfl ?_
            refine va_get (D := (dC, dI)) (ci := 11) (v := .int (nI (un - 1))) (C := RX11) (T := TX11) (N := 46) hx hb hts hi_X11 hown hK hP 0 rfl rfl 29 (by decide) (hts (.fieldLink RX11 174 "LeftQuillsModel" "undos" "I") (wmx 1 rfl)) (fun _ h9 => h9) rfl dX11_remember_86 ?_
            refine lv_iconst (v := 1) hx hb dX11_remember_89 (by decide) ?_
            refine lv_iadd hx hb dX11_remember_90 ?_
            refine lv_topi (fun z11 ez11 => ?_)
            obtain rfl : z11 = nI ((un - 1) + 1) := ez11.trans (nI_add (un - 1) 1)
            refine va_put (D := (dC, dI)) (ci := 11) (v := .int (nI ((un - 1) + 1))) (ty := .int) (C := RX11) (T := TX11) (N := 46) hx hb hts hi_X11 tyX11 tyX11_ok nmX11 hown hK hP hD hS 0 rfl rfl 29 (by decide) (hts (.fieldLink RX11 174 "LeftQuillsModel" "undos" "I") (wmx 1 rfl)) (fun _ h9 => h9) rfl (by decide +kernel) rfl rfl (Nat.le_of_ble_eq_true rfl) dX11_remember_91 (fun H locs hP hD hS => ?_)
            have hP : va_P (dC, dI) vwCl [(h0, .inr (11, [.int n0, .int n1, .int (nI nq), .ref m3, .ref m4, .ref m5, .int (nI nh), .ref m7, .ref m8, .ref m9, .ref m10, .int (nI sd), .ref m12, .int (nI tx), .int n14, .int (nI at9), .int n16, .int n17, .ref m18, .int (nI rq), .ref m20, .ref m21, .ref m22, .ref m23, .ref m24, .int (nI rh), .ref m26, .ref m27, .ref m28, .int (nI ((un - 1) + 1)), .ref m30, .int n31, .int n32, .ref m33, .int n34, .int n35, .ref m36, .int (nI wm), .ref m38, .ref m39, .ref m40, .int (nI bk), .ref m42, .ref m43, .ref m44, .ref m45])), (m10, .inl (cI, 34, .inl fm10)), (m30, .inl (cI, 680, .inl f52_m30))] H := hP
            have hD : va_D A [(h0, .inr (11, [.int n0, .int n1, .int (nI nq), .ref m3, .ref m4, .ref m5, .int (nI nh), .ref m7, .ref m8, .ref m9, .ref m10, .int (nI sd), .ref m12, .int (nI tx), .int n14, .int (nI at9), .int n16, .int n17, .ref m18, .int (nI rq), .ref m20, .ref m21, .ref m22, .ref m23, .ref m24, .int (nI rh), .ref m26, .ref m27, .ref m28, .int (nI ((un - 1) + 1)), .ref m30, .int n31, .int n32, .ref m33, .int n34, .int n35, .ref m36, .int (nI wm), .ref m38, .ref m39, .ref m40, .int (nI bk), .ref m42, .ref m43, .ref m44, .ref m45])), (m10, .inl (cI, 34, .inl fm10)), (m30, .inl (cI, 680, .inl f52_m30))] := hD
            have hP9 := hP.sub (ws' := [(h0, .inr (11, [.int n0, .int n1, .int (nI nq), .ref m3, .ref m4, .ref m5, .int (nI nh), .ref m7, .ref m8, .ref m9, .ref m10, .int (nI sd), .ref m12, .int (nI tx), .int n14, .int (nI at9), .int n16, .int n17, .ref m18, .int (nI rq), .ref m20, .ref m21, .ref m22, .ref m23, .ref m24, .int (nI rh), .ref m26, .ref m27, .ref m28, .int (nI ((un - 1) + 1)), .ref m30, .int n31, .int n32, .ref m33, .int n34, .int n35, .ref m36, .int (nI wm), .ref m38, .ref m39, .ref m40, .int (nI bk), .ref m42, .ref m43, .ref m44, .ref m45])), (m10, .inl (cI, 34, .inl fm10)), (m30, .inl (cI, 680, .inl f52_m30))]) [0, 1, 2] rfl
            have hD9 := hD.sub (ws' := [(h0, .inr (11, [.int n0, .int n1, .int (nI nq), .ref m3, .ref m4, .ref m5, .int (nI nh), .ref m7, .ref m8, .ref m9, .ref m10, .int (nI sd), .ref m12, .int (nI tx), .int n14, .int (nI at9), .int n16, .int n17, .ref m18, .int (nI rq), .ref m20, .ref m21, .ref m22, .ref m23, .ref m24, .int (nI rh), .ref m26, .ref m27, .ref m28, .int (nI ((un - 1) + 1)), .ref m30, .int n31, .int n32, .ref m33, .int n34, .int n35, .ref m36, .int (nI wm), .ref m38, .ref m39, .ref m40, .int (nI bk), .ref m42, .ref m43, .ref m44, .ref m45])), (m10, .inl (cI, 34, .inl fm10)), (m30, .inl (cI, 680, .inl f52_m30))]) [0, 1, 2] (by decide +kernel) rfl
            exact W.vret hx hb hr (fun t ht hW => ⟨⟨(fun _ => 0), rfl, trivial, ⟨f52_m30, ((un - 1) + 1), by omega, (rm_20 c1 hv12x hv52x), (by rw [if_neg (by omega)]; omega), by rw [ht]; exact hP9, hD9⟩⟩, hS.F ht⟩) hS.2.2 dX11_remember_94
          ·
            have c10 : ¬ 34 ≤ k52 := fun h => c10 ((nI_leI (a := 34) (b := k52) (by omega) (by omega)).mpr h)
            omega
        | succ d52 ih52 =>
          intro k52 f52_m30 H locs ls hk52 hv52_0 hP hD hS hl
          refine lv_iload_n hx hb dX11_remember_52 rfl (lv_at hl 0 rfl) ?_
          refine lv_bipush (v := 34) hx hb dX11_remember_53 (by decide) ?_
          refine lv_icmp_ge (tgt := 84) hx hb dX11_remember_55 (by decide) (fun c12 => ?_) (fun c12 => ?_)
          ·
            have c12 : 34 ≤ k52 := (nI_leI (a := 34) (b := k52) (by omega) (by omega)).mp c12
            omega
          ·
            have c12 : ¬ 34 ≤ k52 := fun h => c12 ((nI_leI (a := 34) (b := k52) (by omega) (by omega)).mpr h)
            refine lv_aload_n hx hb dX11_remember_58 rfl (lv_at hl 1 rfl) ?_
            refine va_get (D := (dC, dI)) (ci := 11) (v := .ref m30) (C := RX11) (T := TX11) (N := 46) hx hb hts hi_X11 hown hK hP 0 rfl rfl 30 (by decide) (hts (.fieldLink RX11 65 "LeftQuillsModel" "past" "[I") (wmx 2 rfl)) (fun _ h9 => h9) rfl dX11_remember_59 ?_
            refine lv_bipush (v := 34) hx hb dX11_remember_62 (by decide) ?_
            refine lv_aload_n hx hb dX11_remember_64 rfl (lv_at hl 1 rfl) ?_
            refine va_get (D := (dC, dI)) (ci := 11) (v := .int (nI (un - 1))) (C := RX11) (T := TX11) (N := 46) hx hb hts hi_X11 hown hK hP 0 rfl rfl 29 (by decide) (hts (.fieldLink RX11 174 "LeftQuillsModel" "undos" "I") (wmx 1 rfl)) (fun _ h9 => h9) rfl dX11_remember_65 ?_
            refine lv_imul hx hb dX11_remember_68 ?_
            refine lv_topi (fun z13 ez13 => ?_)
            obtain rfl : z13 = nI (34 * (un - 1)) := ez13.trans (pk_mul 34 (un - 1))
            refine lv_iload_n hx hb dX11_remember_69 rfl (lv_at hl 0 rfl) ?_
            refine lv_iadd hx hb dX11_remember_70 ?_
            refine lv_topi (fun z14 ez14 => ?_)
            obtain rfl : z14 = nI ((34 * (un - 1)) + k52) := ez14.trans (nI_add (34 * (un - 1)) k52)
            refine lv_aload_n hx hb dX11_remember_71 rfl (lv_at hl 1 rfl) ?_
            refine va_get (D := (dC, dI)) (ci := 11) (v := .ref m10) (C := RX11) (T := TX11) (N := 46) hx hb hts hi_X11 hown hK hP 0 rfl rfl 10 (by decide) (hts (.fieldLink RX11 28 "LeftQuillsModel" "now" "[I") (wmx 3 rfl)) (fun _ h9 => h9) rfl dX11_remember_72 ?_
            refine lv_iload_n hx hb dX11_remember_75 rfl (lv_at hl 0 rfl) ?_
            refine va_iald hx hb hK hP 1 0 rfl rfl (vp_in_nI (n := k52) (N := 34) (by omega) (by decide)) dX11_remember_76 ?_
            refine W.eq (g2 := F0 m 77 ls [.int (fm10 k52), .int (nI ((34 * (un - 1)) + k52)), .ref m30]) (congrArg (fun y9 => F0 m 77 ls (.int (fm10 y9) :: [.int (nI ((34 * (un - 1)) + k52)), .ref m30])) ((nI_clamp (n := k52) (by omega)))) ?_
            refine va_iast hx hb hK hP hD hS 2 0 rfl rfl (vp_in_nI (n := (34 * (un - 1)) + k52) (N := 680) (by omega) (by decide)) dX11_remember_77 (fun H locs hP hD hS => ?_)
            have hcl := (nI_clamp (n := (34 * (un - 1)) + k52) (by omega))
            rw [hcl] at hP hD
            clear hcl
            have hP : va_P (dC, dI) vwCl [(h0, .inr (11, [.int n0, .int n1, .int (nI nq), .ref m3, .ref m4, .ref m5, .int (nI nh), .ref m7, .ref m8, .ref m9, .ref m10, .int (nI sd), .ref m12, .int (nI tx), .int n14, .int (nI at9), .int n16, .int n17, .ref m18, .int (nI rq), .ref m20, .ref m21, .ref m22, .ref m23, .ref m24, .int (nI rh), .ref m26, .ref m27, .ref m28, .int (nI (un - 1)), .ref m30, .int n31, .int n32, .ref m33, .int n34, .int n35, .ref m36, .int (nI wm), .ref m38, .ref m39, .ref m40, .int (nI bk), .ref m42, .ref m43, .ref m44, .ref m45])), (m10, .inl (cI, 34, .inl fm10)), (m30, .inl (cI, 680, .inl (upd f52_m30 ((34 * (un - 1)) + k52) (fm10 k52))))] H := hP
            have hD : va_D A [(h0, .inr (11, [.int n0, .int n1, .int (nI nq), .ref m3, .ref m4, .ref m5, .int (nI nh), .ref m7, .ref m8, .ref m9, .ref m10, .int (nI sd), .ref m12, .int (nI tx), .int n14, .int (nI at9), .int n16, .int n17, .ref m18, .int (nI rq), .ref m20, .ref m21, .ref m22, .ref m23, .ref m24, .int (nI rh), .ref m26, .ref m27, .ref m28, .int (nI (un - 1)), .ref m30, .int n31, .int n32, .ref m33, .int n34, .int n35, .ref m36, .int (nI wm), .ref m38, .ref m39, .ref m40, .int (nI bk), .ref m42, .ref m43, .ref m44, .ref m45])), (m10, .inl (cI, 34, .inl fm10)), (m30, .inl (cI, 680, .inl (upd f52_m30 ((34 * (un - 1)) + k52) (fm10 k52))))] := hD
            refine lv_iinc (v := nI (k52 + 1)) (lv' := [(1, .int (nI (k52 + 1))), (0, .ref h0)]) hx hb dX11_remember_78 hl (k := 0) rfl ((rfl : nI k52 + Int32.ofInt 1 = nI k52 + 1).trans (nI_add k52 1)) (by decide) rfl (fun ls hl => ?_)
            refine lv_goto (tgt := 52) hx hb dX11_remember_81 (by decide) ?_
            exact ih52 (k52 + 1) (upd f52_m30 ((34 * (un - 1)) + k52) (fm10 k52)) _ _ _ (by omega) (rm_step hv52_0) hP hD hS (lv_sub hl [0, 1] rfl)
      ·
        have c8 : ¬ 680 ≤ k12 := fun h => c8 ((nI_leI (a := 680) (b := k12) (by omega) (by omega)).mpr h)
        omega
    | succ d12 ih12 =>
      intro k12 f12_m30 H locs ls hk12 hlo12 hv12_0 hP hD hS hl
      refine lv_iload_n hx hb dX11_remember_12 rfl (lv_at hl 0 rfl) ?_
      refine lv_sipush (v := 680) hx hb dX11_remember_13 (by decide) ?_
      refine lv_icmp_ge (tgt := 40) hx hb dX11_remember_16 (by decide) (fun c16 => ?_) (fun c16 => ?_)
      ·
        have c16 : 680 ≤ k12 := (nI_leI (a := 680) (b := k12) (by omega) (by omega)).mp c16
        omega
      ·
        have c16 : ¬ 680 ≤ k12 := fun h => c16 ((nI_leI (a := 680) (b := k12) (by omega) (by omega)).mpr h)
        refine lv_aload_n hx hb dX11_remember_19 rfl (lv_at hl 1 rfl) ?_
        refine va_get (D := (dC, dI)) (ci := 11) (v := .ref m30) (C := RX11) (T := TX11) (N := 46) hx hb hts hi_X11 hown hK hP 0 rfl rfl 30 (by decide) (hts (.fieldLink RX11 65 "LeftQuillsModel" "past" "[I") (wmx 2 rfl)) (fun _ h9 => h9) rfl dX11_remember_20 ?_
        refine lv_iload_n hx hb dX11_remember_23 rfl (lv_at hl 0 rfl) ?_
        refine lv_bipush (v := 34) hx hb dX11_remember_24 (by decide) ?_
        refine lv_isub hx hb dX11_remember_26 ?_
        refine lv_topi (fun z17 ez17 => ?_)
        obtain rfl : z17 = nI (k12 - 34) := ez17.trans (pk_sub (a := k12) (b := 34) (by omega))
        refine lv_aload_n hx hb dX11_remember_27 rfl (lv_at hl 1 rfl) ?_
        refine va_get (D := (dC, dI)) (ci := 11) (v := .ref m30) (C := RX11) (T := TX11) (N := 46) hx hb hts hi_X11 hown hK hP 0 rfl rfl 30 (by decide) (hts (.fieldLink RX11 65 "LeftQuillsModel" "past" "[I") (wmx 2 rfl)) (fun _ h9 => h9) rfl dX11_remember_28 ?_
        refine lv_iload_n hx hb dX11_remember_31 rfl (lv_at hl 0 rfl) ?_
        refine va_iald hx hb hK hP 2 0 rfl rfl (vp_in_nI (n := k12) (N := 680) (by omega) (by decide)) dX11_remember_32 ?_
        refine W.eq (g2 := F0 m 33 ls [.int (f12_m30 k12), .int (nI (k12 - 34)), .ref m30]) (congrArg (fun y9 => F0 m 33 ls (.int (f12_m30 y9) :: [.int (nI (k12 - 34)), .ref m30])) ((nI_clamp (n := k12) (by omega)))) ?_
        refine va_iast hx hb hK hP hD hS 2 0 rfl rfl (vp_in_nI (n := k12 - 34) (N := 680) (by omega) (by decide)) dX11_remember_33 (fun H locs hP hD hS => ?_)
        have hcl := (nI_clamp (n := k12 - 34) (by omega))
        rw [hcl] at hP hD
        clear hcl
        have hP : va_P (dC, dI) vwCl [(h0, .inr (11, [.int n0, .int n1, .int (nI nq), .ref m3, .ref m4, .ref m5, .int (nI nh), .ref m7, .ref m8, .ref m9, .ref m10, .int (nI sd), .ref m12, .int (nI tx), .int n14, .int (nI at9), .int n16, .int n17, .ref m18, .int (nI rq), .ref m20, .ref m21, .ref m22, .ref m23, .ref m24, .int (nI rh), .ref m26, .ref m27, .ref m28, .int (nI un), .ref m30, .int n31, .int n32, .ref m33, .int n34, .int n35, .ref m36, .int (nI wm), .ref m38, .ref m39, .ref m40, .int (nI bk), .ref m42, .ref m43, .ref m44, .ref m45])), (m10, .inl (cI, 34, .inl fm10)), (m30, .inl (cI, 680, .inl (upd f12_m30 (k12 - 34) (f12_m30 k12))))] H := hP
        have hD : va_D A [(h0, .inr (11, [.int n0, .int n1, .int (nI nq), .ref m3, .ref m4, .ref m5, .int (nI nh), .ref m7, .ref m8, .ref m9, .ref m10, .int (nI sd), .ref m12, .int (nI tx), .int n14, .int (nI at9), .int n16, .int n17, .ref m18, .int (nI rq), .ref m20, .ref m21, .ref m22, .ref m23, .ref m24, .int (nI rh), .ref m26, .ref m27, .ref m28, .int (nI un), .ref m30, .int n31, .int n32, .ref m33, .int n34, .int n35, .ref m36, .int (nI wm), .ref m38, .ref m39, .ref m40, .int (nI bk), .ref m42, .ref m43, .ref m44, .ref m45])), (m10, .inl (cI, 34, .inl fm10)), (m30, .inl (cI, 680, .inl (upd f12_m30 (k12 - 34) (f12_m30 k12))))] := hD
        refine lv_iinc (v := nI (k12 + 1)) (lv' := [(1, .int (nI (k12 + 1))), (0, .ref h0)]) hx hb dX11_remember_34 hl (k := 0) rfl ((rfl : nI k12 + Int32.ofInt 1 = nI k12 + 1).trans (nI_add k12 1)) (by decide) rfl (fun ls hl => ?_)
        refine lv_goto (tgt := 12) hx hb dX11_remember_37 (by decide) ?_
        exact ih12 (k12 + 1) (upd f12_m30 (k12 - 34) (f12_m30 k12)) _ _ _ (by omega) (by omega) (sh_step (by omega) hv12_0) hP hD hS (lv_sub hl [0, 1] rfl)
