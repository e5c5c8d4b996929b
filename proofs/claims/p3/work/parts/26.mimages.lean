set_option maxHeartbeats 4000000 in
set_option maxRecDepth 100000 in
theorem c_X11_keep (l : Launch) (dC : Nat → ClassId) (dI : Nat → Nat → Nat) (cI cZ cQ : ClassId) (h0 : Nat) (n0 : Int32) (n1 : Int32) (nq : Nat) (m3 : Nat) (m4 : Nat) (m5 : Nat) (nh : Nat) (m7 : Nat) (m8 : Nat) (m9 : Nat) (m10 : Nat) (sd : Nat) (m12 : Nat) (tx : Nat) (n14 : Int32) (at9 : Nat) (n16 : Int32) (n17 : Int32) (m18 : Nat) (rq : Nat) (m20 : Nat) (m21 : Nat) (m22 : Nat) (m23 : Nat) (m24 : Nat) (rh : Nat) (m26 : Nat) (m27 : Nat) (m28 : Nat) (un : Nat) (m30 : Nat) (n31 : Int32) (n32 : Int32) (m33 : Nat) (n34 : Int32) (n35 : Int32) (m36 : Nat) (wm : Nat) (m38 : Nat) (m39 : Nat) (m40 : Nat) (bk : Nat) (m42 : Nat) (m43 : Nat) (m44 : Nat) (m45 : Nat) (fm10 : Nat → Int32) (fm44 : Nat → Int32) (fm45 : Nat → Int32) (q0 : Int32) (sz : Nat) (hmi : mIn fm44) (hsd : sd ≤ 2147483647) (hun : un ≤ 20) : Met l yX11_keep wsX11_keep ({ frames := 1, cells := 0, slots := 0, locals := 65 }) (va_Pc [.ref h0, .int q0] (fun U => U.heap.size = sz ∧ va_P (dC, dI) vwCl [(h0, .inr (11, [.int n0, .int n1, .int (nI nq), .ref m3, .ref m4, .ref m5, .int (nI nh), .ref m7, .ref m8, .ref m9, .ref m10, .int (nI sd), .ref m12, .int (nI tx), .int n14, .int (nI at9), .int n16, .int n17, .ref m18, .int (nI rq), .ref m20, .ref m21, .ref m22, .ref m23, .ref m24, .int (nI rh), .ref m26, .ref m27, .ref m28, .int (nI un), .ref m30, .int n31, .int n32, .ref m33, .int n34, .int n35, .ref m36, .int (nI wm), .ref m38, .ref m39, .ref m40, .int (nI bk), .ref m42, .ref m43, .ref m44, .ref m45])), (m10, .inl (cI, 34, .inl fm10)), (m44, .inl (cI, 70, .inl fm44)), (m45, .inl (cZ, 2, .inl fm45))] U.heap ∧ va_K (dC, dI) vwCl (tys0 cI cZ cQ) U ∧ va_D (fun _ => True) [(h0, .inr (11, [.int n0, .int n1, .int (nI nq), .ref m3, .ref m4, .ref m5, .int (nI nh), .ref m7, .ref m8, .ref m9, .ref m10, .int (nI sd), .ref m12, .int (nI tx), .int n14, .int (nI at9), .int n16, .int n17, .ref m18, .int (nI rq), .ref m20, .ref m21, .ref m22, .ref m23, .ref m24, .int (nI rh), .ref m26, .ref m27, .ref m28, .int (nI un), .ref m30, .int n31, .int n32, .ref m33, .int n34, .int n35, .ref m36, .int (nI wm), .ref m38, .ref m39, .ref m40, .int (nI bk), .ref m42, .ref m43, .ref m44, .ref m45])), (m10, .inl (cI, 34, .inl fm10)), (m44, .inl (cI, 70, .inl fm44)), (m45, .inl (cZ, 2, .inl fm45))])) (va_Qi (fun (r : Int32) (u : Nat → Nat) => True) (fun (_ : Nat → Nat) (t : State) => ∃ (gg0 gg1 : Nat → Int32) (kk0 : Nat), kk0 ≤ 20 ∧ (mIn gg0) ∧ va_P (dC, dI) vwCl [(h0, .inr (11, [.int n0, .int n1, .int (nI nq), .ref m3, .ref m4, .ref m5, .int (nI nh), .ref m7, .ref m8, .ref m9, .ref m10, .int (nI sd), .ref m12, .int (nI tx), .int n14, .int (nI at9), .int n16, .int n17, .ref m18, .int (nI rq), .ref m20, .ref m21, .ref m22, .ref m23, .ref m24, .int (nI rh), .ref m26, .ref m27, .ref m28, .int (nI kk0), .ref m30, .int n31, .int n32, .ref m33, .int n34, .int n35, .ref m36, .int (nI wm), .ref m38, .ref m39, .ref m40, .int (nI bk), .ref m42, .ref m43, .ref m44, .ref m45])), (m10, .inl (cI, 34, .inl fm10)), (m44, .inl (cI, 70, .inl gg0)), (m45, .inl (cZ, 2, .inl gg1))] t.heap ∧ va_D (va_A [(h0, .inr (11, [.int n0, .int n1, .int (nI nq), .ref m3, .ref m4, .ref m5, .int (nI nh), .ref m7, .ref m8, .ref m9, .ref m10, .int (nI sd), .ref m12, .int (nI tx), .int n14, .int (nI at9), .int n16, .int n17, .ref m18, .int (nI rq), .ref m20, .ref m21, .ref m22, .ref m23, .ref m24, .int (nI rh), .ref m26, .ref m27, .ref m28, .int (nI un), .ref m30, .int n31, .int n32, .ref m33, .int n34, .int n35, .ref m36, .int (nI wm), .ref m38, .ref m39, .ref m40, .int (nI bk), .ref m42, .ref m43, .ref m44, .ref m45])), (m10, .inl (cI, 34, .inl fm10)), (m44, .inl (cI, 70, .inl fm44)), (m45, .inl (cZ, 2, .inl fm45))] sz) [(h0, .inr (11, [.int n0, .int n1, .int (nI nq), .ref m3, .ref m4, .ref m5, .int (nI nh), .ref m7, .ref m8, .ref m9, .ref m10, .int (nI sd), .ref m12, .int (nI tx), .int n14, .int (nI at9), .int n16, .int n17, .ref m18, .int (nI rq), .ref m20, .ref m21, .ref m22, .ref m23, .ref m24, .int (nI rh), .ref m26, .ref m27, .ref m28, .int (nI kk0), .ref m30, .int n31, .int n32, .ref m33, .int n34, .int n35, .ref m36, .int (nI wm), .ref m38, .ref m39, .ref m40, .int (nI bk), .ref m42, .ref m43, .ref m44, .ref m45])), (m10, .inl (cI, 34, .inl fm10)), (m44, .inl (cI, 70, .inl gg0)), (m45, .inl (cZ, 2, .inl gg1))]) (va_A [(h0, .inr (11, [.int n0, .int n1, .int (nI nq), .ref m3, .ref m4, .ref m5, .int (nI nh), .ref m7, .ref m8, .ref m9, .ref m10, .int (nI sd), .ref m12, .int (nI tx), .int n14, .int (nI at9), .int n16, .int n17, .ref m18, .int (nI rq), .ref m20, .ref m21, .ref m22, .ref m23, .ref m24, .int (nI rh), .ref m26, .ref m27, .ref m28, .int (nI un), .ref m30, .int n31, .int n32, .ref m33, .int n34, .int n35, .ref m36, .int (nI wm), .ref m38, .ref m39, .ref m40, .int (nI bk), .ref m42, .ref m43, .ref m44, .ref m45])), (m10, .inl (cI, 34, .inl fm10)), (m44, .inl (cI, 70, .inl fm44)), (m45, .inl (cZ, 2, .inl fm45))] sz)) 0 0 (va_A [(h0, .inr (11, [.int n0, .int n1, .int (nI nq), .ref m3, .ref m4, .ref m5, .int (nI nh), .ref m7, .ref m8, .ref m9, .ref m10, .int (nI sd), .ref m12, .int (nI tx), .int n14, .int (nI at9), .int n16, .int n17, .ref m18, .int (nI rq), .ref m20, .ref m21, .ref m22, .ref m23, .ref m24, .int (nI rh), .ref m26, .ref m27, .ref m28, .int (nI un), .ref m30, .int n31, .int n32, .ref m33, .int n34, .int n35, .ref m36, .int (nI wm), .ref m38, .ref m39, .ref m40, .int (nI bk), .ref m42, .ref m43, .ref m44, .ref m45])), (m10, .inl (cI, 34, .inl fm10)), (m44, .inl (cI, 70, .inl fm44)), (m45, .inl (cZ, 2, .inl fm45))] sz) := by
  refine Met.ofW (cc := cX11_keep) (maxL := 3) (ret := (some .int)) (by decide) rfl ?_
  intro p e s m args below meth c s₁ B hml hv
  obtain ⟨rfl, hsz, hP, hK, hD0⟩ := hv
  have hx := B.exec
  have hb := B.bytes
  have hr := B.returns
  have hts := atoms_spec (ws := wsX11_keep) B.pre
  have hown : s.vm.findClass RX11 = some m.cls := findClass_of_methodNamed B.named
  have hlocks := B.notSynchronized
  have hi_X11 : ∀ w ∈ u_ws RX11 TX11 46, w ∈ wsX11_keep := by decide +kernel
  subst hsz
  have hD := hD0.self (sz := s.heap.size)
  generalize hAe : va_A [(h0, .inr (11, [.int n0, .int n1, .int (nI nq), .ref m3, .ref m4, .ref m5, .int (nI nh), .ref m7, .ref m8, .ref m9, .ref m10, .int (nI sd), .ref m12, .int (nI tx), .int n14, .int (nI at9), .int n16, .int n17, .ref m18, .int (nI rq), .ref m20, .ref m21, .ref m22, .ref m23, .ref m24, .int (nI rh), .ref m26, .ref m27, .ref m28, .int (nI un), .ref m30, .int n31, .int n32, .ref m33, .int n34, .int n35, .ref m36, .int (nI wm), .ref m38, .ref m39, .ref m40, .int (nI bk), .ref m42, .ref m43, .ref m44, .ref m45])), (m10, .inl (cI, 34, .inl fm10)), (m44, .inl (cI, 70, .inl fm44)), (m45, .inl (cZ, 2, .inl fm45))] s.heap.size = A at hD ⊢
  have hA : ∀ q : Nat, s.heap.size ≤ q → A q := fun q h => by rw [← hAe]; exact Or.inr h
  have hS : va_S A s.heap s.heap [] := va_S.rf
  have hl := lv_entry ([.ref h0, .int q0]) (n := 3) (Nat.le_of_ble_eq_true rfl)
  rw [lg_entry_eq]
  generalize (lg_sl ([.ref h0, .int q0]) ++ List.replicate (3 - (lg_sl ([.ref h0, .int q0])).length) Slot.unset).toArray = ls at hl ⊢
  have hl : lv_has ls 3 [(0, .ref h0), (1, .int q0)] := hl
  refine lv_iload_n hx hb dX11_keep_0 rfl (lv_at hl 1 rfl) ?_
  refine lv_i2l hx hb dX11_keep_1 rfl ?_
  refine lv_lconst (v := 0) hx hb dX11_keep_2 (by decide) ?_
  refine lv_topl (fun z1 ez1 => ?_)
  obtain rfl : z1 = (0 : Int32).toInt64 := ez1.trans (by decide)
  refine lv_lconst (v := 1) hx hb dX11_keep_3 (by decide) ?_
  refine lv_topl (fun z2 ez2 => ?_)
  obtain rfl : z2 = (1 : Int32).toInt64 := ez2.trans (by decide)
  have hPc := hP.sub (ws' := []) [] rfl
  refine va_calli (va_runS (As := [.long q0.toInt64, .long ((0 : Int32).toInt64), .long ((1 : Int32).toInt64)]) (rest := []) ⟨hx, hb, hml, hown, hts⟩ (c_X11_in l dC dI cI cZ cQ q0 0 1 s.heap.size ) (va_cwS 3 hts gX11_keep_X11_in rfl rfl rfl (by decide +kernel) ⟨Nat.le_of_ble_eq_true rfl, Nat.le_of_ble_eq_true rfl⟩) ⟨fun a U g mk q => by obtain ⟨q0, q1, qP, qK⟩ := q; exact ⟨q0, q1, qP, va_K.moved (u := U) (U := U.calling g mk a) (Vm.Alike.refl U.vm) qK⟩, fun U hU hW => ⟨rfl, by rw [hU], by rw [hU]; exact hPc, va_K.moved hW.alike hK⟩⟩ rfl rfl hl.1 rfl (lv_room (Nat.le_of_ble_eq_true rfl)) dX11_keep_4 ⟨Nat.le_of_ble_eq_true rfl, Nat.le_of_ble_eq_true rfl⟩) hS (fun q _ h => False.elim h) (fun q h => False.elim h) (fun r3 u4 t H1 locs ht hvm hw5 hB hz1 hk1 hS => ?_)
  have hP := hP.kept (fun k q hk => hk1 q.1 (hP k q hk).lt (fun h => h))
  clear hz1 hk1 hPc
  generalize H1 = H at hP hS ht ⊢
  try dsimp only at hw5
  rcases hw5 with ⟨rfl, hw5⟩ | ⟨rfl, hw5⟩
  ·
    rcases x_01 hw5 with rfl | rfl
    ·
      refine lv_if_ne (tgt := 13) hx hb dX11_keep_7 (by decide) (fun c6 => ?_) (fun c6 => ?_)
      rotate_left
      · exact absurd c6 (by decide)
      clear c6
      refine lv_iconst (v := 0) hx hb dX11_keep_13 (by decide) ?_
      refine lv_istore_n (lv' := [(2, .int 0), (0, .ref h0), (1, .int 0)]) hx hb dX11_keep_14 rfl hl (by decide) rfl (fun ls hl => ?_)
      refine (fun (K : ∀ (d15 : Nat) (k15 : Nat) (f15_m44 : Nat → Int32) (H : Heap) (locs : List Loc) (ls : Array Slot), k15 + d15 = 34 → mIn f15_m44 → va_P (dC, dI) vwCl [(h0, .inr (11, [.int n0, .int n1, .int (nI nq), .ref m3, .ref m4, .ref m5, .int (nI nh), .ref m7, .ref m8, .ref m9, .ref m10, .int (nI sd), .ref m12, .int (nI tx), .int n14, .int (nI at9), .int n16, .int n17, .ref m18, .int (nI rq), .ref m20, .ref m21, .ref m22, .ref m23, .ref m24, .int (nI rh), .ref m26, .ref m27, .ref m28, .int (nI un), .ref m30, .int n31, .int n32, .ref m33, .int n34, .int n35, .ref m36, .int (nI wm), .ref m38, .ref m39, .ref m40, .int (nI bk), .ref m42, .ref m43, .ref m44, .ref m45])), (m10, .inl (cI, 34, .inl fm10)), (m44, .inl (cI, 70, .inl f15_m44)), (m45, .inl (cZ, 2, .inl fm45))] H → va_D A [(h0, .inr (11, [.int n0, .int n1, .int (nI nq), .ref m3, .ref m4, .ref m5, .int (nI nh), .ref m7, .ref m8, .ref m9, .ref m10, .int (nI sd), .ref m12, .int (nI tx), .int n14, .int (nI at9), .int n16, .int n17, .ref m18, .int (nI rq), .ref m20, .ref m21, .ref m22, .ref m23, .ref m24, .int (nI rh), .ref m26, .ref m27, .ref m28, .int (nI un), .ref m30, .int n31, .int n32, .ref m33, .int n34, .int n35, .ref m36, .int (nI wm), .ref m38, .ref m39, .ref m40, .int (nI bk), .ref m42, .ref m43, .ref m44, .ref m45])), (m10, .inl (cI, 34, .inl fm10)), (m44, .inl (cI, 70, .inl f15_m44)), (m45, .inl (cZ, 2, .inl fm45))] → va_S A s.heap H locs → lv_has ls 3 [(2, .int (nI k15)), (0, .ref h0), (1, .int 0)] → W p l e _ s m _ below meth c H locs _ _ _ (F0 m 15 ls [])) => K 34 0 fm44 _ _ _ (by omega) hmi hP hD hS (lv_sub hl [0, 1, 2] rfl)) ?_
      intro d15
      induction d15 with
      | zero =>
        intro k15 f15_m44 H locs ls hk15 hv15_0 hP hD hS hl
        refine lv_iload_n hx hb dX11_keep_15 rfl (lv_at hl 0 rfl) ?_
        refine lv_bipush (v := 34) hx hb dX11_keep_16 (by decide) ?_
        refine lv_icmp_ge (tgt := 44) hx hb dX11_keep_18 (by decide) (fun c7 => ?_) (fun c7 => ?_)
        ·
          have c7 : 34 ≤ k15 := (nI_leI (a := 34) (b := k15) (by omega) (by omega)).mp c7
          refine lv_aload_n hx hb dX11_keep_44 rfl (lv_at hl 1 rfl) ?_
          refine va_get (D := (dC, dI)) (ci := 11) (v := .ref m44) (C := RX11) (T := TX11) (N := 46) hx hb hts hi_X11 hown hK hP 0 rfl rfl 44 (by decide) (hts (.fieldLink RX11 89 "LeftQuillsModel" "images" "[I") (wmx 2 rfl)) (fun _ h9 => h9) rfl dX11_keep_45 ?_
          refine lv_bipush (v := 35) hx hb dX11_keep_48 (by decide) ?_
          refine lv_iload_n hx hb dX11_keep_50 rfl (lv_at hl 2 rfl) ?_
          refine lv_imul hx hb dX11_keep_51 ?_
          refine lv_topi (fun z8 ez8 => ?_)
          obtain rfl : z8 = 0 := ez8.trans (by decide)
          refine lv_bipush (v := 34) hx hb dX11_keep_52 (by decide) ?_
          refine lv_iadd hx hb dX11_keep_54 ?_
          refine lv_topi (fun z9 ez9 => ?_)
          obtain rfl : z9 = 34 := ez9.trans (by decide)
          refine lv_aload_n hx hb dX11_keep_55 rfl (lv_at hl 1 rfl) ?_
          refine va_get (D := (dC, dI)) (ci := 11) (v := .int (nI sd)) (C := RX11) (T := TX11) (N := 46) hx hb hts hi_X11 hown hK hP 0 rfl rfl 11 (by decide) (hts (.fieldLink RX11 241 "LeftQuillsModel" "seed" "I") (wmx 4 rfl)) (fun _ h9 => h9) rfl dX11_keep_56 ?_
          refine va_iast hx hb hK hP hD hS 2 0 rfl rfl (vp_in_iff.mpr ⟨by decide, by decide⟩) dX11_keep_59 (fun H locs hP hD hS => ?_)
          have hcl := (show ((34 : Int32)).toNatClampNeg = 34 from by decide)
          rw [hcl] at hP hD
          clear hcl
          have hP : va_P (dC, dI) vwCl [(h0, .inr (11, [.int n0, .int n1, .int (nI nq), .ref m3, .ref m4, .ref m5, .int (nI nh), .ref m7, .ref m8, .ref m9, .ref m10, .int (nI sd), .ref m12, .int (nI tx), .int n14, .int (nI at9), .int n16, .int n17, .ref m18, .int (nI rq), .ref m20, .ref m21, .ref m22, .ref m23, .ref m24, .int (nI rh), .ref m26, .ref m27, .ref m28, .int (nI un), .ref m30, .int n31, .int n32, .ref m33, .int n34, .int n35, .ref m36, .int (nI wm), .ref m38, .ref m39, .ref m40, .int (nI bk), .ref m42, .ref m43, .ref m44, .ref m45])), (m10, .inl (cI, 34, .inl fm10)), (m44, .inl (cI, 70, .inl (upd f15_m44 34 (nI sd)))), (m45, .inl (cZ, 2, .inl fm45))] H := hP
          have hD : va_D A [(h0, .inr (11, [.int n0, .int n1, .int (nI nq), .ref m3, .ref m4, .ref m5, .int (nI nh), .ref m7, .ref m8, .ref m9, .ref m10, .int (nI sd), .ref m12, .int (nI tx), .int n14, .int (nI at9), .int n16, .int n17, .ref m18, .int (nI rq), .ref m20, .ref m21, .ref m22, .ref m23, .ref m24, .int (nI rh), .ref m26, .ref m27, .ref m28, .int (nI un), .ref m30, .int n31, .int n32, .ref m33, .int n34, .int n35, .ref m36, .int (nI wm), .ref m38, .ref m39, .ref m40, .int (nI bk), .ref m42, .ref m43, .ref m44, .ref m45])), (m10, .inl (cI, 34, .inl fm10)), (m44, .inl (cI, 70, .inl (upd f15_m44 34 (nI sd)))), (m45, .inl (cZ, 2, .inl fm45))] := hD
          refine lv_aload_n hx hb dX11_keep_60 rfl (lv_at hl 1 rfl) ?_
          refine va_get (D := (dC, dI)) (ci := 11) (v := .ref m45) (C := RX11) (T := TX11) (N := 46) hx hb hts hi_X11 hown hK hP 0 rfl rfl 45 (by decide) (hts (.fieldLink RX11 92 "LeftQuillsModel" "isKept" "[Z") (wmx 5 rfl)) (fun _ h9 => h9) rfl dX11_keep_61 ?_
          refine lv_iload_n hx hb dX11_keep_64 rfl (lv_at hl 2 rfl) ?_
          refine lv_iconst (v := 1) hx hb dX11_keep_65 (by decide) ?_
          refine va_zast hx hb hK hP hD hS 3 1 rfl rfl (vp_in_iff.mpr ⟨by decide, by decide⟩) dX11_keep_66 (fun H locs hP hD hS => ?_)
          generalize hgf11 : upd fm45 ((0 : Int32).toNatClampNeg) (vp_nar .boolean 1) = f11 at hP hD
          have hP : va_P (dC, dI) vwCl [(h0, .inr (11, [.int n0, .int n1, .int (nI nq), .ref m3, .ref m4, .ref m5, .int (nI nh), .ref m7, .ref m8, .ref m9, .ref m10, .int (nI sd), .ref m12, .int (nI tx), .int n14, .int (nI at9), .int n16, .int n17, .ref m18, .int (nI rq), .ref m20, .ref m21, .ref m22, .ref m23, .ref m24, .int (nI rh), .ref m26, .ref m27, .ref m28, .int (nI un), .ref m30, .int n31, .int n32, .ref m33, .int n34, .int n35, .ref m36, .int (nI wm), .ref m38, .ref m39, .ref m40, .int (nI bk), .ref m42, .ref m43, .ref m44, .ref m45])), (m10, .inl (cI, 34, .inl fm10)), (m44, .inl (cI, 70, .inl (upd f15_m44 34 (nI sd)))), (m45, .inl (cZ, 2, .inl f11))] H := hP
          have hD : va_D A [(h0, .inr (11, [.int n0, .int n1, .int (nI nq), .ref m3, .ref m4, .ref m5, .int (nI nh), .ref m7, .ref m8, .ref m9, .ref m10, .int (nI sd), .ref m12, .int (nI tx), .int n14, .int (nI at9), .int n16, .int n17, .ref m18, .int (nI rq), .ref m20, .ref m21, .ref m22, .ref m23, .ref m24, .int (nI rh), .ref m26, .ref m27, .ref m28, .int (nI un), .ref m30, .int n31, .int n32, .ref m33, .int n34, .int n35, .ref m36, .int (nI wm), .ref m38, .ref m39, .ref m40, .int (nI bk), .ref m42, .ref m43, .ref m44, .ref m45])), (m10, .inl (cI, 34, .inl fm10)), (m44, .inl (cI, 70, .inl (upd f15_m44 34 (nI sd)))), (m45, .inl (cZ, 2, .inl f11))] := hD
          refine lv_aload_n hx hb dX11_keep_67 rfl (lv_at hl 1 rfl) ?_
          refine lv_iconst (v := 0) hx hb dX11_keep_68 (by decide) ?_
          refine va_put (D := (dC, dI)) (ci := 11) (v := .int 0) (ty := .int) (C := RX11) (T := TX11) (N := 46) hx hb hts hi_X11 tyX11 tyX11_ok nmX11 hown hK hP hD hS 0 rfl rfl 29 (by decide) (hts (.fieldLink RX11 174 "LeftQuillsModel" "undos" "I") (wmx 6 rfl)) (fun _ h9 => h9) rfl (by decide +kernel) rfl rfl (Nat.le_of_ble_eq_true rfl) dX11_keep_69 (fun H locs hP hD hS => ?_)
          have hP : va_P (dC, dI) vwCl [(h0, .inr (11, [.int n0, .int n1, .int (nI nq), .ref m3, .ref m4, .ref m5, .int (nI nh), .ref m7, .ref m8, .ref m9, .ref m10, .int (nI sd), .ref m12, .int (nI tx), .int n14, .int (nI at9), .int n16, .int n17, .ref m18, .int (nI rq), .ref m20, .ref m21, .ref m22, .ref m23, .ref m24, .int (nI rh), .ref m26, .ref m27, .ref m28, .int 0, .ref m30, .int n31, .int n32, .ref m33, .int n34, .int n35, .ref m36, .int (nI wm), .ref m38, .ref m39, .ref m40, .int (nI bk), .ref m42, .ref m43, .ref m44, .ref m45])), (m10, .inl (cI, 34, .inl fm10)), (m44, .inl (cI, 70, .inl (upd f15_m44 34 (nI sd)))), (m45, .inl (cZ, 2, .inl f11))] H := hP
          have hD : va_D A [(h0, .inr (11, [.int n0, .int n1, .int (nI nq), .ref m3, .ref m4, .ref m5, .int (nI nh), .ref m7, .ref m8, .ref m9, .ref m10, .int (nI sd), .ref m12, .int (nI tx), .int n14, .int (nI at9), .int n16, .int n17, .ref m18, .int (nI rq), .ref m20, .ref m21, .ref m22, .ref m23, .ref m24, .int (nI rh), .ref m26, .ref m27, .ref m28, .int 0, .ref m30, .int n31, .int n32, .ref m33, .int n34, .int n35, .ref m36, .int (nI wm), .ref m38, .ref m39, .ref m40, .int (nI bk), .ref m42, .ref m43, .ref m44, .ref m45])), (m10, .inl (cI, 34, .inl fm10)), (m44, .inl (cI, 70, .inl (upd f15_m44 34 (nI sd)))), (m45, .inl (cZ, 2, .inl f11))] := hD
          refine lv_iconst (v := 1) hx hb dX11_keep_72 (by decide) ?_
          have hP9 := hP.sub (ws' := [(h0, .inr (11, [.int n0, .int n1, .int (nI nq), .ref m3, .ref m4, .ref m5, .int (nI nh), .ref m7, .ref m8, .ref m9, .ref m10, .int (nI sd), .ref m12, .int (nI tx), .int n14, .int (nI at9), .int n16, .int n17, .ref m18, .int (nI rq), .ref m20, .ref m21, .ref m22, .ref m23, .ref m24, .int (nI rh), .ref m26, .ref m27, .ref m28, .int 0, .ref m30, .int n31, .int n32, .ref m33, .int n34, .int n35, .ref m36, .int (nI wm), .ref m38, .ref m39, .ref m40, .int (nI bk), .ref m42, .ref m43, .ref m44, .ref m45])), (m10, .inl (cI, 34, .inl fm10)), (m44, .inl (cI, 70, .inl (upd f15_m44 34 (nI sd)))), (m45, .inl (cZ, 2, .inl f11))]) [0, 1, 2, 3] rfl
          have hD9 := hD.sub (ws' := [(h0, .inr (11, [.int n0, .int n1, .int (nI nq), .ref m3, .ref m4, .ref m5, .int (nI nh), .ref m7, .ref m8, .ref m9, .ref m10, .int (nI sd), .ref m12, .int (nI tx), .int n14, .int (nI at9), .int n16, .int n17, .ref m18, .int (nI rq), .ref m20, .ref m21, .ref m22, .ref m23, .ref m24, .int (nI rh), .ref m26, .ref m27, .ref m28, .int 0, .ref m30, .int n31, .int n32, .ref m33, .int n34, .int n35, .ref m36, .int (nI wm), .ref m38, .ref m39, .ref m40, .int (nI bk), .ref m42, .ref m43, .ref m44, .ref m45])), (m10, .inl (cI, 34, .inl fm10)), (m44, .inl (cI, 70, .inl (upd f15_m44 34 (nI sd)))), (m45, .inl (cZ, 2, .inl f11))]) [0, 1, 2, 3] (by decide +kernel) rfl
          exact W.iret (v := 1) hx hb hr (fun t ht hW => ⟨⟨1, (fun _ => 0), rfl, trivial, ⟨(upd f15_m44 34 (nI sd)), f11, 0, by omega, mIn_s34 hv15_0 (by omega), by rw [ht]; exact hP9, hD9⟩⟩, hS.F ht⟩) hS.2.2 dX11_keep_73
        ·
          have c7 : ¬ 34 ≤ k15 := fun h => c7 ((nI_leI (a := 34) (b := k15) (by omega) (by omega)).mpr h)
          omega
      | succ d15 ih15 =>
        intro k15 f15_m44 H locs ls hk15 hv15_0 hP hD hS hl
        refine lv_iload_n hx hb dX11_keep_15 rfl (lv_at hl 0 rfl) ?_
        refine lv_bipush (v := 34) hx hb dX11_keep_16 (by decide) ?_
        refine lv_icmp_ge (tgt := 44) hx hb dX11_keep_18 (by decide) (fun c12 => ?_) (fun c12 => ?_)
        ·
          have c12 : 34 ≤ k15 := (nI_leI (a := 34) (b := k15) (by omega) (by omega)).mp c12
          omega
        ·
          have c12 : ¬ 34 ≤ k15 := fun h => c12 ((nI_leI (a := 34) (b := k15) (by omega) (by omega)).mpr h)
          refine lv_aload_n hx hb dX11_keep_21 rfl (lv_at hl 1 rfl) ?_
          refine va_get (D := (dC, dI)) (ci := 11) (v := .ref m44) (C := RX11) (T := TX11) (N := 46) hx hb hts hi_X11 hown hK hP 0 rfl rfl 44 (by decide) (hts (.fieldLink RX11 89 "LeftQuillsModel" "images" "[I") (wmx 2 rfl)) (fun _ h9 => h9) rfl dX11_keep_22 ?_
          refine lv_bipush (v := 35) hx hb dX11_keep_25 (by decide) ?_
          refine lv_iload_n hx hb dX11_keep_27 rfl (lv_at hl 2 rfl) ?_
          refine lv_imul hx hb dX11_keep_28 ?_
          refine lv_topi (fun z13 ez13 => ?_)
          obtain rfl : z13 = 0 := ez13.trans (by decide)
          refine lv_iload_n hx hb dX11_keep_29 rfl (lv_at hl 0 rfl) ?_
          refine lv_iadd hx hb dX11_keep_30 ?_
          refine lv_topi (fun z14 ez14 => ?_)
          obtain rfl : z14 = nI (0 + k15) := ez14.trans (nI_add 0 k15)
          refine lv_aload_n hx hb dX11_keep_31 rfl (lv_at hl 1 rfl) ?_
          refine va_get (D := (dC, dI)) (ci := 11) (v := .ref m10) (C := RX11) (T := TX11) (N := 46) hx hb hts hi_X11 hown hK hP 0 rfl rfl 10 (by decide) (hts (.fieldLink RX11 28 "LeftQuillsModel" "now" "[I") (wmx 3 rfl)) (fun _ h9 => h9) rfl dX11_keep_32 ?_
          refine lv_iload_n hx hb dX11_keep_35 rfl (lv_at hl 0 rfl) ?_
          refine va_iald hx hb hK hP 1 0 rfl rfl (vp_in_nI (n := k15) (N := 34) (by omega) (by decide)) dX11_keep_36 ?_
          refine W.eq (g2 := F0 m 37 ls [.int (fm10 k15), .int (nI (0 + k15)), .ref m44]) (congrArg (fun y9 => F0 m 37 ls (.int (fm10 y9) :: [.int (nI (0 + k15)), .ref m44])) ((nI_clamp (n := k15) (by omega)))) ?_
          refine va_iast hx hb hK hP hD hS 2 0 rfl rfl (vp_in_nI (n := 0 + k15) (N := 70) (by omega) (by decide)) dX11_keep_37 (fun H locs hP hD hS => ?_)
          have hcl := (nI_clamp (n := 0 + k15) (by omega))
          rw [hcl] at hP hD
          clear hcl
          have hP : va_P (dC, dI) vwCl [(h0, .inr (11, [.int n0, .int n1, .int (nI nq), .ref m3, .ref m4, .ref m5, .int (nI nh), .ref m7, .ref m8, .ref m9, .ref m10, .int (nI sd), .ref m12, .int (nI tx), .int n14, .int (nI at9), .int n16, .int n17, .ref m18, .int (nI rq), .ref m20, .ref m21, .ref m22, .ref m23, .ref m24, .int (nI rh), .ref m26, .ref m27, .ref m28, .int (nI un), .ref m30, .int n31, .int n32, .ref m33, .int n34, .int n35, .ref m36, .int (nI wm), .ref m38, .ref m39, .ref m40, .int (nI bk), .ref m42, .ref m43, .ref m44, .ref m45])), (m10, .inl (cI, 34, .inl fm10)), (m44, .inl (cI, 70, .inl (upd f15_m44 (0 + k15) (fm10 k15)))), (m45, .inl (cZ, 2, .inl fm45))] H := hP
          have hD : va_D A [(h0, .inr (11, [.int n0, .int n1, .int (nI nq), .ref m3, .ref m4, .ref m5, .int (nI nh), .ref m7, .ref m8, .ref m9, .ref m10, .int (nI sd), .ref m12, .int (nI tx), .int n14, .int (nI at9), .int n16, .int n17, .ref m18, .int (nI rq), .ref m20, .ref m21, .ref m22, .ref m23, .ref m24, .int (nI rh), .ref m26, .ref m27, .ref m28, .int (nI un), .ref m30, .int n31, .int n32, .ref m33, .int n34, .int n35, .ref m36, .int (nI wm), .ref m38, .ref m39, .ref m40, .int (nI bk), .ref m42, .ref m43, .ref m44, .ref m45])), (m10, .inl (cI, 34, .inl fm10)), (m44, .inl (cI, 70, .inl (upd f15_m44 (0 + k15) (fm10 k15)))), (m45, .inl (cZ, 2, .inl fm45))] := hD
          refine lv_iinc (v := nI (k15 + 1)) (lv' := [(2, .int (nI (k15 + 1))), (0, .ref h0), (1, .int 0)]) hx hb dX11_keep_38 hl (k := 0) rfl ((rfl : nI k15 + Int32.ofInt 1 = nI k15 + 1).trans (nI_add k15 1)) (by decide) rfl (fun ls hl => ?_)
          refine lv_goto (tgt := 15) hx hb dX11_keep_41 (by decide) ?_
          exact ih15 (k15 + 1) (upd f15_m44 (0 + k15) (fm10 k15)) _ _ _ (by omega) (mIn_up hv15_0 (by omega) (by omega)) hP hD hS (lv_sub hl [0, 1, 2] rfl)
    ·
      refine lv_if_ne (tgt := 13) hx hb dX11_keep_7 (by decide) (fun c16 => ?_) (fun c16 => ?_)
      rotate_left
      · exact absurd c16 (by decide)
      clear c16
      refine lv_iconst (v := 0) hx hb dX11_keep_13 (by decide) ?_
      refine lv_istore_n (lv' := [(2, .int 0), (0, .ref h0), (1, .int 1)]) hx hb dX11_keep_14 rfl hl (by decide) rfl (fun ls hl => ?_)
      refine (fun (K : ∀ (d15 : Nat) (k15 : Nat) (f15_m44 : Nat → Int32) (H : Heap) (locs : List Loc) (ls : Array Slot), k15 + d15 = 34 → mIn f15_m44 → va_P (dC, dI) vwCl [(h0, .inr (11, [.int n0, .int n1, .int (nI nq), .ref m3, .ref m4, .ref m5, .int (nI nh), .ref m7, .ref m8, .ref m9, .ref m10, .int (nI sd), .ref m12, .int (nI tx), .int n14, .int (nI at9), .int n16, .int n17, .ref m18, .int (nI rq), .ref m20, .ref m21, .ref m22, .ref m23, .ref m24, .int (nI rh), .ref m26, .ref m27, .ref m28, .int (nI un), .ref m30, .int n31, .int n32, .ref m33, .int n34, .int n35, .ref m36, .int (nI wm), .ref m38, .ref m39, .ref m40, .int (nI bk), .ref m42, .ref m43, .ref m44, .ref m45])), (m10, .inl (cI, 34, .inl fm10)), (m44, .inl (cI, 70, .inl f15_m44)), (m45, .inl (cZ, 2, .inl fm45))] H → va_D A [(h0, .inr (11, [.int n0, .int n1, .int (nI nq), .ref m3, .ref m4, .ref m5, .int (nI nh), .ref m7, .ref m8, .ref m9, .ref m10, .int (nI sd), .ref m12, .int (nI tx), .int n14, .int (nI at9), .int n16, .int n17, .ref m18, .int (nI rq), .ref m20, .ref m21, .ref m22, .ref m23, .ref m24, .int (nI rh), .ref m26, .ref m27, .ref m28, .int (nI un), .ref m30, .int n31, .int n32, .ref m33, .int n34, .int n35, .ref m36, .int (nI wm), .ref m38, .ref m39, .ref m40, .int (nI bk), .ref m42, .ref m43, .ref m44, .ref m45])), (m10, .inl (cI, 34, .inl fm10)), (m44, .inl (cI, 70, .inl f15_m44)), (m45, .inl (cZ, 2, .inl fm45))] → va_S A s.heap H locs → lv_has ls 3 [(2, .int (nI k15)), (0, .ref h0), (1, .int 1)] → W p l e _ s m _ below meth c H locs _ _ _ (F0 m 15 ls [])) => K 34 0 fm44 _ _ _ (by omega) hmi hP hD hS (lv_sub hl [0, 1, 2] rfl)) ?_
      intro d15
      induction d15 with
      | zero =>
        intro k15 f15_m44 H locs ls hk15 hv15_0 hP hD hS hl
        refine lv_iload_n hx hb dX11_keep_15 rfl (lv_at hl 0 rfl) ?_
        refine lv_bipush (v := 34) hx hb dX11_keep_16 (by decide) ?_
        refine lv_icmp_ge (tgt := 44) hx hb dX11_keep_18 (by decide) (fun c17 => ?_) (fun c17 => ?_)
        ·
          have c17 : 34 ≤ k15 := (nI_leI (a := 34) (b := k15) (by omega) (by omega)).mp c17
          refine lv_aload_n hx hb dX11_keep_44 rfl (lv_at hl 1 rfl) ?_
          refine va_get (D := (dC, dI)) (ci := 11) (v := .ref m44) (C := RX11) (T := TX11) (N := 46) hx hb hts hi_X11 hown hK hP 0 rfl rfl 44 (by decide) (hts (.fieldLink RX11 89 "LeftQuillsModel" "images" "[I") (wmx 2 rfl)) (fun _ h9 => h9) rfl dX11_keep_45 ?_
          refine lv_bipush (v := 35) hx hb dX11_keep_48 (by decide) ?_
          refine lv_iload_n hx hb dX11_keep_50 rfl (lv_at hl 2 rfl) ?_
          refine lv_imul hx hb dX11_keep_51 ?_
          refine lv_topi (fun z18 ez18 => ?_)
          obtain rfl : z18 = 35 := ez18.trans (by decide)
          refine lv_bipush (v := 34) hx hb dX11_keep_52 (by decide) ?_
          refine lv_iadd hx hb dX11_keep_54 ?_
          refine lv_topi (fun z19 ez19 => ?_)
          obtain rfl : z19 = 69 := ez19.trans (by decide)
          refine lv_aload_n hx hb dX11_keep_55 rfl (lv_at hl 1 rfl) ?_
          refine va_get (D := (dC, dI)) (ci := 11) (v := .int (nI sd)) (C := RX11) (T := TX11) (N := 46) hx hb hts hi_X11 hown hK hP 0 rfl rfl 11 (by decide) (hts (.fieldLink RX11 241 "LeftQuillsModel" "seed" "I") (wmx 4 rfl)) (fun _ h9 => h9) rfl dX11_keep_56 ?_
          refine va_iast hx hb hK hP hD hS 2 0 rfl rfl (vp_in_iff.mpr ⟨by decide, by decide⟩) dX11_keep_59 (fun H locs hP hD hS => ?_)
          have hcl := (show ((69 : Int32)).toNatClampNeg = 69 from by decide)
          rw [hcl] at hP hD
          clear hcl
          have hP : va_P (dC, dI) vwCl [(h0, .inr (11, [.int n0, .int n1, .int (nI nq), .ref m3, .ref m4, .ref m5, .int (nI nh), .ref m7, .ref m8, .ref m9, .ref m10, .int (nI sd), .ref m12, .int (nI tx), .int n14, .int (nI at9), .int n16, .int n17, .ref m18, .int (nI rq), .ref m20, .ref m21, .ref m22, .ref m23, .ref m24, .int (nI rh), .ref m26, .ref m27, .ref m28, .int (nI un), .ref m30, .int n31, .int n32, .ref m33, .int n34, .int n35, .ref m36, .int (nI wm), .ref m38, .ref m39, .ref m40, .int (nI bk), .ref m42, .ref m43, .ref m44, .ref m45])), (m10, .inl (cI, 34, .inl fm10)), (m44, .inl (cI, 70, .inl (upd f15_m44 69 (nI sd)))), (m45, .inl (cZ, 2, .inl fm45))] H := hP
          have hD : va_D A [(h0, .inr (11, [.int n0, .int n1, .int (nI nq), .ref m3, .ref m4, .ref m5, .int (nI nh), .ref m7, .ref m8, .ref m9, .ref m10, .int (nI sd), .ref m12, .int (nI tx), .int n14, .int (nI at9), .int n16, .int n17, .ref m18, .int (nI rq), .ref m20, .ref m21, .ref m22, .ref m23, .ref m24, .int (nI rh), .ref m26, .ref m27, .ref m28, .int (nI un), .ref m30, .int n31, .int n32, .ref m33, .int n34, .int n35, .ref m36, .int (nI wm), .ref m38, .ref m39, .ref m40, .int (nI bk), .ref m42, .ref m43, .ref m44, .ref m45])), (m10, .inl (cI, 34, .inl fm10)), (m44, .inl (cI, 70, .inl (upd f15_m44 69 (nI sd)))), (m45, .inl (cZ, 2, .inl fm45))] := hD
          refine lv_aload_n hx hb dX11_keep_60 rfl (lv_at hl 1 rfl) ?_
          refine va_get (D := (dC, dI)) (ci := 11) (v := .ref m45) (C := RX11) (T := TX11) (N := 46) hx hb hts hi_X11 hown hK hP 0 rfl rfl 45 (by decide) (hts (.fieldLink RX11 92 "LeftQuillsModel" "isKept" "[Z") (wmx 5 rfl)) (fun _ h9 => h9) rfl dX11_keep_61 ?_
          refine lv_iload_n hx hb dX11_keep_64 rfl (lv_at hl 2 rfl) ?_
          refine lv_iconst (v := 1) hx hb dX11_keep_65 (by decide) ?_
          refine va_zast hx hb hK hP hD hS 3 1 rfl rfl (vp_in_iff.mpr ⟨by decide, by decide⟩) dX11_keep_66 (fun H locs hP hD hS => ?_)
          generalize hgf21 : upd fm45 ((1 : Int32).toNatClampNeg) (vp_nar .boolean 1) = f21 at hP hD
          have hP : va_P (dC, dI) vwCl [(h0, .inr (11, [.int n0, .int n1, .int (nI nq), .ref m3, .ref m4, .ref m5, .int (nI nh), .ref m7, .ref m8, .ref m9, .ref m10, .int (nI sd), .ref m12, .int (nI tx), .int n14, .int (nI at9), .int n16, .int n17, .ref m18, .int (nI rq), .ref m20, .ref m21, .ref m22, .ref m23, .ref m24, .int (nI rh), .ref m26, .ref m27, .ref m28, .int (nI un), .ref m30, .int n31, .int n32, .ref m33, .int n34, .int n35, .ref m36, .int (nI wm), .ref m38, .ref m39, .ref m40, .int (nI bk), .ref m42, .ref m43, .ref m44, .ref m45])), (m10, .inl (cI, 34, .inl fm10)), (m44, .inl (cI, 70, .inl (upd f15_m44 69 (nI sd)))), (m45, .inl (cZ, 2, .inl f21))] H := hP
          have hD : va_D A [(h0, .inr (11, [.int n0, .int n1, .int (nI nq), .ref m3, .ref m4, .ref m5, .int (nI nh), .ref m7, .ref m8, .ref m9, .ref m10, .int (nI sd), .ref m12, .int (nI tx), .int n14, .int (nI at9), .int n16, .int n17, .ref m18, .int (nI rq), .ref m20, .ref m21, .ref m22, .ref m23, .ref m24, .int (nI rh), .ref m26, .ref m27, .ref m28, .int (nI un), .ref m30, .int n31, .int n32, .ref m33, .int n34, .int n35, .ref m36, .int (nI wm), .ref m38, .ref m39, .ref m40, .int (nI bk), .ref m42, .ref m43, .ref m44, .ref m45])), (m10, .inl (cI, 34, .inl fm10)), (m44, .inl (cI, 70, .inl (upd f15_m44 69 (nI sd)))), (m45, .inl (cZ, 2, .inl f21))] := hD
          refine lv_aload_n hx hb dX11_keep_67 rfl (lv_at hl 1 rfl) ?_
          refine lv_iconst (v := 0) hx hb dX11_keep_68 (by decide) ?_
          refine va_put (D := (dC, dI)) (ci := 11) (v := .int 0) (ty := .int) (C := RX11) (T := TX11) (N := 46) hx hb hts hi_X11 tyX11 tyX11_ok nmX11 hown hK hP hD hS 0 rfl rfl 29 (by decide) (hts (.fieldLink RX11 174 "LeftQuillsModel" "undos" "I") (wmx 6 rfl)) (fun _ h9 => h9) rfl (by decide +kernel) rfl rfl (Nat.le_of_ble_eq_true rfl) dX11_keep_69 (fun H locs hP hD hS => ?_)
          have hP : va_P (dC, dI) vwCl [(h0, .inr (11, [.int n0, .int n1, .int (nI nq), .ref m3, .ref m4, .ref m5, .int (nI nh), .ref m7, .ref m8, .ref m9, .ref m10, .int (nI sd), .ref m12, .int (nI tx), .int n14, .int (nI at9), .int n16, .int n17, .ref m18, .int (nI rq), .ref m20, .ref m21, .ref m22, .ref m23, .ref m24, .int (nI rh), .ref m26, .ref m27, .ref m28, .int 0, .ref m30, .int n31, .int n32, .ref m33, .int n34, .int n35, .ref m36, .int (nI wm), .ref m38, .ref m39, .ref m40, .int (nI bk), .ref m42, .ref m43, .ref m44, .ref m45])), (m10, .inl (cI, 34, .inl fm10)), (m44, .inl (cI, 70, .inl (upd f15_m44 69 (nI sd)))), (m45, .inl (cZ, 2, .inl f21))] H := hP
          have hD : va_D A [(h0, .inr (11, [.int n0, .int n1, .int (nI nq), .ref m3, .ref m4, .ref m5, .int (nI nh), .ref m7, .ref m8, .ref m9, .ref m10, .int (nI sd), .ref m12, .int (nI tx), .int n14, .int (nI at9), .int n16, .int n17, .ref m18, .int (nI rq), .ref m20, .ref m21, .ref m22, .ref m23, .ref m24, .int (nI rh), .ref m26, .ref m27, .ref m28, .int 0, .ref m30, .int n31, .int n32, .ref m33, .int n34, .int n35, .ref m36, .int (nI wm), .ref m38, .ref m39, .ref m40, .int (nI bk), .ref m42, .ref m43, .ref m44, .ref m45])), (m10, .inl (cI, 34, .inl fm10)), (m44, .inl (cI, 70, .inl (upd f15_m44 69 (nI sd)))), (m45, .inl (cZ, 2, .inl f21))] := hD
          refine lv_iconst (v := 1) hx hb dX11_keep_72 (by decide) ?_
          have hP9 := hP.sub (ws' := [(h0, .inr (11, [.int n0, .int n1, .int (nI nq), .ref m3, .ref m4, .ref m5, .int (nI nh), .ref m7, .ref m8, .ref m9, .ref m10, .int (nI sd), .ref m12, .int (nI tx), .int n14, .int (nI at9), .int n16, .int n17, .ref m18, .int (nI rq), .ref m20, .ref m21, .ref m22, .ref m23, .ref m24, .int (nI rh), .ref m26, .ref m27, .ref m28, .int 0, .ref m30, .int n31, .int n32, .ref m33, .int n34, .int n35, .ref m36, .int (nI wm), .ref m38, .ref m39, .ref m40, .int (nI bk), .ref m42, .ref m43, .ref m44, .ref m45])), (m10, .inl (cI, 34, .inl fm10)), (m44, .inl (cI, 70, .inl (upd f15_m44 69 (nI sd)))), (m45, .inl (cZ, 2, .inl f21))]) [0, 1, 2, 3] rfl
          have hD9 := hD.sub (ws' := [(h0, .inr (11, [.int n0, .int n1, .int (nI nq), .ref m3, .ref m4, .ref m5, .int (nI nh), .ref m7, .ref m8, .ref m9, .ref m10, .int (nI sd), .ref m12, .int (nI tx), .int n14, .int (nI at9), .int n16, .int n17, .ref m18, .int (nI rq), .ref m20, .ref m21, .ref m22, .ref m23, .ref m24, .int (nI rh), .ref m26, .ref m27, .ref m28, .int 0, .ref m30, .int n31, .int n32, .ref m33, .int n34, .int n35, .ref m36, .int (nI wm), .ref m38, .ref m39, .ref m40, .int (nI bk), .ref m42, .ref m43, .ref m44, .ref m45])), (m10, .inl (cI, 34, .inl fm10)), (m44, .inl (cI, 70, .inl (upd f15_m44 69 (nI sd)))), (m45, .inl (cZ, 2, .inl f21))]) [0, 1, 2, 3] (by decide +kernel) rfl
          exact W.iret (v := 1) hx hb hr (fun t ht hW => ⟨⟨1, (fun _ => 0), rfl, trivial, ⟨(upd f15_m44 69 (nI sd)), f21, 0, by omega, mIn_s69 hv15_0 (by omega), by rw [ht]; exact hP9, hD9⟩⟩, hS.F ht⟩) hS.2.2 dX11_keep_73
        ·
          have c17 : ¬ 34 ≤ k15 := fun h => c17 ((nI_leI (a := 34) (b := k15) (by omega) (by omega)).mpr h)
          omega
      | succ d15 ih15 =>
        intro k15 f15_m44 H locs ls hk15 hv15_0 hP hD hS hl
        refine lv_iload_n hx hb dX11_keep_15 rfl (lv_at hl 0 rfl) ?_
        refine lv_bipush (v := 34) hx hb dX11_keep_16 (by decide) ?_
        refine lv_icmp_ge (tgt := 44) hx hb dX11_keep_18 (by decide) (fun c22 => ?_) (fun c22 => ?_)
        ·
          have c22 : 34 ≤ k15 := (nI_leI (a := 34) (b := k15) (by omega) (by omega)).mp c22
          omega
        ·
          have c22 : ¬ 34 ≤ k15 := fun h => c22 ((nI_leI (a := 34) (b := k15) (by omega) (by omega)).mpr h)
          refine lv_aload_n hx hb dX11_keep_21 rfl (lv_at hl 1 rfl) ?_
          refine va_get (D := (dC, dI)) (ci := 11) (v := .ref m44) (C := RX11) (T := TX11) (N := 46) hx hb hts hi_X11 hown hK hP 0 rfl rfl 44 (by decide) (hts (.fieldLink RX11 89 "LeftQuillsModel" "images" "[I") (wmx 2 rfl)) (fun _ h9 => h9) rfl dX11_keep_22 ?_
          refine lv_bipush (v := 35) hx hb dX11_keep_25 (by decide) ?_
          refine lv_iload_n hx hb dX11_keep_27 rfl (lv_at hl 2 rfl) ?_
          refine lv_imul hx hb dX11_keep_28 ?_
          refine lv_topi (fun z23 ez23 => ?_)
          obtain rfl : z23 = 35 := ez23.trans (by decide)
          refine lv_iload_n hx hb dX11_keep_29 rfl (lv_at hl 0 rfl) ?_
          refine lv_iadd hx hb dX11_keep_30 ?_
          refine lv_topi (fun z24 ez24 => ?_)
          obtain rfl : z24 = nI (35 + k15) := ez24.trans (nI_add 35 k15)
          refine lv_aload_n hx hb dX11_keep_31 rfl (lv_at hl 1 rfl) ?_
          refine va_get (D := (dC, dI)) (ci := 11) (v := .ref m10) (C := RX11) (T := TX11) (N := 46) hx hb hts hi_X11 hown hK hP 0 rfl rfl 10 (by decide) (hts (.fieldLink RX11 28 "LeftQuillsModel" "now" "[I") (wmx 3 rfl)) (fun _ h9 => h9) rfl dX11_keep_32 ?_
          refine lv_iload_n hx hb dX11_keep_35 rfl (lv_at hl 0 rfl) ?_
          refine va_iald hx hb hK hP 1 0 rfl rfl (vp_in_nI (n := k15) (N := 34) (by omega) (by decide)) dX11_keep_36 ?_
          refine W.eq (g2 := F0 m 37 ls [.int (fm10 k15), .int (nI (35 + k15)), .ref m44]) (congrArg (fun y9 => F0 m 37 ls (.int (fm10 y9) :: [.int (nI (35 + k15)), .ref m44])) ((nI_clamp (n := k15) (by omega)))) ?_
          refine va_iast hx hb hK hP hD hS 2 0 rfl rfl (vp_in_nI (n := 35 + k15) (N := 70) (by omega) (by decide)) dX11_keep_37 (fun H locs hP hD hS => ?_)
          have hcl := (nI_clamp (n := 35 + k15) (by omega))
          rw [hcl] at hP hD
          clear hcl
          have hP : va_P (dC, dI) vwCl [(h0, .inr (11, [.int n0, .int n1, .int (nI nq), .ref m3, .ref m4, .ref m5, .int (nI nh), .ref m7, .ref m8, .ref m9, .ref m10, .int (nI sd), .ref m12, .int (nI tx), .int n14, .int (nI at9), .int n16, .int n17, .ref m18, .int (nI rq), .ref m20, .ref m21, .ref m22, .ref m23, .ref m24, .int (nI rh), .ref m26, .ref m27, .ref m28, .int (nI un), .ref m30, .int n31, .int n32, .ref m33, .int n34, .int n35, .ref m36, .int (nI wm), .ref m38, .ref m39, .ref m40, .int (nI bk), .ref m42, .ref m43, .ref m44, .ref m45])), (m10, .inl (cI, 34, .inl fm10)), (m44, .inl (cI, 70, .inl (upd f15_m44 (35 + k15) (fm10 k15)))), (m45, .inl (cZ, 2, .inl fm45))] H := hP
          have hD : va_D A [(h0, .inr (11, [.int n0, .int n1, .int (nI nq), .ref m3, .ref m4, .ref m5, .int (nI nh), .ref m7, .ref m8, .ref m9, .ref m10, .int (nI sd), .ref m12, .int (nI tx), .int n14, .int (nI at9), .int n16, .int n17, .ref m18, .int (nI rq), .ref m20, .ref m21, .ref m22, .ref m23, .ref m24, .int (nI rh), .ref m26, .ref m27, .ref m28, .int (nI un), .ref m30, .int n31, .int n32, .ref m33, .int n34, .int n35, .ref m36, .int (nI wm), .ref m38, .ref m39, .ref m40, .int (nI bk), .ref m42, .ref m43, .ref m44, .ref m45])), (m10, .inl (cI, 34, .inl fm10)), (m44, .inl (cI, 70, .inl (upd f15_m44 (35 + k15) (fm10 k15)))), (m45, .inl (cZ, 2, .inl fm45))] := hD
          refine lv_iinc (v := nI (k15 + 1)) (lv' := [(2, .int (nI (k15 + 1))), (0, .ref h0), (1, .int 1)]) hx hb dX11_keep_38 hl (k := 0) rfl ((rfl : nI k15 + Int32.ofInt 1 = nI k15 + 1).trans (nI_add k15 1)) (by decide) rfl (fun ls hl => ?_)
          refine lv_goto (tgt := 15) hx hb dX11_keep_41 (by decide) ?_
          exact ih15 (k15 + 1) (upd f15_m44 (35 + k15) (fm10 k15)) _ _ _ (by omega) (mIn_up hv15_0 (by omega) (by omega)) hP hD hS (lv_sub hl [0, 1, 2] rfl)
  ·
    refine lv_if_ne (tgt := 13) hx hb dX11_keep_7 (by decide) (fun c26 => ?_) (fun c26 => ?_)
    · exact absurd c26 (by decide)
    clear c26
    refine lv_ldc (v := (-1000000001)) hx hb hown (hts (.constant RX11 188 (-1000000001)) (wmx 1 rfl)) dX11_keep_10 ?_
    have hP9 := hP.sub (ws' := [(h0, .inr (11, [.int n0, .int n1, .int (nI nq), .ref m3, .ref m4, .ref m5, .int (nI nh), .ref m7, .ref m8, .ref m9, .ref m10, .int (nI sd), .ref m12, .int (nI tx), .int n14, .int (nI at9), .int n16, .int n17, .ref m18, .int (nI rq), .ref m20, .ref m21, .ref m22, .ref m23, .ref m24, .int (nI rh), .ref m26, .ref m27, .ref m28, .int (nI un), .ref m30, .int n31, .int n32, .ref m33, .int n34, .int n35, .ref m36, .int (nI wm), .ref m38, .ref m39, .ref m40, .int (nI bk), .ref m42, .ref m43, .ref m44, .ref m45])), (m10, .inl (cI, 34, .inl fm10)), (m44, .inl (cI, 70, .inl fm44)), (m45, .inl (cZ, 2, .inl fm45))]) [0, 1, 2, 3] rfl
    have hD9 := hD.sub (ws' := [(h0, .inr (11, [.int n0, .int n1, .int (nI nq), .ref m3, .ref m4, .ref m5, .int (nI nh), .ref m7, .ref m8, .ref m9, .ref m10, .int (nI sd), .ref m12, .int (nI tx), .int n14, .int (nI at9), .int n16, .int n17, .ref m18, .int (nI rq), .ref m20, .ref m21, .ref m22, .ref m23, .ref m24, .int (nI rh), .ref m26, .ref m27, .ref m28, .int (nI un), .ref m30, .int n31, .int n32, .ref m33, .int n34, .int n35, .ref m36, .int (nI wm), .ref m38, .ref m39, .ref m40, .int (nI bk), .ref m42, .ref m43, .ref m44, .ref m45])), (m10, .inl (cI, 34, .inl fm10)), (m44, .inl (cI, 70, .inl fm44)), (m45, .inl (cZ, 2, .inl fm45))]) [0, 1, 2, 3] (by decide +kernel) rfl
    exact W.iret (v := (-1000000001)) hx hb hr (fun t ht hW => ⟨⟨(-1000000001), (fun _ => 0), rfl, trivial, ⟨fm44, fm45, un, by omega, hmi, by rw [ht]; exact hP9, hD9⟩⟩, hS.F ht⟩) hS.2.2 dX11_keep_12
set_option maxHeartbeats 4000000 in
set_option maxRecDepth 100000 in
theorem c_X11_goBack (l : Launch) (dC : Nat → ClassId) (dI : Nat → Nat → Nat) (cI cZ cQ : ClassId) (h0 : Nat) (n0 : Int32) (n1 : Int32) (nq : Nat) (m3 : Nat) (m4 : Nat) (m5 : Nat) (nh : Nat) (m7 : Nat) (m8 : Nat) (m9 : Nat) (m10 : Nat) (sd : Nat) (m12 : Nat) (tx : Nat) (n14 : Int32) (at9 : Nat) (n16 : Int32) (n17 : Int32) (m18 : Nat) (rq : Nat) (m20 : Nat) (m21 : Nat) (m22 : Nat) (m23 : Nat) (m24 : Nat) (rh : Nat) (m26 : Nat) (m27 : Nat) (m28 : Nat) (un : Nat) (m30 : Nat) (n31 : Int32) (n32 : Int32) (m33 : Nat) (n34 : Int32) (n35 : Int32) (m36 : Nat) (wm : Nat) (m38 : Nat) (m39 : Nat) (m40 : Nat) (bk : Nat) (m42 : Nat) (m43 : Nat) (m44 : Nat) (m45 : Nat) (fm10 : Nat → Int32) (fm44 : Nat → Int32) (fm45 : Nat → Int32) (q0 : Int32) (sz : Nat) (hmi : mIn fm44) (hsd : sd ≤ 2147483647) (hun : un ≤ 20) : Met l yX11_goBack wsX11_goBack ({ frames := 1, cells := 0, slots := 0, locals := 65 }) (va_Pc [.ref h0, .int q0] (fun U => U.heap.size = sz ∧ va_P (dC, dI) vwCl [(h0, .inr (11, [.int n0, .int n1, .int (nI nq), .ref m3, .ref m4, .ref m5, .int (nI nh), .ref m7, .ref m8, .ref m9, .ref m10, .int (nI sd), .ref m12, .int (nI tx), .int n14, .int (nI at9), .int n16, .int n17, .ref m18, .int (nI rq), .ref m20, .ref m21, .ref m22, .ref m23, .ref m24, .int (nI rh), .ref m26, .ref m27, .ref m28, .int (nI un), .ref m30, .int n31, .int n32, .ref m33, .int n34, .int n35, .ref m36, .int (nI wm), .ref m38, .ref m39, .ref m40, .int (nI bk), .ref m42, .ref m43, .ref m44, .ref m45])), (m10, .inl (cI, 34, .inl fm10)), (m44, .inl (cI, 70, .inl fm44)), (m45, .inl (cZ, 2, .inl fm45))] U.heap ∧ va_K (dC, dI) vwCl (tys0 cI cZ cQ) U ∧ va_D (fun _ => True) [(h0, .inr (11, [.int n0, .int n1, .int (nI nq), .ref m3, .ref m4, .ref m5, .int (nI nh), .ref m7, .ref m8, .ref m9, .ref m10, .int (nI sd), .ref m12, .int (nI tx), .int n14, .int (nI at9), .int n16, .int n17, .ref m18, .int (nI rq), .ref m20, .ref m21, .ref m22, .ref m23, .ref m24, .int (nI rh), .ref m26, .ref m27, .ref m28, .int (nI un), .ref m30, .int n31, .int n32, .ref m33, .int n34, .int n35, .ref m36, .int (nI wm), .ref m38, .ref m39, .ref m40, .int (nI bk), .ref m42, .ref m43, .ref m44, .ref m45])), (m10, .inl (cI, 34, .inl fm10)), (m44, .inl (cI, 70, .inl fm44)), (m45, .inl (cZ, 2, .inl fm45))])) (va_Qi (fun (r : Int32) (u : Nat → Nat) => True) (fun (_ : Nat → Nat) (t : State) => ∃ (gg0 : Nat → Int32) (kk0 kk1 : Nat), kk0 ≤ 2147483647 ∧ kk1 ≤ 20 ∧ va_P (dC, dI) vwCl [(h0, .inr (11, [.int n0, .int n1, .int (nI nq), .ref m3, .ref m4, .ref m5, .int (nI nh), .ref m7, .ref m8, .ref m9, .ref m10, .int (nI kk0), .ref m12, .int (nI tx), .int n14, .int (nI at9), .int n16, .int n17, .ref m18, .int (nI rq), .ref m20, .ref m21, .ref m22, .ref m23, .ref m24, .int (nI rh), .ref m26, .ref m27, .ref m28, .int (nI kk1), .ref m30, .int n31, .int n32, .ref m33, .int n34, .int n35, .ref m36, .int (nI wm), .ref m38, .ref m39, .ref m40, .int (nI bk), .ref m42, .ref m43, .ref m44, .ref m45])), (m10, .inl (cI, 34, .inl gg0)), (m44, .inl (cI, 70, .inl fm44)), (m45, .inl (cZ, 2, .inl fm45))] t.heap ∧ va_D (va_A [(h0, .inr (11, [.int n0, .int n1, .int (nI nq), .ref m3, .ref m4, .ref m5, .int (nI nh), .ref m7, .ref m8, .ref m9, .ref m10, .int (nI sd), .ref m12, .int (nI tx), .int n14, .int (nI at9), .int n16, .int n17, .ref m18, .int (nI rq), .ref m20, .ref m21, .ref m22, .ref m23, .ref m24, .int (nI rh), .ref m26, .ref m27, .ref m28, .int (nI un), .ref m30, .int n31, .int n32, .ref m33, .int n34, .int n35, .ref m36, .int (nI wm), .ref m38, .ref m39, .ref m40, .int (nI bk), .ref m42, .ref m43, .ref m44, .ref m45])), (m10, .inl (cI, 34, .inl fm10)), (m44, .inl (cI, 70, .inl fm44)), (m45, .inl (cZ, 2, .inl fm45))] sz) [(h0, .inr (11, [.int n0, .int n1, .int (nI nq), .ref m3, .ref m4, .ref m5, .int (nI nh), .ref m7, .ref m8, .ref m9, .ref m10, .int (nI kk0), .ref m12, .int (nI tx), .int n14, .int (nI at9), .int n16, .int n17, .ref m18, .int (nI rq), .ref m20, .ref m21, .ref m22, .ref m23, .ref m24, .int (nI rh), .ref m26, .ref m27, .ref m28, .int (nI kk1), .ref m30, .int n31, .int n32, .ref m33, .int n34, .int n35, .ref m36, .int (nI wm), .ref m38, .ref m39, .ref m40, .int (nI bk), .ref m42, .ref m43, .ref m44, .ref m45])), (m10, .inl (cI, 34, .inl gg0)), (m44, .inl (cI, 70, .inl fm44)), (m45, .inl (cZ, 2, .inl fm45))]) (va_A [(h0, .inr (11, [.int n0, .int n1, .int (nI nq), .ref m3, .ref m4, .ref m5, .int (nI nh), .ref m7, .ref m8, .ref m9, .ref m10, .int (nI sd), .ref m12, .int (nI tx), .int n14, .int (nI at9), .int n16, .int n17, .ref m18, .int (nI rq), .ref m20, .ref m21, .ref m22, .ref m23, .ref m24, .int (nI rh), .ref m26, .ref m27, .ref m28, .int (nI un), .ref m30, .int n31, .int n32, .ref m33, .int n34, .int n35, .ref m36, .int (nI wm), .ref m38, .ref m39, .ref m40, .int (nI bk), .ref m42, .ref m43, .ref m44, .ref m45])), (m10, .inl (cI, 34, .inl fm10)), (m44, .inl (cI, 70, .inl fm44)), (m45, .inl (cZ, 2, .inl fm45))] sz)) 0 0 (va_A [(h0, .inr (11, [.int n0, .int n1, .int (nI nq), .ref m3, .ref m4, .ref m5, .int (nI nh), .ref m7, .ref m8, .ref m9, .ref m10, .int (nI sd), .ref m12, .int (nI tx), .int n14, .int (nI at9), .int n16, .int n17, .ref m18, .int (nI rq), .ref m20, .ref m21, .ref m22, .ref m23, .ref m24, .int (nI rh), .ref m26, .ref m27, .ref m28, .int (nI un), .ref m30, .int n31, .int n32, .ref m33, .int n34, .int n35, .ref m36, .int (nI wm), .ref m38, .ref m39, .ref m40, .int (nI bk), .ref m42, .ref m43, .ref m44, .ref m45])), (m10, .inl (cI, 34, .inl fm10)), (m44, .inl (cI, 70, .inl fm44)), (m45, .inl (cZ, 2, .inl fm45))] sz) := by
  refine Met.ofW (cc := cX11_goBack) (maxL := 3) (ret := (some .int)) (by decide) rfl ?_
  intro p e s m args below meth c s₁ B hml hv
  obtain ⟨rfl, hsz, hP, hK, hD0⟩ := hv
  have hx := B.exec
  have hb := B.bytes
  have hr := B.returns
  have hts := atoms_spec (ws := wsX11_goBack) B.pre
  have hown : s.vm.findClass RX11 = some m.cls := findClass_of_methodNamed B.named
  have hlocks := B.notSynchronized
  have hi_X11 : ∀ w ∈ u_ws RX11 TX11 46, w ∈ wsX11_goBack := by decide +kernel
  subst hsz
  have hD := hD0.self (sz := s.heap.size)
  generalize hAe : va_A [(h0, .inr (11, [.int n0, .int n1, .int (nI nq), .ref m3, .ref m4, .ref m5, .int (nI nh), .ref m7, .ref m8, .ref m9, .ref m10, .int (nI sd), .ref m12, .int (nI tx), .int n14, .int (nI at9), .int n16, .int n17, .ref m18, .int (nI rq), .ref m20, .ref m21, .ref m22, .ref m23, .ref m24, .int (nI rh), .ref m26, .ref m27, .ref m28, .int (nI un), .ref m30, .int n31, .int n32, .ref m33, .int n34, .int n35, .ref m36, .int (nI wm), .ref m38, .ref m39, .ref m40, .int (nI bk), .ref m42, .ref m43, .ref m44, .ref m45])), (m10, .inl (cI, 34, .inl fm10)), (m44, .inl (cI, 70, .inl fm44)), (m45, .inl (cZ, 2, .inl fm45))] s.heap.size = A at hD ⊢
  have hA : ∀ q : Nat, s.heap.size ≤ q → A q := fun q h => by rw [← hAe]; exact Or.inr h
  have hS : va_S A s.heap s.heap [] := va_S.rf
  have hl := lv_entry ([.ref h0, .int q0]) (n := 3) (Nat.le_of_ble_eq_true rfl)
  rw [lg_entry_eq]
  generalize (lg_sl ([.ref h0, .int q0]) ++ List.replicate (3 - (lg_sl ([.ref h0, .int q0])).length) Slot.unset).toArray = ls at hl ⊢
  have hl : lv_has ls 3 [(0, .ref h0), (1, .int q0)] := hl
  refine lv_iload_n hx hb dX11_goBack_0 rfl (lv_at hl 1 rfl) ?_
  refine lv_i2l hx hb dX11_goBack_1 rfl ?_
  refine lv_lconst (v := 0) hx hb dX11_goBack_2 (by decide) ?_
  refine lv_topl (fun z1 ez1 => ?_)
  obtain rfl : z1 = (0 : Int32).toInt64 := ez1.trans (by decide)
  refine lv_lconst (v := 1) hx hb dX11_goBack_3 (by decide) ?_
  refine lv_topl (fun z2 ez2 => ?_)
  obtain rfl : z2 = (1 : Int32).toInt64 := ez2.trans (by decide)
  have hPc := hP.sub (ws' := []) [] rfl
  refine va_calli (va_runS (As := [.long q0.toInt64, .long ((0 : Int32).toInt64), .long ((1 : Int32).toInt64)]) (rest := []) ⟨hx, hb, hml, hown, hts⟩ (c_X11_in l dC dI cI cZ cQ q0 0 1 s.heap.size ) (va_cwS 3 hts gX11_goBack_X11_in rfl rfl rfl (by decide +kernel) ⟨Nat.le_of_ble_eq_true rfl, Nat.le_of_ble_eq_true rfl⟩) ⟨fun a U g mk q => by obtain ⟨q0, q1, qP, qK⟩ := q; exact ⟨q0, q1, qP, va_K.moved (u := U) (U := U.calling g mk a) (Vm.Alike.refl U.vm) qK⟩, fun U hU hW => ⟨rfl, by rw [hU], by rw [hU]; exact hPc, va_K.moved hW.alike hK⟩⟩ rfl rfl hl.1 rfl (lv_room (Nat.le_of_ble_eq_true rfl)) dX11_goBack_4 ⟨Nat.le_of_ble_eq_true rfl, Nat.le_of_ble_eq_true rfl⟩) hS (fun q _ h => False.elim h) (fun q h => False.elim h) (fun r3 u4 t H1 locs ht hvm hw5 hB hz1 hk1 hS => ?_)
  have hP := hP.kept (fun k q hk => hk1 q.1 (hP k q hk).lt (fun h => h))
  clear hz1 hk1 hPc
  generalize H1 = H at hP hS ht ⊢
  try dsimp only at hw5
  rcases hw5 with ⟨rfl, hw5⟩ | ⟨rfl, hw5⟩
  ·
    rcases x_01 hw5 with rfl | rfl
    ·
      refine lv_if_ne (tgt := 13) hx hb dX11_goBack_7 (by decide) (fun c6 => ?_) (fun c6 => ?_)
      rotate_left
      · exact absurd c6 (by decide)
      clear c6
      refine lv_aload_n hx hb dX11_goBack_13 rfl (lv_at hl 0 rfl) ?_
      refine va_get (D := (dC, dI)) (ci := 11) (v := .ref m45) (C := RX11) (T := TX11) (N := 46) hx hb hts hi_X11 hown hK hP 0 rfl rfl 45 (by decide) (hts (.fieldLink RX11 92 "LeftQuillsModel" "isKept" "[Z") (wmx 2 rfl)) (fun _ h9 => h9) rfl dX11_goBack_14 ?_
      refine lv_iload_n hx hb dX11_goBack_17 rfl (lv_at hl 1 rfl) ?_
      refine va_zald hx hb hK hP 3 1 rfl rfl (vp_in_iff.mpr ⟨by decide, by decide⟩) dX11_goBack_18 ?_
      refine W.eq (g2 := F0 m 19 ls [.int (fm45 0)]) (congrArg (fun y9 => F0 m 19 ls (.int (fm45 y9) :: [])) ((show ((0 : Int32)).toNatClampNeg = 0 from by decide))) ?_
      refine lv_if_ne (tgt := 25) hx hb dX11_goBack_19 (by decide) (fun c7 => ?_) (fun c7 => ?_)
      ·
        refine lv_iconst (v := 0) hx hb dX11_goBack_25 (by decide) ?_
        refine lv_istore_n (lv' := [(2, .int 0), (0, .ref h0), (1, .int 0)]) hx hb dX11_goBack_26 rfl hl (by decide) rfl (fun ls hl => ?_)
        refine (fun (K : ∀ (d27 : Nat) (k27 : Nat) (f27_m10 : Nat → Int32) (H : Heap) (locs : List Loc) (ls : Array Slot), k27 + d27 = 34 → va_P (dC, dI) vwCl [(h0, .inr (11, [.int n0, .int n1, .int (nI nq), .ref m3, .ref m4, .ref m5, .int (nI nh), .ref m7, .ref m8, .ref m9, .ref m10, .int (nI sd), .ref m12, .int (nI tx), .int n14, .int (nI at9), .int n16, .int n17, .ref m18, .int (nI rq), .ref m20, .ref m21, .ref m22, .ref m23, .ref m24, .int (nI rh), .ref m26, .ref m27, .ref m28, .int (nI un), .ref m30, .int n31, .int n32, .ref m33, .int n34, .int n35, .ref m36, .int (nI wm), .ref m38, .ref m39, .ref m40, .int (nI bk), .ref m42, .ref m43, .ref m44, .ref m45])), (m10, .inl (cI, 34, .inl f27_m10)), (m44, .inl (cI, 70, .inl fm44)), (m45, .inl (cZ, 2, .inl fm45))] H → va_D A [(h0, .inr (11, [.int n0, .int n1, .int (nI nq), .ref m3, .ref m4, .ref m5, .int (nI nh), .ref m7, .ref m8, .ref m9, .ref m10, .int (nI sd), .ref m12, .int (nI tx), .int n14, .int (nI at9), .int n16, .int n17, .ref m18, .int (nI rq), .ref m20, .ref m21, .ref m22, .ref m23, .ref m24, .int (nI rh), .ref m26, .ref m27, .ref m28, .int (nI un), .ref m30, .int n31, .int n32, .ref m33, .int n34, .int n35, .ref m36, .int (nI wm), .ref m38, .ref m39, .ref m40, .int (nI bk), .ref m42, .ref m43, .ref m44, .ref m45])), (m10, .inl (cI, 34, .inl f27_m10)), (m44, .inl (cI, 70, .inl fm44)), (m45, .inl (cZ, 2, .inl fm45))] → va_S A s.heap H locs → lv_has ls 3 [(2, .int (nI k27)), (0, .ref h0), (1, .int 0)] → W p l e _ s m _ below meth c H locs _ _ _ (F0 m 27 ls [])) => K 34 0 fm10 _ _ _ (by omega) hP hD hS (lv_sub hl [0, 1, 2] rfl)) ?_
        intro d27
        induction d27 with
        | zero =>
          intro k27 f27_m10 H locs ls hk27 hP hD hS hl
          refine lv_iload_n hx hb dX11_goBack_27 rfl (lv_at hl 0 rfl) ?_
          refine lv_bipush (v := 34) hx hb dX11_goBack_28 (by decide) ?_
          refine lv_icmp_ge (tgt := 56) hx hb dX11_goBack_30 (by decide) (fun c8 => ?_) (fun c8 => ?_)
          ·
            have c8 : 34 ≤ k27 := (nI_leI (a := 34) (b := k27) (by omega) (by omega)).mp c8
            refine lv_aload_n hx hb dX11_goBack_56 rfl (lv_at hl 1 rfl) ?_
            refine lv_aload_n hx hb dX11_goBack_57 rfl (lv_at hl 1 rfl) ?_
            refine va_get (D := (dC, dI)) (ci := 11) (v := .ref m44) (C := RX11) (T := TX11) (N := 46) hx hb hts hi_X11 hown hK hP 0 rfl rfl 44 (by decide) (hts (.fieldLink RX11 89 "LeftQuillsModel" "images" "[I") (wmx 5 rfl)) (fun _ h9 => h9) rfl dX11_goBack_58 ?_
            refine lv_bipush (v := 35) hx hb dX11_goBack_61 (by decide) ?_
            refine lv_iload_n hx hb dX11_goBack_63 rfl (lv_at hl 2 rfl) ?_
            refine lv_imul hx hb dX11_goBack_64 ?_
            refine lv_topi (fun z9 ez9 => ?_)
            obtain rfl : z9 = 0 := ez9.trans (by decide)
            refine lv_bipush (v := 34) hx hb dX11_goBack_65 (by decide) ?_
            refine lv_iadd hx hb dX11_goBack_67 ?_
            refine lv_topi (fun z10 ez10 => ?_)
            obtain rfl : z10 = 34 := ez10.trans (by decide)
            refine va_iald hx hb hK hP 2 0 rfl rfl (vp_in_iff.mpr ⟨by decide, by decide⟩) dX11_goBack_68 ?_
            refine W.eq (g2 := F0 m 69 ls [.int (fm44 34), .ref h0]) (congrArg (fun y9 => F0 m 69 ls (.int (fm44 y9) :: [.ref h0])) ((show ((34 : Int32)).toNatClampNeg = 34 from by decide))) ?_
            refine lv_topi (fun z11 ez11 => ?_)
            obtain ⟨j12, hj12, ejj12⟩ := hmi.1
            obtain rfl : z11 = nI j12 := ez11.trans ejj12
            refine va_put (D := (dC, dI)) (ci := 11) (v := .int (nI j12)) (ty := .int) (C := RX11) (T := TX11) (N := 46) hx hb hts hi_X11 tyX11 tyX11_ok nmX11 hown hK hP hD hS 0 rfl rfl 11 (by decide) (hts (.fieldLink RX11 241 "LeftQuillsModel" "seed" "I") (wmx 6 rfl)) (fun _ h9 => h9) rfl (by decide +kernel) rfl rfl (Nat.le_of_ble_eq_true rfl) dX11_goBack_69 (fun H locs hP hD hS => ?_)
            have hP : va_P (dC, dI) vwCl [(h0, .inr (11, [.int n0, .int n1, .int (nI nq), .ref m3, .ref m4, .ref m5, .int (nI nh), .ref m7, .ref m8, .ref m9, .ref m10, .int (nI j12), .ref m12, .int (nI tx), .int n14, .int (nI at9), .int n16, .int n17, .ref m18, .int (nI rq), .ref m20, .ref m21, .ref m22, .ref m23, .ref m24, .int (nI rh), .ref m26, .ref m27, .ref m28, .int (nI un), .ref m30, .int n31, .int n32, .ref m33, .int n34, .int n35, .ref m36, .int (nI wm), .ref m38, .ref m39, .ref m40, .int (nI bk), .ref m42, .ref m43, .ref m44, .ref m45])), (m10, .inl (cI, 34, .inl f27_m10)), (m44, .inl (cI, 70, .inl fm44)), (m45, .inl (cZ, 2, .inl fm45))] H := hP
            have hD : va_D A [(h0, .inr (11, [.int n0, .int n1, .int (nI nq), .ref m3, .ref m4, .ref m5, .int (nI nh), .ref m7, .ref m8, .ref m9, .ref m10, .int (nI j12), .ref m12, .int (nI tx), .int n14, .int (nI at9), .int n16, .int n17, .ref m18, .int (nI rq), .ref m20, .ref m21, .ref m22, .ref m23, .ref m24, .int (nI rh), .ref m26, .ref m27, .ref m28, .int (nI un), .ref m30, .int n31, .int n32, .ref m33, .int n34, .int n35, .ref m36, .int (nI wm), .ref m38, .ref m39, .ref m40, .int (nI bk), .ref m42, .ref m43, .ref m44, .ref m45])), (m10, .inl (cI, 34, .inl f27_m10)), (m44, .inl (cI, 70, .inl fm44)), (m45, .inl (cZ, 2, .inl fm45))] := hD
            refine lv_aload_n hx hb dX11_goBack_72 rfl (lv_at hl 1 rfl) ?_
            refine lv_iconst (v := 0) hx hb dX11_goBack_73 (by decide) ?_
            refine va_put (D := (dC, dI)) (ci := 11) (v := .int 0) (ty := .int) (C := RX11) (T := TX11) (N := 46) hx hb hts hi_X11 tyX11 tyX11_ok nmX11 hown hK hP hD hS 0 rfl rfl 29 (by decide) (hts (.fieldLink RX11 174 "LeftQuillsModel" "undos" "I") (wmx 7 rfl)) (fun _ h9 => h9) rfl (by decide +kernel) rfl rfl (Nat.le_of_ble_eq_true rfl) dX11_goBack_74 (fun H locs hP hD hS => ?_)
            have hP : va_P (dC, dI) vwCl [(h0, .inr (11, [.int n0, .int n1, .int (nI nq), .ref m3, .ref m4, .ref m5, .int (nI nh), .ref m7, .ref m8, .ref m9, .ref m10, .int (nI j12), .ref m12, .int (nI tx), .int n14, .int (nI at9), .int n16, .int n17, .ref m18, .int (nI rq), .ref m20, .ref m21, .ref m22, .ref m23, .ref m24, .int (nI rh), .ref m26, .ref m27, .ref m28, .int 0, .ref m30, .int n31, .int n32, .ref m33, .int n34, .int n35, .ref m36, .int (nI wm), .ref m38, .ref m39, .ref m40, .int (nI bk), .ref m42, .ref m43, .ref m44, .ref m45])), (m10, .inl (cI, 34, .inl f27_m10)), (m44, .inl (cI, 70, .inl fm44)), (m45, .inl (cZ, 2, .inl fm45))] H := hP
            have hD : va_D A [(h0, .inr (11, [.int n0, .int n1, .int (nI nq), .ref m3, .ref m4, .ref m5, .int (nI nh), .ref m7, .ref m8, .ref m9, .ref m10, .int (nI j12), .ref m12, .int (nI tx), .int n14, .int (nI at9), .int n16, .int n17, .ref m18, .int (nI rq), .ref m20, .ref m21, .ref m22, .ref m23, .ref m24, .int (nI rh), .ref m26, .ref m27, .ref m28, .int 0, .ref m30, .int n31, .int n32, .ref m33, .int n34, .int n35, .ref m36, .int (nI wm), .ref m38, .ref m39, .ref m40, .int (nI bk), .ref m42, .ref m43, .ref m44, .ref m45])), (m10, .inl (cI, 34, .inl f27_m10)), (m44, .inl (cI, 70, .inl fm44)), (m45, .inl (cZ, 2, .inl fm45))] := hD
            refine lv_iconst (v := 1) hx hb dX11_goBack_77 (by decide) ?_
            have hP9 := hP.sub (ws' := [(h0, .inr (11, [.int n0, .int n1, .int (nI nq), .ref m3, .ref m4, .ref m5, .int (nI nh), .ref m7, .ref m8, .ref m9, .ref m10, .int (nI j12), .ref m12, .int (nI tx), .int n14, .int (nI at9), .int n16, .int n17, .ref m18, .int (nI rq), .ref m20, .ref m21, .ref m22, .ref m23, .ref m24, .int (nI rh), .ref m26, .ref m27, .ref m28, .int 0, .ref m30, .int n31, .int n32, .ref m33, .int n34, .int n35, .ref m36, .int (nI wm), .ref m38, .ref m39, .ref m40, .int (nI bk), .ref m42, .ref m43, .ref m44, .ref m45])), (m10, .inl (cI, 34, .inl f27_m10)), (m44, .inl (cI, 70, .inl fm44)), (m45, .inl (cZ, 2, .inl fm45))]) [0, 1, 2, 3] rfl
            have hD9 := hD.sub (ws' := [(h0, .inr (11, [.int n0, .int n1, .int (nI nq), .ref m3, .ref m4, .ref m5, .int (nI nh), .ref m7, .ref m8, .ref m9, .ref m10, .int (nI j12), .ref m12, .int (nI tx), .int n14, .int (nI at9), .int n16, .int n17, .ref m18, .int (nI rq), .ref m20, .ref m21, .ref m22, .ref m23, .ref m24, .int (nI rh), .ref m26, .ref m27, .ref m28, .int 0, .ref m30, .int n31, .int n32, .ref m33, .int n34, .int n35, .ref m36, .int (nI wm), .ref m38, .ref m39, .ref m40, .int (nI bk), .ref m42, .ref m43, .ref m44, .ref m45])), (m10, .inl (cI, 34, .inl f27_m10)), (m44, .inl (cI, 70, .inl fm44)), (m45, .inl (cZ, 2, .inl fm45))]) [0, 1, 2, 3] (by decide +kernel) rfl
            exact W.iret (v := 1) hx hb hr (fun t ht hW => ⟨⟨1, (fun _ => 0), rfl, trivial, ⟨f27_m10, j12, 0, by omega, by omega, by rw [ht]; exact hP9, hD9⟩⟩, hS.F ht⟩) hS.2.2 dX11_goBack_78
          ·
            have c8 : ¬ 34 ≤ k27 := fun h => c8 ((nI_leI (a := 34) (b := k27) (by omega) (by omega)).mpr h)
            omega
        | succ d27 ih27 =>
          intro k27 f27_m10 H locs ls hk27 hP hD hS hl
          refine lv_iload_n hx hb dX11_goBack_27 rfl (lv_at hl 0 rfl) ?_
          refine lv_bipush (v := 34) hx hb dX11_goBack_28 (by decide) ?_
          refine lv_icmp_ge (tgt := 56) hx hb dX11_goBack_30 (by decide) (fun c13 => ?_) (fun c13 => ?_)
          ·
            have c13 : 34 ≤ k27 := (nI_leI (a := 34) (b := k27) (by omega) (by omega)).mp c13
            omega
          ·
            have c13 : ¬ 34 ≤ k27 := fun h => c13 ((nI_leI (a := 34) (b := k27) (by omega) (by omega)).mpr h)
            refine lv_aload_n hx hb dX11_goBack_33 rfl (lv_at hl 1 rfl) ?_
            refine va_get (D := (dC, dI)) (ci := 11) (v := .ref m10) (C := RX11) (T := TX11) (N := 46) hx hb hts hi_X11 hown hK hP 0 rfl rfl 10 (by decide) (hts (.fieldLink RX11 28 "LeftQuillsModel" "now" "[I") (wmx 4 rfl)) (fun _ h9 => h9) rfl dX11_goBack_34 ?_
            refine lv_iload_n hx hb dX11_goBack_37 rfl (lv_at hl 0 rfl) ?_
            refine lv_aload_n hx hb dX11_goBack_38 rfl (lv_at hl 1 rfl) ?_
            refine va_get (D := (dC, dI)) (ci := 11) (v := .ref m44) (C := RX11) (T := TX11) (N := 46) hx hb hts hi_X11 hown hK hP 0 rfl rfl 44 (by decide) (hts (.fieldLink RX11 89 "LeftQuillsModel" "images" "[I") (wmx 5 rfl)) (fun _ h9 => h9) rfl dX11_goBack_39 ?_
            refine lv_bipush (v := 35) hx hb dX11_goBack_42 (by decide) ?_
            refine lv_iload_n hx hb dX11_goBack_44 rfl (lv_at hl 2 rfl) ?_
            refine lv_imul hx hb dX11_goBack_45 ?_
            refine lv_topi (fun z14 ez14 => ?_)
            obtain rfl : z14 = 0 := ez14.trans (by decide)
            refine lv_iload_n hx hb dX11_goBack_46 rfl (lv_at hl 0 rfl) ?_
            refine lv_iadd hx hb dX11_goBack_47 ?_
            refine lv_topi (fun z15 ez15 => ?_)
            obtain rfl : z15 = nI (0 + k27) := ez15.trans (nI_add 0 k27)
            refine va_iald hx hb hK hP 2 0 rfl rfl (vp_in_nI (n := 0 + k27) (N := 70) (by omega) (by decide)) dX11_goBack_48 ?_
            refine W.eq (g2 := F0 m 49 ls [.int (fm44 (0 + k27)), .int (nI k27), .ref m10]) (congrArg (fun y9 => F0 m 49 ls (.int (fm44 y9) :: [.int (nI k27), .ref m10])) ((nI_clamp (n := 0 + k27) (by omega)))) ?_
            refine va_iast hx hb hK hP hD hS 1 0 rfl rfl (vp_in_nI (n := k27) (N := 34) (by omega) (by decide)) dX11_goBack_49 (fun H locs hP hD hS => ?_)
            generalize hgf16 : upd f27_m10 ((nI k27).toNatClampNeg) (fm44 (0 + k27)) = f16 at hP hD
            have hP : va_P (dC, dI) vwCl [(h0, .inr (11, [.int n0, .int n1, .int (nI nq), .ref m3, .ref m4, .ref m5, .int (nI nh), .ref m7, .ref m8, .ref m9, .ref m10, .int (nI sd), .ref m12, .int (nI tx), .int n14, .int (nI at9), .int n16, .int n17, .ref m18, .int (nI rq), .ref m20, .ref m21, .ref m22, .ref m23, .ref m24, .int (nI rh), .ref m26, .ref m27, .ref m28, .int (nI un), .ref m30, .int n31, .int n32, .ref m33, .int n34, .int n35, .ref m36, .int (nI wm), .ref m38, .ref m39, .ref m40, .int (nI bk), .ref m42, .ref m43, .ref m44, .ref m45])), (m10, .inl (cI, 34, .inl f16)), (m44, .inl (cI, 70, .inl fm44)), (m45, .inl (cZ, 2, .inl fm45))] H := hP
            have hD : va_D A [(h0, .inr (11, [.int n0, .int n1, .int (nI nq), .ref m3, .ref m4, .ref m5, .int (nI nh), .ref m7, .ref m8, .ref m9, .ref m10, .int (nI sd), .ref m12, .int (nI tx), .int n14, .int (nI at9), .int n16, .int n17, .ref m18, .int (nI rq), .ref m20, .ref m21, .ref m22, .ref m23, .ref m24, .int (nI rh), .ref m26, .ref m27, .ref m28, .int (nI un), .ref m30, .int n31, .int n32, .ref m33, .int n34, .int n35, .ref m36, .int (nI wm), .ref m38, .ref m39, .ref m40, .int (nI bk), .ref m42, .ref m43, .ref m44, .ref m45])), (m10, .inl (cI, 34, .inl f16)), (m44, .inl (cI, 70, .inl fm44)), (m45, .inl (cZ, 2, .inl fm45))] := hD
            refine lv_iinc (v := nI (k27 + 1)) (lv' := [(2, .int (nI (k27 + 1))), (0, .ref h0), (1, .int 0)]) hx hb dX11_goBack_50 hl (k := 0) rfl ((rfl : nI k27 + Int32.ofInt 1 = nI k27 + 1).trans (nI_add k27 1)) (by decide) rfl (fun ls hl => ?_)
            refine lv_goto (tgt := 27) hx hb dX11_goBack_53 (by decide) ?_
            exact ih27 (k27 + 1) f16 _ _ _ (by omega) hP hD hS (lv_sub hl [0, 1, 2] rfl)
      ·
        refine lv_ldc (v := (-1000000003)) hx hb hown (hts (.constant RX11 237 (-1000000003)) (wmx 3 rfl)) dX11_goBack_22 ?_
        have hP9 := hP.sub (ws' := [(h0, .inr (11, [.int n0, .int n1, .int (nI nq), .ref m3, .ref m4, .ref m5, .int (nI nh), .ref m7, .ref m8, .ref m9, .ref m10, .int (nI sd), .ref m12, .int (nI tx), .int n14, .int (nI at9), .int n16, .int n17, .ref m18, .int (nI rq), .ref m20, .ref m21, .ref m22, .ref m23, .ref m24, .int (nI rh), .ref m26, .ref m27, .ref m28, .int (nI un), .ref m30, .int n31, .int n32, .ref m33, .int n34, .int n35, .ref m36, .int (nI wm), .ref m38, .ref m39, .ref m40, .int (nI bk), .ref m42, .ref m43, .ref m44, .ref m45])), (m10, .inl (cI, 34, .inl fm10)), (m44, .inl (cI, 70, .inl fm44)), (m45, .inl (cZ, 2, .inl fm45))]) [0, 1, 2, 3] rfl
        have hD9 := hD.sub (ws' := [(h0, .inr (11, [.int n0, .int n1, .int (nI nq), .ref m3, .ref m4, .ref m5, .int (nI nh), .ref m7, .ref m8, .ref m9, .ref m10, .int (nI sd), .ref m12, .int (nI tx), .int n14, .int (nI at9), .int n16, .int n17, .ref m18, .int (nI rq), .ref m20, .ref m21, .ref m22, .ref m23, .ref m24, .int (nI rh), .ref m26, .ref m27, .ref m28, .int (nI un), .ref m30, .int n31, .int n32, .ref m33, .int n34, .int n35, .ref m36, .int (nI wm), .ref m38, .ref m39, .ref m40, .int (nI bk), .ref m42, .ref m43, .ref m44, .ref m45])), (m10, .inl (cI, 34, .inl fm10)), (m44, .inl (cI, 70, .inl fm44)), (m45, .inl (cZ, 2, .inl fm45))]) [0, 1, 2, 3] (by decide +kernel) rfl
        exact W.iret (v := (-1000000003)) hx hb hr (fun t ht hW => ⟨⟨(-1000000003), (fun _ => 0), rfl, trivial, ⟨fm10, sd, un, by omega, by omega, by rw [ht]; exact hP9, hD9⟩⟩, hS.F ht⟩) hS.2.2 dX11_goBack_24
    ·
      refine lv_if_ne (tgt := 13) hx hb dX11_goBack_7 (by decide) (fun c17 => ?_) (fun c17 => ?_)
      rotate_left
      · exact absurd c17 (by decide)
      clear c17
      refine lv_aload_n hx hb dX11_goBack_13 rfl (lv_at hl 0 rfl) ?_
      refine va_get (D := (dC, dI)) (ci := 11) (v := .ref m45) (C := RX11) (T := TX11) (N := 46) hx hb hts hi_X11 hown hK hP 0 rfl rfl 45 (by decide) (hts (.fieldLink RX11 92 "LeftQuillsModel" "isKept" "[Z") (wmx 2 rfl)) (fun _ h9 => h9) rfl dX11_goBack_14 ?_
      refine lv_iload_n hx hb dX11_goBack_17 rfl (lv_at hl 1 rfl) ?_
      refine va_zald hx hb hK hP 3 1 rfl rfl (vp_in_iff.mpr ⟨by decide, by decide⟩) dX11_goBack_18 ?_
      refine W.eq (g2 := F0 m 19 ls [.int (fm45 1)]) (congrArg (fun y9 => F0 m 19 ls (.int (fm45 y9) :: [])) ((show ((1 : Int32)).toNatClampNeg = 1 from by decide))) ?_
      refine lv_if_ne (tgt := 25) hx hb dX11_goBack_19 (by decide) (fun c18 => ?_) (fun c18 => ?_)
      ·
        refine lv_iconst (v := 0) hx hb dX11_goBack_25 (by decide) ?_
        refine lv_istore_n (lv' := [(2, .int 0), (0, .ref h0), (1, .int 1)]) hx hb dX11_goBack_26 rfl hl (by decide) rfl (fun ls hl => ?_)
        refine (fun (K : ∀ (d27 : Nat) (k27 : Nat) (f27_m10 : Nat → Int32) (H : Heap) (locs : List Loc) (ls : Array Slot), k27 + d27 = 34 → va_P (dC, dI) vwCl [(h0, .inr (11, [.int n0, .int n1, .int (nI nq), .ref m3, .ref m4, .ref m5, .int (nI nh), .ref m7, .ref m8, .ref m9, .ref m10, .int (nI sd), .ref m12, .int (nI tx), .int n14, .int (nI at9), .int n16, .int n17, .ref m18, .int (nI rq), .ref m20, .ref m21, .ref m22, .ref m23, .ref m24, .int (nI rh), .ref m26, .ref m27, .ref m28, .int (nI un), .ref m30, .int n31, .int n32, .ref m33, .int n34, .int n35, .ref m36, .int (nI wm), .ref m38, .ref m39, .ref m40, .int (nI bk), .ref m42, .ref m43, .ref m44, .ref m45])), (m10, .inl (cI, 34, .inl f27_m10)), (m44, .inl (cI, 70, .inl fm44)), (m45, .inl (cZ, 2, .inl fm45))] H → va_D A [(h0, .inr (11, [.int n0, .int n1, .int (nI nq), .ref m3, .ref m4, .ref m5, .int (nI nh), .ref m7, .ref m8, .ref m9, .ref m10, .int (nI sd), .ref m12, .int (nI tx), .int n14, .int (nI at9), .int n16, .int n17, .ref m18, .int (nI rq), .ref m20, .ref m21, .ref m22, .ref m23, .ref m24, .int (nI rh), .ref m26, .ref m27, .ref m28, .int (nI un), .ref m30, .int n31, .int n32, .ref m33, .int n34, .int n35, .ref m36, .int (nI wm), .ref m38, .ref m39, .ref m40, .int (nI bk), .ref m42, .ref m43, .ref m44, .ref m45])), (m10, .inl (cI, 34, .inl f27_m10)), (m44, .inl (cI, 70, .inl fm44)), (m45, .inl (cZ, 2, .inl fm45))] → va_S A s.heap H locs → lv_has ls 3 [(2, .int (nI k27)), (0, .ref h0), (1, .int 1)] → W p l e _ s m _ below meth c H locs _ _ _ (F0 m 27 ls [])) => K 34 0 fm10 _ _ _ (by omega) hP hD hS (lv_sub hl [0, 1, 2] rfl)) ?_
        intro d27
        induction d27 with
        | zero =>
          intro k27 f27_m10 H locs ls hk27 hP hD hS hl
          refine lv_iload_n hx hb dX11_goBack_27 rfl (lv_at hl 0 rfl) ?_
          refine lv_bipush (v := 34) hx hb dX11_goBack_28 (by decide) ?_
          refine lv_icmp_ge (tgt := 56) hx hb dX11_goBack_30 (by decide) (fun c19 => ?_) (fun c19 => ?_)
          ·
            have c19 : 34 ≤ k27 := (nI_leI (a := 34) (b := k27) (by omega) (by omega)).mp c19
            refine lv_aload_n hx hb dX11_goBack_56 rfl (lv_at hl 1 rfl) ?_
            refine lv_aload_n hx hb dX11_goBack_57 rfl (lv_at hl 1 rfl) ?_
            refine va_get (D := (dC, dI)) (ci := 11) (v := .ref m44) (C := RX11) (T := TX11) (N := 46) hx hb hts hi_X11 hown hK hP 0 rfl rfl 44 (by decide) (hts (.fieldLink RX11 89 "LeftQuillsModel" "images" "[I") (wmx 5 rfl)) (fun _ h9 => h9) rfl dX11_goBack_58 ?_
            refine lv_bipush (v := 35) hx hb dX11_goBack_61 (by decide) ?_
            refine lv_iload_n hx hb dX11_goBack_63 rfl (lv_at hl 2 rfl) ?_
            refine lv_imul hx hb dX11_goBack_64 ?_
            refine lv_topi (fun z20 ez20 => ?_)
            obtain rfl : z20 = 35 := ez20.trans (by decide)
            refine lv_bipush (v := 34) hx hb dX11_goBack_65 (by decide) ?_
            refine lv_iadd hx hb dX11_goBack_67 ?_
            refine lv_topi (fun z21 ez21 => ?_)
            obtain rfl : z21 = 69 := ez21.trans (by decide)
            refine va_iald hx hb hK hP 2 0 rfl rfl (vp_in_iff.mpr ⟨by decide, by decide⟩) dX11_goBack_68 ?_
            refine W.eq (g2 := F0 m 69 ls [.int (fm44 69), .ref h0]) (congrArg (fun y9 => F0 m 69 ls (.int (fm44 y9) :: [.ref h0])) ((show ((69 : Int32)).toNatClampNeg = 69 from by decide))) ?_
            refine lv_topi (fun z22 ez22 => ?_)
            obtain ⟨j23, hj23, ejj23⟩ := hmi.2
            obtain rfl : z22 = nI j23 := ez22.trans ejj23
            refine va_put (D := (dC, dI)) (ci := 11) (v := .int (nI j23)) (ty := .int) (C := RX11) (T := TX11) (N := 46) hx hb hts hi_X11 tyX11 tyX11_ok nmX11 hown hK hP hD hS 0 rfl rfl 11 (by decide) (hts (.fieldLink RX11 241 "LeftQuillsModel" "seed" "I") (wmx 6 rfl)) (fun _ h9 => h9) rfl (by decide +kernel) rfl rfl (Nat.le_of_ble_eq_true rfl) dX11_goBack_69 (fun H locs hP hD hS => ?_)
            have hP : va_P (dC, dI) vwCl [(h0, .inr (11, [.int n0, .int n1, .int (nI nq), .ref m3, .ref m4, .ref m5, .int (nI nh), .ref m7, .ref m8, .ref m9, .ref m10, .int (nI j23), .ref m12, .int (nI tx), .int n14, .int (nI at9), .int n16, .int n17, .ref m18, .int (nI rq), .ref m20, .ref m21, .ref m22, .ref m23, .ref m24, .int (nI rh), .ref m26, .ref m27, .ref m28, .int (nI un), .ref m30, .int n31, .int n32, .ref m33, .int n34, .int n35, .ref m36, .int (nI wm), .ref m38, .ref m39, .ref m40, .int (nI bk), .ref m42, .ref m43, .ref m44, .ref m45])), (m10, .inl (cI, 34, .inl f27_m10)), (m44, .inl (cI, 70, .inl fm44)), (m45, .inl (cZ, 2, .inl fm45))] H := hP
            have hD : va_D A [(h0, .inr (11, [.int n0, .int n1, .int (nI nq), .ref m3, .ref m4, .ref m5, .int (nI nh), .ref m7, .ref m8, .ref m9, .ref m10, .int (nI j23), .ref m12, .int (nI tx), .int n14, .int (nI at9), .int n16, .int n17, .ref m18, .int (nI rq), .ref m20, .ref m21, .ref m22, .ref m23, .ref m24, .int (nI rh), .ref m26, .ref m27, .ref m28, .int (nI un), .ref m30, .int n31, .int n32, .ref m33, .int n34, .int n35, .ref m36, .int (nI wm), .ref m38, .ref m39, .ref m40, .int (nI bk), .ref m42, .ref m43, .ref m44, .ref m45])), (m10, .inl (cI, 34, .inl f27_m10)), (m44, .inl (cI, 70, .inl fm44)), (m45, .inl (cZ, 2, .inl fm45))] := hD
            refine lv_aload_n hx hb dX11_goBack_72 rfl (lv_at hl 1 rfl) ?_
            refine lv_iconst (v := 0) hx hb dX11_goBack_73 (by decide) ?_
            refine va_put (D := (dC, dI)) (ci := 11) (v := .int 0) (ty := .int) (C := RX11) (T := TX11) (N := 46) hx hb hts hi_X11 tyX11 tyX11_ok nmX11 hown hK hP hD hS 0 rfl rfl 29 (by decide) (hts (.fieldLink RX11 174 "LeftQuillsModel" "undos" "I") (wmx 7 rfl)) (fun _ h9 => h9) rfl (by decide +kernel) rfl rfl (Nat.le_of_ble_eq_true rfl) dX11_goBack_74 (fun H locs hP hD hS => ?_)
            have hP : va_P (dC, dI) vwCl [(h0, .inr (11, [.int n0, .int n1, .int (nI nq), .ref m3, .ref m4, .ref m5, .int (nI nh), .ref m7, .ref m8, .ref m9, .ref m10, .int (nI j23), .ref m12, .int (nI tx), .int n14, .int (nI at9), .int n16, .int n17, .ref m18, .int (nI rq), .ref m20, .ref m21, .ref m22, .ref m23, .ref m24, .int (nI rh), .ref m26, .ref m27, .ref m28, .int 0, .ref m30, .int n31, .int n32, .ref m33, .int n34, .int n35, .ref m36, .int (nI wm), .ref m38, .ref m39, .ref m40, .int (nI bk), .ref m42, .ref m43, .ref m44, .ref m45])), (m10, .inl (cI, 34, .inl f27_m10)), (m44, .inl (cI, 70, .inl fm44)), (m45, .inl (cZ, 2, .inl fm45))] H := hP
            have hD : va_D A [(h0, .inr (11, [.int n0, .int n1, .int (nI nq), .ref m3, .ref m4, .ref m5, .int (nI nh), .ref m7, .ref m8, .ref m9, .ref m10, .int (nI j23), .ref m12, .int (nI tx), .int n14, .int (nI at9), .int n16, .int n17, .ref m18, .int (nI rq), .ref m20, .ref m21, .ref m22, .ref m23, .ref m24, .int (nI rh), .ref m26, .ref m27, .ref m28, .int 0, .ref m30, .int n31, .int n32, .ref m33, .int n34, .int n35, .ref m36, .int (nI wm), .ref m38, .ref m39, .ref m40, .int (nI bk), .ref m42, .ref m43, .ref m44, .ref m45])), (m10, .inl (cI, 34, .inl f27_m10)), (m44, .inl (cI, 70, .inl fm44)), (m45, .inl (cZ, 2, .inl fm45))] := hD
            refine lv_iconst (v := 1) hx hb dX11_goBack_77 (by decide) ?_
            have hP9 := hP.sub (ws' := [(h0, .inr (11, [.int n0, .int n1, .int (nI nq), .ref m3, .ref m4, .ref m5, .int (nI nh), .ref m7, .ref m8, .ref m9, .ref m10, .int (nI j23), .ref m12, .int (nI tx), .int n14, .int (nI at9), .int n16, .int n17, .ref m18, .int (nI rq), .ref m20, .ref m21, .ref m22, .ref m23, .ref m24, .int (nI rh), .ref m26, .ref m27, .ref m28, .int 0, .ref m30, .int n31, .int n32, .ref m33, .int n34, .int n35, .ref m36, .int (nI wm), .ref m38, .ref m39, .ref m40, .int (nI bk), .ref m42, .ref m43, .ref m44, .ref m45])), (m10, .inl (cI, 34, .inl f27_m10)), (m44, .inl (cI, 70, .inl fm44)), (m45, .inl (cZ, 2, .inl fm45))]) [0, 1, 2, 3] rfl
            have hD9 := hD.sub (ws' := [(h0, .inr (11, [.int n0, .int n1, .int (nI nq), .ref m3, .ref m4, .ref m5, .int (nI nh), .ref m7, .ref m8, .ref m9, .ref m10, .int (nI j23), .ref m12, .int (nI tx), .int n14, .int (nI at9), .int n16, .int n17, .ref m18, .int (nI rq), .ref m20, .ref m21, .ref m22, .ref m23, .ref m24, .int (nI rh), .ref m26, .ref m27, .ref m28, .int 0, .ref m30, .int n31, .int n32, .ref m33, .int n34, .int n35, .ref m36, .int (nI wm), .ref m38, .ref m39, .ref m40, .int (nI bk), .ref m42, .ref m43, .ref m44, .ref m45])), (m10, .inl (cI, 34, .inl f27_m10)), (m44, .inl (cI, 70, .inl fm44)), (m45, .inl (cZ, 2, .inl fm45))]) [0, 1, 2, 3] (by decide +kernel) rfl
            exact W.iret (v := 1) hx hb hr (fun t ht hW => ⟨⟨1, (fun _ => 0), rfl, trivial, ⟨f27_m10, j23, 0, by omega, by omega, by rw [ht]; exact hP9, hD9⟩⟩, hS.F ht⟩) hS.2.2 dX11_goBack_78
          ·
            have c19 : ¬ 34 ≤ k27 := fun h => c19 ((nI_leI (a := 34) (b := k27) (by omega) (by omega)).mpr h)
            omega
        | succ d27 ih27 =>
          intro k27 f27_m10 H locs ls hk27 hP hD hS hl
          refine lv_iload_n hx hb dX11_goBack_27 rfl (lv_at hl 0 rfl) ?_
          refine lv_bipush (v := 34) hx hb dX11_goBack_28 (by decide) ?_
          refine lv_icmp_ge (tgt := 56) hx hb dX11_goBack_30 (by decide) (fun c24 => ?_) (fun c24 => ?_)
          ·
            have c24 : 34 ≤ k27 := (nI_leI (a := 34) (b := k27) (by omega) (by omega)).mp c24
            omega
          ·
            have c24 : ¬ 34 ≤ k27 := fun h => c24 ((nI_leI (a := 34) (b := k27) (by omega) (by omega)).mpr h)
            refine lv_aload_n hx hb dX11_goBack_33 rfl (lv_at hl 1 rfl) ?_
            refine va_get (D := (dC, dI)) (ci := 11) (v := .ref m10) (C := RX11) (T := TX11) (N := 46) hx hb hts hi_X11 hown hK hP 0 rfl rfl 10 (by decide) (hts (.fieldLink RX11 28 "LeftQuillsModel" "now" "[I") (wmx 4 rfl)) (fun _ h9 => h9) rfl dX11_goBack_34 ?_
            refine lv_iload_n hx hb dX11_goBack_37 rfl (lv_at hl 0 rfl) ?_
            refine lv_aload_n hx hb dX11_goBack_38 rfl (lv_at hl 1 rfl) ?_
            refine va_get (D := (dC, dI)) (ci := 11) (v := .ref m44) (C := RX11) (T := TX11) (N := 46) hx hb hts hi_X11 hown hK hP 0 rfl rfl 44 (by decide) (hts (.fieldLink RX11 89 "LeftQuillsModel" "images" "[I") (wmx 5 rfl)) (fun _ h9 => h9) rfl dX11_goBack_39 ?_
            refine lv_bipush (v := 35) hx hb dX11_goBack_42 (by decide) ?_
            refine lv_iload_n hx hb dX11_goBack_44 rfl (lv_at hl 2 rfl) ?_
            refine lv_imul hx hb dX11_goBack_45 ?_
            refine lv_topi (fun z25 ez25 => ?_)
            obtain rfl : z25 = 35 := ez25.trans (by decide)
            refine lv_iload_n hx hb dX11_goBack_46 rfl (lv_at hl 0 rfl) ?_
            refine lv_iadd hx hb dX11_goBack_47 ?_
            refine lv_topi (fun z26 ez26 => ?_)
            obtain rfl : z26 = nI (35 + k27) := ez26.trans (nI_add 35 k27)
            refine va_iald hx hb hK hP 2 0 rfl rfl (vp_in_nI (n := 35 + k27) (N := 70) (by omega) (by decide)) dX11_goBack_48 ?_
            refine W.eq (g2 := F0 m 49 ls [.int (fm44 (35 + k27)), .int (nI k27), .ref m10]) (congrArg (fun y9 => F0 m 49 ls (.int (fm44 y9) :: [.int (nI k27), .ref m10])) ((nI_clamp (n := 35 + k27) (by omega)))) ?_
            refine va_iast hx hb hK hP hD hS 1 0 rfl rfl (vp_in_nI (n := k27) (N := 34) (by omega) (by decide)) dX11_goBack_49 (fun H locs hP hD hS => ?_)
            generalize hgf27 : upd f27_m10 ((nI k27).toNatClampNeg) (fm44 (35 + k27)) = f27 at hP hD
            have hP : va_P (dC, dI) vwCl [(h0, .inr (11, [.int n0, .int n1, .int (nI nq), .ref m3, .ref m4, .ref m5, .int (nI nh), .ref m7, .ref m8, .ref m9, .ref m10, .int (nI sd), .ref m12, .int (nI tx), .int n14, .int (nI at9), .int n16, .int n17, .ref m18, .int (nI rq), .ref m20, .ref m21, .ref m22, .ref m23, .ref m24, .int (nI rh), .ref m26, .ref m27, .ref m28, .int (nI un), .ref m30, .int n31, .int n32, .ref m33, .int n34, .int n35, .ref m36, .int (nI wm), .ref m38, .ref m39, .ref m40, .int (nI bk), .ref m42, .ref m43, .ref m44, .ref m45])), (m10, .inl (cI, 34, .inl f27)), (m44, .inl (cI, 70, .inl fm44)), (m45, .inl (cZ, 2, .inl fm45))] H := hP
            have hD : va_D A [(h0, .inr (11, [.int n0, .int n1, .int (nI nq), .ref m3, .ref m4, .ref m5, .int (nI nh), .ref m7, .ref m8, .ref m9, .ref m10, .int (nI sd), .ref m12, .int (nI tx), .int n14, .int (nI at9), .int n16, .int n17, .ref m18, .int (nI rq), .ref m20, .ref m21, .ref m22, .ref m23, .ref m24, .int (nI rh), .ref m26, .ref m27, .ref m28, .int (nI un), .ref m30, .int n31, .int n32, .ref m33, .int n34, .int n35, .ref m36, .int (nI wm), .ref m38, .ref m39, .ref m40, .int (nI bk), .ref m42, .ref m43, .ref m44, .ref m45])), (m10, .inl (cI, 34, .inl f27)), (m44, .inl (cI, 70, .inl fm44)), (m45, .inl (cZ, 2, .inl fm45))] := hD
            refine lv_iinc (v := nI (k27 + 1)) (lv' := [(2, .int (nI (k27 + 1))), (0, .ref h0), (1, .int 1)]) hx hb dX11_goBack_50 hl (k := 0) rfl ((rfl : nI k27 + Int32.ofInt 1 = nI k27 + 1).trans (nI_add k27 1)) (by decide) rfl (fun ls hl => ?_)
            refine lv_goto (tgt := 27) hx hb dX11_goBack_53 (by decide) ?_
            exact ih27 (k27 + 1) f27 _ _ _ (by omega) hP hD hS (lv_sub hl [0, 1, 2] rfl)
      ·
        refine lv_ldc (v := (-1000000003)) hx hb hown (hts (.constant RX11 237 (-1000000003)) (wmx 3 rfl)) dX11_goBack_22 ?_
        have hP9 := hP.sub (ws' := [(h0, .inr (11, [.int n0, .int n1, .int (nI nq), .ref m3, .ref m4, .ref m5, .int (nI nh), .ref m7, .ref m8, .ref m9, .ref m10, .int (nI sd), .ref m12, .int (nI tx), .int n14, .int (nI at9), .int n16, .int n17, .ref m18, .int (nI rq), .ref m20, .ref m21, .ref m22, .ref m23, .ref m24, .int (nI rh), .ref m26, .ref m27, .ref m28, .int (nI un), .ref m30, .int n31, .int n32, .ref m33, .int n34, .int n35, .ref m36, .int (nI wm), .ref m38, .ref m39, .ref m40, .int (nI bk), .ref m42, .ref m43, .ref m44, .ref m45])), (m10, .inl (cI, 34, .inl fm10)), (m44, .inl (cI, 70, .inl fm44)), (m45, .inl (cZ, 2, .inl fm45))]) [0, 1, 2, 3] rfl
        have hD9 := hD.sub (ws' := [(h0, .inr (11, [.int n0, .int n1, .int (nI nq), .ref m3, .ref m4, .ref m5, .int (nI nh), .ref m7, .ref m8, .ref m9, .ref m10, .int (nI sd), .ref m12, .int (nI tx), .int n14, .int (nI at9), .int n16, .int n17, .ref m18, .int (nI rq), .ref m20, .ref m21, .ref m22, .ref m23, .ref m24, .int (nI rh), .ref m26, .ref m27, .ref m28, .int (nI un), .ref m30, .int n31, .int n32, .ref m33, .int n34, .int n35, .ref m36, .int (nI wm), .ref m38, .ref m39, .ref m40, .int (nI bk), .ref m42, .ref m43, .ref m44, .ref m45])), (m10, .inl (cI, 34, .inl fm10)), (m44, .inl (cI, 70, .inl fm44)), (m45, .inl (cZ, 2, .inl fm45))]) [0, 1, 2, 3] (by decide +kernel) rfl
        exact W.iret (v := (-1000000003)) hx hb hr (fun t ht hW => ⟨⟨(-1000000003), (fun _ => 0), rfl, trivial, ⟨fm10, sd, un, by omega, by omega, by rw [ht]; exact hP9, hD9⟩⟩, hS.F ht⟩) hS.2.2 dX11_goBack_24
  ·
    refine lv_if_ne (tgt := 13) hx hb dX11_goBack_7 (by decide) (fun c28 => ?_) (fun c28 => ?_)
    · exact absurd c28 (by decide)
    clear c28
    refine lv_ldc (v := (-1000000001)) hx hb hown (hts (.constant RX11 188 (-1000000001)) (wmx 1 rfl)) dX11_goBack_10 ?_
    have hP9 := hP.sub (ws' := [(h0, .inr (11, [.int n0, .int n1, .int (nI nq), .ref m3, .ref m4, .ref m5, .int (nI nh), .ref m7, .ref m8, .ref m9, .ref m10, .int (nI sd), .ref m12, .int (nI tx), .int n14, .int (nI at9), .int n16, .int n17, .ref m18, .int (nI rq), .ref m20, .ref m21, .ref m22, .ref m23, .ref m24, .int (nI rh), .ref m26, .ref m27, .ref m28, .int (nI un), .ref m30, .int n31, .int n32, .ref m33, .int n34, .int n35, .ref m36, .int (nI wm), .ref m38, .ref m39, .ref m40, .int (nI bk), .ref m42, .ref m43, .ref m44, .ref m45])), (m10, .inl (cI, 34, .inl fm10)), (m44, .inl (cI, 70, .inl fm44)), (m45, .inl (cZ, 2, .inl fm45))]) [0, 1, 2, 3] rfl
    have hD9 := hD.sub (ws' := [(h0, .inr (11, [.int n0, .int n1, .int (nI nq), .ref m3, .ref m4, .ref m5, .int (nI nh), .ref m7, .ref m8, .ref m9, .ref m10, .int (nI sd), .ref m12, .int (nI tx), .int n14, .int (nI at9), .int n16, .int n17, .ref m18, .int (nI rq), .ref m20, .ref m21, .ref m22, .ref m23, .ref m24, .int (nI rh), .ref m26, .ref m27, .ref m28, .int (nI un), .ref m30, .int n31, .int n32, .ref m33, .int n34, .int n35, .ref m36, .int (nI wm), .ref m38, .ref m39, .ref m40, .int (nI bk), .ref m42, .ref m43, .ref m44, .ref m45])), (m10, .inl (cI, 34, .inl fm10)), (m44, .inl (cI, 70, .inl fm44)), (m45, .inl (cZ, 2, .inl fm45))]) [0, 1, 2, 3] (by decide +kernel) rfl
    exact W.iret (v := (-1000000001)) hx hb hr (fun t ht hW => ⟨⟨(-1000000001), (fun _ => 0), rfl, trivial, ⟨fm10, sd, un, by omega, by omega, by rw [ht]; exact hP9, hD9⟩⟩, hS.F ht⟩) hS.2.2 dX11_goBack_12
