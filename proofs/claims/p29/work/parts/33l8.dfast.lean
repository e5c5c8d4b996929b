set_option maxHeartbeats 4000000 in
set_option maxRecDepth 100000 in
theorem c_X11_putBackD (l : Launch) (dC : Nat → ClassId) (dI : Nat → Nat → Nat) (cI cZ cQ : ClassId) (h0 : Nat) (m10 : Nat) (m33 : Nat) (f_h0 : List Value) (fm10 : Nat → Int32) (fm33 : Nat → Int32) (sz : Nat) (e_h0_10 : fAt f_h0 10 = some (.ref m10)) (e_h0_33 : fAt f_h0 33 = some (.ref m33)) : Met l yX11_putBack wsX11_putBack ({ frames := 0, cells := 0, slots := 0, locals := 40 }) (va_Pc [.ref h0] (fun U => U.heap.size = sz ∧ va_P (dC, dI) vwCl [(h0, .inr (11, f_h0)), (m10, .inl (cI, 34, .inl fm10)), (m33, .inl (cI, 34, .inl fm33))] U.heap ∧ va_K (dC, dI) vwCl (tys0 cI cZ cQ) U ∧ va_D (fun _ => True) [(h0, .inr (11, f_h0)), (m10, .inl (cI, 34, .inl fm10)), (m33, .inl (cI, 34, .inl fm33))])) (va_Qv (fun (u : Nat → Nat) => True) (fun (_ : Nat → Nat) (t : State) => ∃ (gg0 : Nat → Int32) , (∀ i, i < 34 → gg0 i = fm33 i) ∧ va_P (dC, dI) vwCl [(h0, .inr (11, f_h0)), (m10, .inl (cI, 34, .inl gg0)), (m33, .inl (cI, 34, .inl fm33))] t.heap ∧ va_D (va_A [(h0, .inr (11, f_h0)), (m10, .inl (cI, 34, .inl fm10)), (m33, .inl (cI, 34, .inl fm33))] sz) [(h0, .inr (11, f_h0)), (m10, .inl (cI, 34, .inl gg0)), (m33, .inl (cI, 34, .inl fm33))]) (va_A [(h0, .inr (11, f_h0)), (m10, .inl (cI, 34, .inl fm10)), (m33, .inl (cI, 34, .inl fm33))] sz)) 0 0 (va_A [(h0, .inr (11, f_h0)), (m10, .inl (cI, 34, .inl fm10)), (m33, .inl (cI, 34, .inl fm33))] sz) := by
  refine Met.ofW (cc := cX11_putBack) (maxL := 2) (ret := none) (by decide) rfl ?_
  intro p e s m args below meth c s₁ B hml hv
  obtain ⟨rfl, hsz, hP, hK, hD0⟩ := hv
  have hx := B.exec
  have hb := B.bytes
  have hr := B.returns
  have hts := atoms_spec (ws := wsX11_putBack) B.pre
  have hown : s.vm.findClass RX11 = some m.cls := findClass_of_methodNamed B.named
  have hlocks := B.notSynchronized
  have hi_X11 : ∀ w ∈ u_ws RX11 TX11 46, w ∈ wsX11_putBack := fun _ h => List.mem_cons_of_mem _ (List.mem_append_right _ (h))
  subst hsz
  have hD := hD0.self (sz := s.heap.size)
  generalize hAe : va_A [(h0, .inr (11, f_h0)), (m10, .inl (cI, 34, .inl fm10)), (m33, .inl (cI, 34, .inl fm33))] s.heap.size = A at hD ⊢
  have hA : ∀ q : Nat, s.heap.size ≤ q → A q := fun q h => by rw [← hAe]; exact Or.inr h
  have hS : va_S A s.heap s.heap [] := va_S.rf
  have hl := lv_entry ([.ref h0]) (n := 2) (Nat.le_of_ble_eq_true rfl)
  rw [lg_entry_eq]
  generalize (lg_sl ([.ref h0]) ++ List.replicate (2 - (lg_sl ([.ref h0])).length) Slot.unset).toArray = ls at hl ⊢
  have hl : lv_has ls 2 [(0, .ref h0)] := hl
  refine lv_iconst (v := 0) hx hb dX11_putBack_0 (by decide) ?_
  refine lv_istore_n (lv' := [(1, .int 0), (0, .ref h0)]) hx hb dX11_putBack_1 rfl hl (by decide) rfl (fun ls hl => ?_)
  refine (fun (K : ∀ (d2 : Nat) (k2 : Nat) (f2_m10 : Nat → Int32) (H : Heap) (locs : List Loc) (ls : Array Slot), k2 + d2 = 34 → (∀ i, i < k2 → f2_m10 i = fm33 i) → va_P (dC, dI) vwCl [(h0, .inr (11, f_h0)), (m10, .inl (cI, 34, .inl f2_m10)), (m33, .inl (cI, 34, .inl fm33))] H → va_D A [(h0, .inr (11, f_h0)), (m10, .inl (cI, 34, .inl f2_m10)), (m33, .inl (cI, 34, .inl fm33))] → va_S A s.heap H locs → lv_has ls 2 [(1, .int (nI k2)), (0, .ref h0)] → W p l e _ s m _ below meth c H locs _ _ _ (F0 m 2 ls [])) => K 34 0 fm10 _ _ _ (by omega) (fun i hi => absurd hi (by omega)) hP hD hS (lv_sub hl [0, 1] rfl)) ?_
  intro d2
  induction d2 with
  | zero =>
    intro k2 f2_m10 H locs ls hk2 hv2_0 hP hD hS hl
    refine lv_iload_n hx hb dX11_putBack_2 rfl (lv_at hl 0 rfl) ?_
    refine lv_bipush (v := 34) hx hb dX11_putBack_3 (by decide) ?_
    refine lv_icmp_ge (tgt := 26) hx hb dX11_putBack_5 (by decide) (fun c1 => ?_) (fun c1 => ?_)
    ·
      have c1 : 34 ≤ k2 := (nI_leI (a := 34) (b := k2) (by omega) (by omega)).mp c1
      have hP9 := hP.sub (ws' := [(h0, .inr (11, f_h0)), (m10, .inl (cI, 34, .inl f2_m10)), (m33, .inl (cI, 34, .inl fm33))]) [0, 1, 2] rfl
      have hD9 := hD.sub (ws' := [(h0, .inr (11, f_h0)), (m10, .inl (cI, 34, .inl f2_m10)), (m33, .inl (cI, 34, .inl fm33))]) [0, 1, 2] (by decide +kernel) rfl
      exact W.vret hx hb hr (fun t ht hW => ⟨⟨(fun _ => 0), rfl, trivial, ⟨f2_m10, (fun i hi => hv2_0 i (by omega)), va_hq ht hP9, hD9⟩⟩, hS.F ht⟩) hS.2.2 dX11_putBack_26
    ·
      have c1 : ¬ 34 ≤ k2 := fun h => c1 ((nI_leI (a := 34) (b := k2) (by omega) (by omega)).mpr h)
      omega
  | succ d2 ih2 =>
    intro k2 f2_m10 H locs ls hk2 hv2_0 hP hD hS hl
    refine lv_iload_n hx hb dX11_putBack_2 rfl (lv_at hl 0 rfl) ?_
    refine lv_bipush (v := 34) hx hb dX11_putBack_3 (by decide) ?_
    refine lv_icmp_ge (tgt := 26) hx hb dX11_putBack_5 (by decide) (fun c2 => ?_) (fun c2 => ?_)
    ·
      have c2 : 34 ≤ k2 := (nI_leI (a := 34) (b := k2) (by omega) (by omega)).mp c2
      omega
    ·
      have c2 : ¬ 34 ≤ k2 := fun h => c2 ((nI_leI (a := 34) (b := k2) (by omega) (by omega)).mpr h)
      refine lv_aload_n hx hb dX11_putBack_8 rfl (lv_at hl 1 rfl) ?_
      refine va_get (D := (dC, dI)) (ci := 11) (v := .ref m10) (C := RX11) (T := TX11) (N := 46) hx hb hts hi_X11 hown hK hP 0 rfl rfl 10 (by decide) (hts (.fieldLink RX11 28 "LeftQuillsModel" "now" "[I") (wmx 1 rfl)) (fun _ h9 => h9) e_h0_10 dX11_putBack_9 ?_
      refine lv_iload_n hx hb dX11_putBack_12 rfl (lv_at hl 0 rfl) ?_
      refine lv_aload_n hx hb dX11_putBack_13 rfl (lv_at hl 1 rfl) ?_
      refine va_get (D := (dC, dI)) (ci := 11) (v := .ref m33) (C := RX11) (T := TX11) (N := 46) hx hb hts hi_X11 hown hK hP 0 rfl rfl 33 (by decide) (hts (.fieldLink RX11 68 "LeftQuillsModel" "was" "[I") (wmx 2 rfl)) (fun _ h9 => h9) e_h0_33 dX11_putBack_14 ?_
      refine lv_iload_n hx hb dX11_putBack_17 rfl (lv_at hl 0 rfl) ?_
      refine va_iald hx hb hK hP 2 0 rfl rfl (vp_in_nI (n := k2) (N := 34) (by omega) (by decide)) dX11_putBack_18 ?_
      refine W.eq (g2 := F0 m 19 ls [.int (fm33 k2), .int (nI k2), .ref m10]) (congrArg (fun y9 => F0 m 19 ls (.int (fm33 y9) :: [.int (nI k2), .ref m10])) ((nI_clamp (n := k2) (by omega)))) ?_
      refine va_iast hx hb hK hP hD hS 1 0 rfl rfl (vp_in_nI (n := k2) (N := 34) (by omega) (by decide)) dX11_putBack_19 (fun H locs hP hD hS => ?_)
      have hcl := (nI_clamp (n := k2) (by omega))
      rw [hcl] at hP hD
      clear hcl
      have hPD : pdW (dC, dI) vwCl A [(h0, .inr (11, f_h0)), (m10, .inl (cI, 34, .inl (upd f2_m10 k2 (fm33 k2)))), (m33, .inl (cI, 34, .inl fm33))] H := ⟨hP, hD⟩
      have hP := hPD.1
      have hD := hPD.2
      clear hPD
      refine lv_iinc (v := nI (k2 + 1)) (lv' := [(1, .int (nI (k2 + 1))), (0, .ref h0)]) hx hb dX11_putBack_20 hl (k := 0) rfl ((rfl : nI k2 + Int32.ofInt 1 = nI k2 + 1).trans (nI_add k2 1)) (by decide) rfl (fun ls hl => ?_)
      refine lv_goto (tgt := 2) hx hb dX11_putBack_23 (by decide) ?_
      exact ih2 (k2 + 1) (upd f2_m10 k2 (fm33 k2)) _ _ _ (by omega) (upd_all hv2_0 rfl) hP hD hS (lv_sub hl [0, 1] rfl)
set_option maxHeartbeats 4000000 in
set_option maxRecDepth 100000 in
theorem c_X11_findFastestD (l : Launch) (dC : Nat → ClassId) (dI : Nat → Nat → Nat) (cI cZ cQ : ClassId) (h0 : Nat) (n0 : Int32) (n1 : Int32) (nq : Nat) (m3 : Nat) (m4 : Nat) (m5 : Nat) (nh : Nat) (m7 : Nat) (m8 : Nat) (m9 : Nat) (m10 : Nat) (sd : Nat) (m12 : Nat) (tx : Nat) (n14 : Int32) (at9 : Nat) (n16 : Int32) (n17 : Int32) (m18 : Nat) (rq : Nat) (m20 : Nat) (m21 : Nat) (m22 : Nat) (m23 : Nat) (m24 : Nat) (rh : Nat) (m26 : Nat) (m27 : Nat) (m28 : Nat) (un : Nat) (m30 : Nat) (n31 : Int32) (n32 : Int32) (m33 : Nat) (n34 : Int32) (n35 : Int32) (m36 : Nat) (wm : Nat) (m38 : Nat) (m39 : Nat) (m40 : Nat) (bk : Nat) (m42 : Nat) (m43 : Nat) (m44 : Nat) (m45 : Nat) (fm3 : Nat → Int32) (fm4 : Nat → Int32) (fm5 : Nat → Int32) (fm7 : Nat → Int32) (fm8 : Nat → Int32) (fm9 : Nat → Int32) (fm10 : Nat → Int32) (fm33 : Nat → Int32) (k : Nat) (mo : Nat) (sz : Nat) (hnq : nq ≤ 8) (hci : cIn fm5 nq) (hk : k < 4) (hm1 : 1 ≤ mo) (hmo : mo ≤ 4) : Met l yX11_findFastest wsX11_findFastest ({ frames := 5, cells := 0, slots := 0, locals := 159 }) (va_Pc [.ref h0, .int (nI k), .int (nI mo)] (fun U => U.heap.size = sz ∧ va_P (dC, dI) vwCl [(h0, .inr (11, (.int n0 :: .int n1 :: .int (nI nq) :: .ref m3 :: .ref m4 :: .ref m5 :: .int (nI nh) :: .ref m7 :: .ref m8 :: .ref m9 :: .ref m10 :: .int (nI sd) :: .ref m12 :: .int (nI tx) :: .int n14 :: .int (nI at9) :: .int n16 :: .int n17 :: .ref m18 :: .int (nI rq) :: .ref m20 :: .ref m21 :: .ref m22 :: .ref m23 :: .ref m24 :: .int (nI rh) :: .ref m26 :: .ref m27 :: .ref m28 :: .int (nI un) :: .ref m30 :: .int n31 :: .int n32 :: .ref m33 :: .int n34 :: .int n35 :: .ref m36 :: .int (nI wm) :: .ref m38 :: .ref m39 :: .ref m40 :: .int (nI bk) :: .ref m42 :: .ref m43 :: .ref m44 :: .ref m45 :: []))), (m3, .inl (cI, 8, .inl fm3)), (m4, .inl (cI, 8, .inl fm4)), (m5, .inl (cI, 8, .inl fm5)), (m7, .inl (cI, 4, .inl fm7)), (m8, .inl (cI, 4, .inl fm8)), (m9, .inl (cI, 4, .inl fm9)), (m10, .inl (cI, 34, .inl fm10)), (m33, .inl (cI, 34, .inl fm33))] U.heap ∧ va_K (dC, dI) vwCl (tys0 cI cZ cQ) U ∧ va_D (fun _ => True) [(h0, .inr (11, (.int n0 :: .int n1 :: .int (nI nq) :: .ref m3 :: .ref m4 :: .ref m5 :: .int (nI nh) :: .ref m7 :: .ref m8 :: .ref m9 :: .ref m10 :: .int (nI sd) :: .ref m12 :: .int (nI tx) :: .int n14 :: .int (nI at9) :: .int n16 :: .int n17 :: .ref m18 :: .int (nI rq) :: .ref m20 :: .ref m21 :: .ref m22 :: .ref m23 :: .ref m24 :: .int (nI rh) :: .ref m26 :: .ref m27 :: .ref m28 :: .int (nI un) :: .ref m30 :: .int n31 :: .int n32 :: .ref m33 :: .int n34 :: .int n35 :: .ref m36 :: .int (nI wm) :: .ref m38 :: .ref m39 :: .ref m40 :: .int (nI bk) :: .ref m42 :: .ref m43 :: .ref m44 :: .ref m45 :: []))), (m3, .inl (cI, 8, .inl fm3)), (m4, .inl (cI, 8, .inl fm4)), (m5, .inl (cI, 8, .inl fm5)), (m7, .inl (cI, 4, .inl fm7)), (m8, .inl (cI, 4, .inl fm8)), (m9, .inl (cI, 4, .inl fm9)), (m10, .inl (cI, 34, .inl fm10)), (m33, .inl (cI, 34, .inl fm33))])) (va_Qv (fun (u : Nat → Nat) => True) (fun (_ : Nat → Nat) (t : State) => ∃ (gg0 gg1 : Nat → Int32) (ii0 ii1 : Int32) , (∀ i, i < 34 → gg0 i = fm10 i) ∧ va_P (dC, dI) vwCl [(h0, .inr (11, (.int n0 :: .int n1 :: .int (nI nq) :: .ref m3 :: .ref m4 :: .ref m5 :: .int (nI nh) :: .ref m7 :: .ref m8 :: .ref m9 :: .ref m10 :: .int (nI sd) :: .ref m12 :: .int (nI tx) :: .int n14 :: .int (nI at9) :: .int n16 :: .int n17 :: .ref m18 :: .int (nI rq) :: .ref m20 :: .ref m21 :: .ref m22 :: .ref m23 :: .ref m24 :: .int (nI rh) :: .ref m26 :: .ref m27 :: .ref m28 :: .int (nI un) :: .ref m30 :: .int n31 :: .int n32 :: .ref m33 :: .int ii0 :: .int ii1 :: .ref m36 :: .int (nI wm) :: .ref m38 :: .ref m39 :: .ref m40 :: .int (nI bk) :: .ref m42 :: .ref m43 :: .ref m44 :: .ref m45 :: []))), (m3, .inl (cI, 8, .inl fm3)), (m4, .inl (cI, 8, .inl fm4)), (m5, .inl (cI, 8, .inl fm5)), (m7, .inl (cI, 4, .inl fm7)), (m8, .inl (cI, 4, .inl fm8)), (m9, .inl (cI, 4, .inl fm9)), (m10, .inl (cI, 34, .inl gg0)), (m33, .inl (cI, 34, .inl gg1))] t.heap ∧ va_D (va_A [(h0, .inr (11, (.int n0 :: .int n1 :: .int (nI nq) :: .ref m3 :: .ref m4 :: .ref m5 :: .int (nI nh) :: .ref m7 :: .ref m8 :: .ref m9 :: .ref m10 :: .int (nI sd) :: .ref m12 :: .int (nI tx) :: .int n14 :: .int (nI at9) :: .int n16 :: .int n17 :: .ref m18 :: .int (nI rq) :: .ref m20 :: .ref m21 :: .ref m22 :: .ref m23 :: .ref m24 :: .int (nI rh) :: .ref m26 :: .ref m27 :: .ref m28 :: .int (nI un) :: .ref m30 :: .int n31 :: .int n32 :: .ref m33 :: .int n34 :: .int n35 :: .ref m36 :: .int (nI wm) :: .ref m38 :: .ref m39 :: .ref m40 :: .int (nI bk) :: .ref m42 :: .ref m43 :: .ref m44 :: .ref m45 :: []))), (m3, .inl (cI, 8, .inl fm3)), (m4, .inl (cI, 8, .inl fm4)), (m5, .inl (cI, 8, .inl fm5)), (m7, .inl (cI, 4, .inl fm7)), (m8, .inl (cI, 4, .inl fm8)), (m9, .inl (cI, 4, .inl fm9)), (m10, .inl (cI, 34, .inl fm10)), (m33, .inl (cI, 34, .inl fm33))] sz) [(h0, .inr (11, (.int n0 :: .int n1 :: .int (nI nq) :: .ref m3 :: .ref m4 :: .ref m5 :: .int (nI nh) :: .ref m7 :: .ref m8 :: .ref m9 :: .ref m10 :: .int (nI sd) :: .ref m12 :: .int (nI tx) :: .int n14 :: .int (nI at9) :: .int n16 :: .int n17 :: .ref m18 :: .int (nI rq) :: .ref m20 :: .ref m21 :: .ref m22 :: .ref m23 :: .ref m24 :: .int (nI rh) :: .ref m26 :: .ref m27 :: .ref m28 :: .int (nI un) :: .ref m30 :: .int n31 :: .int n32 :: .ref m33 :: .int ii0 :: .int ii1 :: .ref m36 :: .int (nI wm) :: .ref m38 :: .ref m39 :: .ref m40 :: .int (nI bk) :: .ref m42 :: .ref m43 :: .ref m44 :: .ref m45 :: []))), (m3, .inl (cI, 8, .inl fm3)), (m4, .inl (cI, 8, .inl fm4)), (m5, .inl (cI, 8, .inl fm5)), (m7, .inl (cI, 4, .inl fm7)), (m8, .inl (cI, 4, .inl fm8)), (m9, .inl (cI, 4, .inl fm9)), (m10, .inl (cI, 34, .inl gg0)), (m33, .inl (cI, 34, .inl gg1))]) (va_A [(h0, .inr (11, (.int n0 :: .int n1 :: .int (nI nq) :: .ref m3 :: .ref m4 :: .ref m5 :: .int (nI nh) :: .ref m7 :: .ref m8 :: .ref m9 :: .ref m10 :: .int (nI sd) :: .ref m12 :: .int (nI tx) :: .int n14 :: .int (nI at9) :: .int n16 :: .int n17 :: .ref m18 :: .int (nI rq) :: .ref m20 :: .ref m21 :: .ref m22 :: .ref m23 :: .ref m24 :: .int (nI rh) :: .ref m26 :: .ref m27 :: .ref m28 :: .int (nI un) :: .ref m30 :: .int n31 :: .int n32 :: .ref m33 :: .int n34 :: .int n35 :: .ref m36 :: .int (nI wm) :: .ref m38 :: .ref m39 :: .ref m40 :: .int (nI bk) :: .ref m42 :: .ref m43 :: .ref m44 :: .ref m45 :: []))), (m3, .inl (cI, 8, .inl fm3)), (m4, .inl (cI, 8, .inl fm4)), (m5, .inl (cI, 8, .inl fm5)), (m7, .inl (cI, 4, .inl fm7)), (m8, .inl (cI, 4, .inl fm8)), (m9, .inl (cI, 4, .inl fm9)), (m10, .inl (cI, 34, .inl fm10)), (m33, .inl (cI, 34, .inl fm33))] sz)) 0 0 (va_A [(h0, .inr (11, (.int n0 :: .int n1 :: .int (nI nq) :: .ref m3 :: .ref m4 :: .ref m5 :: .int (nI nh) :: .ref m7 :: .ref m8 :: .ref m9 :: .ref m10 :: .int (nI sd) :: .ref m12 :: .int (nI tx) :: .int n14 :: .int (nI at9) :: .int n16 :: .int n17 :: .ref m18 :: .int (nI rq) :: .ref m20 :: .ref m21 :: .ref m22 :: .ref m23 :: .ref m24 :: .int (nI rh) :: .ref m26 :: .ref m27 :: .ref m28 :: .int (nI un) :: .ref m30 :: .int n31 :: .int n32 :: .ref m33 :: .int n34 :: .int n35 :: .ref m36 :: .int (nI wm) :: .ref m38 :: .ref m39 :: .ref m40 :: .int (nI bk) :: .ref m42 :: .ref m43 :: .ref m44 :: .ref m45 :: []))), (m3, .inl (cI, 8, .inl fm3)), (m4, .inl (cI, 8, .inl fm4)), (m5, .inl (cI, 8, .inl fm5)), (m7, .inl (cI, 4, .inl fm7)), (m8, .inl (cI, 4, .inl fm8)), (m9, .inl (cI, 4, .inl fm9)), (m10, .inl (cI, 34, .inl fm10)), (m33, .inl (cI, 34, .inl fm33))] sz) := by
  refine Met.ofW (cc := cX11_findFastest) (maxL := 6) (ret := none) (by decide) rfl ?_
  intro p e s m args below meth c s₁ B hml hv
  obtain ⟨rfl, hsz, hP, hK, hD0⟩ := hv
  have hx := B.exec
  have hb := B.bytes
  have hr := B.returns
  have hts := atoms_spec (ws := wsX11_findFastest) B.pre
  have hown : s.vm.findClass RX11 = some m.cls := findClass_of_methodNamed B.named
  have hlocks := B.notSynchronized
  have hi_X11 : ∀ w ∈ u_ws RX11 TX11 46, w ∈ wsX11_findFastest := fun _ h => List.mem_cons_of_mem _ (List.mem_append_right _ (h))
  subst hsz
  have hD := hD0.self (sz := s.heap.size)
  generalize hAe : va_A [(h0, .inr (11, (.int n0 :: .int n1 :: .int (nI nq) :: .ref m3 :: .ref m4 :: .ref m5 :: .int (nI nh) :: .ref m7 :: .ref m8 :: .ref m9 :: .ref m10 :: .int (nI sd) :: .ref m12 :: .int (nI tx) :: .int n14 :: .int (nI at9) :: .int n16 :: .int n17 :: .ref m18 :: .int (nI rq) :: .ref m20 :: .ref m21 :: .ref m22 :: .ref m23 :: .ref m24 :: .int (nI rh) :: .ref m26 :: .ref m27 :: .ref m28 :: .int (nI un) :: .ref m30 :: .int n31 :: .int n32 :: .ref m33 :: .int n34 :: .int n35 :: .ref m36 :: .int (nI wm) :: .ref m38 :: .ref m39 :: .ref m40 :: .int (nI bk) :: .ref m42 :: .ref m43 :: .ref m44 :: .ref m45 :: []))), (m3, .inl (cI, 8, .inl fm3)), (m4, .inl (cI, 8, .inl fm4)), (m5, .inl (cI, 8, .inl fm5)), (m7, .inl (cI, 4, .inl fm7)), (m8, .inl (cI, 4, .inl fm8)), (m9, .inl (cI, 4, .inl fm9)), (m10, .inl (cI, 34, .inl fm10)), (m33, .inl (cI, 34, .inl fm33))] s.heap.size = A at hD ⊢
  have hA : ∀ q : Nat, s.heap.size ≤ q → A q := fun q h => by rw [← hAe]; exact Or.inr h
  have hS : va_S A s.heap s.heap [] := va_S.rf
  have hl := lv_entry ([.ref h0, .int (nI k), .int (nI mo)]) (n := 6) (Nat.le_of_ble_eq_true rfl)
  rw [lg_entry_eq]
  generalize (lg_sl ([.ref h0, .int (nI k), .int (nI mo)]) ++ List.replicate (6 - (lg_sl ([.ref h0, .int (nI k), .int (nI mo)])).length) Slot.unset).toArray = ls at hl ⊢
  have hl : lv_has ls 6 [(0, .ref h0), (1, .int (nI k)), (2, .int (nI mo))] := hl
  obtain ⟨bd9, hbd9, ebd9⟩ := x_N16 hmo
  refine lv_iconst (v := 0) hx hb dX11_findFastest_0 (by decide) ?_
  refine lv_istore_n (lv' := [(3, .int 0), (0, .ref h0), (1, .int (nI k)), (2, .int (nI mo))]) hx hb dX11_findFastest_1 rfl hl (by decide) rfl (fun ls hl => ?_)
  refine (fun (K : ∀ (d2 : Nat) (k2 : Nat) (f2_m33 : Nat → Int32) (H : Heap) (locs : List Loc) (ls : Array Slot), k2 + d2 = 34 → (∀ i, i < k2 → f2_m33 i = fm10 i) → va_P (dC, dI) vwCl [(h0, .inr (11, (.int n0 :: .int n1 :: .int (nI nq) :: .ref m3 :: .ref m4 :: .ref m5 :: .int (nI nh) :: .ref m7 :: .ref m8 :: .ref m9 :: .ref m10 :: .int (nI sd) :: .ref m12 :: .int (nI tx) :: .int n14 :: .int (nI at9) :: .int n16 :: .int n17 :: .ref m18 :: .int (nI rq) :: .ref m20 :: .ref m21 :: .ref m22 :: .ref m23 :: .ref m24 :: .int (nI rh) :: .ref m26 :: .ref m27 :: .ref m28 :: .int (nI un) :: .ref m30 :: .int n31 :: .int n32 :: .ref m33 :: .int n34 :: .int n35 :: .ref m36 :: .int (nI wm) :: .ref m38 :: .ref m39 :: .ref m40 :: .int (nI bk) :: .ref m42 :: .ref m43 :: .ref m44 :: .ref m45 :: []))), (m3, .inl (cI, 8, .inl fm3)), (m4, .inl (cI, 8, .inl fm4)), (m5, .inl (cI, 8, .inl fm5)), (m7, .inl (cI, 4, .inl fm7)), (m8, .inl (cI, 4, .inl fm8)), (m9, .inl (cI, 4, .inl fm9)), (m10, .inl (cI, 34, .inl fm10)), (m33, .inl (cI, 34, .inl f2_m33))] H → va_D A [(h0, .inr (11, (.int n0 :: .int n1 :: .int (nI nq) :: .ref m3 :: .ref m4 :: .ref m5 :: .int (nI nh) :: .ref m7 :: .ref m8 :: .ref m9 :: .ref m10 :: .int (nI sd) :: .ref m12 :: .int (nI tx) :: .int n14 :: .int (nI at9) :: .int n16 :: .int n17 :: .ref m18 :: .int (nI rq) :: .ref m20 :: .ref m21 :: .ref m22 :: .ref m23 :: .ref m24 :: .int (nI rh) :: .ref m26 :: .ref m27 :: .ref m28 :: .int (nI un) :: .ref m30 :: .int n31 :: .int n32 :: .ref m33 :: .int n34 :: .int n35 :: .ref m36 :: .int (nI wm) :: .ref m38 :: .ref m39 :: .ref m40 :: .int (nI bk) :: .ref m42 :: .ref m43 :: .ref m44 :: .ref m45 :: []))), (m3, .inl (cI, 8, .inl fm3)), (m4, .inl (cI, 8, .inl fm4)), (m5, .inl (cI, 8, .inl fm5)), (m7, .inl (cI, 4, .inl fm7)), (m8, .inl (cI, 4, .inl fm8)), (m9, .inl (cI, 4, .inl fm9)), (m10, .inl (cI, 34, .inl fm10)), (m33, .inl (cI, 34, .inl f2_m33))] → va_S A s.heap H locs → lv_has ls 6 [(3, .int (nI k2)), (0, .ref h0), (1, .int (nI k)), (2, .int (nI mo))] → W p l e _ s m _ below meth c H locs _ _ _ (F0 m 2 ls [])) => K 34 0 fm33 _ _ _ (by omega) (fun i hi => absurd hi (by omega)) hP hD hS (lv_sub hl [0, 1, 2, 3] rfl)) ?_
  intro d2
  induction d2 with
  | zero =>
    intro k2 f2_m33 H locs ls hk2 hv2_0 hP hD hS hl
    refine lv_iload_n hx hb dX11_findFastest_2 rfl (lv_at hl 0 rfl) ?_
    refine lv_bipush (v := 34) hx hb dX11_findFastest_3 (by decide) ?_
    refine lv_icmp_ge (tgt := 26) hx hb dX11_findFastest_5 (by decide) (fun c1 => ?_) (fun c1 => ?_)
    ·
      have c1 : 34 ≤ k2 := (nI_leI (a := 34) (b := k2) (by omega) (by omega)).mp c1
      refine lv_aload_n hx hb dX11_findFastest_26 rfl (lv_at hl 1 rfl) ?_
      refine lv_iconst (v := (-1)) hx hb dX11_findFastest_27 (by decide) ?_
      refine va_put (D := (dC, dI)) (ci := 11) (v := .int (-1)) (ty := .int) (C := RX11) (T := TX11) (N := 46) hx hb hts hi_X11 tyX11 tyX11_ok nmX11 hown hK hP hD hS 0 rfl rfl 34 (by decide) (hts (.fieldLink RX11 284 "LeftQuillsModel" "fastCode" "I") (wmx 3 rfl)) (fun _ h9 => h9) rfl (by decide +kernel) rfl rfl (Nat.le_of_ble_eq_true rfl) dX11_findFastest_28 (fun H locs hP hD hS => ?_)
      have hPD : pdW (dC, dI) vwCl A [(h0, .inr (11, (.int n0 :: .int n1 :: .int (nI nq) :: .ref m3 :: .ref m4 :: .ref m5 :: .int (nI nh) :: .ref m7 :: .ref m8 :: .ref m9 :: .ref m10 :: .int (nI sd) :: .ref m12 :: .int (nI tx) :: .int n14 :: .int (nI at9) :: .int n16 :: .int n17 :: .ref m18 :: .int (nI rq) :: .ref m20 :: .ref m21 :: .ref m22 :: .ref m23 :: .ref m24 :: .int (nI rh) :: .ref m26 :: .ref m27 :: .ref m28 :: .int (nI un) :: .ref m30 :: .int n31 :: .int n32 :: .ref m33 :: .int (-1) :: .int n35 :: .ref m36 :: .int (nI wm) :: .ref m38 :: .ref m39 :: .ref m40 :: .int (nI bk) :: .ref m42 :: .ref m43 :: .ref m44 :: .ref m45 :: []))), (m3, .inl (cI, 8, .inl fm3)), (m4, .inl (cI, 8, .inl fm4)), (m5, .inl (cI, 8, .inl fm5)), (m7, .inl (cI, 4, .inl fm7)), (m8, .inl (cI, 4, .inl fm8)), (m9, .inl (cI, 4, .inl fm9)), (m10, .inl (cI, 34, .inl fm10)), (m33, .inl (cI, 34, .inl f2_m33))] H := ⟨hP, hD⟩
      have hP := hPD.1
      have hD := hPD.2
      clear hPD
      refine lv_aload_n hx hb dX11_findFastest_31 rfl (lv_at hl 1 rfl) ?_
      refine lv_ldcw (v := 1000000) hx hb hown (hts (.constant RX11 287 1000000) (wmx 4 rfl)) dX11_findFastest_32 ?_
      refine va_put (D := (dC, dI)) (ci := 11) (v := .int 1000000) (ty := .int) (C := RX11) (T := TX11) (N := 46) hx hb hts hi_X11 tyX11 tyX11_ok nmX11 hown hK hP hD hS 0 rfl rfl 35 (by decide) (hts (.fieldLink RX11 288 "LeftQuillsModel" "fastMinutes" "I") (wmx 5 rfl)) (fun _ h9 => h9) rfl (by decide +kernel) rfl rfl (Nat.le_of_ble_eq_true rfl) dX11_findFastest_35 (fun H locs hP hD hS => ?_)
      have hPD : pdW (dC, dI) vwCl A [(h0, .inr (11, (.int n0 :: .int n1 :: .int (nI nq) :: .ref m3 :: .ref m4 :: .ref m5 :: .int (nI nh) :: .ref m7 :: .ref m8 :: .ref m9 :: .ref m10 :: .int (nI sd) :: .ref m12 :: .int (nI tx) :: .int n14 :: .int (nI at9) :: .int n16 :: .int n17 :: .ref m18 :: .int (nI rq) :: .ref m20 :: .ref m21 :: .ref m22 :: .ref m23 :: .ref m24 :: .int (nI rh) :: .ref m26 :: .ref m27 :: .ref m28 :: .int (nI un) :: .ref m30 :: .int n31 :: .int n32 :: .ref m33 :: .int (-1) :: .int 1000000 :: .ref m36 :: .int (nI wm) :: .ref m38 :: .ref m39 :: .ref m40 :: .int (nI bk) :: .ref m42 :: .ref m43 :: .ref m44 :: .ref m45 :: []))), (m3, .inl (cI, 8, .inl fm3)), (m4, .inl (cI, 8, .inl fm4)), (m5, .inl (cI, 8, .inl fm5)), (m7, .inl (cI, 4, .inl fm7)), (m8, .inl (cI, 4, .inl fm8)), (m9, .inl (cI, 4, .inl fm9)), (m10, .inl (cI, 34, .inl fm10)), (m33, .inl (cI, 34, .inl f2_m33))] H := ⟨hP, hD⟩
      have hP := hPD.1
      have hD := hPD.2
      clear hPD
      refine lv_iconst (v := 0) hx hb dX11_findFastest_38 (by decide) ?_
      refine lv_istore_n (lv' := [(3, .int 0), (0, .ref h0), (1, .int (nI k)), (2, .int (nI mo))]) hx hb dX11_findFastest_39 rfl hl (by decide) rfl (fun ls hl => ?_)
      refine (fun (K : ∀ (d40 : Nat) (k40 : Nat) (f40_m10 : Nat → Int32) (i40_h0_34 : Int32) (i40_h0_35 : Int32) (H : Heap) (locs : List Loc) (ls : Array Slot), k40 + d40 = bd9 → (∀ i, i < 34 → f40_m10 i = fm10 i) → va_P (dC, dI) vwCl [(h0, .inr (11, (.int n0 :: .int n1 :: .int (nI nq) :: .ref m3 :: .ref m4 :: .ref m5 :: .int (nI nh) :: .ref m7 :: .ref m8 :: .ref m9 :: .ref m10 :: .int (nI sd) :: .ref m12 :: .int (nI tx) :: .int n14 :: .int (nI at9) :: .int n16 :: .int n17 :: .ref m18 :: .int (nI rq) :: .ref m20 :: .ref m21 :: .ref m22 :: .ref m23 :: .ref m24 :: .int (nI rh) :: .ref m26 :: .ref m27 :: .ref m28 :: .int (nI un) :: .ref m30 :: .int n31 :: .int n32 :: .ref m33 :: .int i40_h0_34 :: .int i40_h0_35 :: .ref m36 :: .int (nI wm) :: .ref m38 :: .ref m39 :: .ref m40 :: .int (nI bk) :: .ref m42 :: .ref m43 :: .ref m44 :: .ref m45 :: []))), (m3, .inl (cI, 8, .inl fm3)), (m4, .inl (cI, 8, .inl fm4)), (m5, .inl (cI, 8, .inl fm5)), (m7, .inl (cI, 4, .inl fm7)), (m8, .inl (cI, 4, .inl fm8)), (m9, .inl (cI, 4, .inl fm9)), (m10, .inl (cI, 34, .inl f40_m10)), (m33, .inl (cI, 34, .inl f2_m33))] H → va_D A [(h0, .inr (11, (.int n0 :: .int n1 :: .int (nI nq) :: .ref m3 :: .ref m4 :: .ref m5 :: .int (nI nh) :: .ref m7 :: .ref m8 :: .ref m9 :: .ref m10 :: .int (nI sd) :: .ref m12 :: .int (nI tx) :: .int n14 :: .int (nI at9) :: .int n16 :: .int n17 :: .ref m18 :: .int (nI rq) :: .ref m20 :: .ref m21 :: .ref m22 :: .ref m23 :: .ref m24 :: .int (nI rh) :: .ref m26 :: .ref m27 :: .ref m28 :: .int (nI un) :: .ref m30 :: .int n31 :: .int n32 :: .ref m33 :: .int i40_h0_34 :: .int i40_h0_35 :: .ref m36 :: .int (nI wm) :: .ref m38 :: .ref m39 :: .ref m40 :: .int (nI bk) :: .ref m42 :: .ref m43 :: .ref m44 :: .ref m45 :: []))), (m3, .inl (cI, 8, .inl fm3)), (m4, .inl (cI, 8, .inl fm4)), (m5, .inl (cI, 8, .inl fm5)), (m7, .inl (cI, 4, .inl fm7)), (m8, .inl (cI, 4, .inl fm8)), (m9, .inl (cI, 4, .inl fm9)), (m10, .inl (cI, 34, .inl f40_m10)), (m33, .inl (cI, 34, .inl f2_m33))] → va_S A s.heap H locs → lv_has ls 6 [(3, .int (nI k40)), (0, .ref h0), (1, .int (nI k)), (2, .int (nI mo))] → W p l e _ s m _ below meth c H locs _ _ _ (F0 m 40 ls [])) => K bd9 0 fm10 (-1) 1000000 _ _ _ (by omega) (fun i _ => rfl) hP hD hS (lv_sub hl [0, 1, 2, 3] rfl)) ?_
      intro d40
      induction d40 with
      | zero =>
        intro k40 f40_m10 i40_h0_34 i40_h0_35 H locs ls hk40 hv40_0 hP hD hS hl
        refine lv_iload_n hx hb dX11_findFastest_40 rfl (lv_at hl 0 rfl) ?_
        refine lv_iconst (v := 1) hx hb dX11_findFastest_41 (by decide) ?_
        refine lv_iconst (v := 4) hx hb dX11_findFastest_42 (by decide) ?_
        refine lv_iload_n hx hb dX11_findFastest_43 rfl (lv_at hl 3 rfl) ?_
        refine lv_imul hx hb dX11_findFastest_44 ?_
        refine lv_topi (fun z2 ez2 => ?_)
        obtain rfl : z2 = nI (4 * mo) := ez2.trans (pk_mul 4 mo)
        refine lv_ishl hx hb dX11_findFastest_45 ?_
        refine lv_topi (fun z3 ez3 => ?_)
        obtain rfl : z3 = nI bd9 := ez3.trans ebd9
        refine lv_icmp_ge (tgt := 124) hx hb dX11_findFastest_46 (by decide) (fun c4 => ?_) (fun c4 => ?_)
        ·
          have c4 : bd9 ≤ k40 := (nI_leI (a := bd9) (b := k40) (by omega) (by omega)).mp c4
          have hP9 := hP.sub (ws' := [(h0, .inr (11, (.int n0 :: .int n1 :: .int (nI nq) :: .ref m3 :: .ref m4 :: .ref m5 :: .int (nI nh) :: .ref m7 :: .ref m8 :: .ref m9 :: .ref m10 :: .int (nI sd) :: .ref m12 :: .int (nI tx) :: .int n14 :: .int (nI at9) :: .int n16 :: .int n17 :: .ref m18 :: .int (nI rq) :: .ref m20 :: .ref m21 :: .ref m22 :: .ref m23 :: .ref m24 :: .int (nI rh) :: .ref m26 :: .ref m27 :: .ref m28 :: .int (nI un) :: .ref m30 :: .int n31 :: .int n32 :: .ref m33 :: .int i40_h0_34 :: .int i40_h0_35 :: .ref m36 :: .int (nI wm) :: .ref m38 :: .ref m39 :: .ref m40 :: .int (nI bk) :: .ref m42 :: .ref m43 :: .ref m44 :: .ref m45 :: []))), (m3, .inl (cI, 8, .inl fm3)), (m4, .inl (cI, 8, .inl fm4)), (m5, .inl (cI, 8, .inl fm5)), (m7, .inl (cI, 4, .inl fm7)), (m8, .inl (cI, 4, .inl fm8)), (m9, .inl (cI, 4, .inl fm9)), (m10, .inl (cI, 34, .inl f40_m10)), (m33, .inl (cI, 34, .inl f2_m33))]) [0, 1, 2, 3, 4, 5, 6, 7, 8] rfl
          have hD9 := hD.sub (ws' := [(h0, .inr (11, (.int n0 :: .int n1 :: .int (nI nq) :: .ref m3 :: .ref m4 :: .ref m5 :: .int (nI nh) :: .ref m7 :: .ref m8 :: .ref m9 :: .ref m10 :: .int (nI sd) :: .ref m12 :: .int (nI tx) :: .int n14 :: .int (nI at9) :: .int n16 :: .int n17 :: .ref m18 :: .int (nI rq) :: .ref m20 :: .ref m21 :: .ref m22 :: .ref m23 :: .ref m24 :: .int (nI rh) :: .ref m26 :: .ref m27 :: .ref m28 :: .int (nI un) :: .ref m30 :: .int n31 :: .int n32 :: .ref m33 :: .int i40_h0_34 :: .int i40_h0_35 :: .ref m36 :: .int (nI wm) :: .ref m38 :: .ref m39 :: .ref m40 :: .int (nI bk) :: .ref m42 :: .ref m43 :: .ref m44 :: .ref m45 :: []))), (m3, .inl (cI, 8, .inl fm3)), (m4, .inl (cI, 8, .inl fm4)), (m5, .inl (cI, 8, .inl fm5)), (m7, .inl (cI, 4, .inl fm7)), (m8, .inl (cI, 4, .inl fm8)), (m9, .inl (cI, 4, .inl fm9)), (m10, .inl (cI, 34, .inl f40_m10)), (m33, .inl (cI, 34, .inl f2_m33))]) [0, 1, 2, 3, 4, 5, 6, 7, 8] (by decide +kernel) rfl
          exact W.vret hx hb hr (fun t ht hW => ⟨⟨(fun _ => 0), rfl, trivial, ⟨f40_m10, f2_m33, i40_h0_34, i40_h0_35, hv40_0, va_hq ht hP9, hD9⟩⟩, hS.F ht⟩) hS.2.2 dX11_findFastest_124
        ·
          have c4 : ¬ bd9 ≤ k40 := fun h => c4 ((nI_leI (a := bd9) (b := k40) (by omega) (by omega)).mpr h)
          omega
      | succ d40 ih40 =>
        intro k40 f40_m10 i40_h0_34 i40_h0_35 H locs ls hk40 hv40_0 hP hD hS hl
        refine lv_iload_n hx hb dX11_findFastest_40 rfl (lv_at hl 0 rfl) ?_
        refine lv_iconst (v := 1) hx hb dX11_findFastest_41 (by decide) ?_
        refine lv_iconst (v := 4) hx hb dX11_findFastest_42 (by decide) ?_
        refine lv_iload_n hx hb dX11_findFastest_43 rfl (lv_at hl 3 rfl) ?_
        refine lv_imul hx hb dX11_findFastest_44 ?_
        refine lv_topi (fun z5 ez5 => ?_)
        obtain rfl : z5 = nI (4 * mo) := ez5.trans (pk_mul 4 mo)
        refine lv_ishl hx hb dX11_findFastest_45 ?_
        refine lv_topi (fun z6 ez6 => ?_)
        obtain rfl : z6 = nI bd9 := ez6.trans ebd9
        refine lv_icmp_ge (tgt := 124) hx hb dX11_findFastest_46 (by decide) (fun c7 => ?_) (fun c7 => ?_)
        ·
          have c7 : bd9 ≤ k40 := (nI_leI (a := bd9) (b := k40) (by omega) (by omega)).mp c7
          omega
        ·
          have c7 : ¬ bd9 ≤ k40 := fun h => c7 ((nI_leI (a := bd9) (b := k40) (by omega) (by omega)).mpr h)
          refine lv_aload_n hx hb dX11_findFastest_49 rfl (lv_at hl 1 rfl) ?_
          refine lv_iload_n hx hb dX11_findFastest_50 rfl (lv_at hl 0 rfl) ?_
          refine lv_iload_n hx hb dX11_findFastest_51 rfl (lv_at hl 2 rfl) ?_
          refine lv_iload_n hx hb dX11_findFastest_52 rfl (lv_at hl 3 rfl) ?_
          have hc9 := va_cut (W' := [(h0, .inr (11, (.int n0 :: .int n1 :: .int (nI nq) :: .ref m3 :: .ref m4 :: .ref m5 :: .int (nI nh) :: .ref m7 :: .ref m8 :: .ref m9 :: .ref m10 :: .int (nI sd) :: .ref m12 :: .int (nI tx) :: .int n14 :: .int (nI at9) :: .int n16 :: .int n17 :: .ref m18 :: .int (nI rq) :: .ref m20 :: .ref m21 :: .ref m22 :: .ref m23 :: .ref m24 :: .int (nI rh) :: .ref m26 :: .ref m27 :: .ref m28 :: .int (nI un) :: .ref m30 :: .int n31 :: .int n32 :: .ref m33 :: .int i40_h0_34 :: .int i40_h0_35 :: .ref m36 :: .int (nI wm) :: .ref m38 :: .ref m39 :: .ref m40 :: .int (nI bk) :: .ref m42 :: .ref m43 :: .ref m44 :: .ref m45 :: []))), (m3, .inl (cI, 8, .inl fm3)), (m4, .inl (cI, 8, .inl fm4)), (m5, .inl (cI, 8, .inl fm5)), (m7, .inl (cI, 4, .inl fm7)), (m8, .inl (cI, 4, .inl fm8)), (m9, .inl (cI, 4, .inl fm9)), (m10, .inl (cI, 34, .inl f40_m10))]) hP hD hS hA [0, 1, 2, 3, 4, 5, 6, 7] (by decide) rfl
          have hPc := hc9.1
          have hDc := hc9.2.1
          have hFc := hc9.2.2
          clear hc9
          refine va_calli (va_runV (As := [.int (nI k40), .int (nI k), .int (nI mo)]) (rest := []) ⟨hx, hb, hml, hown, hts⟩ (c_X11_minutesOf l dC dI cI cZ cQ h0 n0 n1 nq m3 m4 m5 m7 m8 m9 m10 ((.int n0 :: .int n1 :: .int (nI nq) :: .ref m3 :: .ref m4 :: .ref m5 :: .int (nI nh) :: .ref m7 :: .ref m8 :: .ref m9 :: .ref m10 :: .int (nI sd) :: .ref m12 :: .int (nI tx) :: .int n14 :: .int (nI at9) :: .int n16 :: .int n17 :: .ref m18 :: .int (nI rq) :: .ref m20 :: .ref m21 :: .ref m22 :: .ref m23 :: .ref m24 :: .int (nI rh) :: .ref m26 :: .ref m27 :: .ref m28 :: .int (nI un) :: .ref m30 :: .int n31 :: .int n32 :: .ref m33 :: .int i40_h0_34 :: .int i40_h0_35 :: .ref m36 :: .int (nI wm) :: .ref m38 :: .ref m39 :: .ref m40 :: .int (nI bk) :: .ref m42 :: .ref m43 :: .ref m44 :: .ref m45 :: [])) fm3 fm4 fm5 fm7 fm8 fm9 f40_m10 (nI k40) k mo H.size rfl rfl rfl rfl rfl rfl rfl rfl rfl rfl (by omega) (by first | assumption | decide) (by omega) (by omega)) (cwV 3 hts gX11_findFastest_X11_minutesOf rfl rfl rfl hd_X11_minutesOf_RX11 ⟨Nat.le_of_ble_eq_true rfl, Nat.le_of_ble_eq_true rfl⟩) (pv_D (va_recv hK hP (ci := 11) (q0 := 0) rfl rfl) hK hPc hDc) rfl rfl hl.1 rfl (lv_room (Nat.le_of_ble_eq_true rfl)) dX11_findFastest_53 ⟨Nat.le_of_ble_eq_true rfl, Nat.le_of_ble_eq_true rfl⟩) hS (fun q _ h => hFc q h) hFc (fun r8 u9 t H1 locs ht hvm hw10 hB hz1 hk1 hS => ?_)
          obtain ⟨f11, hP1, hD1⟩ := hB
          replace hP1 := va_hp ht hP1
          obtain ⟨hP, hD⟩ := va_join (wr := [(m33, .inl (cI, 34, .inl f2_m33))]) (w1 := [(h0, .inr (11, (.int n0 :: .int n1 :: .int (nI nq) :: .ref m3 :: .ref m4 :: .ref m5 :: .int (nI nh) :: .ref m7 :: .ref m8 :: .ref m9 :: .ref m10 :: .int (nI sd) :: .ref m12 :: .int (nI tx) :: .int n14 :: .int (nI at9) :: .int n16 :: .int n17 :: .ref m18 :: .int (nI rq) :: .ref m20 :: .ref m21 :: .ref m22 :: .ref m23 :: .ref m24 :: .int (nI rh) :: .ref m26 :: .ref m27 :: .ref m28 :: .int (nI un) :: .ref m30 :: .int n31 :: .int n32 :: .ref m33 :: .int i40_h0_34 :: .int i40_h0_35 :: .ref m36 :: .int (nI wm) :: .ref m38 :: .ref m39 :: .ref m40 :: .int (nI bk) :: .ref m42 :: .ref m43 :: .ref m44 :: .ref m45 :: []))), (m3, .inl (cI, 8, .inl fm3)), (m4, .inl (cI, 8, .inl fm4)), (m5, .inl (cI, 8, .inl fm5)), (m7, .inl (cI, 4, .inl fm7)), (m8, .inl (cI, 4, .inl fm8)), (m9, .inl (cI, 4, .inl fm9)), (m10, .inl (cI, 34, .inl f11))]) hP hD [0, 1, 2, 3, 4, 5, 6, 7] [8] rfl rfl (by decide +kernel) (by decide +kernel) hk1 hFc hP1 hD1
          clear hP1 hD1
          clear hz1 hk1 hPc hDc hFc
          generalize H1 = H at hP hS ht ⊢
          have hPD : pdW (dC, dI) vwCl A [(m33, .inl (cI, 34, .inl f2_m33)), (h0, .inr (11, (.int n0 :: .int n1 :: .int (nI nq) :: .ref m3 :: .ref m4 :: .ref m5 :: .int (nI nh) :: .ref m7 :: .ref m8 :: .ref m9 :: .ref m10 :: .int (nI sd) :: .ref m12 :: .int (nI tx) :: .int n14 :: .int (nI at9) :: .int n16 :: .int n17 :: .ref m18 :: .int (nI rq) :: .ref m20 :: .ref m21 :: .ref m22 :: .ref m23 :: .ref m24 :: .int (nI rh) :: .ref m26 :: .ref m27 :: .ref m28 :: .int (nI un) :: .ref m30 :: .int n31 :: .int n32 :: .ref m33 :: .int i40_h0_34 :: .int i40_h0_35 :: .ref m36 :: .int (nI wm) :: .ref m38 :: .ref m39 :: .ref m40 :: .int (nI bk) :: .ref m42 :: .ref m43 :: .ref m44 :: .ref m45 :: []))), (m3, .inl (cI, 8, .inl fm3)), (m4, .inl (cI, 8, .inl fm4)), (m5, .inl (cI, 8, .inl fm5)), (m7, .inl (cI, 4, .inl fm7)), (m8, .inl (cI, 4, .inl fm8)), (m9, .inl (cI, 4, .inl fm9)), (m10, .inl (cI, 34, .inl f11))] H := ⟨hP, hD⟩
          have hP := hPD.1
          have hD := hPD.2
          clear hPD
          try dsimp only at hw10
          refine lv_istore (lv' := [(4, .int r8), (3, .int (nI k40)), (0, .ref h0), (1, .int (nI k)), (2, .int (nI mo))]) hx hb dX11_findFastest_56 hl (by decide) rfl (fun ls hl => ?_)
          refine lv_aload_n hx hb dX11_findFastest_58 rfl (lv_at hl 2 rfl) ?_
          have hc9 := va_cut (W' := [(h0, .inr (11, (.int n0 :: .int n1 :: .int (nI nq) :: .ref m3 :: .ref m4 :: .ref m5 :: .int (nI nh) :: .ref m7 :: .ref m8 :: .ref m9 :: .ref m10 :: .int (nI sd) :: .ref m12 :: .int (nI tx) :: .int n14 :: .int (nI at9) :: .int n16 :: .int n17 :: .ref m18 :: .int (nI rq) :: .ref m20 :: .ref m21 :: .ref m22 :: .ref m23 :: .ref m24 :: .int (nI rh) :: .ref m26 :: .ref m27 :: .ref m28 :: .int (nI un) :: .ref m30 :: .int n31 :: .int n32 :: .ref m33 :: .int i40_h0_34 :: .int i40_h0_35 :: .ref m36 :: .int (nI wm) :: .ref m38 :: .ref m39 :: .ref m40 :: .int (nI bk) :: .ref m42 :: .ref m43 :: .ref m44 :: .ref m45 :: []))), (m10, .inl (cI, 34, .inl f11)), (m33, .inl (cI, 34, .inl f2_m33))]) hP hD hS hA [1, 8, 0] (by decide) rfl
          have hPc := hc9.1
          have hDc := hc9.2.1
          have hFc := hc9.2.2
          clear hc9
          refine va_callv (va_runV (As := []) (rest := []) ⟨hx, hb, hml, hown, hts⟩ (c_X11_putBackD l dC dI cI cZ cQ h0 m10 m33 ((.int n0 :: .int n1 :: .int (nI nq) :: .ref m3 :: .ref m4 :: .ref m5 :: .int (nI nh) :: .ref m7 :: .ref m8 :: .ref m9 :: .ref m10 :: .int (nI sd) :: .ref m12 :: .int (nI tx) :: .int n14 :: .int (nI at9) :: .int n16 :: .int n17 :: .ref m18 :: .int (nI rq) :: .ref m20 :: .ref m21 :: .ref m22 :: .ref m23 :: .ref m24 :: .int (nI rh) :: .ref m26 :: .ref m27 :: .ref m28 :: .int (nI un) :: .ref m30 :: .int n31 :: .int n32 :: .ref m33 :: .int i40_h0_34 :: .int i40_h0_35 :: .ref m36 :: .int (nI wm) :: .ref m38 :: .ref m39 :: .ref m40 :: .int (nI bk) :: .ref m42 :: .ref m43 :: .ref m44 :: .ref m45 :: [])) f11 f2_m33 H.size rfl rfl) (cwV 0 hts gX11_findFastest_X11_putBack rfl rfl rfl hd_X11_putBack_RX11 ⟨Nat.le_of_ble_eq_true rfl, Nat.le_of_ble_eq_true rfl⟩) (pv_D (va_recv hK hP (ci := 11) (q0 := 1) rfl rfl) hK hPc hDc) rfl rfl hl.1 rfl (lv_room (Nat.le_of_ble_eq_true rfl)) dX11_findFastest_59 ⟨Nat.le_of_ble_eq_true rfl, Nat.le_of_ble_eq_true rfl⟩) hS (fun q _ h => hFc q h) hFc (fun u13 t H1 locs ht hvm hw14 hB hz1 hk1 hS => ?_)
          obtain ⟨f15, he16, hP1, hD1⟩ := hB
          replace hP1 := va_hp ht hP1
          obtain ⟨hP, hD⟩ := va_join (wr := [(m3, .inl (cI, 8, .inl fm3)), (m4, .inl (cI, 8, .inl fm4)), (m5, .inl (cI, 8, .inl fm5)), (m7, .inl (cI, 4, .inl fm7)), (m8, .inl (cI, 4, .inl fm8)), (m9, .inl (cI, 4, .inl fm9))]) (w1 := [(h0, .inr (11, (.int n0 :: .int n1 :: .int (nI nq) :: .ref m3 :: .ref m4 :: .ref m5 :: .int (nI nh) :: .ref m7 :: .ref m8 :: .ref m9 :: .ref m10 :: .int (nI sd) :: .ref m12 :: .int (nI tx) :: .int n14 :: .int (nI at9) :: .int n16 :: .int n17 :: .ref m18 :: .int (nI rq) :: .ref m20 :: .ref m21 :: .ref m22 :: .ref m23 :: .ref m24 :: .int (nI rh) :: .ref m26 :: .ref m27 :: .ref m28 :: .int (nI un) :: .ref m30 :: .int n31 :: .int n32 :: .ref m33 :: .int i40_h0_34 :: .int i40_h0_35 :: .ref m36 :: .int (nI wm) :: .ref m38 :: .ref m39 :: .ref m40 :: .int (nI bk) :: .ref m42 :: .ref m43 :: .ref m44 :: .ref m45 :: []))), (m10, .inl (cI, 34, .inl f15)), (m33, .inl (cI, 34, .inl f2_m33))]) hP hD [1, 8, 0] [2, 3, 4, 5, 6, 7] rfl rfl (by decide +kernel) (by decide +kernel) hk1 hFc hP1 hD1
          clear hP1 hD1
          clear hz1 hk1 hPc hDc hFc
          generalize H1 = H at hP hS ht ⊢
          have hPD : pdW (dC, dI) vwCl A [(m3, .inl (cI, 8, .inl fm3)), (m4, .inl (cI, 8, .inl fm4)), (m5, .inl (cI, 8, .inl fm5)), (m7, .inl (cI, 4, .inl fm7)), (m8, .inl (cI, 4, .inl fm8)), (m9, .inl (cI, 4, .inl fm9)), (h0, .inr (11, (.int n0 :: .int n1 :: .int (nI nq) :: .ref m3 :: .ref m4 :: .ref m5 :: .int (nI nh) :: .ref m7 :: .ref m8 :: .ref m9 :: .ref m10 :: .int (nI sd) :: .ref m12 :: .int (nI tx) :: .int n14 :: .int (nI at9) :: .int n16 :: .int n17 :: .ref m18 :: .int (nI rq) :: .ref m20 :: .ref m21 :: .ref m22 :: .ref m23 :: .ref m24 :: .int (nI rh) :: .ref m26 :: .ref m27 :: .ref m28 :: .int (nI un) :: .ref m30 :: .int n31 :: .int n32 :: .ref m33 :: .int i40_h0_34 :: .int i40_h0_35 :: .ref m36 :: .int (nI wm) :: .ref m38 :: .ref m39 :: .ref m40 :: .int (nI bk) :: .ref m42 :: .ref m43 :: .ref m44 :: .ref m45 :: []))), (m10, .inl (cI, 34, .inl f15)), (m33, .inl (cI, 34, .inl f2_m33))] H := ⟨hP, hD⟩
          have hP := hPD.1
          have hD := hPD.2
          clear hPD
          try dsimp only at hw14
          refine lv_iload hx hb dX11_findFastest_62 (lv_at hl 0 rfl) ?_
          refine lv_if_lt (tgt := 80) hx hb dX11_findFastest_64 (by decide) (fun c17 => ?_) (fun c17 => ?_)
          ·
            refine lv_iconst (v := 0) hx hb dX11_findFastest_80 (by decide) ?_
            refine lv_istore (lv' := [(5, .int 0), (4, .int r8), (3, .int (nI k40)), (0, .ref h0), (1, .int (nI k)), (2, .int (nI mo))]) hx hb dX11_findFastest_81 hl (by decide) rfl (fun ls hl => ?_)
            refine lv_aload_n hx hb dX11_findFastest_83 rfl (lv_at hl 3 rfl) ?_
            refine lv_iload hx hb dX11_findFastest_84 (lv_at hl 0 rfl) ?_
            refine lv_if_eq (tgt := 93) hx hb dX11_findFastest_86 (by decide) (fun c18 => ?_) (fun c18 => ?_)
            rotate_left
            · exact absurd c18 (by decide)
            clear c18
            refine lv_aload_n hx hb dX11_findFastest_93 rfl (lv_at hl 3 rfl) ?_
            refine va_get (D := (dC, dI)) (ci := 11) (v := .int i40_h0_34) (C := RX11) (T := TX11) (N := 46) hx hb hts hi_X11 hown hK hP 6 rfl rfl 34 (by decide) (hts (.fieldLink RX11 284 "LeftQuillsModel" "fastCode" "I") (wmx 3 rfl)) (fun _ h9 => h9) rfl dX11_findFastest_94 ?_
            refine va_put (D := (dC, dI)) (ci := 11) (v := .int i40_h0_34) (ty := .int) (C := RX11) (T := TX11) (N := 46) hx hb hts hi_X11 tyX11 tyX11_ok nmX11 hown hK hP hD hS 6 rfl rfl 34 (by decide) (hts (.fieldLink RX11 284 "LeftQuillsModel" "fastCode" "I") (wmx 3 rfl)) (fun _ h9 => h9) rfl (by decide +kernel) rfl rfl (Nat.le_of_ble_eq_true rfl) dX11_findFastest_97 (fun H locs hP hD hS => ?_)
            have hPD : pdW (dC, dI) vwCl A [(m3, .inl (cI, 8, .inl fm3)), (m4, .inl (cI, 8, .inl fm4)), (m5, .inl (cI, 8, .inl fm5)), (m7, .inl (cI, 4, .inl fm7)), (m8, .inl (cI, 4, .inl fm8)), (m9, .inl (cI, 4, .inl fm9)), (h0, .inr (11, (.int n0 :: .int n1 :: .int (nI nq) :: .ref m3 :: .ref m4 :: .ref m5 :: .int (nI nh) :: .ref m7 :: .ref m8 :: .ref m9 :: .ref m10 :: .int (nI sd) :: .ref m12 :: .int (nI tx) :: .int n14 :: .int (nI at9) :: .int n16 :: .int n17 :: .ref m18 :: .int (nI rq) :: .ref m20 :: .ref m21 :: .ref m22 :: .ref m23 :: .ref m24 :: .int (nI rh) :: .ref m26 :: .ref m27 :: .ref m28 :: .int (nI un) :: .ref m30 :: .int n31 :: .int n32 :: .ref m33 :: .int i40_h0_34 :: .int i40_h0_35 :: .ref m36 :: .int (nI wm) :: .ref m38 :: .ref m39 :: .ref m40 :: .int (nI bk) :: .ref m42 :: .ref m43 :: .ref m44 :: .ref m45 :: []))), (m10, .inl (cI, 34, .inl f15)), (m33, .inl (cI, 34, .inl f2_m33))] H := ⟨hP, hD⟩
            have hP := hPD.1
            have hD := hPD.2
            clear hPD
            refine lv_aload_n hx hb dX11_findFastest_100 rfl (lv_at hl 3 rfl) ?_
            refine lv_iload hx hb dX11_findFastest_101 (lv_at hl 0 rfl) ?_
            refine lv_if_eq (tgt := 111) hx hb dX11_findFastest_103 (by decide) (fun c19 => ?_) (fun c19 => ?_)
            rotate_left
            · exact absurd c19 (by decide)
            clear c19
            refine lv_aload_n hx hb dX11_findFastest_111 rfl (lv_at hl 3 rfl) ?_
            refine va_get (D := (dC, dI)) (ci := 11) (v := .int i40_h0_35) (C := RX11) (T := TX11) (N := 46) hx hb hts hi_X11 hown hK hP 6 rfl rfl 35 (by decide) (hts (.fieldLink RX11 288 "LeftQuillsModel" "fastMinutes" "I") (wmx 5 rfl)) (fun _ h9 => h9) rfl dX11_findFastest_112 ?_
            refine va_put (D := (dC, dI)) (ci := 11) (v := .int i40_h0_35) (ty := .int) (C := RX11) (T := TX11) (N := 46) hx hb hts hi_X11 tyX11 tyX11_ok nmX11 hown hK hP hD hS 6 rfl rfl 35 (by decide) (hts (.fieldLink RX11 288 "LeftQuillsModel" "fastMinutes" "I") (wmx 5 rfl)) (fun _ h9 => h9) rfl (by decide +kernel) rfl rfl (Nat.le_of_ble_eq_true rfl) dX11_findFastest_115 (fun H locs hP hD hS => ?_)
            have hPD : pdW (dC, dI) vwCl A [(m3, .inl (cI, 8, .inl fm3)), (m4, .inl (cI, 8, .inl fm4)), (m5, .inl (cI, 8, .inl fm5)), (m7, .inl (cI, 4, .inl fm7)), (m8, .inl (cI, 4, .inl fm8)), (m9, .inl (cI, 4, .inl fm9)), (h0, .inr (11, (.int n0 :: .int n1 :: .int (nI nq) :: .ref m3 :: .ref m4 :: .ref m5 :: .int (nI nh) :: .ref m7 :: .ref m8 :: .ref m9 :: .ref m10 :: .int (nI sd) :: .ref m12 :: .int (nI tx) :: .int n14 :: .int (nI at9) :: .int n16 :: .int n17 :: .ref m18 :: .int (nI rq) :: .ref m20 :: .ref m21 :: .ref m22 :: .ref m23 :: .ref m24 :: .int (nI rh) :: .ref m26 :: .ref m27 :: .ref m28 :: .int (nI un) :: .ref m30 :: .int n31 :: .int n32 :: .ref m33 :: .int i40_h0_34 :: .int i40_h0_35 :: .ref m36 :: .int (nI wm) :: .ref m38 :: .ref m39 :: .ref m40 :: .int (nI bk) :: .ref m42 :: .ref m43 :: .ref m44 :: .ref m45 :: []))), (m10, .inl (cI, 34, .inl f15)), (m33, .inl (cI, 34, .inl f2_m33))] H := ⟨hP, hD⟩
            have hP := hPD.1
            have hD := hPD.2
            clear hPD
            refine lv_iinc (v := nI (k40 + 1)) (lv' := [(3, .int (nI (k40 + 1))), (5, .int 0), (4, .int r8), (0, .ref h0), (1, .int (nI k)), (2, .int (nI mo))]) hx hb dX11_findFastest_118 hl (k := 2) rfl ((rfl : nI k40 + Int32.ofInt 1 = nI k40 + 1).trans (nI_add k40 1)) (by decide) rfl (fun ls hl => ?_)
            refine lv_goto (tgt := 40) hx hb dX11_findFastest_121 (by decide) ?_
            exact ih40 (k40 + 1) f15 i40_h0_34 i40_h0_35 _ _ _ (by omega) (fun i hi => (he16 i hi).trans (hv2_0 i (by omega))) (hP.sub [6, 0, 1, 2, 3, 4, 5, 7, 8] rfl) (hD.sub [6, 0, 1, 2, 3, 4, 5, 7, 8] (by decide +kernel) rfl) hS (lv_sub hl [0, 3, 4, 5] rfl)
          ·
            refine lv_iload hx hb dX11_findFastest_67 (lv_at hl 0 rfl) ?_
            refine lv_aload_n hx hb dX11_findFastest_69 rfl (lv_at hl 2 rfl) ?_
            refine va_get (D := (dC, dI)) (ci := 11) (v := .int i40_h0_35) (C := RX11) (T := TX11) (N := 46) hx hb hts hi_X11 hown hK hP 6 rfl rfl 35 (by decide) (hts (.fieldLink RX11 288 "LeftQuillsModel" "fastMinutes" "I") (wmx 5 rfl)) (fun _ h9 => h9) rfl dX11_findFastest_70 ?_
            refine lv_icmp_ge (tgt := 80) hx hb dX11_findFastest_73 (by decide) (fun c20 => ?_) (fun c20 => ?_)
            ·
              refine lv_iconst (v := 0) hx hb dX11_findFastest_80 (by decide) ?_
              refine lv_istore (lv' := [(5, .int 0), (4, .int r8), (3, .int (nI k40)), (0, .ref h0), (1, .int (nI k)), (2, .int (nI mo))]) hx hb dX11_findFastest_81 hl (by decide) rfl (fun ls hl => ?_)
              refine lv_aload_n hx hb dX11_findFastest_83 rfl (lv_at hl 3 rfl) ?_
              refine lv_iload hx hb dX11_findFastest_84 (lv_at hl 0 rfl) ?_
              refine lv_if_eq (tgt := 93) hx hb dX11_findFastest_86 (by decide) (fun c21 => ?_) (fun c21 => ?_)
              rotate_left
              · exact absurd c21 (by decide)
              clear c21
              refine lv_aload_n hx hb dX11_findFastest_93 rfl (lv_at hl 3 rfl) ?_
              refine va_get (D := (dC, dI)) (ci := 11) (v := .int i40_h0_34) (C := RX11) (T := TX11) (N := 46) hx hb hts hi_X11 hown hK hP 6 rfl rfl 34 (by decide) (hts (.fieldLink RX11 284 "LeftQuillsModel" "fastCode" "I") (wmx 3 rfl)) (fun _ h9 => h9) rfl dX11_findFastest_94 ?_
              refine va_put (D := (dC, dI)) (ci := 11) (v := .int i40_h0_34) (ty := .int) (C := RX11) (T := TX11) (N := 46) hx hb hts hi_X11 tyX11 tyX11_ok nmX11 hown hK hP hD hS 6 rfl rfl 34 (by decide) (hts (.fieldLink RX11 284 "LeftQuillsModel" "fastCode" "I") (wmx 3 rfl)) (fun _ h9 => h9) rfl (by decide +kernel) rfl rfl (Nat.le_of_ble_eq_true rfl) dX11_findFastest_97 (fun H locs hP hD hS => ?_)
              have hPD : pdW (dC, dI) vwCl A [(m3, .inl (cI, 8, .inl fm3)), (m4, .inl (cI, 8, .inl fm4)), (m5, .inl (cI, 8, .inl fm5)), (m7, .inl (cI, 4, .inl fm7)), (m8, .inl (cI, 4, .inl fm8)), (m9, .inl (cI, 4, .inl fm9)), (h0, .inr (11, (.int n0 :: .int n1 :: .int (nI nq) :: .ref m3 :: .ref m4 :: .ref m5 :: .int (nI nh) :: .ref m7 :: .ref m8 :: .ref m9 :: .ref m10 :: .int (nI sd) :: .ref m12 :: .int (nI tx) :: .int n14 :: .int (nI at9) :: .int n16 :: .int n17 :: .ref m18 :: .int (nI rq) :: .ref m20 :: .ref m21 :: .ref m22 :: .ref m23 :: .ref m24 :: .int (nI rh) :: .ref m26 :: .ref m27 :: .ref m28 :: .int (nI un) :: .ref m30 :: .int n31 :: .int n32 :: .ref m33 :: .int i40_h0_34 :: .int i40_h0_35 :: .ref m36 :: .int (nI wm) :: .ref m38 :: .ref m39 :: .ref m40 :: .int (nI bk) :: .ref m42 :: .ref m43 :: .ref m44 :: .ref m45 :: []))), (m10, .inl (cI, 34, .inl f15)), (m33, .inl (cI, 34, .inl f2_m33))] H := ⟨hP, hD⟩
              have hP := hPD.1
              have hD := hPD.2
              clear hPD
              refine lv_aload_n hx hb dX11_findFastest_100 rfl (lv_at hl 3 rfl) ?_
              refine lv_iload hx hb dX11_findFastest_101 (lv_at hl 0 rfl) ?_
              refine lv_if_eq (tgt := 111) hx hb dX11_findFastest_103 (by decide) (fun c22 => ?_) (fun c22 => ?_)
              rotate_left
              · exact absurd c22 (by decide)
              clear c22
              refine lv_aload_n hx hb dX11_findFastest_111 rfl (lv_at hl 3 rfl) ?_
              refine va_get (D := (dC, dI)) (ci := 11) (v := .int i40_h0_35) (C := RX11) (T := TX11) (N := 46) hx hb hts hi_X11 hown hK hP 6 rfl rfl 35 (by decide) (hts (.fieldLink RX11 288 "LeftQuillsModel" "fastMinutes" "I") (wmx 5 rfl)) (fun _ h9 => h9) rfl dX11_findFastest_112 ?_
              refine va_put (D := (dC, dI)) (ci := 11) (v := .int i40_h0_35) (ty := .int) (C := RX11) (T := TX11) (N := 46) hx hb hts hi_X11 tyX11 tyX11_ok nmX11 hown hK hP hD hS 6 rfl rfl 35 (by decide) (hts (.fieldLink RX11 288 "LeftQuillsModel" "fastMinutes" "I") (wmx 5 rfl)) (fun _ h9 => h9) rfl (by decide +kernel) rfl rfl (Nat.le_of_ble_eq_true rfl) dX11_findFastest_115 (fun H locs hP hD hS => ?_)
              have hPD : pdW (dC, dI) vwCl A [(m3, .inl (cI, 8, .inl fm3)), (m4, .inl (cI, 8, .inl fm4)), (m5, .inl (cI, 8, .inl fm5)), (m7, .inl (cI, 4, .inl fm7)), (m8, .inl (cI, 4, .inl fm8)), (m9, .inl (cI, 4, .inl fm9)), (h0, .inr (11, (.int n0 :: .int n1 :: .int (nI nq) :: .ref m3 :: .ref m4 :: .ref m5 :: .int (nI nh) :: .ref m7 :: .ref m8 :: .ref m9 :: .ref m10 :: .int (nI sd) :: .ref m12 :: .int (nI tx) :: .int n14 :: .int (nI at9) :: .int n16 :: .int n17 :: .ref m18 :: .int (nI rq) :: .ref m20 :: .ref m21 :: .ref m22 :: .ref m23 :: .ref m24 :: .int (nI rh) :: .ref m26 :: .ref m27 :: .ref m28 :: .int (nI un) :: .ref m30 :: .int n31 :: .int n32 :: .ref m33 :: .int i40_h0_34 :: .int i40_h0_35 :: .ref m36 :: .int (nI wm) :: .ref m38 :: .ref m39 :: .ref m40 :: .int (nI bk) :: .ref m42 :: .ref m43 :: .ref m44 :: .ref m45 :: []))), (m10, .inl (cI, 34, .inl f15)), (m33, .inl (cI, 34, .inl f2_m33))] H := ⟨hP, hD⟩
              have hP := hPD.1
              have hD := hPD.2
              clear hPD
              refine lv_iinc (v := nI (k40 + 1)) (lv' := [(3, .int (nI (k40 + 1))), (5, .int 0), (4, .int r8), (0, .ref h0), (1, .int (nI k)), (2, .int (nI mo))]) hx hb dX11_findFastest_118 hl (k := 2) rfl ((rfl : nI k40 + Int32.ofInt 1 = nI k40 + 1).trans (nI_add k40 1)) (by decide) rfl (fun ls hl => ?_)
              refine lv_goto (tgt := 40) hx hb dX11_findFastest_121 (by decide) ?_
              exact ih40 (k40 + 1) f15 i40_h0_34 i40_h0_35 _ _ _ (by omega) (fun i hi => (he16 i hi).trans (hv2_0 i (by omega))) (hP.sub [6, 0, 1, 2, 3, 4, 5, 7, 8] rfl) (hD.sub [6, 0, 1, 2, 3, 4, 5, 7, 8] (by decide +kernel) rfl) hS (lv_sub hl [0, 3, 4, 5] rfl)
            ·
              refine lv_iconst (v := 1) hx hb dX11_findFastest_76 (by decide) ?_
              refine lv_goto (tgt := 81) hx hb dX11_findFastest_77 (by decide) ?_
              refine lv_istore (lv' := [(5, .int 1), (4, .int r8), (3, .int (nI k40)), (0, .ref h0), (1, .int (nI k)), (2, .int (nI mo))]) hx hb dX11_findFastest_81 hl (by decide) rfl (fun ls hl => ?_)
              refine lv_aload_n hx hb dX11_findFastest_83 rfl (lv_at hl 3 rfl) ?_
              refine lv_iload hx hb dX11_findFastest_84 (lv_at hl 0 rfl) ?_
              refine lv_if_eq (tgt := 93) hx hb dX11_findFastest_86 (by decide) (fun c23 => ?_) (fun c23 => ?_)
              · exact absurd c23 (by decide)
              clear c23
              refine lv_iload_n hx hb dX11_findFastest_89 rfl (lv_at hl 2 rfl) ?_
              refine lv_goto (tgt := 97) hx hb dX11_findFastest_90 (by decide) ?_
              refine va_put (D := (dC, dI)) (ci := 11) (v := .int (nI k40)) (ty := .int) (C := RX11) (T := TX11) (N := 46) hx hb hts hi_X11 tyX11 tyX11_ok nmX11 hown hK hP hD hS 6 rfl rfl 34 (by decide) (hts (.fieldLink RX11 284 "LeftQuillsModel" "fastCode" "I") (wmx 3 rfl)) (fun _ h9 => h9) rfl (by decide +kernel) rfl rfl (Nat.le_of_ble_eq_true rfl) dX11_findFastest_97 (fun H locs hP hD hS => ?_)
              have hPD : pdW (dC, dI) vwCl A [(m3, .inl (cI, 8, .inl fm3)), (m4, .inl (cI, 8, .inl fm4)), (m5, .inl (cI, 8, .inl fm5)), (m7, .inl (cI, 4, .inl fm7)), (m8, .inl (cI, 4, .inl fm8)), (m9, .inl (cI, 4, .inl fm9)), (h0, .inr (11, (.int n0 :: .int n1 :: .int (nI nq) :: .ref m3 :: .ref m4 :: .ref m5 :: .int (nI nh) :: .ref m7 :: .ref m8 :: .ref m9 :: .ref m10 :: .int (nI sd) :: .ref m12 :: .int (nI tx) :: .int n14 :: .int (nI at9) :: .int n16 :: .int n17 :: .ref m18 :: .int (nI rq) :: .ref m20 :: .ref m21 :: .ref m22 :: .ref m23 :: .ref m24 :: .int (nI rh) :: .ref m26 :: .ref m27 :: .ref m28 :: .int (nI un) :: .ref m30 :: .int n31 :: .int n32 :: .ref m33 :: .int (nI k40) :: .int i40_h0_35 :: .ref m36 :: .int (nI wm) :: .ref m38 :: .ref m39 :: .ref m40 :: .int (nI bk) :: .ref m42 :: .ref m43 :: .ref m44 :: .ref m45 :: []))), (m10, .inl (cI, 34, .inl f15)), (m33, .inl (cI, 34, .inl f2_m33))] H := ⟨hP, hD⟩
              have hP := hPD.1
              have hD := hPD.2
              clear hPD
              refine lv_aload_n hx hb dX11_findFastest_100 rfl (lv_at hl 3 rfl) ?_
              refine lv_iload hx hb dX11_findFastest_101 (lv_at hl 0 rfl) ?_
              refine lv_if_eq (tgt := 111) hx hb dX11_findFastest_103 (by decide) (fun c24 => ?_) (fun c24 => ?_)
              · exact absurd c24 (by decide)
              clear c24
              refine lv_iload hx hb dX11_findFastest_106 (lv_at hl 1 rfl) ?_
              refine lv_goto (tgt := 115) hx hb dX11_findFastest_108 (by decide) ?_
              refine va_put (D := (dC, dI)) (ci := 11) (v := .int r8) (ty := .int) (C := RX11) (T := TX11) (N := 46) hx hb hts hi_X11 tyX11 tyX11_ok nmX11 hown hK hP hD hS 6 rfl rfl 35 (by decide) (hts (.fieldLink RX11 288 "LeftQuillsModel" "fastMinutes" "I") (wmx 5 rfl)) (fun _ h9 => h9) rfl (by decide +kernel) rfl rfl (Nat.le_of_ble_eq_true rfl) dX11_findFastest_115 (fun H locs hP hD hS => ?_)
              have hPD : pdW (dC, dI) vwCl A [(m3, .inl (cI, 8, .inl fm3)), (m4, .inl (cI, 8, .inl fm4)), (m5, .inl (cI, 8, .inl fm5)), (m7, .inl (cI, 4, .inl fm7)), (m8, .inl (cI, 4, .inl fm8)), (m9, .inl (cI, 4, .inl fm9)), (h0, .inr (11, (.int n0 :: .int n1 :: .int (nI nq) :: .ref m3 :: .ref m4 :: .ref m5 :: .int (nI nh) :: .ref m7 :: .ref m8 :: .ref m9 :: .ref m10 :: .int (nI sd) :: .ref m12 :: .int (nI tx) :: .int n14 :: .int (nI at9) :: .int n16 :: .int n17 :: .ref m18 :: .int (nI rq) :: .ref m20 :: .ref m21 :: .ref m22 :: .ref m23 :: .ref m24 :: .int (nI rh) :: .ref m26 :: .ref m27 :: .ref m28 :: .int (nI un) :: .ref m30 :: .int n31 :: .int n32 :: .ref m33 :: .int (nI k40) :: .int r8 :: .ref m36 :: .int (nI wm) :: .ref m38 :: .ref m39 :: .ref m40 :: .int (nI bk) :: .ref m42 :: .ref m43 :: .ref m44 :: .ref m45 :: []))), (m10, .inl (cI, 34, .inl f15)), (m33, .inl (cI, 34, .inl f2_m33))] H := ⟨hP, hD⟩
              have hP := hPD.1
              have hD := hPD.2
              clear hPD
              refine lv_iinc (v := nI (k40 + 1)) (lv' := [(3, .int (nI (k40 + 1))), (5, .int 1), (4, .int r8), (0, .ref h0), (1, .int (nI k)), (2, .int (nI mo))]) hx hb dX11_findFastest_118 hl (k := 2) rfl ((rfl : nI k40 + Int32.ofInt 1 = nI k40 + 1).trans (nI_add k40 1)) (by decide) rfl (fun ls hl => ?_)
              refine lv_goto (tgt := 40) hx hb dX11_findFastest_121 (by decide) ?_
              exact ih40 (k40 + 1) f15 (nI k40) r8 _ _ _ (by omega) (fun i hi => (he16 i hi).trans (hv2_0 i (by omega))) (hP.sub [6, 0, 1, 2, 3, 4, 5, 7, 8] rfl) (hD.sub [6, 0, 1, 2, 3, 4, 5, 7, 8] (by decide +kernel) rfl) hS (lv_sub hl [0, 3, 4, 5] rfl)
    ·
      have c1 : ¬ 34 ≤ k2 := fun h => c1 ((nI_leI (a := 34) (b := k2) (by omega) (by omega)).mpr h)
      omega
  | succ d2 ih2 =>
    intro k2 f2_m33 H locs ls hk2 hv2_0 hP hD hS hl
    refine lv_iload_n hx hb dX11_findFastest_2 rfl (lv_at hl 0 rfl) ?_
    refine lv_bipush (v := 34) hx hb dX11_findFastest_3 (by decide) ?_
    refine lv_icmp_ge (tgt := 26) hx hb dX11_findFastest_5 (by decide) (fun c25 => ?_) (fun c25 => ?_)
    ·
      have c25 : 34 ≤ k2 := (nI_leI (a := 34) (b := k2) (by omega) (by omega)).mp c25
      omega
    ·
      have c25 : ¬ 34 ≤ k2 := fun h => c25 ((nI_leI (a := 34) (b := k2) (by omega) (by omega)).mpr h)
      refine lv_aload_n hx hb dX11_findFastest_8 rfl (lv_at hl 1 rfl) ?_
      refine va_get (D := (dC, dI)) (ci := 11) (v := .ref m33) (C := RX11) (T := TX11) (N := 46) hx hb hts hi_X11 hown hK hP 0 rfl rfl 33 (by decide) (hts (.fieldLink RX11 68 "LeftQuillsModel" "was" "[I") (wmx 1 rfl)) (fun _ h9 => h9) rfl dX11_findFastest_9 ?_
      refine lv_iload_n hx hb dX11_findFastest_12 rfl (lv_at hl 0 rfl) ?_
      refine lv_aload_n hx hb dX11_findFastest_13 rfl (lv_at hl 1 rfl) ?_
      refine va_get (D := (dC, dI)) (ci := 11) (v := .ref m10) (C := RX11) (T := TX11) (N := 46) hx hb hts hi_X11 hown hK hP 0 rfl rfl 10 (by decide) (hts (.fieldLink RX11 28 "LeftQuillsModel" "now" "[I") (wmx 2 rfl)) (fun _ h9 => h9) rfl dX11_findFastest_14 ?_
      refine lv_iload_n hx hb dX11_findFastest_17 rfl (lv_at hl 0 rfl) ?_
      refine va_iald hx hb hK hP 7 0 rfl rfl (vp_in_nI (n := k2) (N := 34) (by omega) (by decide)) dX11_findFastest_18 ?_
      refine W.eq (g2 := F0 m 19 ls [.int (fm10 k2), .int (nI k2), .ref m33]) (congrArg (fun y9 => F0 m 19 ls (.int (fm10 y9) :: [.int (nI k2), .ref m33])) ((nI_clamp (n := k2) (by omega)))) ?_
      refine va_iast hx hb hK hP hD hS 8 0 rfl rfl (vp_in_nI (n := k2) (N := 34) (by omega) (by decide)) dX11_findFastest_19 (fun H locs hP hD hS => ?_)
      have hcl := (nI_clamp (n := k2) (by omega))
      rw [hcl] at hP hD
      clear hcl
      have hPD : pdW (dC, dI) vwCl A [(h0, .inr (11, (.int n0 :: .int n1 :: .int (nI nq) :: .ref m3 :: .ref m4 :: .ref m5 :: .int (nI nh) :: .ref m7 :: .ref m8 :: .ref m9 :: .ref m10 :: .int (nI sd) :: .ref m12 :: .int (nI tx) :: .int n14 :: .int (nI at9) :: .int n16 :: .int n17 :: .ref m18 :: .int (nI rq) :: .ref m20 :: .ref m21 :: .ref m22 :: .ref m23 :: .ref m24 :: .int (nI rh) :: .ref m26 :: .ref m27 :: .ref m28 :: .int (nI un) :: .ref m30 :: .int n31 :: .int n32 :: .ref m33 :: .int n34 :: .int n35 :: .ref m36 :: .int (nI wm) :: .ref m38 :: .ref m39 :: .ref m40 :: .int (nI bk) :: .ref m42 :: .ref m43 :: .ref m44 :: .ref m45 :: []))), (m3, .inl (cI, 8, .inl fm3)), (m4, .inl (cI, 8, .inl fm4)), (m5, .inl (cI, 8, .inl fm5)), (m7, .inl (cI, 4, .inl fm7)), (m8, .inl (cI, 4, .inl fm8)), (m9, .inl (cI, 4, .inl fm9)), (m10, .inl (cI, 34, .inl fm10)), (m33, .inl (cI, 34, .inl (upd f2_m33 k2 (fm10 k2))))] H := ⟨hP, hD⟩
      have hP := hPD.1
      have hD := hPD.2
      clear hPD
      refine lv_iinc (v := nI (k2 + 1)) (lv' := [(3, .int (nI (k2 + 1))), (0, .ref h0), (1, .int (nI k)), (2, .int (nI mo))]) hx hb dX11_findFastest_20 hl (k := 0) rfl ((rfl : nI k2 + Int32.ofInt 1 = nI k2 + 1).trans (nI_add k2 1)) (by decide) rfl (fun ls hl => ?_)
      refine lv_goto (tgt := 2) hx hb dX11_findFastest_23 (by decide) ?_
      exact ih2 (k2 + 1) (upd f2_m33 k2 (fm10 k2)) _ _ _ (by omega) (upd_all hv2_0 rfl) hP hD hS (lv_sub hl [0, 1, 2, 3] rfl)
set_option maxHeartbeats 4000000 in
set_option maxRecDepth 100000 in
theorem c_X11_fastestD (l : Launch) (dC : Nat → ClassId) (dI : Nat → Nat → Nat) (cI cZ cQ : ClassId) (h0 : Nat) (n0 : Int32) (n1 : Int32) (nq : Nat) (m3 : Nat) (m4 : Nat) (m5 : Nat) (nh : Nat) (m7 : Nat) (m8 : Nat) (m9 : Nat) (m10 : Nat) (sd : Nat) (m12 : Nat) (tx : Nat) (n14 : Int32) (at9 : Nat) (n16 : Int32) (n17 : Int32) (m18 : Nat) (rq : Nat) (m20 : Nat) (m21 : Nat) (m22 : Nat) (m23 : Nat) (m24 : Nat) (rh : Nat) (m26 : Nat) (m27 : Nat) (m28 : Nat) (un : Nat) (m30 : Nat) (n31 : Int32) (n32 : Int32) (m33 : Nat) (n34 : Int32) (n35 : Int32) (m36 : Nat) (wm : Nat) (m38 : Nat) (m39 : Nat) (m40 : Nat) (bk : Nat) (m42 : Nat) (m43 : Nat) (m44 : Nat) (m45 : Nat) (fm3 : Nat → Int32) (fm4 : Nat → Int32) (fm5 : Nat → Int32) (fm7 : Nat → Int32) (fm8 : Nat → Int32) (fm9 : Nat → Int32) (fm10 : Nat → Int32) (fm33 : Nat → Int32) (q0 : Int32) (q1 : Int32) (q2 : Int32) (sz : Nat) (hnq : nq ≤ 8) (hci : cIn fm5 nq) (hnh : nh ≤ 4) : Met l yX11_fastest wsX11_fastest ({ frames := 6, cells := 0, slots := 0, locals := 184 }) (va_Pc [.ref h0, .int q0, .int q1, .int q2] (fun U => U.heap.size = sz ∧ va_P (dC, dI) vwCl [(h0, .inr (11, (.int n0 :: .int n1 :: .int (nI nq) :: .ref m3 :: .ref m4 :: .ref m5 :: .int (nI nh) :: .ref m7 :: .ref m8 :: .ref m9 :: .ref m10 :: .int (nI sd) :: .ref m12 :: .int (nI tx) :: .int n14 :: .int (nI at9) :: .int n16 :: .int n17 :: .ref m18 :: .int (nI rq) :: .ref m20 :: .ref m21 :: .ref m22 :: .ref m23 :: .ref m24 :: .int (nI rh) :: .ref m26 :: .ref m27 :: .ref m28 :: .int (nI un) :: .ref m30 :: .int n31 :: .int n32 :: .ref m33 :: .int n34 :: .int n35 :: .ref m36 :: .int (nI wm) :: .ref m38 :: .ref m39 :: .ref m40 :: .int (nI bk) :: .ref m42 :: .ref m43 :: .ref m44 :: .ref m45 :: []))), (m3, .inl (cI, 8, .inl fm3)), (m4, .inl (cI, 8, .inl fm4)), (m5, .inl (cI, 8, .inl fm5)), (m7, .inl (cI, 4, .inl fm7)), (m8, .inl (cI, 4, .inl fm8)), (m9, .inl (cI, 4, .inl fm9)), (m10, .inl (cI, 34, .inl fm10)), (m33, .inl (cI, 34, .inl fm33))] U.heap ∧ va_K (dC, dI) vwCl (tys0 cI cZ cQ) U ∧ va_D (fun _ => True) [(h0, .inr (11, (.int n0 :: .int n1 :: .int (nI nq) :: .ref m3 :: .ref m4 :: .ref m5 :: .int (nI nh) :: .ref m7 :: .ref m8 :: .ref m9 :: .ref m10 :: .int (nI sd) :: .ref m12 :: .int (nI tx) :: .int n14 :: .int (nI at9) :: .int n16 :: .int n17 :: .ref m18 :: .int (nI rq) :: .ref m20 :: .ref m21 :: .ref m22 :: .ref m23 :: .ref m24 :: .int (nI rh) :: .ref m26 :: .ref m27 :: .ref m28 :: .int (nI un) :: .ref m30 :: .int n31 :: .int n32 :: .ref m33 :: .int n34 :: .int n35 :: .ref m36 :: .int (nI wm) :: .ref m38 :: .ref m39 :: .ref m40 :: .int (nI bk) :: .ref m42 :: .ref m43 :: .ref m44 :: .ref m45 :: []))), (m3, .inl (cI, 8, .inl fm3)), (m4, .inl (cI, 8, .inl fm4)), (m5, .inl (cI, 8, .inl fm5)), (m7, .inl (cI, 4, .inl fm7)), (m8, .inl (cI, 4, .inl fm8)), (m9, .inl (cI, 4, .inl fm9)), (m10, .inl (cI, 34, .inl fm10)), (m33, .inl (cI, 34, .inl fm33))])) (va_Qi (fun (r : Int32) (u : Nat → Nat) => True) (fun (_ : Nat → Nat) (t : State) => ∃ (gg0 gg1 : Nat → Int32) (ii0 ii1 : Int32) , (∀ i, i < 34 → gg0 i = fm10 i) ∧ va_P (dC, dI) vwCl [(h0, .inr (11, (.int n0 :: .int n1 :: .int (nI nq) :: .ref m3 :: .ref m4 :: .ref m5 :: .int (nI nh) :: .ref m7 :: .ref m8 :: .ref m9 :: .ref m10 :: .int (nI sd) :: .ref m12 :: .int (nI tx) :: .int n14 :: .int (nI at9) :: .int n16 :: .int n17 :: .ref m18 :: .int (nI rq) :: .ref m20 :: .ref m21 :: .ref m22 :: .ref m23 :: .ref m24 :: .int (nI rh) :: .ref m26 :: .ref m27 :: .ref m28 :: .int (nI un) :: .ref m30 :: .int n31 :: .int n32 :: .ref m33 :: .int ii0 :: .int ii1 :: .ref m36 :: .int (nI wm) :: .ref m38 :: .ref m39 :: .ref m40 :: .int (nI bk) :: .ref m42 :: .ref m43 :: .ref m44 :: .ref m45 :: []))), (m3, .inl (cI, 8, .inl fm3)), (m4, .inl (cI, 8, .inl fm4)), (m5, .inl (cI, 8, .inl fm5)), (m7, .inl (cI, 4, .inl fm7)), (m8, .inl (cI, 4, .inl fm8)), (m9, .inl (cI, 4, .inl fm9)), (m10, .inl (cI, 34, .inl gg0)), (m33, .inl (cI, 34, .inl gg1))] t.heap ∧ va_D (va_A [(h0, .inr (11, (.int n0 :: .int n1 :: .int (nI nq) :: .ref m3 :: .ref m4 :: .ref m5 :: .int (nI nh) :: .ref m7 :: .ref m8 :: .ref m9 :: .ref m10 :: .int (nI sd) :: .ref m12 :: .int (nI tx) :: .int n14 :: .int (nI at9) :: .int n16 :: .int n17 :: .ref m18 :: .int (nI rq) :: .ref m20 :: .ref m21 :: .ref m22 :: .ref m23 :: .ref m24 :: .int (nI rh) :: .ref m26 :: .ref m27 :: .ref m28 :: .int (nI un) :: .ref m30 :: .int n31 :: .int n32 :: .ref m33 :: .int n34 :: .int n35 :: .ref m36 :: .int (nI wm) :: .ref m38 :: .ref m39 :: .ref m40 :: .int (nI bk) :: .ref m42 :: .ref m43 :: .ref m44 :: .ref m45 :: []))), (m3, .inl (cI, 8, .inl fm3)), (m4, .inl (cI, 8, .inl fm4)), (m5, .inl (cI, 8, .inl fm5)), (m7, .inl (cI, 4, .inl fm7)), (m8, .inl (cI, 4, .inl fm8)), (m9, .inl (cI, 4, .inl fm9)), (m10, .inl (cI, 34, .inl fm10)), (m33, .inl (cI, 34, .inl fm33))] sz) [(h0, .inr (11, (.int n0 :: .int n1 :: .int (nI nq) :: .ref m3 :: .ref m4 :: .ref m5 :: .int (nI nh) :: .ref m7 :: .ref m8 :: .ref m9 :: .ref m10 :: .int (nI sd) :: .ref m12 :: .int (nI tx) :: .int n14 :: .int (nI at9) :: .int n16 :: .int n17 :: .ref m18 :: .int (nI rq) :: .ref m20 :: .ref m21 :: .ref m22 :: .ref m23 :: .ref m24 :: .int (nI rh) :: .ref m26 :: .ref m27 :: .ref m28 :: .int (nI un) :: .ref m30 :: .int n31 :: .int n32 :: .ref m33 :: .int ii0 :: .int ii1 :: .ref m36 :: .int (nI wm) :: .ref m38 :: .ref m39 :: .ref m40 :: .int (nI bk) :: .ref m42 :: .ref m43 :: .ref m44 :: .ref m45 :: []))), (m3, .inl (cI, 8, .inl fm3)), (m4, .inl (cI, 8, .inl fm4)), (m5, .inl (cI, 8, .inl fm5)), (m7, .inl (cI, 4, .inl fm7)), (m8, .inl (cI, 4, .inl fm8)), (m9, .inl (cI, 4, .inl fm9)), (m10, .inl (cI, 34, .inl gg0)), (m33, .inl (cI, 34, .inl gg1))]) (va_A [(h0, .inr (11, (.int n0 :: .int n1 :: .int (nI nq) :: .ref m3 :: .ref m4 :: .ref m5 :: .int (nI nh) :: .ref m7 :: .ref m8 :: .ref m9 :: .ref m10 :: .int (nI sd) :: .ref m12 :: .int (nI tx) :: .int n14 :: .int (nI at9) :: .int n16 :: .int n17 :: .ref m18 :: .int (nI rq) :: .ref m20 :: .ref m21 :: .ref m22 :: .ref m23 :: .ref m24 :: .int (nI rh) :: .ref m26 :: .ref m27 :: .ref m28 :: .int (nI un) :: .ref m30 :: .int n31 :: .int n32 :: .ref m33 :: .int n34 :: .int n35 :: .ref m36 :: .int (nI wm) :: .ref m38 :: .ref m39 :: .ref m40 :: .int (nI bk) :: .ref m42 :: .ref m43 :: .ref m44 :: .ref m45 :: []))), (m3, .inl (cI, 8, .inl fm3)), (m4, .inl (cI, 8, .inl fm4)), (m5, .inl (cI, 8, .inl fm5)), (m7, .inl (cI, 4, .inl fm7)), (m8, .inl (cI, 4, .inl fm8)), (m9, .inl (cI, 4, .inl fm9)), (m10, .inl (cI, 34, .inl fm10)), (m33, .inl (cI, 34, .inl fm33))] sz)) 0 0 (va_A [(h0, .inr (11, (.int n0 :: .int n1 :: .int (nI nq) :: .ref m3 :: .ref m4 :: .ref m5 :: .int (nI nh) :: .ref m7 :: .ref m8 :: .ref m9 :: .ref m10 :: .int (nI sd) :: .ref m12 :: .int (nI tx) :: .int n14 :: .int (nI at9) :: .int n16 :: .int n17 :: .ref m18 :: .int (nI rq) :: .ref m20 :: .ref m21 :: .ref m22 :: .ref m23 :: .ref m24 :: .int (nI rh) :: .ref m26 :: .ref m27 :: .ref m28 :: .int (nI un) :: .ref m30 :: .int n31 :: .int n32 :: .ref m33 :: .int n34 :: .int n35 :: .ref m36 :: .int (nI wm) :: .ref m38 :: .ref m39 :: .ref m40 :: .int (nI bk) :: .ref m42 :: .ref m43 :: .ref m44 :: .ref m45 :: []))), (m3, .inl (cI, 8, .inl fm3)), (m4, .inl (cI, 8, .inl fm4)), (m5, .inl (cI, 8, .inl fm5)), (m7, .inl (cI, 4, .inl fm7)), (m8, .inl (cI, 4, .inl fm8)), (m9, .inl (cI, 4, .inl fm9)), (m10, .inl (cI, 34, .inl fm10)), (m33, .inl (cI, 34, .inl fm33))] sz) := by
  refine Met.ofW (cc := cX11_fastest) (maxL := 5) (ret := (some .int)) (by decide) rfl ?_
  intro p e s m args below meth c s₁ B hml hv
  obtain ⟨rfl, hsz, hP, hK, hD0⟩ := hv
  have hx := B.exec
  have hb := B.bytes
  have hr := B.returns
  have hts := atoms_spec (ws := wsX11_fastest) B.pre
  have hown : s.vm.findClass RX11 = some m.cls := findClass_of_methodNamed B.named
  have hlocks := B.notSynchronized
  have hi_X11 : ∀ w ∈ u_ws RX11 TX11 46, w ∈ wsX11_fastest := fun _ h => List.mem_cons_of_mem _ (List.mem_append_right _ (h))
  subst hsz
  have hD := hD0.self (sz := s.heap.size)
  generalize hAe : va_A [(h0, .inr (11, (.int n0 :: .int n1 :: .int (nI nq) :: .ref m3 :: .ref m4 :: .ref m5 :: .int (nI nh) :: .ref m7 :: .ref m8 :: .ref m9 :: .ref m10 :: .int (nI sd) :: .ref m12 :: .int (nI tx) :: .int n14 :: .int (nI at9) :: .int n16 :: .int n17 :: .ref m18 :: .int (nI rq) :: .ref m20 :: .ref m21 :: .ref m22 :: .ref m23 :: .ref m24 :: .int (nI rh) :: .ref m26 :: .ref m27 :: .ref m28 :: .int (nI un) :: .ref m30 :: .int n31 :: .int n32 :: .ref m33 :: .int n34 :: .int n35 :: .ref m36 :: .int (nI wm) :: .ref m38 :: .ref m39 :: .ref m40 :: .int (nI bk) :: .ref m42 :: .ref m43 :: .ref m44 :: .ref m45 :: []))), (m3, .inl (cI, 8, .inl fm3)), (m4, .inl (cI, 8, .inl fm4)), (m5, .inl (cI, 8, .inl fm5)), (m7, .inl (cI, 4, .inl fm7)), (m8, .inl (cI, 4, .inl fm8)), (m9, .inl (cI, 4, .inl fm9)), (m10, .inl (cI, 34, .inl fm10)), (m33, .inl (cI, 34, .inl fm33))] s.heap.size = A at hD ⊢
  have hA : ∀ q : Nat, s.heap.size ≤ q → A q := fun q h => by rw [← hAe]; exact Or.inr h
  have hS : va_S A s.heap s.heap [] := va_S.rf
  have hl := lv_entry ([.ref h0, .int q0, .int q1, .int q2]) (n := 5) (Nat.le_of_ble_eq_true rfl)
  rw [lg_entry_eq]
  generalize (lg_sl ([.ref h0, .int q0, .int q1, .int q2]) ++ List.replicate (5 - (lg_sl ([.ref h0, .int q0, .int q1, .int q2])).length) Slot.unset).toArray = ls at hl ⊢
  have hl : lv_has ls 5 [(0, .ref h0), (1, .int q0), (2, .int q1), (3, .int q2)] := hl
  refine lv_aload_n hx hb dX11_fastest_0 rfl (lv_at hl 0 rfl) ?_
  refine lv_iload_n hx hb dX11_fastest_1 rfl (lv_at hl 1 rfl) ?_
  have hPc := hP.sub (ws' := [(h0, .inr (11, (.int n0 :: .int n1 :: .int (nI nq) :: .ref m3 :: .ref m4 :: .ref m5 :: .int (nI nh) :: .ref m7 :: .ref m8 :: .ref m9 :: .ref m10 :: .int (nI sd) :: .ref m12 :: .int (nI tx) :: .int n14 :: .int (nI at9) :: .int n16 :: .int n17 :: .ref m18 :: .int (nI rq) :: .ref m20 :: .ref m21 :: .ref m22 :: .ref m23 :: .ref m24 :: .int (nI rh) :: .ref m26 :: .ref m27 :: .ref m28 :: .int (nI un) :: .ref m30 :: .int n31 :: .int n32 :: .ref m33 :: .int n34 :: .int n35 :: .ref m36 :: .int (nI wm) :: .ref m38 :: .ref m39 :: .ref m40 :: .int (nI bk) :: .ref m42 :: .ref m43 :: .ref m44 :: .ref m45 :: [])))]) [0] rfl
  refine va_calli (va_runV (As := [.int q0]) (rest := []) ⟨hx, hb, hml, hown, hts⟩ (c_X11_isHand l dC dI cI cZ cQ h0 (nI nh) ((.int n0 :: .int n1 :: .int (nI nq) :: .ref m3 :: .ref m4 :: .ref m5 :: .int (nI nh) :: .ref m7 :: .ref m8 :: .ref m9 :: .ref m10 :: .int (nI sd) :: .ref m12 :: .int (nI tx) :: .int n14 :: .int (nI at9) :: .int n16 :: .int n17 :: .ref m18 :: .int (nI rq) :: .ref m20 :: .ref m21 :: .ref m22 :: .ref m23 :: .ref m24 :: .int (nI rh) :: .ref m26 :: .ref m27 :: .ref m28 :: .int (nI un) :: .ref m30 :: .int n31 :: .int n32 :: .ref m33 :: .int n34 :: .int n35 :: .ref m36 :: .int (nI wm) :: .ref m38 :: .ref m39 :: .ref m40 :: .int (nI bk) :: .ref m42 :: .ref m43 :: .ref m44 :: .ref m45 :: [])) q0 s.heap.size rfl (nI_pos' (n := nh) (by omega))) (cwV 1 hts gX11_fastest_X11_isHand rfl rfl rfl hd_X11_isHand_RX11 ⟨Nat.le_of_ble_eq_true rfl, Nat.le_of_ble_eq_true rfl⟩) (pv_R (va_recv hK hP (ci := 11) (q0 := 0) rfl rfl) hK hPc) rfl rfl hl.1 rfl (lv_room (Nat.le_of_ble_eq_true rfl)) dX11_fastest_2 ⟨Nat.le_of_ble_eq_true rfl, Nat.le_of_ble_eq_true rfl⟩) hS (fun q _ h => False.elim h) (fun q h => False.elim h) (fun r1 u2 t H1 locs ht hvm hw3 hB hz1 hk1 hS => ?_)
  have hP := hP.kept (fun k q hk => hk1 q.1 (hP k q hk).lt (fun h => h))
  clear hz1 hk1 hPc
  generalize H1 = H at hP hS ht ⊢
  try dsimp only at hw3
  rcases hw3 with ⟨rfl, hw3⟩ | ⟨rfl, hw3⟩
  ·
    obtain ⟨j4, hj4, rfl⟩ := x_ix hw3 (by omega)
    refine lv_if_ne (tgt := 11) hx hb dX11_fastest_5 (by decide) (fun c5 => ?_) (fun c5 => ?_)
    rotate_left
    · exact absurd c5 (by decide)
    clear c5
    refine lv_iload_n hx hb dX11_fastest_11 rfl (lv_at hl 2 rfl) ?_
    refine lv_i2l hx hb dX11_fastest_12 rfl ?_
    refine lv_lconst (v := 1) hx hb dX11_fastest_13 (by decide) ?_
    refine lv_topl (fun z6 ez6 => ?_)
    obtain rfl : z6 = (1 : Int32).toInt64 := ez6.trans (by decide)
    refine lv_ldc2 (v := 4) hx hb hown (hts (.constantLong RX11 297 4) (wmx 2 rfl)) dX11_fastest_14 ?_
    refine lv_topl (fun z7 ez7 => ?_)
    obtain rfl : z7 = (4 : Int32).toInt64 := ez7.trans (by decide)
    have hPc := hP.sub (ws' := []) [] rfl
    refine va_calli (va_runS (As := [.long q1.toInt64, .long ((1 : Int32).toInt64), .long ((4 : Int32).toInt64)]) (rest := []) ⟨hx, hb, hml, hown, hts⟩ (c_X11_in l dC dI cI cZ cQ q1 1 4 H.size ) (va_cwS 3 hts gX11_fastest_X11_in rfl rfl rfl (by decide +kernel) ⟨Nat.le_of_ble_eq_true rfl, Nat.le_of_ble_eq_true rfl⟩) (ps_R hK hPc) rfl rfl hl.1 rfl (lv_room (Nat.le_of_ble_eq_true rfl)) dX11_fastest_17 ⟨Nat.le_of_ble_eq_true rfl, Nat.le_of_ble_eq_true rfl⟩) hS (fun q _ h => False.elim h) (fun q h => False.elim h) (fun r8 u9 t H1 locs ht hvm hw10 hB hz1 hk1 hS => ?_)
    have hP := hP.kept (fun k q hk => hk1 q.1 (hP k q hk).lt (fun h => h))
    clear hz1 hk1 hPc
    generalize H1 = H at hP hS ht ⊢
    try dsimp only at hw10
    rcases hw10 with ⟨rfl, hw10⟩ | ⟨rfl, hw10⟩
    ·
      obtain ⟨j11, haj11, hbj11, rfl⟩ := x_rng (a := 1) (b := 4) (by decide) (by decide) hw10
      refine lv_if_ne (tgt := 26) hx hb dX11_fastest_20 (by decide) (fun c12 => ?_) (fun c12 => ?_)
      rotate_left
      · exact absurd c12 (by decide)
      clear c12
      refine lv_aload_n hx hb dX11_fastest_26 rfl (lv_at hl 0 rfl) ?_
      refine lv_iload_n hx hb dX11_fastest_27 rfl (lv_at hl 1 rfl) ?_
      refine lv_iload_n hx hb dX11_fastest_28 rfl (lv_at hl 2 rfl) ?_
      have hc9 := va_cut (W' := [(h0, .inr (11, (.int n0 :: .int n1 :: .int (nI nq) :: .ref m3 :: .ref m4 :: .ref m5 :: .int (nI nh) :: .ref m7 :: .ref m8 :: .ref m9 :: .ref m10 :: .int (nI sd) :: .ref m12 :: .int (nI tx) :: .int n14 :: .int (nI at9) :: .int n16 :: .int n17 :: .ref m18 :: .int (nI rq) :: .ref m20 :: .ref m21 :: .ref m22 :: .ref m23 :: .ref m24 :: .int (nI rh) :: .ref m26 :: .ref m27 :: .ref m28 :: .int (nI un) :: .ref m30 :: .int n31 :: .int n32 :: .ref m33 :: .int n34 :: .int n35 :: .ref m36 :: .int (nI wm) :: .ref m38 :: .ref m39 :: .ref m40 :: .int (nI bk) :: .ref m42 :: .ref m43 :: .ref m44 :: .ref m45 :: []))), (m3, .inl (cI, 8, .inl fm3)), (m4, .inl (cI, 8, .inl fm4)), (m5, .inl (cI, 8, .inl fm5)), (m7, .inl (cI, 4, .inl fm7)), (m8, .inl (cI, 4, .inl fm8)), (m9, .inl (cI, 4, .inl fm9)), (m10, .inl (cI, 34, .inl fm10)), (m33, .inl (cI, 34, .inl fm33))]) hP hD hS hA [0, 1, 2, 3, 4, 5, 6, 7, 8] (by decide) rfl
      have hPc := hc9.1
      have hDc := hc9.2.1
      have hFc := hc9.2.2
      clear hc9
      refine va_callv (va_runV (As := [.int (nI j4), .int (nI j11)]) (rest := []) ⟨hx, hb, hml, hown, hts⟩ (c_X11_findFastestD l dC dI cI cZ cQ h0 n0 n1 nq m3 m4 m5 nh m7 m8 m9 m10 sd m12 tx n14 at9 n16 n17 m18 rq m20 m21 m22 m23 m24 rh m26 m27 m28 un m30 n31 n32 m33 n34 n35 m36 wm m38 m39 m40 bk m42 m43 m44 m45 fm3 fm4 fm5 fm7 fm8 fm9 fm10 fm33 j4 j11 H.size (by omega) (by first | assumption | decide) (by omega) (by omega) (by omega)) (cwV 2 hts gX11_fastest_X11_findFastest rfl rfl rfl hd_X11_findFastest_RX11 ⟨Nat.le_of_ble_eq_true rfl, Nat.le_of_ble_eq_true rfl⟩) (pv_D (va_recv hK hP (ci := 11) (q0 := 0) rfl rfl) hK hPc hDc) rfl rfl hl.1 rfl (lv_room (Nat.le_of_ble_eq_true rfl)) dX11_fastest_29 ⟨Nat.le_of_ble_eq_true rfl, Nat.le_of_ble_eq_true rfl⟩) hS (fun q _ h => hFc q h) hFc (fun u14 t H1 locs ht hvm hw15 hB hz1 hk1 hS => ?_)
      obtain ⟨f16, f17, i18, i19, he20, hP1, hD1⟩ := hB
      replace hP1 := va_hp ht hP1
      obtain ⟨hP, hD⟩ := va_join (wr := []) (w1 := [(h0, .inr (11, (.int n0 :: .int n1 :: .int (nI nq) :: .ref m3 :: .ref m4 :: .ref m5 :: .int (nI nh) :: .ref m7 :: .ref m8 :: .ref m9 :: .ref m10 :: .int (nI sd) :: .ref m12 :: .int (nI tx) :: .int n14 :: .int (nI at9) :: .int n16 :: .int n17 :: .ref m18 :: .int (nI rq) :: .ref m20 :: .ref m21 :: .ref m22 :: .ref m23 :: .ref m24 :: .int (nI rh) :: .ref m26 :: .ref m27 :: .ref m28 :: .int (nI un) :: .ref m30 :: .int n31 :: .int n32 :: .ref m33 :: .int i18 :: .int i19 :: .ref m36 :: .int (nI wm) :: .ref m38 :: .ref m39 :: .ref m40 :: .int (nI bk) :: .ref m42 :: .ref m43 :: .ref m44 :: .ref m45 :: []))), (m3, .inl (cI, 8, .inl fm3)), (m4, .inl (cI, 8, .inl fm4)), (m5, .inl (cI, 8, .inl fm5)), (m7, .inl (cI, 4, .inl fm7)), (m8, .inl (cI, 4, .inl fm8)), (m9, .inl (cI, 4, .inl fm9)), (m10, .inl (cI, 34, .inl f16)), (m33, .inl (cI, 34, .inl f17))]) hP hD [0, 1, 2, 3, 4, 5, 6, 7, 8] [] rfl rfl (by decide +kernel) (by decide +kernel) hk1 hFc hP1 hD1
      clear hP1 hD1
      clear hz1 hk1 hPc hDc hFc
      generalize H1 = H at hP hS ht ⊢
      have hPD : pdW (dC, dI) vwCl A [(h0, .inr (11, (.int n0 :: .int n1 :: .int (nI nq) :: .ref m3 :: .ref m4 :: .ref m5 :: .int (nI nh) :: .ref m7 :: .ref m8 :: .ref m9 :: .ref m10 :: .int (nI sd) :: .ref m12 :: .int (nI tx) :: .int n14 :: .int (nI at9) :: .int n16 :: .int n17 :: .ref m18 :: .int (nI rq) :: .ref m20 :: .ref m21 :: .ref m22 :: .ref m23 :: .ref m24 :: .int (nI rh) :: .ref m26 :: .ref m27 :: .ref m28 :: .int (nI un) :: .ref m30 :: .int n31 :: .int n32 :: .ref m33 :: .int i18 :: .int i19 :: .ref m36 :: .int (nI wm) :: .ref m38 :: .ref m39 :: .ref m40 :: .int (nI bk) :: .ref m42 :: .ref m43 :: .ref m44 :: .ref m45 :: []))), (m3, .inl (cI, 8, .inl fm3)), (m4, .inl (cI, 8, .inl fm4)), (m5, .inl (cI, 8, .inl fm5)), (m7, .inl (cI, 4, .inl fm7)), (m8, .inl (cI, 4, .inl fm8)), (m9, .inl (cI, 4, .inl fm9)), (m10, .inl (cI, 34, .inl f16)), (m33, .inl (cI, 34, .inl f17))] H := ⟨hP, hD⟩
      have hP := hPD.1
      have hD := hPD.2
      clear hPD
      try dsimp only at hw15
      refine lv_aload_n hx hb dX11_fastest_32 rfl (lv_at hl 0 rfl) ?_
      refine va_get (D := (dC, dI)) (ci := 11) (v := .int i18) (C := RX11) (T := TX11) (N := 46) hx hb hts hi_X11 hown hK hP 0 rfl rfl 34 (by decide) (hts (.fieldLink RX11 284 "LeftQuillsModel" "fastCode" "I") (wmx 4 rfl)) (fun _ h9 => h9) rfl dX11_fastest_33 ?_
      refine lv_if_lt (tgt := 57) hx hb dX11_fastest_36 (by decide) (fun c21 => ?_) (fun c21 => ?_)
      ·
        refine lv_iconst (v := (-1)) hx hb dX11_fastest_57 (by decide) ?_
        have hP9 := hP.sub (ws' := [(h0, .inr (11, (.int n0 :: .int n1 :: .int (nI nq) :: .ref m3 :: .ref m4 :: .ref m5 :: .int (nI nh) :: .ref m7 :: .ref m8 :: .ref m9 :: .ref m10 :: .int (nI sd) :: .ref m12 :: .int (nI tx) :: .int n14 :: .int (nI at9) :: .int n16 :: .int n17 :: .ref m18 :: .int (nI rq) :: .ref m20 :: .ref m21 :: .ref m22 :: .ref m23 :: .ref m24 :: .int (nI rh) :: .ref m26 :: .ref m27 :: .ref m28 :: .int (nI un) :: .ref m30 :: .int n31 :: .int n32 :: .ref m33 :: .int i18 :: .int i19 :: .ref m36 :: .int (nI wm) :: .ref m38 :: .ref m39 :: .ref m40 :: .int (nI bk) :: .ref m42 :: .ref m43 :: .ref m44 :: .ref m45 :: []))), (m3, .inl (cI, 8, .inl fm3)), (m4, .inl (cI, 8, .inl fm4)), (m5, .inl (cI, 8, .inl fm5)), (m7, .inl (cI, 4, .inl fm7)), (m8, .inl (cI, 4, .inl fm8)), (m9, .inl (cI, 4, .inl fm9)), (m10, .inl (cI, 34, .inl f16)), (m33, .inl (cI, 34, .inl f17))]) [0, 1, 2, 3, 4, 5, 6, 7, 8] rfl
        have hD9 := hD.sub (ws' := [(h0, .inr (11, (.int n0 :: .int n1 :: .int (nI nq) :: .ref m3 :: .ref m4 :: .ref m5 :: .int (nI nh) :: .ref m7 :: .ref m8 :: .ref m9 :: .ref m10 :: .int (nI sd) :: .ref m12 :: .int (nI tx) :: .int n14 :: .int (nI at9) :: .int n16 :: .int n17 :: .ref m18 :: .int (nI rq) :: .ref m20 :: .ref m21 :: .ref m22 :: .ref m23 :: .ref m24 :: .int (nI rh) :: .ref m26 :: .ref m27 :: .ref m28 :: .int (nI un) :: .ref m30 :: .int n31 :: .int n32 :: .ref m33 :: .int i18 :: .int i19 :: .ref m36 :: .int (nI wm) :: .ref m38 :: .ref m39 :: .ref m40 :: .int (nI bk) :: .ref m42 :: .ref m43 :: .ref m44 :: .ref m45 :: []))), (m3, .inl (cI, 8, .inl fm3)), (m4, .inl (cI, 8, .inl fm4)), (m5, .inl (cI, 8, .inl fm5)), (m7, .inl (cI, 4, .inl fm7)), (m8, .inl (cI, 4, .inl fm8)), (m9, .inl (cI, 4, .inl fm9)), (m10, .inl (cI, 34, .inl f16)), (m33, .inl (cI, 34, .inl f17))]) [0, 1, 2, 3, 4, 5, 6, 7, 8] (by decide +kernel) rfl
        exact W.iret (v := (-1)) hx hb hr (fun t ht hW => ⟨⟨(-1), (fun _ => 0), rfl, trivial, ⟨f16, f17, i18, i19, he20, va_hq ht hP9, hD9⟩⟩, hS.F ht⟩) hS.2.2 dX11_fastest_58
      ·
        refine lv_iload_n hx hb dX11_fastest_39 rfl (lv_at hl 3 rfl) ?_
        refine lv_iconst (v := (-1)) hx hb dX11_fastest_40 (by decide) ?_
        refine lv_icmp_eq (tgt := 59) hx hb dX11_fastest_41 (by decide) (fun c22 => ?_) (fun c22 => ?_)
        ·
          refine lv_aload_n hx hb dX11_fastest_59 rfl (lv_at hl 0 rfl) ?_
          refine va_get (D := (dC, dI)) (ci := 11) (v := .int i18) (C := RX11) (T := TX11) (N := 46) hx hb hts hi_X11 hown hK hP 0 rfl rfl 34 (by decide) (hts (.fieldLink RX11 284 "LeftQuillsModel" "fastCode" "I") (wmx 4 rfl)) (fun _ h9 => h9) rfl dX11_fastest_60 ?_
          refine lv_iconst (v := 4) hx hb dX11_fastest_63 (by decide) ?_
          refine lv_iload_n hx hb dX11_fastest_64 rfl (lv_at hl 2 rfl) ?_
          refine lv_iconst (v := 1) hx hb dX11_fastest_65 (by decide) ?_
          refine lv_isub hx hb dX11_fastest_66 ?_
          refine lv_topi (fun z23 ez23 => ?_)
          refine lv_iload_n hx hb dX11_fastest_67 rfl (lv_at hl 3 rfl) ?_
          refine lv_isub hx hb dX11_fastest_68 ?_
          refine lv_topi (fun z24 ez24 => ?_)
          refine lv_imul hx hb dX11_fastest_69 ?_
          refine lv_topi (fun z25 ez25 => ?_)
          refine lv_ishr hx hb dX11_fastest_70 ?_
          refine lv_topi (fun z26 ez26 => ?_)
          refine lv_bipush (v := 15) hx hb dX11_fastest_71 (by decide) ?_
          refine lv_iand hx hb dX11_fastest_73 ?_
          refine lv_topi (fun z27 ez27 => ?_)
          obtain ⟨w28, hw28, ekw28⟩ := pk_andE z26 (m := 15) 4 (by decide)
          have hw28 : w28 < 16 := hw28
          obtain rfl : z27 = nI w28 := ez27.trans ekw28
          refine lv_istore (lv' := [(4, .int (nI w28)), (0, .ref h0), (1, .int (nI j4)), (2, .int (nI j11)), (3, .int q2)]) hx hb dX11_fastest_74 hl (by decide) rfl (fun ls hl => ?_)
          refine lv_iload_n hx hb dX11_fastest_76 rfl (lv_at hl 4 rfl) ?_
          refine lv_iconst (v := (-1)) hx hb dX11_fastest_77 (by decide) ?_
          refine lv_icmp_ne (tgt := 88) hx hb dX11_fastest_78 (by decide) (fun c29 => ?_) (fun c29 => ?_)
          ·
            refine lv_iload hx hb dX11_fastest_88 (lv_at hl 0 rfl) ?_
            refine lv_iconst (v := 2) hx hb dX11_fastest_90 (by decide) ?_
            refine lv_idiv hx hb dX11_fastest_91 (by decide) ?_
            refine lv_topi (fun z30 ez30 => ?_)
            obtain rfl : z30 = nI (w28 / 2) := ez30.trans (pk_div (a := w28) (d := 2) (by omega) (by omega) (by omega))
            refine lv_bipush (v := 10) hx hb dX11_fastest_92 (by decide) ?_
            refine lv_iload hx hb dX11_fastest_94 (lv_at hl 0 rfl) ?_
            refine lv_iconst (v := 2) hx hb dX11_fastest_96 (by decide) ?_
            refine lv_irem hx hb dX11_fastest_97 (by decide) ?_
            refine lv_topi (fun z31 ez31 => ?_)
            obtain rfl : z31 = nI (w28 % 2) := ez31.trans (pk_rem (a := w28) (d := 2) (by omega) (by omega) (by omega))
            refine lv_imul hx hb dX11_fastest_98 ?_
            refine lv_topi (fun z32 ez32 => ?_)
            obtain rfl : z32 = nI (10 * (w28 % 2)) := ez32.trans (pk_mul 10 (w28 % 2))
            refine lv_iadd hx hb dX11_fastest_99 ?_
            refine lv_topi (fun z33 ez33 => ?_)
            obtain rfl : z33 = nI ((w28 / 2) + (10 * (w28 % 2))) := ez33.trans (nI_add (w28 / 2) (10 * (w28 % 2)))
            have hP9 := hP.sub (ws' := [(h0, .inr (11, (.int n0 :: .int n1 :: .int (nI nq) :: .ref m3 :: .ref m4 :: .ref m5 :: .int (nI nh) :: .ref m7 :: .ref m8 :: .ref m9 :: .ref m10 :: .int (nI sd) :: .ref m12 :: .int (nI tx) :: .int n14 :: .int (nI at9) :: .int n16 :: .int n17 :: .ref m18 :: .int (nI rq) :: .ref m20 :: .ref m21 :: .ref m22 :: .ref m23 :: .ref m24 :: .int (nI rh) :: .ref m26 :: .ref m27 :: .ref m28 :: .int (nI un) :: .ref m30 :: .int n31 :: .int n32 :: .ref m33 :: .int i18 :: .int i19 :: .ref m36 :: .int (nI wm) :: .ref m38 :: .ref m39 :: .ref m40 :: .int (nI bk) :: .ref m42 :: .ref m43 :: .ref m44 :: .ref m45 :: []))), (m3, .inl (cI, 8, .inl fm3)), (m4, .inl (cI, 8, .inl fm4)), (m5, .inl (cI, 8, .inl fm5)), (m7, .inl (cI, 4, .inl fm7)), (m8, .inl (cI, 4, .inl fm8)), (m9, .inl (cI, 4, .inl fm9)), (m10, .inl (cI, 34, .inl f16)), (m33, .inl (cI, 34, .inl f17))]) [0, 1, 2, 3, 4, 5, 6, 7, 8] rfl
            have hD9 := hD.sub (ws' := [(h0, .inr (11, (.int n0 :: .int n1 :: .int (nI nq) :: .ref m3 :: .ref m4 :: .ref m5 :: .int (nI nh) :: .ref m7 :: .ref m8 :: .ref m9 :: .ref m10 :: .int (nI sd) :: .ref m12 :: .int (nI tx) :: .int n14 :: .int (nI at9) :: .int n16 :: .int n17 :: .ref m18 :: .int (nI rq) :: .ref m20 :: .ref m21 :: .ref m22 :: .ref m23 :: .ref m24 :: .int (nI rh) :: .ref m26 :: .ref m27 :: .ref m28 :: .int (nI un) :: .ref m30 :: .int n31 :: .int n32 :: .ref m33 :: .int i18 :: .int i19 :: .ref m36 :: .int (nI wm) :: .ref m38 :: .ref m39 :: .ref m40 :: .int (nI bk) :: .ref m42 :: .ref m43 :: .ref m44 :: .ref m45 :: []))), (m3, .inl (cI, 8, .inl fm3)), (m4, .inl (cI, 8, .inl fm4)), (m5, .inl (cI, 8, .inl fm5)), (m7, .inl (cI, 4, .inl fm7)), (m8, .inl (cI, 4, .inl fm8)), (m9, .inl (cI, 4, .inl fm9)), (m10, .inl (cI, 34, .inl f16)), (m33, .inl (cI, 34, .inl f17))]) [0, 1, 2, 3, 4, 5, 6, 7, 8] (by decide +kernel) rfl
            exact W.iret (v := nI ((w28 / 2) + (10 * (w28 % 2)))) hx hb hr (fun t ht hW => ⟨⟨nI ((w28 / 2) + (10 * (w28 % 2))), (fun _ => 0), rfl, trivial, ⟨f16, f17, i18, i19, he20, va_hq ht hP9, hD9⟩⟩, hS.F ht⟩) hS.2.2 dX11_fastest_100
          ·
            refine lv_aload_n hx hb dX11_fastest_81 rfl (lv_at hl 1 rfl) ?_
            refine va_get (D := (dC, dI)) (ci := 11) (v := .int i19) (C := RX11) (T := TX11) (N := 46) hx hb hts hi_X11 hown hK hP 0 rfl rfl 35 (by decide) (hts (.fieldLink RX11 288 "LeftQuillsModel" "fastMinutes" "I") (wmx 5 rfl)) (fun _ h9 => h9) rfl dX11_fastest_82 ?_
            refine lv_goto (tgt := 100) hx hb dX11_fastest_85 (by decide) ?_
            have hP9 := hP.sub (ws' := [(h0, .inr (11, (.int n0 :: .int n1 :: .int (nI nq) :: .ref m3 :: .ref m4 :: .ref m5 :: .int (nI nh) :: .ref m7 :: .ref m8 :: .ref m9 :: .ref m10 :: .int (nI sd) :: .ref m12 :: .int (nI tx) :: .int n14 :: .int (nI at9) :: .int n16 :: .int n17 :: .ref m18 :: .int (nI rq) :: .ref m20 :: .ref m21 :: .ref m22 :: .ref m23 :: .ref m24 :: .int (nI rh) :: .ref m26 :: .ref m27 :: .ref m28 :: .int (nI un) :: .ref m30 :: .int n31 :: .int n32 :: .ref m33 :: .int i18 :: .int i19 :: .ref m36 :: .int (nI wm) :: .ref m38 :: .ref m39 :: .ref m40 :: .int (nI bk) :: .ref m42 :: .ref m43 :: .ref m44 :: .ref m45 :: []))), (m3, .inl (cI, 8, .inl fm3)), (m4, .inl (cI, 8, .inl fm4)), (m5, .inl (cI, 8, .inl fm5)), (m7, .inl (cI, 4, .inl fm7)), (m8, .inl (cI, 4, .inl fm8)), (m9, .inl (cI, 4, .inl fm9)), (m10, .inl (cI, 34, .inl f16)), (m33, .inl (cI, 34, .inl f17))]) [0, 1, 2, 3, 4, 5, 6, 7, 8] rfl
            have hD9 := hD.sub (ws' := [(h0, .inr (11, (.int n0 :: .int n1 :: .int (nI nq) :: .ref m3 :: .ref m4 :: .ref m5 :: .int (nI nh) :: .ref m7 :: .ref m8 :: .ref m9 :: .ref m10 :: .int (nI sd) :: .ref m12 :: .int (nI tx) :: .int n14 :: .int (nI at9) :: .int n16 :: .int n17 :: .ref m18 :: .int (nI rq) :: .ref m20 :: .ref m21 :: .ref m22 :: .ref m23 :: .ref m24 :: .int (nI rh) :: .ref m26 :: .ref m27 :: .ref m28 :: .int (nI un) :: .ref m30 :: .int n31 :: .int n32 :: .ref m33 :: .int i18 :: .int i19 :: .ref m36 :: .int (nI wm) :: .ref m38 :: .ref m39 :: .ref m40 :: .int (nI bk) :: .ref m42 :: .ref m43 :: .ref m44 :: .ref m45 :: []))), (m3, .inl (cI, 8, .inl fm3)), (m4, .inl (cI, 8, .inl fm4)), (m5, .inl (cI, 8, .inl fm5)), (m7, .inl (cI, 4, .inl fm7)), (m8, .inl (cI, 4, .inl fm8)), (m9, .inl (cI, 4, .inl fm9)), (m10, .inl (cI, 34, .inl f16)), (m33, .inl (cI, 34, .inl f17))]) [0, 1, 2, 3, 4, 5, 6, 7, 8] (by decide +kernel) rfl
            exact W.iret (v := i19) hx hb hr (fun t ht hW => ⟨⟨i19, (fun _ => 0), rfl, trivial, ⟨f16, f17, i18, i19, he20, va_hq ht hP9, hD9⟩⟩, hS.F ht⟩) hS.2.2 dX11_fastest_100
        ·
          refine lv_iload_n hx hb dX11_fastest_44 rfl (lv_at hl 3 rfl) ?_
          refine lv_i2l hx hb dX11_fastest_45 rfl ?_
          refine lv_lconst (v := 0) hx hb dX11_fastest_46 (by decide) ?_
          refine lv_topl (fun z34 ez34 => ?_)
          obtain rfl : z34 = (0 : Int32).toInt64 := ez34.trans (by decide)
          refine lv_iload_n hx hb dX11_fastest_47 rfl (lv_at hl 2 rfl) ?_
          refine lv_iconst (v := 1) hx hb dX11_fastest_48 (by decide) ?_
          refine lv_isub hx hb dX11_fastest_49 ?_
          refine lv_topi (fun z35 ez35 => ?_)
          refine lv_i2l hx hb dX11_fastest_50 rfl ?_
          have hPc := hP.sub (ws' := []) [] rfl
          refine va_calli (va_runS (As := [.long q2.toInt64, .long ((0 : Int32).toInt64), .long z35.toInt64]) (rest := []) ⟨hx, hb, hml, hown, hts⟩ (c_X11_in l dC dI cI cZ cQ q2 0 z35 H.size ) (va_cwS 3 hts gX11_fastest_X11_in rfl rfl rfl (by decide +kernel) ⟨Nat.le_of_ble_eq_true rfl, Nat.le_of_ble_eq_true rfl⟩) (ps_R hK hPc) rfl rfl hl.1 rfl (lv_room (Nat.le_of_ble_eq_true rfl)) dX11_fastest_51 ⟨Nat.le_of_ble_eq_true rfl, Nat.le_of_ble_eq_true rfl⟩) hS (fun q _ h => False.elim h) (fun q h => False.elim h) (fun r36 u37 t H1 locs ht hvm hw38 hB hz1 hk1 hS => ?_)
          have hP := hP.kept (fun k q hk => hk1 q.1 (hP k q hk).lt (fun h => h))
          clear hz1 hk1 hPc
          generalize H1 = H at hP hS ht ⊢
          try dsimp only at hw38
          rcases hw38 with ⟨rfl, hw38⟩ | ⟨rfl, hw38⟩
          ·
            refine lv_if_ne (tgt := 59) hx hb dX11_fastest_54 (by decide) (fun c39 => ?_) (fun c39 => ?_)
            rotate_left
            · exact absurd c39 (by decide)
            clear c39
            refine lv_aload_n hx hb dX11_fastest_59 rfl (lv_at hl 0 rfl) ?_
            refine va_get (D := (dC, dI)) (ci := 11) (v := .int i18) (C := RX11) (T := TX11) (N := 46) hx hb hts hi_X11 hown hK hP 0 rfl rfl 34 (by decide) (hts (.fieldLink RX11 284 "LeftQuillsModel" "fastCode" "I") (wmx 4 rfl)) (fun _ h9 => h9) rfl dX11_fastest_60 ?_
            refine lv_iconst (v := 4) hx hb dX11_fastest_63 (by decide) ?_
            refine lv_iload_n hx hb dX11_fastest_64 rfl (lv_at hl 2 rfl) ?_
            refine lv_iconst (v := 1) hx hb dX11_fastest_65 (by decide) ?_
            refine lv_isub hx hb dX11_fastest_66 ?_
            refine lv_topi (fun z40 ez40 => ?_)
            refine lv_iload_n hx hb dX11_fastest_67 rfl (lv_at hl 3 rfl) ?_
            refine lv_isub hx hb dX11_fastest_68 ?_
            refine lv_topi (fun z41 ez41 => ?_)
            refine lv_imul hx hb dX11_fastest_69 ?_
            refine lv_topi (fun z42 ez42 => ?_)
            refine lv_ishr hx hb dX11_fastest_70 ?_
            refine lv_topi (fun z43 ez43 => ?_)
            refine lv_bipush (v := 15) hx hb dX11_fastest_71 (by decide) ?_
            refine lv_iand hx hb dX11_fastest_73 ?_
            refine lv_topi (fun z44 ez44 => ?_)
            obtain ⟨w45, hw45, ekw45⟩ := pk_andE z43 (m := 15) 4 (by decide)
            have hw45 : w45 < 16 := hw45
            obtain rfl : z44 = nI w45 := ez44.trans ekw45
            refine lv_istore (lv' := [(4, .int (nI w45)), (0, .ref h0), (1, .int (nI j4)), (2, .int (nI j11)), (3, .int q2)]) hx hb dX11_fastest_74 hl (by decide) rfl (fun ls hl => ?_)
            refine lv_iload_n hx hb dX11_fastest_76 rfl (lv_at hl 4 rfl) ?_
            refine lv_iconst (v := (-1)) hx hb dX11_fastest_77 (by decide) ?_
            refine lv_icmp_ne (tgt := 88) hx hb dX11_fastest_78 (by decide) (fun c46 => ?_) (fun c46 => ?_)
            ·
              refine lv_iload hx hb dX11_fastest_88 (lv_at hl 0 rfl) ?_
              refine lv_iconst (v := 2) hx hb dX11_fastest_90 (by decide) ?_
              refine lv_idiv hx hb dX11_fastest_91 (by decide) ?_
              refine lv_topi (fun z47 ez47 => ?_)
              obtain rfl : z47 = nI (w45 / 2) := ez47.trans (pk_div (a := w45) (d := 2) (by omega) (by omega) (by omega))
              refine lv_bipush (v := 10) hx hb dX11_fastest_92 (by decide) ?_
              refine lv_iload hx hb dX11_fastest_94 (lv_at hl 0 rfl) ?_
              refine lv_iconst (v := 2) hx hb dX11_fastest_96 (by decide) ?_
              refine lv_irem hx hb dX11_fastest_97 (by decide) ?_
              refine lv_topi (fun z48 ez48 => ?_)
              obtain rfl : z48 = nI (w45 % 2) := ez48.trans (pk_rem (a := w45) (d := 2) (by omega) (by omega) (by omega))
              refine lv_imul hx hb dX11_fastest_98 ?_
              refine lv_topi (fun z49 ez49 => ?_)
              obtain rfl : z49 = nI (10 * (w45 % 2)) := ez49.trans (pk_mul 10 (w45 % 2))
              refine lv_iadd hx hb dX11_fastest_99 ?_
              refine lv_topi (fun z50 ez50 => ?_)
              obtain rfl : z50 = nI ((w45 / 2) + (10 * (w45 % 2))) := ez50.trans (nI_add (w45 / 2) (10 * (w45 % 2)))
              have hP9 := hP.sub (ws' := [(h0, .inr (11, (.int n0 :: .int n1 :: .int (nI nq) :: .ref m3 :: .ref m4 :: .ref m5 :: .int (nI nh) :: .ref m7 :: .ref m8 :: .ref m9 :: .ref m10 :: .int (nI sd) :: .ref m12 :: .int (nI tx) :: .int n14 :: .int (nI at9) :: .int n16 :: .int n17 :: .ref m18 :: .int (nI rq) :: .ref m20 :: .ref m21 :: .ref m22 :: .ref m23 :: .ref m24 :: .int (nI rh) :: .ref m26 :: .ref m27 :: .ref m28 :: .int (nI un) :: .ref m30 :: .int n31 :: .int n32 :: .ref m33 :: .int i18 :: .int i19 :: .ref m36 :: .int (nI wm) :: .ref m38 :: .ref m39 :: .ref m40 :: .int (nI bk) :: .ref m42 :: .ref m43 :: .ref m44 :: .ref m45 :: []))), (m3, .inl (cI, 8, .inl fm3)), (m4, .inl (cI, 8, .inl fm4)), (m5, .inl (cI, 8, .inl fm5)), (m7, .inl (cI, 4, .inl fm7)), (m8, .inl (cI, 4, .inl fm8)), (m9, .inl (cI, 4, .inl fm9)), (m10, .inl (cI, 34, .inl f16)), (m33, .inl (cI, 34, .inl f17))]) [0, 1, 2, 3, 4, 5, 6, 7, 8] rfl
              have hD9 := hD.sub (ws' := [(h0, .inr (11, (.int n0 :: .int n1 :: .int (nI nq) :: .ref m3 :: .ref m4 :: .ref m5 :: .int (nI nh) :: .ref m7 :: .ref m8 :: .ref m9 :: .ref m10 :: .int (nI sd) :: .ref m12 :: .int (nI tx) :: .int n14 :: .int (nI at9) :: .int n16 :: .int n17 :: .ref m18 :: .int (nI rq) :: .ref m20 :: .ref m21 :: .ref m22 :: .ref m23 :: .ref m24 :: .int (nI rh) :: .ref m26 :: .ref m27 :: .ref m28 :: .int (nI un) :: .ref m30 :: .int n31 :: .int n32 :: .ref m33 :: .int i18 :: .int i19 :: .ref m36 :: .int (nI wm) :: .ref m38 :: .ref m39 :: .ref m40 :: .int (nI bk) :: .ref m42 :: .ref m43 :: .ref m44 :: .ref m45 :: []))), (m3, .inl (cI, 8, .inl fm3)), (m4, .inl (cI, 8, .inl fm4)), (m5, .inl (cI, 8, .inl fm5)), (m7, .inl (cI, 4, .inl fm7)), (m8, .inl (cI, 4, .inl fm8)), (m9, .inl (cI, 4, .inl fm9)), (m10, .inl (cI, 34, .inl f16)), (m33, .inl (cI, 34, .inl f17))]) [0, 1, 2, 3, 4, 5, 6, 7, 8] (by decide +kernel) rfl
              exact W.iret (v := nI ((w45 / 2) + (10 * (w45 % 2)))) hx hb hr (fun t ht hW => ⟨⟨nI ((w45 / 2) + (10 * (w45 % 2))), (fun _ => 0), rfl, trivial, ⟨f16, f17, i18, i19, he20, va_hq ht hP9, hD9⟩⟩, hS.F ht⟩) hS.2.2 dX11_fastest_100
            ·
              refine lv_aload_n hx hb dX11_fastest_81 rfl (lv_at hl 1 rfl) ?_
              refine va_get (D := (dC, dI)) (ci := 11) (v := .int i19) (C := RX11) (T := TX11) (N := 46) hx hb hts hi_X11 hown hK hP 0 rfl rfl 35 (by decide) (hts (.fieldLink RX11 288 "LeftQuillsModel" "fastMinutes" "I") (wmx 5 rfl)) (fun _ h9 => h9) rfl dX11_fastest_82 ?_
              refine lv_goto (tgt := 100) hx hb dX11_fastest_85 (by decide) ?_
              have hP9 := hP.sub (ws' := [(h0, .inr (11, (.int n0 :: .int n1 :: .int (nI nq) :: .ref m3 :: .ref m4 :: .ref m5 :: .int (nI nh) :: .ref m7 :: .ref m8 :: .ref m9 :: .ref m10 :: .int (nI sd) :: .ref m12 :: .int (nI tx) :: .int n14 :: .int (nI at9) :: .int n16 :: .int n17 :: .ref m18 :: .int (nI rq) :: .ref m20 :: .ref m21 :: .ref m22 :: .ref m23 :: .ref m24 :: .int (nI rh) :: .ref m26 :: .ref m27 :: .ref m28 :: .int (nI un) :: .ref m30 :: .int n31 :: .int n32 :: .ref m33 :: .int i18 :: .int i19 :: .ref m36 :: .int (nI wm) :: .ref m38 :: .ref m39 :: .ref m40 :: .int (nI bk) :: .ref m42 :: .ref m43 :: .ref m44 :: .ref m45 :: []))), (m3, .inl (cI, 8, .inl fm3)), (m4, .inl (cI, 8, .inl fm4)), (m5, .inl (cI, 8, .inl fm5)), (m7, .inl (cI, 4, .inl fm7)), (m8, .inl (cI, 4, .inl fm8)), (m9, .inl (cI, 4, .inl fm9)), (m10, .inl (cI, 34, .inl f16)), (m33, .inl (cI, 34, .inl f17))]) [0, 1, 2, 3, 4, 5, 6, 7, 8] rfl
              have hD9 := hD.sub (ws' := [(h0, .inr (11, (.int n0 :: .int n1 :: .int (nI nq) :: .ref m3 :: .ref m4 :: .ref m5 :: .int (nI nh) :: .ref m7 :: .ref m8 :: .ref m9 :: .ref m10 :: .int (nI sd) :: .ref m12 :: .int (nI tx) :: .int n14 :: .int (nI at9) :: .int n16 :: .int n17 :: .ref m18 :: .int (nI rq) :: .ref m20 :: .ref m21 :: .ref m22 :: .ref m23 :: .ref m24 :: .int (nI rh) :: .ref m26 :: .ref m27 :: .ref m28 :: .int (nI un) :: .ref m30 :: .int n31 :: .int n32 :: .ref m33 :: .int i18 :: .int i19 :: .ref m36 :: .int (nI wm) :: .ref m38 :: .ref m39 :: .ref m40 :: .int (nI bk) :: .ref m42 :: .ref m43 :: .ref m44 :: .ref m45 :: []))), (m3, .inl (cI, 8, .inl fm3)), (m4, .inl (cI, 8, .inl fm4)), (m5, .inl (cI, 8, .inl fm5)), (m7, .inl (cI, 4, .inl fm7)), (m8, .inl (cI, 4, .inl fm8)), (m9, .inl (cI, 4, .inl fm9)), (m10, .inl (cI, 34, .inl f16)), (m33, .inl (cI, 34, .inl f17))]) [0, 1, 2, 3, 4, 5, 6, 7, 8] (by decide +kernel) rfl
              exact W.iret (v := i19) hx hb hr (fun t ht hW => ⟨⟨i19, (fun _ => 0), rfl, trivial, ⟨f16, f17, i18, i19, he20, va_hq ht hP9, hD9⟩⟩, hS.F ht⟩) hS.2.2 dX11_fastest_100
          ·
            refine lv_if_ne (tgt := 59) hx hb dX11_fastest_54 (by decide) (fun c51 => ?_) (fun c51 => ?_)
            · exact absurd c51 (by decide)
            clear c51
            refine lv_iconst (v := (-1)) hx hb dX11_fastest_57 (by decide) ?_
            have hP9 := hP.sub (ws' := [(h0, .inr (11, (.int n0 :: .int n1 :: .int (nI nq) :: .ref m3 :: .ref m4 :: .ref m5 :: .int (nI nh) :: .ref m7 :: .ref m8 :: .ref m9 :: .ref m10 :: .int (nI sd) :: .ref m12 :: .int (nI tx) :: .int n14 :: .int (nI at9) :: .int n16 :: .int n17 :: .ref m18 :: .int (nI rq) :: .ref m20 :: .ref m21 :: .ref m22 :: .ref m23 :: .ref m24 :: .int (nI rh) :: .ref m26 :: .ref m27 :: .ref m28 :: .int (nI un) :: .ref m30 :: .int n31 :: .int n32 :: .ref m33 :: .int i18 :: .int i19 :: .ref m36 :: .int (nI wm) :: .ref m38 :: .ref m39 :: .ref m40 :: .int (nI bk) :: .ref m42 :: .ref m43 :: .ref m44 :: .ref m45 :: []))), (m3, .inl (cI, 8, .inl fm3)), (m4, .inl (cI, 8, .inl fm4)), (m5, .inl (cI, 8, .inl fm5)), (m7, .inl (cI, 4, .inl fm7)), (m8, .inl (cI, 4, .inl fm8)), (m9, .inl (cI, 4, .inl fm9)), (m10, .inl (cI, 34, .inl f16)), (m33, .inl (cI, 34, .inl f17))]) [0, 1, 2, 3, 4, 5, 6, 7, 8] rfl
            have hD9 := hD.sub (ws' := [(h0, .inr (11, (.int n0 :: .int n1 :: .int (nI nq) :: .ref m3 :: .ref m4 :: .ref m5 :: .int (nI nh) :: .ref m7 :: .ref m8 :: .ref m9 :: .ref m10 :: .int (nI sd) :: .ref m12 :: .int (nI tx) :: .int n14 :: .int (nI at9) :: .int n16 :: .int n17 :: .ref m18 :: .int (nI rq) :: .ref m20 :: .ref m21 :: .ref m22 :: .ref m23 :: .ref m24 :: .int (nI rh) :: .ref m26 :: .ref m27 :: .ref m28 :: .int (nI un) :: .ref m30 :: .int n31 :: .int n32 :: .ref m33 :: .int i18 :: .int i19 :: .ref m36 :: .int (nI wm) :: .ref m38 :: .ref m39 :: .ref m40 :: .int (nI bk) :: .ref m42 :: .ref m43 :: .ref m44 :: .ref m45 :: []))), (m3, .inl (cI, 8, .inl fm3)), (m4, .inl (cI, 8, .inl fm4)), (m5, .inl (cI, 8, .inl fm5)), (m7, .inl (cI, 4, .inl fm7)), (m8, .inl (cI, 4, .inl fm8)), (m9, .inl (cI, 4, .inl fm9)), (m10, .inl (cI, 34, .inl f16)), (m33, .inl (cI, 34, .inl f17))]) [0, 1, 2, 3, 4, 5, 6, 7, 8] (by decide +kernel) rfl
            exact W.iret (v := (-1)) hx hb hr (fun t ht hW => ⟨⟨(-1), (fun _ => 0), rfl, trivial, ⟨f16, f17, i18, i19, he20, va_hq ht hP9, hD9⟩⟩, hS.F ht⟩) hS.2.2 dX11_fastest_58
    ·
      refine lv_if_ne (tgt := 26) hx hb dX11_fastest_20 (by decide) (fun c52 => ?_) (fun c52 => ?_)
      · exact absurd c52 (by decide)
      clear c52
      refine lv_ldc (v := (-1000000002)) hx hb hown (hts (.constant RX11 111 (-1000000002)) (wmx 3 rfl)) dX11_fastest_23 ?_
      have hP9 := hP.sub (ws' := [(h0, .inr (11, (.int n0 :: .int n1 :: .int (nI nq) :: .ref m3 :: .ref m4 :: .ref m5 :: .int (nI nh) :: .ref m7 :: .ref m8 :: .ref m9 :: .ref m10 :: .int (nI sd) :: .ref m12 :: .int (nI tx) :: .int n14 :: .int (nI at9) :: .int n16 :: .int n17 :: .ref m18 :: .int (nI rq) :: .ref m20 :: .ref m21 :: .ref m22 :: .ref m23 :: .ref m24 :: .int (nI rh) :: .ref m26 :: .ref m27 :: .ref m28 :: .int (nI un) :: .ref m30 :: .int n31 :: .int n32 :: .ref m33 :: .int n34 :: .int n35 :: .ref m36 :: .int (nI wm) :: .ref m38 :: .ref m39 :: .ref m40 :: .int (nI bk) :: .ref m42 :: .ref m43 :: .ref m44 :: .ref m45 :: []))), (m3, .inl (cI, 8, .inl fm3)), (m4, .inl (cI, 8, .inl fm4)), (m5, .inl (cI, 8, .inl fm5)), (m7, .inl (cI, 4, .inl fm7)), (m8, .inl (cI, 4, .inl fm8)), (m9, .inl (cI, 4, .inl fm9)), (m10, .inl (cI, 34, .inl fm10)), (m33, .inl (cI, 34, .inl fm33))]) [0, 1, 2, 3, 4, 5, 6, 7, 8] rfl
      have hD9 := hD.sub (ws' := [(h0, .inr (11, (.int n0 :: .int n1 :: .int (nI nq) :: .ref m3 :: .ref m4 :: .ref m5 :: .int (nI nh) :: .ref m7 :: .ref m8 :: .ref m9 :: .ref m10 :: .int (nI sd) :: .ref m12 :: .int (nI tx) :: .int n14 :: .int (nI at9) :: .int n16 :: .int n17 :: .ref m18 :: .int (nI rq) :: .ref m20 :: .ref m21 :: .ref m22 :: .ref m23 :: .ref m24 :: .int (nI rh) :: .ref m26 :: .ref m27 :: .ref m28 :: .int (nI un) :: .ref m30 :: .int n31 :: .int n32 :: .ref m33 :: .int n34 :: .int n35 :: .ref m36 :: .int (nI wm) :: .ref m38 :: .ref m39 :: .ref m40 :: .int (nI bk) :: .ref m42 :: .ref m43 :: .ref m44 :: .ref m45 :: []))), (m3, .inl (cI, 8, .inl fm3)), (m4, .inl (cI, 8, .inl fm4)), (m5, .inl (cI, 8, .inl fm5)), (m7, .inl (cI, 4, .inl fm7)), (m8, .inl (cI, 4, .inl fm8)), (m9, .inl (cI, 4, .inl fm9)), (m10, .inl (cI, 34, .inl fm10)), (m33, .inl (cI, 34, .inl fm33))]) [0, 1, 2, 3, 4, 5, 6, 7, 8] (by decide +kernel) rfl
      exact W.iret (v := (-1000000002)) hx hb hr (fun t ht hW => ⟨⟨(-1000000002), (fun _ => 0), rfl, trivial, ⟨fm10, fm33, n34, n35, (fun i _ => rfl), va_hq ht hP9, hD9⟩⟩, hS.F ht⟩) hS.2.2 dX11_fastest_25
  ·
    refine lv_if_ne (tgt := 11) hx hb dX11_fastest_5 (by decide) (fun c53 => ?_) (fun c53 => ?_)
    · exact absurd c53 (by decide)
    clear c53
    refine lv_ldc (v := (-1000000001)) hx hb hown (hts (.constant RX11 188 (-1000000001)) (wmx 1 rfl)) dX11_fastest_8 ?_
    have hP9 := hP.sub (ws' := [(h0, .inr (11, (.int n0 :: .int n1 :: .int (nI nq) :: .ref m3 :: .ref m4 :: .ref m5 :: .int (nI nh) :: .ref m7 :: .ref m8 :: .ref m9 :: .ref m10 :: .int (nI sd) :: .ref m12 :: .int (nI tx) :: .int n14 :: .int (nI at9) :: .int n16 :: .int n17 :: .ref m18 :: .int (nI rq) :: .ref m20 :: .ref m21 :: .ref m22 :: .ref m23 :: .ref m24 :: .int (nI rh) :: .ref m26 :: .ref m27 :: .ref m28 :: .int (nI un) :: .ref m30 :: .int n31 :: .int n32 :: .ref m33 :: .int n34 :: .int n35 :: .ref m36 :: .int (nI wm) :: .ref m38 :: .ref m39 :: .ref m40 :: .int (nI bk) :: .ref m42 :: .ref m43 :: .ref m44 :: .ref m45 :: []))), (m3, .inl (cI, 8, .inl fm3)), (m4, .inl (cI, 8, .inl fm4)), (m5, .inl (cI, 8, .inl fm5)), (m7, .inl (cI, 4, .inl fm7)), (m8, .inl (cI, 4, .inl fm8)), (m9, .inl (cI, 4, .inl fm9)), (m10, .inl (cI, 34, .inl fm10)), (m33, .inl (cI, 34, .inl fm33))]) [0, 1, 2, 3, 4, 5, 6, 7, 8] rfl
    have hD9 := hD.sub (ws' := [(h0, .inr (11, (.int n0 :: .int n1 :: .int (nI nq) :: .ref m3 :: .ref m4 :: .ref m5 :: .int (nI nh) :: .ref m7 :: .ref m8 :: .ref m9 :: .ref m10 :: .int (nI sd) :: .ref m12 :: .int (nI tx) :: .int n14 :: .int (nI at9) :: .int n16 :: .int n17 :: .ref m18 :: .int (nI rq) :: .ref m20 :: .ref m21 :: .ref m22 :: .ref m23 :: .ref m24 :: .int (nI rh) :: .ref m26 :: .ref m27 :: .ref m28 :: .int (nI un) :: .ref m30 :: .int n31 :: .int n32 :: .ref m33 :: .int n34 :: .int n35 :: .ref m36 :: .int (nI wm) :: .ref m38 :: .ref m39 :: .ref m40 :: .int (nI bk) :: .ref m42 :: .ref m43 :: .ref m44 :: .ref m45 :: []))), (m3, .inl (cI, 8, .inl fm3)), (m4, .inl (cI, 8, .inl fm4)), (m5, .inl (cI, 8, .inl fm5)), (m7, .inl (cI, 4, .inl fm7)), (m8, .inl (cI, 4, .inl fm8)), (m9, .inl (cI, 4, .inl fm9)), (m10, .inl (cI, 34, .inl fm10)), (m33, .inl (cI, 34, .inl fm33))]) [0, 1, 2, 3, 4, 5, 6, 7, 8] (by decide +kernel) rfl
    exact W.iret (v := (-1000000001)) hx hb hr (fun t ht hW => ⟨⟨(-1000000001), (fun _ => 0), rfl, trivial, ⟨fm10, fm33, n34, n35, (fun i _ => rfl), va_hq ht hP9, hD9⟩⟩, hS.F ht⟩) hS.2.2 dX11_fastest_10
