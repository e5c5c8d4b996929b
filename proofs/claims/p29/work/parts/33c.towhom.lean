set_option maxHeartbeats 4000000 in
set_option maxRecDepth 100000 in
theorem c_X11_findGivenA (l : Launch) (dC : Nat → ClassId) (dI : Nat → Nat → Nat) (cI cZ cQ : ClassId) (h0 : Nat) (n0 : Int32) (n1 : Int32) (nq : Nat) (m3 : Nat) (m4 : Nat) (m5 : Nat) (nh : Nat) (m7 : Nat) (m8 : Nat) (m9 : Nat) (m10 : Nat) (sd : Nat) (m12 : Nat) (tx : Nat) (n14 : Int32) (at9 : Nat) (n16 : Int32) (n17 : Int32) (m18 : Nat) (rq : Nat) (m20 : Nat) (m21 : Nat) (m22 : Nat) (m23 : Nat) (m24 : Nat) (rh : Nat) (m26 : Nat) (m27 : Nat) (m28 : Nat) (un : Nat) (m30 : Nat) (n31 : Int32) (n32 : Int32) (m33 : Nat) (n34 : Int32) (n35 : Int32) (m36 : Nat) (wm : Nat) (m38 : Nat) (m39 : Nat) (m40 : Nat) (bk : Nat) (m42 : Nat) (m43 : Nat) (m44 : Nat) (m45 : Nat) (fm3 : Nat → Int32) (fm4 : Nat → Int32) (fm5 : Nat → Int32) (fm7 : Nat → Int32) (fm8 : Nat → Int32) (fm9 : Nat → Int32) (fm10 : Nat → Int32) (sz : Nat) (hnq : nq ≤ 8) (hci : cIn fm5 nq) (hnh : nh ≤ 4) : Met l yX11_findGiven wsX11_findGiven ({ frames := 5, cells := 0, slots := 0, locals := 157 }) (va_Pc [.ref h0] (fun U => U.heap.size = sz ∧ va_P (dC, dI) vwCl [(h0, .inr (11, (.int n0 :: .int n1 :: .int (nI nq) :: .ref m3 :: .ref m4 :: .ref m5 :: .int (nI nh) :: .ref m7 :: .ref m8 :: .ref m9 :: .ref m10 :: .int (nI sd) :: .ref m12 :: .int (nI tx) :: .int n14 :: .int (nI at9) :: .int n16 :: .int n17 :: .ref m18 :: .int (nI rq) :: .ref m20 :: .ref m21 :: .ref m22 :: .ref m23 :: .ref m24 :: .int (nI rh) :: .ref m26 :: .ref m27 :: .ref m28 :: .int (nI un) :: .ref m30 :: .int n31 :: .int n32 :: .ref m33 :: .int n34 :: .int n35 :: .ref m36 :: .int (nI wm) :: .ref m38 :: .ref m39 :: .ref m40 :: .int (nI bk) :: .ref m42 :: .ref m43 :: .ref m44 :: .ref m45 :: []))), (m3, .inl (cI, 8, .inl fm3)), (m4, .inl (cI, 8, .inl fm4)), (m5, .inl (cI, 8, .inl fm5)), (m7, .inl (cI, 4, .inl fm7)), (m8, .inl (cI, 4, .inl fm8)), (m9, .inl (cI, 4, .inl fm9)), (m10, .inl (cI, 34, .inl fm10))] U.heap ∧ va_K (dC, dI) vwCl (tys0 cI cZ cQ) U ∧ va_D (fun _ => True) [(h0, .inr (11, (.int n0 :: .int n1 :: .int (nI nq) :: .ref m3 :: .ref m4 :: .ref m5 :: .int (nI nh) :: .ref m7 :: .ref m8 :: .ref m9 :: .ref m10 :: .int (nI sd) :: .ref m12 :: .int (nI tx) :: .int n14 :: .int (nI at9) :: .int n16 :: .int n17 :: .ref m18 :: .int (nI rq) :: .ref m20 :: .ref m21 :: .ref m22 :: .ref m23 :: .ref m24 :: .int (nI rh) :: .ref m26 :: .ref m27 :: .ref m28 :: .int (nI un) :: .ref m30 :: .int n31 :: .int n32 :: .ref m33 :: .int n34 :: .int n35 :: .ref m36 :: .int (nI wm) :: .ref m38 :: .ref m39 :: .ref m40 :: .int (nI bk) :: .ref m42 :: .ref m43 :: .ref m44 :: .ref m45 :: []))), (m3, .inl (cI, 8, .inl fm3)), (m4, .inl (cI, 8, .inl fm4)), (m5, .inl (cI, 8, .inl fm5)), (m7, .inl (cI, 4, .inl fm7)), (m8, .inl (cI, 4, .inl fm8)), (m9, .inl (cI, 4, .inl fm9)), (m10, .inl (cI, 34, .inl fm10))])) (va_Qv (fun (u : Nat → Nat) => True) (fun (_ : Nat → Nat) (t : State) => ∃ (ii0 ii1 : Int32) , (nh = nh) ∧ va_P (dC, dI) vwCl [(h0, .inr (11, (.int n0 :: .int n1 :: .int (nI nq) :: .ref m3 :: .ref m4 :: .ref m5 :: .int (nI nh) :: .ref m7 :: .ref m8 :: .ref m9 :: .ref m10 :: .int (nI sd) :: .ref m12 :: .int (nI tx) :: .int n14 :: .int (nI at9) :: .int n16 :: .int n17 :: .ref m18 :: .int (nI rq) :: .ref m20 :: .ref m21 :: .ref m22 :: .ref m23 :: .ref m24 :: .int (nI rh) :: .ref m26 :: .ref m27 :: .ref m28 :: .int (nI un) :: .ref m30 :: .int ii0 :: .int ii1 :: .ref m33 :: .int n34 :: .int n35 :: .ref m36 :: .int (nI wm) :: .ref m38 :: .ref m39 :: .ref m40 :: .int (nI bk) :: .ref m42 :: .ref m43 :: .ref m44 :: .ref m45 :: []))), (m3, .inl (cI, 8, .inl fm3)), (m4, .inl (cI, 8, .inl fm4)), (m5, .inl (cI, 8, .inl fm5)), (m7, .inl (cI, 4, .inl fm7)), (m8, .inl (cI, 4, .inl fm8)), (m9, .inl (cI, 4, .inl fm9)), (m10, .inl (cI, 34, .inl fm10))] t.heap ∧ va_D (va_A [(h0, .inr (11, (.int n0 :: .int n1 :: .int (nI nq) :: .ref m3 :: .ref m4 :: .ref m5 :: .int (nI nh) :: .ref m7 :: .ref m8 :: .ref m9 :: .ref m10 :: .int (nI sd) :: .ref m12 :: .int (nI tx) :: .int n14 :: .int (nI at9) :: .int n16 :: .int n17 :: .ref m18 :: .int (nI rq) :: .ref m20 :: .ref m21 :: .ref m22 :: .ref m23 :: .ref m24 :: .int (nI rh) :: .ref m26 :: .ref m27 :: .ref m28 :: .int (nI un) :: .ref m30 :: .int n31 :: .int n32 :: .ref m33 :: .int n34 :: .int n35 :: .ref m36 :: .int (nI wm) :: .ref m38 :: .ref m39 :: .ref m40 :: .int (nI bk) :: .ref m42 :: .ref m43 :: .ref m44 :: .ref m45 :: []))), (m3, .inl (cI, 8, .inl fm3)), (m4, .inl (cI, 8, .inl fm4)), (m5, .inl (cI, 8, .inl fm5)), (m7, .inl (cI, 4, .inl fm7)), (m8, .inl (cI, 4, .inl fm8)), (m9, .inl (cI, 4, .inl fm9)), (m10, .inl (cI, 34, .inl fm10))] sz) [(h0, .inr (11, (.int n0 :: .int n1 :: .int (nI nq) :: .ref m3 :: .ref m4 :: .ref m5 :: .int (nI nh) :: .ref m7 :: .ref m8 :: .ref m9 :: .ref m10 :: .int (nI sd) :: .ref m12 :: .int (nI tx) :: .int n14 :: .int (nI at9) :: .int n16 :: .int n17 :: .ref m18 :: .int (nI rq) :: .ref m20 :: .ref m21 :: .ref m22 :: .ref m23 :: .ref m24 :: .int (nI rh) :: .ref m26 :: .ref m27 :: .ref m28 :: .int (nI un) :: .ref m30 :: .int ii0 :: .int ii1 :: .ref m33 :: .int n34 :: .int n35 :: .ref m36 :: .int (nI wm) :: .ref m38 :: .ref m39 :: .ref m40 :: .int (nI bk) :: .ref m42 :: .ref m43 :: .ref m44 :: .ref m45 :: []))), (m3, .inl (cI, 8, .inl fm3)), (m4, .inl (cI, 8, .inl fm4)), (m5, .inl (cI, 8, .inl fm5)), (m7, .inl (cI, 4, .inl fm7)), (m8, .inl (cI, 4, .inl fm8)), (m9, .inl (cI, 4, .inl fm9)), (m10, .inl (cI, 34, .inl fm10))]) (va_A [(h0, .inr (11, (.int n0 :: .int n1 :: .int (nI nq) :: .ref m3 :: .ref m4 :: .ref m5 :: .int (nI nh) :: .ref m7 :: .ref m8 :: .ref m9 :: .ref m10 :: .int (nI sd) :: .ref m12 :: .int (nI tx) :: .int n14 :: .int (nI at9) :: .int n16 :: .int n17 :: .ref m18 :: .int (nI rq) :: .ref m20 :: .ref m21 :: .ref m22 :: .ref m23 :: .ref m24 :: .int (nI rh) :: .ref m26 :: .ref m27 :: .ref m28 :: .int (nI un) :: .ref m30 :: .int n31 :: .int n32 :: .ref m33 :: .int n34 :: .int n35 :: .ref m36 :: .int (nI wm) :: .ref m38 :: .ref m39 :: .ref m40 :: .int (nI bk) :: .ref m42 :: .ref m43 :: .ref m44 :: .ref m45 :: []))), (m3, .inl (cI, 8, .inl fm3)), (m4, .inl (cI, 8, .inl fm4)), (m5, .inl (cI, 8, .inl fm5)), (m7, .inl (cI, 4, .inl fm7)), (m8, .inl (cI, 4, .inl fm8)), (m9, .inl (cI, 4, .inl fm9)), (m10, .inl (cI, 34, .inl fm10))] sz)) 0 0 (va_A [(h0, .inr (11, (.int n0 :: .int n1 :: .int (nI nq) :: .ref m3 :: .ref m4 :: .ref m5 :: .int (nI nh) :: .ref m7 :: .ref m8 :: .ref m9 :: .ref m10 :: .int (nI sd) :: .ref m12 :: .int (nI tx) :: .int n14 :: .int (nI at9) :: .int n16 :: .int n17 :: .ref m18 :: .int (nI rq) :: .ref m20 :: .ref m21 :: .ref m22 :: .ref m23 :: .ref m24 :: .int (nI rh) :: .ref m26 :: .ref m27 :: .ref m28 :: .int (nI un) :: .ref m30 :: .int n31 :: .int n32 :: .ref m33 :: .int n34 :: .int n35 :: .ref m36 :: .int (nI wm) :: .ref m38 :: .ref m39 :: .ref m40 :: .int (nI bk) :: .ref m42 :: .ref m43 :: .ref m44 :: .ref m45 :: []))), (m3, .inl (cI, 8, .inl fm3)), (m4, .inl (cI, 8, .inl fm4)), (m5, .inl (cI, 8, .inl fm5)), (m7, .inl (cI, 4, .inl fm7)), (m8, .inl (cI, 4, .inl fm8)), (m9, .inl (cI, 4, .inl fm9)), (m10, .inl (cI, 34, .inl fm10))] sz) := by
  refine Met.ofW (cc := cX11_findGiven) (maxL := 7) (ret := none) (by decide) rfl ?_
  intro p e s m args below meth c s₁ B hml hv
  obtain ⟨rfl, hsz, hP, hK, hD0⟩ := hv
  have hx := B.exec
  have hb := B.bytes
  have hr := B.returns
  have hts := atoms_spec (ws := wsX11_findGiven) B.pre
  have hown : s.vm.findClass RX11 = some m.cls := findClass_of_methodNamed B.named
  have hlocks := B.notSynchronized
  have hi_X11 : ∀ w ∈ u_ws RX11 TX11 46, w ∈ wsX11_findGiven := fun _ h => List.mem_cons_of_mem _ (List.mem_append_right _ (h))
  subst hsz
  have hD := hD0.self (sz := s.heap.size)
  generalize hAe : va_A [(h0, .inr (11, (.int n0 :: .int n1 :: .int (nI nq) :: .ref m3 :: .ref m4 :: .ref m5 :: .int (nI nh) :: .ref m7 :: .ref m8 :: .ref m9 :: .ref m10 :: .int (nI sd) :: .ref m12 :: .int (nI tx) :: .int n14 :: .int (nI at9) :: .int n16 :: .int n17 :: .ref m18 :: .int (nI rq) :: .ref m20 :: .ref m21 :: .ref m22 :: .ref m23 :: .ref m24 :: .int (nI rh) :: .ref m26 :: .ref m27 :: .ref m28 :: .int (nI un) :: .ref m30 :: .int n31 :: .int n32 :: .ref m33 :: .int n34 :: .int n35 :: .ref m36 :: .int (nI wm) :: .ref m38 :: .ref m39 :: .ref m40 :: .int (nI bk) :: .ref m42 :: .ref m43 :: .ref m44 :: .ref m45 :: []))), (m3, .inl (cI, 8, .inl fm3)), (m4, .inl (cI, 8, .inl fm4)), (m5, .inl (cI, 8, .inl fm5)), (m7, .inl (cI, 4, .inl fm7)), (m8, .inl (cI, 4, .inl fm8)), (m9, .inl (cI, 4, .inl fm9)), (m10, .inl (cI, 34, .inl fm10))] s.heap.size = A at hD ⊢
  have hA : ∀ q : Nat, s.heap.size ≤ q → A q := fun q h => by rw [← hAe]; exact Or.inr h
  have hS : va_S A s.heap s.heap [] := va_S.rf
  have hl := lv_entry ([.ref h0]) (n := 7) (Nat.le_of_ble_eq_true rfl)
  rw [lg_entry_eq]
  generalize (lg_sl ([.ref h0]) ++ List.replicate (7 - (lg_sl ([.ref h0])).length) Slot.unset).toArray = ls at hl ⊢
  have hl : lv_has ls 7 [(0, .ref h0)] := hl
  obtain ⟨n8, hn8, en8⟩ := x_N8 hnh
  refine lv_aload_n hx hb dX11_findGiven_0 rfl (lv_at hl 0 rfl) ?_
  refine lv_iconst (v := (-1)) hx hb dX11_findGiven_1 (by decide) ?_
  refine va_put (D := (dC, dI)) (ci := 11) (v := .int (-1)) (ty := .int) (C := RX11) (T := TX11) (N := 46) hx hb hts hi_X11 tyX11 tyX11_ok nmX11 hown hK hP hD hS 0 rfl rfl 31 (by decide) (hts (.fieldLink RX11 269 "LeftQuillsModel" "given" "I") (wmx 1 rfl)) (fun _ h9 => h9) rfl (by decide +kernel) rfl rfl (Nat.le_of_ble_eq_true rfl) dX11_findGiven_2 (fun H locs hP hD hS => ?_)
  have hPD : pdW (dC, dI) vwCl A [(h0, .inr (11, (.int n0 :: .int n1 :: .int (nI nq) :: .ref m3 :: .ref m4 :: .ref m5 :: .int (nI nh) :: .ref m7 :: .ref m8 :: .ref m9 :: .ref m10 :: .int (nI sd) :: .ref m12 :: .int (nI tx) :: .int n14 :: .int (nI at9) :: .int n16 :: .int n17 :: .ref m18 :: .int (nI rq) :: .ref m20 :: .ref m21 :: .ref m22 :: .ref m23 :: .ref m24 :: .int (nI rh) :: .ref m26 :: .ref m27 :: .ref m28 :: .int (nI un) :: .ref m30 :: .int (-1) :: .int n32 :: .ref m33 :: .int n34 :: .int n35 :: .ref m36 :: .int (nI wm) :: .ref m38 :: .ref m39 :: .ref m40 :: .int (nI bk) :: .ref m42 :: .ref m43 :: .ref m44 :: .ref m45 :: []))), (m3, .inl (cI, 8, .inl fm3)), (m4, .inl (cI, 8, .inl fm4)), (m5, .inl (cI, 8, .inl fm5)), (m7, .inl (cI, 4, .inl fm7)), (m8, .inl (cI, 4, .inl fm8)), (m9, .inl (cI, 4, .inl fm9)), (m10, .inl (cI, 34, .inl fm10))] H := ⟨hP, hD⟩
  have hP := hPD.1
  have hD := hPD.2
  clear hPD
  refine lv_aload_n hx hb dX11_findGiven_5 rfl (lv_at hl 0 rfl) ?_
  refine lv_iconst (v := (-1)) hx hb dX11_findGiven_6 (by decide) ?_
  refine va_put (D := (dC, dI)) (ci := 11) (v := .int (-1)) (ty := .int) (C := RX11) (T := TX11) (N := 46) hx hb hts hi_X11 tyX11 tyX11_ok nmX11 hown hK hP hD hS 0 rfl rfl 32 (by decide) (hts (.fieldLink RX11 272 "LeftQuillsModel" "givenMost" "I") (wmx 2 rfl)) (fun _ h9 => h9) rfl (by decide +kernel) rfl rfl (Nat.le_of_ble_eq_true rfl) dX11_findGiven_7 (fun H locs hP hD hS => ?_)
  have hPD : pdW (dC, dI) vwCl A [(h0, .inr (11, (.int n0 :: .int n1 :: .int (nI nq) :: .ref m3 :: .ref m4 :: .ref m5 :: .int (nI nh) :: .ref m7 :: .ref m8 :: .ref m9 :: .ref m10 :: .int (nI sd) :: .ref m12 :: .int (nI tx) :: .int n14 :: .int (nI at9) :: .int n16 :: .int n17 :: .ref m18 :: .int (nI rq) :: .ref m20 :: .ref m21 :: .ref m22 :: .ref m23 :: .ref m24 :: .int (nI rh) :: .ref m26 :: .ref m27 :: .ref m28 :: .int (nI un) :: .ref m30 :: .int (-1) :: .int (-1) :: .ref m33 :: .int n34 :: .int n35 :: .ref m36 :: .int (nI wm) :: .ref m38 :: .ref m39 :: .ref m40 :: .int (nI bk) :: .ref m42 :: .ref m43 :: .ref m44 :: .ref m45 :: []))), (m3, .inl (cI, 8, .inl fm3)), (m4, .inl (cI, 8, .inl fm4)), (m5, .inl (cI, 8, .inl fm5)), (m7, .inl (cI, 4, .inl fm7)), (m8, .inl (cI, 4, .inl fm8)), (m9, .inl (cI, 4, .inl fm9)), (m10, .inl (cI, 34, .inl fm10))] H := ⟨hP, hD⟩
  have hP := hPD.1
  have hD := hPD.2
  clear hPD
  refine lv_iconst (v := 0) hx hb dX11_findGiven_10 (by decide) ?_
  refine lv_istore_n (lv' := [(1, .int 0), (0, .ref h0)]) hx hb dX11_findGiven_11 rfl hl (by decide) rfl (fun ls hl => ?_)
  refine (fun (K : ∀ (d12 : Nat) (k12 : Nat) (i12_h0_31 : Int32) (i12_h0_32 : Int32) (H : Heap) (locs : List Loc) (ls : Array Slot), k12 + d12 = n8 → va_P (dC, dI) vwCl [(h0, .inr (11, (.int n0 :: .int n1 :: .int (nI nq) :: .ref m3 :: .ref m4 :: .ref m5 :: .int (nI nh) :: .ref m7 :: .ref m8 :: .ref m9 :: .ref m10 :: .int (nI sd) :: .ref m12 :: .int (nI tx) :: .int n14 :: .int (nI at9) :: .int n16 :: .int n17 :: .ref m18 :: .int (nI rq) :: .ref m20 :: .ref m21 :: .ref m22 :: .ref m23 :: .ref m24 :: .int (nI rh) :: .ref m26 :: .ref m27 :: .ref m28 :: .int (nI un) :: .ref m30 :: .int i12_h0_31 :: .int i12_h0_32 :: .ref m33 :: .int n34 :: .int n35 :: .ref m36 :: .int (nI wm) :: .ref m38 :: .ref m39 :: .ref m40 :: .int (nI bk) :: .ref m42 :: .ref m43 :: .ref m44 :: .ref m45 :: []))), (m3, .inl (cI, 8, .inl fm3)), (m4, .inl (cI, 8, .inl fm4)), (m5, .inl (cI, 8, .inl fm5)), (m7, .inl (cI, 4, .inl fm7)), (m8, .inl (cI, 4, .inl fm8)), (m9, .inl (cI, 4, .inl fm9)), (m10, .inl (cI, 34, .inl fm10))] H → va_D A [(h0, .inr (11, (.int n0 :: .int n1 :: .int (nI nq) :: .ref m3 :: .ref m4 :: .ref m5 :: .int (nI nh) :: .ref m7 :: .ref m8 :: .ref m9 :: .ref m10 :: .int (nI sd) :: .ref m12 :: .int (nI tx) :: .int n14 :: .int (nI at9) :: .int n16 :: .int n17 :: .ref m18 :: .int (nI rq) :: .ref m20 :: .ref m21 :: .ref m22 :: .ref m23 :: .ref m24 :: .int (nI rh) :: .ref m26 :: .ref m27 :: .ref m28 :: .int (nI un) :: .ref m30 :: .int i12_h0_31 :: .int i12_h0_32 :: .ref m33 :: .int n34 :: .int n35 :: .ref m36 :: .int (nI wm) :: .ref m38 :: .ref m39 :: .ref m40 :: .int (nI bk) :: .ref m42 :: .ref m43 :: .ref m44 :: .ref m45 :: []))), (m3, .inl (cI, 8, .inl fm3)), (m4, .inl (cI, 8, .inl fm4)), (m5, .inl (cI, 8, .inl fm5)), (m7, .inl (cI, 4, .inl fm7)), (m8, .inl (cI, 4, .inl fm8)), (m9, .inl (cI, 4, .inl fm9)), (m10, .inl (cI, 34, .inl fm10))] → va_S A s.heap H locs → lv_has ls 7 [(1, .int (nI k12)), (0, .ref h0)] → W p l e _ s m _ below meth c H locs _ _ _ (F0 m 12 ls [])) => K n8 0 (-1) (-1) _ _ _ (by omega) hP hD hS (lv_sub hl [0, 1] rfl)) ?_
  intro d12
  induction d12 with
  | zero =>
    intro k12 i12_h0_31 i12_h0_32 H locs ls hk12 hP hD hS hl
    refine lv_iload_n hx hb dX11_findGiven_12 rfl (lv_at hl 0 rfl) ?_
    refine lv_iconst (v := 1) hx hb dX11_findGiven_13 (by decide) ?_
    refine lv_iconst (v := 3) hx hb dX11_findGiven_14 (by decide) ?_
    refine lv_aload_n hx hb dX11_findGiven_15 rfl (lv_at hl 1 rfl) ?_
    refine va_get (D := (dC, dI)) (ci := 11) (v := .int (nI nh)) (C := RX11) (T := TX11) (N := 46) hx hb hts hi_X11 hown hK hP 0 rfl rfl 6 (by decide) (hts (.fieldLink RX11 106 "LeftQuillsModel" "hands" "I") (wmx 3 rfl)) (fun _ h9 => h9) rfl dX11_findGiven_16 ?_
    refine lv_imul hx hb dX11_findGiven_19 ?_
    refine lv_topi (fun z1 ez1 => ?_)
    obtain rfl : z1 = nI (3 * nh) := ez1.trans (pk_mul 3 nh)
    refine lv_ishl hx hb dX11_findGiven_20 ?_
    refine lv_topi (fun z2 ez2 => ?_)
    obtain rfl : z2 = nI n8 := ez2.trans en8
    refine lv_icmp_ge (tgt := 174) hx hb dX11_findGiven_21 (by decide) (fun c3 => ?_) (fun c3 => ?_)
    ·
      have c3 : n8 ≤ k12 := (nI_leI (a := n8) (b := k12) (by omega) (by omega)).mp c3
      have hP9 := hP.sub (ws' := [(h0, .inr (11, (.int n0 :: .int n1 :: .int (nI nq) :: .ref m3 :: .ref m4 :: .ref m5 :: .int (nI nh) :: .ref m7 :: .ref m8 :: .ref m9 :: .ref m10 :: .int (nI sd) :: .ref m12 :: .int (nI tx) :: .int n14 :: .int (nI at9) :: .int n16 :: .int n17 :: .ref m18 :: .int (nI rq) :: .ref m20 :: .ref m21 :: .ref m22 :: .ref m23 :: .ref m24 :: .int (nI rh) :: .ref m26 :: .ref m27 :: .ref m28 :: .int (nI un) :: .ref m30 :: .int i12_h0_31 :: .int i12_h0_32 :: .ref m33 :: .int n34 :: .int n35 :: .ref m36 :: .int (nI wm) :: .ref m38 :: .ref m39 :: .ref m40 :: .int (nI bk) :: .ref m42 :: .ref m43 :: .ref m44 :: .ref m45 :: []))), (m3, .inl (cI, 8, .inl fm3)), (m4, .inl (cI, 8, .inl fm4)), (m5, .inl (cI, 8, .inl fm5)), (m7, .inl (cI, 4, .inl fm7)), (m8, .inl (cI, 4, .inl fm8)), (m9, .inl (cI, 4, .inl fm9)), (m10, .inl (cI, 34, .inl fm10))]) [0, 1, 2, 3, 4, 5, 6, 7] rfl
      have hD9 := hD.sub (ws' := [(h0, .inr (11, (.int n0 :: .int n1 :: .int (nI nq) :: .ref m3 :: .ref m4 :: .ref m5 :: .int (nI nh) :: .ref m7 :: .ref m8 :: .ref m9 :: .ref m10 :: .int (nI sd) :: .ref m12 :: .int (nI tx) :: .int n14 :: .int (nI at9) :: .int n16 :: .int n17 :: .ref m18 :: .int (nI rq) :: .ref m20 :: .ref m21 :: .ref m22 :: .ref m23 :: .ref m24 :: .int (nI rh) :: .ref m26 :: .ref m27 :: .ref m28 :: .int (nI un) :: .ref m30 :: .int i12_h0_31 :: .int i12_h0_32 :: .ref m33 :: .int n34 :: .int n35 :: .ref m36 :: .int (nI wm) :: .ref m38 :: .ref m39 :: .ref m40 :: .int (nI bk) :: .ref m42 :: .ref m43 :: .ref m44 :: .ref m45 :: []))), (m3, .inl (cI, 8, .inl fm3)), (m4, .inl (cI, 8, .inl fm4)), (m5, .inl (cI, 8, .inl fm5)), (m7, .inl (cI, 4, .inl fm7)), (m8, .inl (cI, 4, .inl fm8)), (m9, .inl (cI, 4, .inl fm9)), (m10, .inl (cI, 34, .inl fm10))]) [0, 1, 2, 3, 4, 5, 6, 7] (by decide +kernel) rfl
      exact W.vret hx hb hr (fun t ht hW => ⟨⟨(fun _ => 0), rfl, trivial, ⟨i12_h0_31, i12_h0_32, rfl, va_hq ht hP9, hD9⟩⟩, hS.F ht⟩) hS.2.2 dX11_findGiven_174
    ·
      have c3 : ¬ n8 ≤ k12 := fun h => c3 ((nI_leI (a := n8) (b := k12) (by omega) (by omega)).mpr h)
      omega
  | succ d12 ih12 =>
    intro k12 i12_h0_31 i12_h0_32 H locs ls hk12 hP hD hS hl
    refine lv_iload_n hx hb dX11_findGiven_12 rfl (lv_at hl 0 rfl) ?_
    refine lv_iconst (v := 1) hx hb dX11_findGiven_13 (by decide) ?_
    refine lv_iconst (v := 3) hx hb dX11_findGiven_14 (by decide) ?_
    refine lv_aload_n hx hb dX11_findGiven_15 rfl (lv_at hl 1 rfl) ?_
    refine va_get (D := (dC, dI)) (ci := 11) (v := .int (nI nh)) (C := RX11) (T := TX11) (N := 46) hx hb hts hi_X11 hown hK hP 0 rfl rfl 6 (by decide) (hts (.fieldLink RX11 106 "LeftQuillsModel" "hands" "I") (wmx 3 rfl)) (fun _ h9 => h9) rfl dX11_findGiven_16 ?_
    refine lv_imul hx hb dX11_findGiven_19 ?_
    refine lv_topi (fun z4 ez4 => ?_)
    obtain rfl : z4 = nI (3 * nh) := ez4.trans (pk_mul 3 nh)
    refine lv_ishl hx hb dX11_findGiven_20 ?_
    refine lv_topi (fun z5 ez5 => ?_)
    obtain rfl : z5 = nI n8 := ez5.trans en8
    refine lv_icmp_ge (tgt := 174) hx hb dX11_findGiven_21 (by decide) (fun c6 => ?_) (fun c6 => ?_)
    ·
      have c6 : n8 ≤ k12 := (nI_leI (a := n8) (b := k12) (by omega) (by omega)).mp c6
      omega
    ·
      have c6 : ¬ n8 ≤ k12 := fun h => c6 ((nI_leI (a := n8) (b := k12) (by omega) (by omega)).mpr h)
      refine lv_iconst (v := 0) hx hb dX11_findGiven_24 (by decide) ?_
      refine lv_istore_n (lv' := [(2, .int 0), (1, .int (nI k12)), (0, .ref h0)]) hx hb dX11_findGiven_25 rfl hl (by decide) rfl (fun ls hl => ?_)
      refine lv_iconst (v := 0) hx hb dX11_findGiven_26 (by decide) ?_
      refine lv_istore_n (lv' := [(3, .int 0), (2, .int 0), (1, .int (nI k12)), (0, .ref h0)]) hx hb dX11_findGiven_27 rfl hl (by decide) rfl (fun ls hl => ?_)
      refine lv_iconst (v := 1) hx hb dX11_findGiven_28 (by decide) ?_
      refine lv_istore (lv' := [(4, .int 1), (3, .int 0), (2, .int 0), (1, .int (nI k12)), (0, .ref h0)]) hx hb dX11_findGiven_29 hl (by decide) rfl (fun ls hl => ?_)
      refine lv_iconst (v := 0) hx hb dX11_findGiven_31 (by decide) ?_
      refine lv_istore (lv' := [(5, .int 0), (4, .int 1), (3, .int 0), (2, .int 0), (1, .int (nI k12)), (0, .ref h0)]) hx hb dX11_findGiven_32 hl (by decide) rfl (fun ls hl => ?_)
      refine (fun (K : ∀ (d34 : Nat) (k34 : Nat) (a34_2 : Int32) (a34_3 : Int32) (a34_4 : Nat) (H : Heap) (locs : List Loc) (ls : Array Slot), k34 + d34 = nh → a34_4 ≤ 1 → va_P (dC, dI) vwCl [(h0, .inr (11, (.int n0 :: .int n1 :: .int (nI nq) :: .ref m3 :: .ref m4 :: .ref m5 :: .int (nI nh) :: .ref m7 :: .ref m8 :: .ref m9 :: .ref m10 :: .int (nI sd) :: .ref m12 :: .int (nI tx) :: .int n14 :: .int (nI at9) :: .int n16 :: .int n17 :: .ref m18 :: .int (nI rq) :: .ref m20 :: .ref m21 :: .ref m22 :: .ref m23 :: .ref m24 :: .int (nI rh) :: .ref m26 :: .ref m27 :: .ref m28 :: .int (nI un) :: .ref m30 :: .int i12_h0_31 :: .int i12_h0_32 :: .ref m33 :: .int n34 :: .int n35 :: .ref m36 :: .int (nI wm) :: .ref m38 :: .ref m39 :: .ref m40 :: .int (nI bk) :: .ref m42 :: .ref m43 :: .ref m44 :: .ref m45 :: []))), (m3, .inl (cI, 8, .inl fm3)), (m4, .inl (cI, 8, .inl fm4)), (m5, .inl (cI, 8, .inl fm5)), (m7, .inl (cI, 4, .inl fm7)), (m8, .inl (cI, 4, .inl fm8)), (m9, .inl (cI, 4, .inl fm9)), (m10, .inl (cI, 34, .inl fm10))] H → va_D A [(h0, .inr (11, (.int n0 :: .int n1 :: .int (nI nq) :: .ref m3 :: .ref m4 :: .ref m5 :: .int (nI nh) :: .ref m7 :: .ref m8 :: .ref m9 :: .ref m10 :: .int (nI sd) :: .ref m12 :: .int (nI tx) :: .int n14 :: .int (nI at9) :: .int n16 :: .int n17 :: .ref m18 :: .int (nI rq) :: .ref m20 :: .ref m21 :: .ref m22 :: .ref m23 :: .ref m24 :: .int (nI rh) :: .ref m26 :: .ref m27 :: .ref m28 :: .int (nI un) :: .ref m30 :: .int i12_h0_31 :: .int i12_h0_32 :: .ref m33 :: .int n34 :: .int n35 :: .ref m36 :: .int (nI wm) :: .ref m38 :: .ref m39 :: .ref m40 :: .int (nI bk) :: .ref m42 :: .ref m43 :: .ref m44 :: .ref m45 :: []))), (m3, .inl (cI, 8, .inl fm3)), (m4, .inl (cI, 8, .inl fm4)), (m5, .inl (cI, 8, .inl fm5)), (m7, .inl (cI, 4, .inl fm7)), (m8, .inl (cI, 4, .inl fm8)), (m9, .inl (cI, 4, .inl fm9)), (m10, .inl (cI, 34, .inl fm10))] → va_S A s.heap H locs → lv_has ls 7 [(5, .int (nI k34)), (2, .int a34_2), (3, .int a34_3), (4, .int (nI a34_4)), (1, .int (nI k12)), (0, .ref h0)] → W p l e _ s m _ below meth c H locs _ _ _ (F0 m 34 ls [])) => K nh 0 0 0 1 _ _ _ (by omega) (by omega) hP hD hS (lv_sub hl [0, 3, 2, 1, 4, 5] rfl)) ?_
      intro d34
      induction d34 with
      | zero =>
        intro k34 a34_2 a34_3 a34_4 H locs ls hk34 hn34_4 hP hD hS hl
        refine lv_iload hx hb dX11_findGiven_34 (lv_at hl 0 rfl) ?_
        refine lv_aload_n hx hb dX11_findGiven_36 rfl (lv_at hl 5 rfl) ?_
        refine va_get (D := (dC, dI)) (ci := 11) (v := .int (nI nh)) (C := RX11) (T := TX11) (N := 46) hx hb hts hi_X11 hown hK hP 0 rfl rfl 6 (by decide) (hts (.fieldLink RX11 106 "LeftQuillsModel" "hands" "I") (wmx 3 rfl)) (fun _ h9 => h9) rfl dX11_findGiven_37 ?_
        refine lv_icmp_ge (tgt := 118) hx hb dX11_findGiven_40 (by decide) (fun c7 => ?_) (fun c7 => ?_)
        ·
          have c7 : nh ≤ k34 := (nI_leI (a := nh) (b := k34) (by omega) (by omega)).mp c7
          refine lv_aload_n hx hb dX11_findGiven_118 rfl (lv_at hl 5 rfl) ?_
          refine lv_iload hx hb dX11_findGiven_119 (lv_at hl 3 rfl) ?_
          refine lv_if_eq (tgt := 136) hx hb dX11_findGiven_121 (by decide) (fun c8 => ?_) (fun c8 => ?_)
          ·
            have c8 : a34_4 = 0 := (nI_eq (a := a34_4) (b := 0) (by omega) (by omega)).mp c8
            refine lv_aload_n hx hb dX11_findGiven_136 rfl (lv_at hl 5 rfl) ?_
            refine va_get (D := (dC, dI)) (ci := 11) (v := .int i12_h0_31) (C := RX11) (T := TX11) (N := 46) hx hb hts hi_X11 hown hK hP 0 rfl rfl 31 (by decide) (hts (.fieldLink RX11 269 "LeftQuillsModel" "given" "I") (wmx 1 rfl)) (fun _ h9 => h9) rfl dX11_findGiven_137 ?_
            refine va_put (D := (dC, dI)) (ci := 11) (v := .int i12_h0_31) (ty := .int) (C := RX11) (T := TX11) (N := 46) hx hb hts hi_X11 tyX11 tyX11_ok nmX11 hown hK hP hD hS 0 rfl rfl 31 (by decide) (hts (.fieldLink RX11 269 "LeftQuillsModel" "given" "I") (wmx 1 rfl)) (fun _ h9 => h9) rfl (by decide +kernel) rfl rfl (Nat.le_of_ble_eq_true rfl) dX11_findGiven_140 (fun H locs hP hD hS => ?_)
            have hPD : pdW (dC, dI) vwCl A [(h0, .inr (11, (.int n0 :: .int n1 :: .int (nI nq) :: .ref m3 :: .ref m4 :: .ref m5 :: .int (nI nh) :: .ref m7 :: .ref m8 :: .ref m9 :: .ref m10 :: .int (nI sd) :: .ref m12 :: .int (nI tx) :: .int n14 :: .int (nI at9) :: .int n16 :: .int n17 :: .ref m18 :: .int (nI rq) :: .ref m20 :: .ref m21 :: .ref m22 :: .ref m23 :: .ref m24 :: .int (nI rh) :: .ref m26 :: .ref m27 :: .ref m28 :: .int (nI un) :: .ref m30 :: .int i12_h0_31 :: .int i12_h0_32 :: .ref m33 :: .int n34 :: .int n35 :: .ref m36 :: .int (nI wm) :: .ref m38 :: .ref m39 :: .ref m40 :: .int (nI bk) :: .ref m42 :: .ref m43 :: .ref m44 :: .ref m45 :: []))), (m3, .inl (cI, 8, .inl fm3)), (m4, .inl (cI, 8, .inl fm4)), (m5, .inl (cI, 8, .inl fm5)), (m7, .inl (cI, 4, .inl fm7)), (m8, .inl (cI, 4, .inl fm8)), (m9, .inl (cI, 4, .inl fm9)), (m10, .inl (cI, 34, .inl fm10))] H := ⟨hP, hD⟩
            have hP := hPD.1
            have hD := hPD.2
            clear hPD
            refine lv_aload_n hx hb dX11_findGiven_143 rfl (lv_at hl 5 rfl) ?_
            refine lv_iload hx hb dX11_findGiven_144 (lv_at hl 3 rfl) ?_
            refine lv_if_eq (tgt := 161) hx hb dX11_findGiven_146 (by decide) (fun c9 => ?_) (fun c9 => ?_)
            ·
              have c9 : a34_4 = 0 := (nI_eq (a := a34_4) (b := 0) (by omega) (by omega)).mp c9
              refine lv_aload_n hx hb dX11_findGiven_161 rfl (lv_at hl 5 rfl) ?_
              refine va_get (D := (dC, dI)) (ci := 11) (v := .int i12_h0_32) (C := RX11) (T := TX11) (N := 46) hx hb hts hi_X11 hown hK hP 0 rfl rfl 32 (by decide) (hts (.fieldLink RX11 272 "LeftQuillsModel" "givenMost" "I") (wmx 2 rfl)) (fun _ h9 => h9) rfl dX11_findGiven_162 ?_
              refine va_put (D := (dC, dI)) (ci := 11) (v := .int i12_h0_32) (ty := .int) (C := RX11) (T := TX11) (N := 46) hx hb hts hi_X11 tyX11 tyX11_ok nmX11 hown hK hP hD hS 0 rfl rfl 32 (by decide) (hts (.fieldLink RX11 272 "LeftQuillsModel" "givenMost" "I") (wmx 2 rfl)) (fun _ h9 => h9) rfl (by decide +kernel) rfl rfl (Nat.le_of_ble_eq_true rfl) dX11_findGiven_165 (fun H locs hP hD hS => ?_)
              have hPD : pdW (dC, dI) vwCl A [(h0, .inr (11, (.int n0 :: .int n1 :: .int (nI nq) :: .ref m3 :: .ref m4 :: .ref m5 :: .int (nI nh) :: .ref m7 :: .ref m8 :: .ref m9 :: .ref m10 :: .int (nI sd) :: .ref m12 :: .int (nI tx) :: .int n14 :: .int (nI at9) :: .int n16 :: .int n17 :: .ref m18 :: .int (nI rq) :: .ref m20 :: .ref m21 :: .ref m22 :: .ref m23 :: .ref m24 :: .int (nI rh) :: .ref m26 :: .ref m27 :: .ref m28 :: .int (nI un) :: .ref m30 :: .int i12_h0_31 :: .int i12_h0_32 :: .ref m33 :: .int n34 :: .int n35 :: .ref m36 :: .int (nI wm) :: .ref m38 :: .ref m39 :: .ref m40 :: .int (nI bk) :: .ref m42 :: .ref m43 :: .ref m44 :: .ref m45 :: []))), (m3, .inl (cI, 8, .inl fm3)), (m4, .inl (cI, 8, .inl fm4)), (m5, .inl (cI, 8, .inl fm5)), (m7, .inl (cI, 4, .inl fm7)), (m8, .inl (cI, 4, .inl fm8)), (m9, .inl (cI, 4, .inl fm9)), (m10, .inl (cI, 34, .inl fm10))] H := ⟨hP, hD⟩
              have hP := hPD.1
              have hD := hPD.2
              clear hPD
              refine lv_iinc (v := nI (k12 + 1)) (lv' := [(1, .int (nI (k12 + 1))), (5, .int (nI k34)), (2, .int a34_2), (3, .int a34_3), (4, .int (nI a34_4)), (0, .ref h0)]) hx hb dX11_findGiven_168 hl (k := 4) rfl ((rfl : nI k12 + Int32.ofInt 1 = nI k12 + 1).trans (nI_add k12 1)) (by decide) rfl (fun ls hl => ?_)
              refine lv_goto (tgt := 12) hx hb dX11_findGiven_171 (by decide) ?_
              exact ih12 (k12 + 1) i12_h0_31 i12_h0_32 _ _ _ (by omega) hP hD hS (lv_sub hl [0, 5] rfl)
            ·
              have c9 : ¬ a34_4 = 0 := fun h => c9 ((nI_eq (a := a34_4) (b := 0) (by omega) (by omega)).mpr h)
              refine lv_iload_n hx hb dX11_findGiven_149 rfl (lv_at hl 2 rfl) ?_
              refine lv_aload_n hx hb dX11_findGiven_150 rfl (lv_at hl 5 rfl) ?_
              refine va_get (D := (dC, dI)) (ci := 11) (v := .int i12_h0_32) (C := RX11) (T := TX11) (N := 46) hx hb hts hi_X11 hown hK hP 0 rfl rfl 32 (by decide) (hts (.fieldLink RX11 272 "LeftQuillsModel" "givenMost" "I") (wmx 2 rfl)) (fun _ h9 => h9) rfl dX11_findGiven_151 ?_
              refine lv_icmp_le (tgt := 161) hx hb dX11_findGiven_154 (by decide) (fun c10 => ?_) (fun c10 => ?_)
              ·
                refine lv_aload_n hx hb dX11_findGiven_161 rfl (lv_at hl 5 rfl) ?_
                refine va_get (D := (dC, dI)) (ci := 11) (v := .int i12_h0_32) (C := RX11) (T := TX11) (N := 46) hx hb hts hi_X11 hown hK hP 0 rfl rfl 32 (by decide) (hts (.fieldLink RX11 272 "LeftQuillsModel" "givenMost" "I") (wmx 2 rfl)) (fun _ h9 => h9) rfl dX11_findGiven_162 ?_
                refine va_put (D := (dC, dI)) (ci := 11) (v := .int i12_h0_32) (ty := .int) (C := RX11) (T := TX11) (N := 46) hx hb hts hi_X11 tyX11 tyX11_ok nmX11 hown hK hP hD hS 0 rfl rfl 32 (by decide) (hts (.fieldLink RX11 272 "LeftQuillsModel" "givenMost" "I") (wmx 2 rfl)) (fun _ h9 => h9) rfl (by decide +kernel) rfl rfl (Nat.le_of_ble_eq_true rfl) dX11_findGiven_165 (fun H locs hP hD hS => ?_)
                have hPD : pdW (dC, dI) vwCl A [(h0, .inr (11, (.int n0 :: .int n1 :: .int (nI nq) :: .ref m3 :: .ref m4 :: .ref m5 :: .int (nI nh) :: .ref m7 :: .ref m8 :: .ref m9 :: .ref m10 :: .int (nI sd) :: .ref m12 :: .int (nI tx) :: .int n14 :: .int (nI at9) :: .int n16 :: .int n17 :: .ref m18 :: .int (nI rq) :: .ref m20 :: .ref m21 :: .ref m22 :: .ref m23 :: .ref m24 :: .int (nI rh) :: .ref m26 :: .ref m27 :: .ref m28 :: .int (nI un) :: .ref m30 :: .int i12_h0_31 :: .int i12_h0_32 :: .ref m33 :: .int n34 :: .int n35 :: .ref m36 :: .int (nI wm) :: .ref m38 :: .ref m39 :: .ref m40 :: .int (nI bk) :: .ref m42 :: .ref m43 :: .ref m44 :: .ref m45 :: []))), (m3, .inl (cI, 8, .inl fm3)), (m4, .inl (cI, 8, .inl fm4)), (m5, .inl (cI, 8, .inl fm5)), (m7, .inl (cI, 4, .inl fm7)), (m8, .inl (cI, 4, .inl fm8)), (m9, .inl (cI, 4, .inl fm9)), (m10, .inl (cI, 34, .inl fm10))] H := ⟨hP, hD⟩
                have hP := hPD.1
                have hD := hPD.2
                clear hPD
                refine lv_iinc (v := nI (k12 + 1)) (lv' := [(1, .int (nI (k12 + 1))), (5, .int (nI k34)), (2, .int a34_2), (3, .int a34_3), (4, .int (nI a34_4)), (0, .ref h0)]) hx hb dX11_findGiven_168 hl (k := 4) rfl ((rfl : nI k12 + Int32.ofInt 1 = nI k12 + 1).trans (nI_add k12 1)) (by decide) rfl (fun ls hl => ?_)
                refine lv_goto (tgt := 12) hx hb dX11_findGiven_171 (by decide) ?_
                exact ih12 (k12 + 1) i12_h0_31 i12_h0_32 _ _ _ (by omega) hP hD hS (lv_sub hl [0, 5] rfl)
              ·
                refine lv_iload_n hx hb dX11_findGiven_157 rfl (lv_at hl 2 rfl) ?_
                refine lv_goto (tgt := 165) hx hb dX11_findGiven_158 (by decide) ?_
                refine va_put (D := (dC, dI)) (ci := 11) (v := .int a34_3) (ty := .int) (C := RX11) (T := TX11) (N := 46) hx hb hts hi_X11 tyX11 tyX11_ok nmX11 hown hK hP hD hS 0 rfl rfl 32 (by decide) (hts (.fieldLink RX11 272 "LeftQuillsModel" "givenMost" "I") (wmx 2 rfl)) (fun _ h9 => h9) rfl (by decide +kernel) rfl rfl (Nat.le_of_ble_eq_true rfl) dX11_findGiven_165 (fun H locs hP hD hS => ?_)
                have hPD : pdW (dC, dI) vwCl A [(h0, .inr (11, (.int n0 :: .int n1 :: .int (nI nq) :: .ref m3 :: .ref m4 :: .ref m5 :: .int (nI nh) :: .ref m7 :: .ref m8 :: .ref m9 :: .ref m10 :: .int (nI sd) :: .ref m12 :: .int (nI tx) :: .int n14 :: .int (nI at9) :: .int n16 :: .int n17 :: .ref m18 :: .int (nI rq) :: .ref m20 :: .ref m21 :: .ref m22 :: .ref m23 :: .ref m24 :: .int (nI rh) :: .ref m26 :: .ref m27 :: .ref m28 :: .int (nI un) :: .ref m30 :: .int i12_h0_31 :: .int a34_3 :: .ref m33 :: .int n34 :: .int n35 :: .ref m36 :: .int (nI wm) :: .ref m38 :: .ref m39 :: .ref m40 :: .int (nI bk) :: .ref m42 :: .ref m43 :: .ref m44 :: .ref m45 :: []))), (m3, .inl (cI, 8, .inl fm3)), (m4, .inl (cI, 8, .inl fm4)), (m5, .inl (cI, 8, .inl fm5)), (m7, .inl (cI, 4, .inl fm7)), (m8, .inl (cI, 4, .inl fm8)), (m9, .inl (cI, 4, .inl fm9)), (m10, .inl (cI, 34, .inl fm10))] H := ⟨hP, hD⟩
                have hP := hPD.1
                have hD := hPD.2
                clear hPD
                refine lv_iinc (v := nI (k12 + 1)) (lv' := [(1, .int (nI (k12 + 1))), (5, .int (nI k34)), (2, .int a34_2), (3, .int a34_3), (4, .int (nI a34_4)), (0, .ref h0)]) hx hb dX11_findGiven_168 hl (k := 4) rfl ((rfl : nI k12 + Int32.ofInt 1 = nI k12 + 1).trans (nI_add k12 1)) (by decide) rfl (fun ls hl => ?_)
                refine lv_goto (tgt := 12) hx hb dX11_findGiven_171 (by decide) ?_
                exact ih12 (k12 + 1) i12_h0_31 a34_3 _ _ _ (by omega) hP hD hS (lv_sub hl [0, 5] rfl)
          ·
            have c8 : ¬ a34_4 = 0 := fun h => c8 ((nI_eq (a := a34_4) (b := 0) (by omega) (by omega)).mpr h)
            refine lv_iload_n hx hb dX11_findGiven_124 rfl (lv_at hl 2 rfl) ?_
            refine lv_aload_n hx hb dX11_findGiven_125 rfl (lv_at hl 5 rfl) ?_
            refine va_get (D := (dC, dI)) (ci := 11) (v := .int i12_h0_32) (C := RX11) (T := TX11) (N := 46) hx hb hts hi_X11 hown hK hP 0 rfl rfl 32 (by decide) (hts (.fieldLink RX11 272 "LeftQuillsModel" "givenMost" "I") (wmx 2 rfl)) (fun _ h9 => h9) rfl dX11_findGiven_126 ?_
            refine lv_icmp_le (tgt := 136) hx hb dX11_findGiven_129 (by decide) (fun c11 => ?_) (fun c11 => ?_)
            ·
              refine lv_aload_n hx hb dX11_findGiven_136 rfl (lv_at hl 5 rfl) ?_
              refine va_get (D := (dC, dI)) (ci := 11) (v := .int i12_h0_31) (C := RX11) (T := TX11) (N := 46) hx hb hts hi_X11 hown hK hP 0 rfl rfl 31 (by decide) (hts (.fieldLink RX11 269 "LeftQuillsModel" "given" "I") (wmx 1 rfl)) (fun _ h9 => h9) rfl dX11_findGiven_137 ?_
              refine va_put (D := (dC, dI)) (ci := 11) (v := .int i12_h0_31) (ty := .int) (C := RX11) (T := TX11) (N := 46) hx hb hts hi_X11 tyX11 tyX11_ok nmX11 hown hK hP hD hS 0 rfl rfl 31 (by decide) (hts (.fieldLink RX11 269 "LeftQuillsModel" "given" "I") (wmx 1 rfl)) (fun _ h9 => h9) rfl (by decide +kernel) rfl rfl (Nat.le_of_ble_eq_true rfl) dX11_findGiven_140 (fun H locs hP hD hS => ?_)
              have hPD : pdW (dC, dI) vwCl A [(h0, .inr (11, (.int n0 :: .int n1 :: .int (nI nq) :: .ref m3 :: .ref m4 :: .ref m5 :: .int (nI nh) :: .ref m7 :: .ref m8 :: .ref m9 :: .ref m10 :: .int (nI sd) :: .ref m12 :: .int (nI tx) :: .int n14 :: .int (nI at9) :: .int n16 :: .int n17 :: .ref m18 :: .int (nI rq) :: .ref m20 :: .ref m21 :: .ref m22 :: .ref m23 :: .ref m24 :: .int (nI rh) :: .ref m26 :: .ref m27 :: .ref m28 :: .int (nI un) :: .ref m30 :: .int i12_h0_31 :: .int i12_h0_32 :: .ref m33 :: .int n34 :: .int n35 :: .ref m36 :: .int (nI wm) :: .ref m38 :: .ref m39 :: .ref m40 :: .int (nI bk) :: .ref m42 :: .ref m43 :: .ref m44 :: .ref m45 :: []))), (m3, .inl (cI, 8, .inl fm3)), (m4, .inl (cI, 8, .inl fm4)), (m5, .inl (cI, 8, .inl fm5)), (m7, .inl (cI, 4, .inl fm7)), (m8, .inl (cI, 4, .inl fm8)), (m9, .inl (cI, 4, .inl fm9)), (m10, .inl (cI, 34, .inl fm10))] H := ⟨hP, hD⟩
              have hP := hPD.1
              have hD := hPD.2
              clear hPD
              refine lv_aload_n hx hb dX11_findGiven_143 rfl (lv_at hl 5 rfl) ?_
              refine lv_iload hx hb dX11_findGiven_144 (lv_at hl 3 rfl) ?_
              refine lv_if_eq (tgt := 161) hx hb dX11_findGiven_146 (by decide) (fun c12 => ?_) (fun c12 => ?_)
              ·
                have c12 : a34_4 = 0 := (nI_eq (a := a34_4) (b := 0) (by omega) (by omega)).mp c12
                refine lv_aload_n hx hb dX11_findGiven_161 rfl (lv_at hl 5 rfl) ?_
                refine va_get (D := (dC, dI)) (ci := 11) (v := .int i12_h0_32) (C := RX11) (T := TX11) (N := 46) hx hb hts hi_X11 hown hK hP 0 rfl rfl 32 (by decide) (hts (.fieldLink RX11 272 "LeftQuillsModel" "givenMost" "I") (wmx 2 rfl)) (fun _ h9 => h9) rfl dX11_findGiven_162 ?_
                refine va_put (D := (dC, dI)) (ci := 11) (v := .int i12_h0_32) (ty := .int) (C := RX11) (T := TX11) (N := 46) hx hb hts hi_X11 tyX11 tyX11_ok nmX11 hown hK hP hD hS 0 rfl rfl 32 (by decide) (hts (.fieldLink RX11 272 "LeftQuillsModel" "givenMost" "I") (wmx 2 rfl)) (fun _ h9 => h9) rfl (by decide +kernel) rfl rfl (Nat.le_of_ble_eq_true rfl) dX11_findGiven_165 (fun H locs hP hD hS => ?_)
                have hPD : pdW (dC, dI) vwCl A [(h0, .inr (11, (.int n0 :: .int n1 :: .int (nI nq) :: .ref m3 :: .ref m4 :: .ref m5 :: .int (nI nh) :: .ref m7 :: .ref m8 :: .ref m9 :: .ref m10 :: .int (nI sd) :: .ref m12 :: .int (nI tx) :: .int n14 :: .int (nI at9) :: .int n16 :: .int n17 :: .ref m18 :: .int (nI rq) :: .ref m20 :: .ref m21 :: .ref m22 :: .ref m23 :: .ref m24 :: .int (nI rh) :: .ref m26 :: .ref m27 :: .ref m28 :: .int (nI un) :: .ref m30 :: .int i12_h0_31 :: .int i12_h0_32 :: .ref m33 :: .int n34 :: .int n35 :: .ref m36 :: .int (nI wm) :: .ref m38 :: .ref m39 :: .ref m40 :: .int (nI bk) :: .ref m42 :: .ref m43 :: .ref m44 :: .ref m45 :: []))), (m3, .inl (cI, 8, .inl fm3)), (m4, .inl (cI, 8, .inl fm4)), (m5, .inl (cI, 8, .inl fm5)), (m7, .inl (cI, 4, .inl fm7)), (m8, .inl (cI, 4, .inl fm8)), (m9, .inl (cI, 4, .inl fm9)), (m10, .inl (cI, 34, .inl fm10))] H := ⟨hP, hD⟩
                have hP := hPD.1
                have hD := hPD.2
                clear hPD
                refine lv_iinc (v := nI (k12 + 1)) (lv' := [(1, .int (nI (k12 + 1))), (5, .int (nI k34)), (2, .int a34_2), (3, .int a34_3), (4, .int (nI a34_4)), (0, .ref h0)]) hx hb dX11_findGiven_168 hl (k := 4) rfl ((rfl : nI k12 + Int32.ofInt 1 = nI k12 + 1).trans (nI_add k12 1)) (by decide) rfl (fun ls hl => ?_)
                refine lv_goto (tgt := 12) hx hb dX11_findGiven_171 (by decide) ?_
                exact ih12 (k12 + 1) i12_h0_31 i12_h0_32 _ _ _ (by omega) hP hD hS (lv_sub hl [0, 5] rfl)
              ·
                have c12 : ¬ a34_4 = 0 := fun h => c12 ((nI_eq (a := a34_4) (b := 0) (by omega) (by omega)).mpr h)
                refine lv_iload_n hx hb dX11_findGiven_149 rfl (lv_at hl 2 rfl) ?_
                refine lv_aload_n hx hb dX11_findGiven_150 rfl (lv_at hl 5 rfl) ?_
                refine va_get (D := (dC, dI)) (ci := 11) (v := .int i12_h0_32) (C := RX11) (T := TX11) (N := 46) hx hb hts hi_X11 hown hK hP 0 rfl rfl 32 (by decide) (hts (.fieldLink RX11 272 "LeftQuillsModel" "givenMost" "I") (wmx 2 rfl)) (fun _ h9 => h9) rfl dX11_findGiven_151 ?_
                refine lv_icmp_le (tgt := 161) hx hb dX11_findGiven_154 (by decide) (fun c13 => ?_) (fun c13 => ?_)
                ·
                  refine lv_aload_n hx hb dX11_findGiven_161 rfl (lv_at hl 5 rfl) ?_
                  refine va_get (D := (dC, dI)) (ci := 11) (v := .int i12_h0_32) (C := RX11) (T := TX11) (N := 46) hx hb hts hi_X11 hown hK hP 0 rfl rfl 32 (by decide) (hts (.fieldLink RX11 272 "LeftQuillsModel" "givenMost" "I") (wmx 2 rfl)) (fun _ h9 => h9) rfl dX11_findGiven_162 ?_
                  refine va_put (D := (dC, dI)) (ci := 11) (v := .int i12_h0_32) (ty := .int) (C := RX11) (T := TX11) (N := 46) hx hb hts hi_X11 tyX11 tyX11_ok nmX11 hown hK hP hD hS 0 rfl rfl 32 (by decide) (hts (.fieldLink RX11 272 "LeftQuillsModel" "givenMost" "I") (wmx 2 rfl)) (fun _ h9 => h9) rfl (by decide +kernel) rfl rfl (Nat.le_of_ble_eq_true rfl) dX11_findGiven_165 (fun H locs hP hD hS => ?_)
                  have hPD : pdW (dC, dI) vwCl A [(h0, .inr (11, (.int n0 :: .int n1 :: .int (nI nq) :: .ref m3 :: .ref m4 :: .ref m5 :: .int (nI nh) :: .ref m7 :: .ref m8 :: .ref m9 :: .ref m10 :: .int (nI sd) :: .ref m12 :: .int (nI tx) :: .int n14 :: .int (nI at9) :: .int n16 :: .int n17 :: .ref m18 :: .int (nI rq) :: .ref m20 :: .ref m21 :: .ref m22 :: .ref m23 :: .ref m24 :: .int (nI rh) :: .ref m26 :: .ref m27 :: .ref m28 :: .int (nI un) :: .ref m30 :: .int i12_h0_31 :: .int i12_h0_32 :: .ref m33 :: .int n34 :: .int n35 :: .ref m36 :: .int (nI wm) :: .ref m38 :: .ref m39 :: .ref m40 :: .int (nI bk) :: .ref m42 :: .ref m43 :: .ref m44 :: .ref m45 :: []))), (m3, .inl (cI, 8, .inl fm3)), (m4, .inl (cI, 8, .inl fm4)), (m5, .inl (cI, 8, .inl fm5)), (m7, .inl (cI, 4, .inl fm7)), (m8, .inl (cI, 4, .inl fm8)), (m9, .inl (cI, 4, .inl fm9)), (m10, .inl (cI, 34, .inl fm10))] H := ⟨hP, hD⟩
                  have hP := hPD.1
                  have hD := hPD.2
                  clear hPD
                  refine lv_iinc (v := nI (k12 + 1)) (lv' := [(1, .int (nI (k12 + 1))), (5, .int (nI k34)), (2, .int a34_2), (3, .int a34_3), (4, .int (nI a34_4)), (0, .ref h0)]) hx hb dX11_findGiven_168 hl (k := 4) rfl ((rfl : nI k12 + Int32.ofInt 1 = nI k12 + 1).trans (nI_add k12 1)) (by decide) rfl (fun ls hl => ?_)
                  refine lv_goto (tgt := 12) hx hb dX11_findGiven_171 (by decide) ?_
                  exact ih12 (k12 + 1) i12_h0_31 i12_h0_32 _ _ _ (by omega) hP hD hS (lv_sub hl [0, 5] rfl)
                ·
                  refine lv_iload_n hx hb dX11_findGiven_157 rfl (lv_at hl 2 rfl) ?_
                  refine lv_goto (tgt := 165) hx hb dX11_findGiven_158 (by decide) ?_
                  refine va_put (D := (dC, dI)) (ci := 11) (v := .int a34_3) (ty := .int) (C := RX11) (T := TX11) (N := 46) hx hb hts hi_X11 tyX11 tyX11_ok nmX11 hown hK hP hD hS 0 rfl rfl 32 (by decide) (hts (.fieldLink RX11 272 "LeftQuillsModel" "givenMost" "I") (wmx 2 rfl)) (fun _ h9 => h9) rfl (by decide +kernel) rfl rfl (Nat.le_of_ble_eq_true rfl) dX11_findGiven_165 (fun H locs hP hD hS => ?_)
                  have hPD : pdW (dC, dI) vwCl A [(h0, .inr (11, (.int n0 :: .int n1 :: .int (nI nq) :: .ref m3 :: .ref m4 :: .ref m5 :: .int (nI nh) :: .ref m7 :: .ref m8 :: .ref m9 :: .ref m10 :: .int (nI sd) :: .ref m12 :: .int (nI tx) :: .int n14 :: .int (nI at9) :: .int n16 :: .int n17 :: .ref m18 :: .int (nI rq) :: .ref m20 :: .ref m21 :: .ref m22 :: .ref m23 :: .ref m24 :: .int (nI rh) :: .ref m26 :: .ref m27 :: .ref m28 :: .int (nI un) :: .ref m30 :: .int i12_h0_31 :: .int a34_3 :: .ref m33 :: .int n34 :: .int n35 :: .ref m36 :: .int (nI wm) :: .ref m38 :: .ref m39 :: .ref m40 :: .int (nI bk) :: .ref m42 :: .ref m43 :: .ref m44 :: .ref m45 :: []))), (m3, .inl (cI, 8, .inl fm3)), (m4, .inl (cI, 8, .inl fm4)), (m5, .inl (cI, 8, .inl fm5)), (m7, .inl (cI, 4, .inl fm7)), (m8, .inl (cI, 4, .inl fm8)), (m9, .inl (cI, 4, .inl fm9)), (m10, .inl (cI, 34, .inl fm10))] H := ⟨hP, hD⟩
                  have hP := hPD.1
                  have hD := hPD.2
                  clear hPD
                  refine lv_iinc (v := nI (k12 + 1)) (lv' := [(1, .int (nI (k12 + 1))), (5, .int (nI k34)), (2, .int a34_2), (3, .int a34_3), (4, .int (nI a34_4)), (0, .ref h0)]) hx hb dX11_findGiven_168 hl (k := 4) rfl ((rfl : nI k12 + Int32.ofInt 1 = nI k12 + 1).trans (nI_add k12 1)) (by decide) rfl (fun ls hl => ?_)
                  refine lv_goto (tgt := 12) hx hb dX11_findGiven_171 (by decide) ?_
                  exact ih12 (k12 + 1) i12_h0_31 a34_3 _ _ _ (by omega) hP hD hS (lv_sub hl [0, 5] rfl)
            ·
              refine lv_iload_n hx hb dX11_findGiven_132 rfl (lv_at hl 4 rfl) ?_
              refine lv_goto (tgt := 140) hx hb dX11_findGiven_133 (by decide) ?_
              refine va_put (D := (dC, dI)) (ci := 11) (v := .int (nI k12)) (ty := .int) (C := RX11) (T := TX11) (N := 46) hx hb hts hi_X11 tyX11 tyX11_ok nmX11 hown hK hP hD hS 0 rfl rfl 31 (by decide) (hts (.fieldLink RX11 269 "LeftQuillsModel" "given" "I") (wmx 1 rfl)) (fun _ h9 => h9) rfl (by decide +kernel) rfl rfl (Nat.le_of_ble_eq_true rfl) dX11_findGiven_140 (fun H locs hP hD hS => ?_)
              have hPD : pdW (dC, dI) vwCl A [(h0, .inr (11, (.int n0 :: .int n1 :: .int (nI nq) :: .ref m3 :: .ref m4 :: .ref m5 :: .int (nI nh) :: .ref m7 :: .ref m8 :: .ref m9 :: .ref m10 :: .int (nI sd) :: .ref m12 :: .int (nI tx) :: .int n14 :: .int (nI at9) :: .int n16 :: .int n17 :: .ref m18 :: .int (nI rq) :: .ref m20 :: .ref m21 :: .ref m22 :: .ref m23 :: .ref m24 :: .int (nI rh) :: .ref m26 :: .ref m27 :: .ref m28 :: .int (nI un) :: .ref m30 :: .int (nI k12) :: .int i12_h0_32 :: .ref m33 :: .int n34 :: .int n35 :: .ref m36 :: .int (nI wm) :: .ref m38 :: .ref m39 :: .ref m40 :: .int (nI bk) :: .ref m42 :: .ref m43 :: .ref m44 :: .ref m45 :: []))), (m3, .inl (cI, 8, .inl fm3)), (m4, .inl (cI, 8, .inl fm4)), (m5, .inl (cI, 8, .inl fm5)), (m7, .inl (cI, 4, .inl fm7)), (m8, .inl (cI, 4, .inl fm8)), (m9, .inl (cI, 4, .inl fm9)), (m10, .inl (cI, 34, .inl fm10))] H := ⟨hP, hD⟩
              have hP := hPD.1
              have hD := hPD.2
              clear hPD
              refine lv_aload_n hx hb dX11_findGiven_143 rfl (lv_at hl 5 rfl) ?_
              refine lv_iload hx hb dX11_findGiven_144 (lv_at hl 3 rfl) ?_
              refine lv_if_eq (tgt := 161) hx hb dX11_findGiven_146 (by decide) (fun c14 => ?_) (fun c14 => ?_)
              ·
                have c14 : a34_4 = 0 := (nI_eq (a := a34_4) (b := 0) (by omega) (by omega)).mp c14
                refine lv_aload_n hx hb dX11_findGiven_161 rfl (lv_at hl 5 rfl) ?_
                refine va_get (D := (dC, dI)) (ci := 11) (v := .int i12_h0_32) (C := RX11) (T := TX11) (N := 46) hx hb hts hi_X11 hown hK hP 0 rfl rfl 32 (by decide) (hts (.fieldLink RX11 272 "LeftQuillsModel" "givenMost" "I") (wmx 2 rfl)) (fun _ h9 => h9) rfl dX11_findGiven_162 ?_
                refine va_put (D := (dC, dI)) (ci := 11) (v := .int i12_h0_32) (ty := .int) (C := RX11) (T := TX11) (N := 46) hx hb hts hi_X11 tyX11 tyX11_ok nmX11 hown hK hP hD hS 0 rfl rfl 32 (by decide) (hts (.fieldLink RX11 272 "LeftQuillsModel" "givenMost" "I") (wmx 2 rfl)) (fun _ h9 => h9) rfl (by decide +kernel) rfl rfl (Nat.le_of_ble_eq_true rfl) dX11_findGiven_165 (fun H locs hP hD hS => ?_)
                have hPD : pdW (dC, dI) vwCl A [(h0, .inr (11, (.int n0 :: .int n1 :: .int (nI nq) :: .ref m3 :: .ref m4 :: .ref m5 :: .int (nI nh) :: .ref m7 :: .ref m8 :: .ref m9 :: .ref m10 :: .int (nI sd) :: .ref m12 :: .int (nI tx) :: .int n14 :: .int (nI at9) :: .int n16 :: .int n17 :: .ref m18 :: .int (nI rq) :: .ref m20 :: .ref m21 :: .ref m22 :: .ref m23 :: .ref m24 :: .int (nI rh) :: .ref m26 :: .ref m27 :: .ref m28 :: .int (nI un) :: .ref m30 :: .int (nI k12) :: .int i12_h0_32 :: .ref m33 :: .int n34 :: .int n35 :: .ref m36 :: .int (nI wm) :: .ref m38 :: .ref m39 :: .ref m40 :: .int (nI bk) :: .ref m42 :: .ref m43 :: .ref m44 :: .ref m45 :: []))), (m3, .inl (cI, 8, .inl fm3)), (m4, .inl (cI, 8, .inl fm4)), (m5, .inl (cI, 8, .inl fm5)), (m7, .inl (cI, 4, .inl fm7)), (m8, .inl (cI, 4, .inl fm8)), (m9, .inl (cI, 4, .inl fm9)), (m10, .inl (cI, 34, .inl fm10))] H := ⟨hP, hD⟩
                have hP := hPD.1
                have hD := hPD.2
                clear hPD
                refine lv_iinc (v := nI (k12 + 1)) (lv' := [(1, .int (nI (k12 + 1))), (5, .int (nI k34)), (2, .int a34_2), (3, .int a34_3), (4, .int (nI a34_4)), (0, .ref h0)]) hx hb dX11_findGiven_168 hl (k := 4) rfl ((rfl : nI k12 + Int32.ofInt 1 = nI k12 + 1).trans (nI_add k12 1)) (by decide) rfl (fun ls hl => ?_)
                refine lv_goto (tgt := 12) hx hb dX11_findGiven_171 (by decide) ?_
                exact ih12 (k12 + 1) (nI k12) i12_h0_32 _ _ _ (by omega) hP hD hS (lv_sub hl [0, 5] rfl)
              ·
                have c14 : ¬ a34_4 = 0 := fun h => c14 ((nI_eq (a := a34_4) (b := 0) (by omega) (by omega)).mpr h)
                refine lv_iload_n hx hb dX11_findGiven_149 rfl (lv_at hl 2 rfl) ?_
                refine lv_aload_n hx hb dX11_findGiven_150 rfl (lv_at hl 5 rfl) ?_
                refine va_get (D := (dC, dI)) (ci := 11) (v := .int i12_h0_32) (C := RX11) (T := TX11) (N := 46) hx hb hts hi_X11 hown hK hP 0 rfl rfl 32 (by decide) (hts (.fieldLink RX11 272 "LeftQuillsModel" "givenMost" "I") (wmx 2 rfl)) (fun _ h9 => h9) rfl dX11_findGiven_151 ?_
                refine lv_icmp_le (tgt := 161) hx hb dX11_findGiven_154 (by decide) (fun c15 => ?_) (fun c15 => ?_)
                ·
                  refine lv_aload_n hx hb dX11_findGiven_161 rfl (lv_at hl 5 rfl) ?_
                  refine va_get (D := (dC, dI)) (ci := 11) (v := .int i12_h0_32) (C := RX11) (T := TX11) (N := 46) hx hb hts hi_X11 hown hK hP 0 rfl rfl 32 (by decide) (hts (.fieldLink RX11 272 "LeftQuillsModel" "givenMost" "I") (wmx 2 rfl)) (fun _ h9 => h9) rfl dX11_findGiven_162 ?_
                  refine va_put (D := (dC, dI)) (ci := 11) (v := .int i12_h0_32) (ty := .int) (C := RX11) (T := TX11) (N := 46) hx hb hts hi_X11 tyX11 tyX11_ok nmX11 hown hK hP hD hS 0 rfl rfl 32 (by decide) (hts (.fieldLink RX11 272 "LeftQuillsModel" "givenMost" "I") (wmx 2 rfl)) (fun _ h9 => h9) rfl (by decide +kernel) rfl rfl (Nat.le_of_ble_eq_true rfl) dX11_findGiven_165 (fun H locs hP hD hS => ?_)
                  have hPD : pdW (dC, dI) vwCl A [(h0, .inr (11, (.int n0 :: .int n1 :: .int (nI nq) :: .ref m3 :: .ref m4 :: .ref m5 :: .int (nI nh) :: .ref m7 :: .ref m8 :: .ref m9 :: .ref m10 :: .int (nI sd) :: .ref m12 :: .int (nI tx) :: .int n14 :: .int (nI at9) :: .int n16 :: .int n17 :: .ref m18 :: .int (nI rq) :: .ref m20 :: .ref m21 :: .ref m22 :: .ref m23 :: .ref m24 :: .int (nI rh) :: .ref m26 :: .ref m27 :: .ref m28 :: .int (nI un) :: .ref m30 :: .int (nI k12) :: .int i12_h0_32 :: .ref m33 :: .int n34 :: .int n35 :: .ref m36 :: .int (nI wm) :: .ref m38 :: .ref m39 :: .ref m40 :: .int (nI bk) :: .ref m42 :: .ref m43 :: .ref m44 :: .ref m45 :: []))), (m3, .inl (cI, 8, .inl fm3)), (m4, .inl (cI, 8, .inl fm4)), (m5, .inl (cI, 8, .inl fm5)), (m7, .inl (cI, 4, .inl fm7)), (m8, .inl (cI, 4, .inl fm8)), (m9, .inl (cI, 4, .inl fm9)), (m10, .inl (cI, 34, .inl fm10))] H := ⟨hP, hD⟩
                  have hP := hPD.1
                  have hD := hPD.2
                  clear hPD
                  refine lv_iinc (v := nI (k12 + 1)) (lv' := [(1, .int (nI (k12 + 1))), (5, .int (nI k34)), (2, .int a34_2), (3, .int a34_3), (4, .int (nI a34_4)), (0, .ref h0)]) hx hb dX11_findGiven_168 hl (k := 4) rfl ((rfl : nI k12 + Int32.ofInt 1 = nI k12 + 1).trans (nI_add k12 1)) (by decide) rfl (fun ls hl => ?_)
                  refine lv_goto (tgt := 12) hx hb dX11_findGiven_171 (by decide) ?_
                  exact ih12 (k12 + 1) (nI k12) i12_h0_32 _ _ _ (by omega) hP hD hS (lv_sub hl [0, 5] rfl)
                ·
                  refine lv_iload_n hx hb dX11_findGiven_157 rfl (lv_at hl 2 rfl) ?_
                  refine lv_goto (tgt := 165) hx hb dX11_findGiven_158 (by decide) ?_
                  refine va_put (D := (dC, dI)) (ci := 11) (v := .int a34_3) (ty := .int) (C := RX11) (T := TX11) (N := 46) hx hb hts hi_X11 tyX11 tyX11_ok nmX11 hown hK hP hD hS 0 rfl rfl 32 (by decide) (hts (.fieldLink RX11 272 "LeftQuillsModel" "givenMost" "I") (wmx 2 rfl)) (fun _ h9 => h9) rfl (by decide +kernel) rfl rfl (Nat.le_of_ble_eq_true rfl) dX11_findGiven_165 (fun H locs hP hD hS => ?_)
                  have hPD : pdW (dC, dI) vwCl A [(h0, .inr (11, (.int n0 :: .int n1 :: .int (nI nq) :: .ref m3 :: .ref m4 :: .ref m5 :: .int (nI nh) :: .ref m7 :: .ref m8 :: .ref m9 :: .ref m10 :: .int (nI sd) :: .ref m12 :: .int (nI tx) :: .int n14 :: .int (nI at9) :: .int n16 :: .int n17 :: .ref m18 :: .int (nI rq) :: .ref m20 :: .ref m21 :: .ref m22 :: .ref m23 :: .ref m24 :: .int (nI rh) :: .ref m26 :: .ref m27 :: .ref m28 :: .int (nI un) :: .ref m30 :: .int (nI k12) :: .int a34_3 :: .ref m33 :: .int n34 :: .int n35 :: .ref m36 :: .int (nI wm) :: .ref m38 :: .ref m39 :: .ref m40 :: .int (nI bk) :: .ref m42 :: .ref m43 :: .ref m44 :: .ref m45 :: []))), (m3, .inl (cI, 8, .inl fm3)), (m4, .inl (cI, 8, .inl fm4)), (m5, .inl (cI, 8, .inl fm5)), (m7, .inl (cI, 4, .inl fm7)), (m8, .inl (cI, 4, .inl fm8)), (m9, .inl (cI, 4, .inl fm9)), (m10, .inl (cI, 34, .inl fm10))] H := ⟨hP, hD⟩
                  have hP := hPD.1
                  have hD := hPD.2
                  clear hPD
                  refine lv_iinc (v := nI (k12 + 1)) (lv' := [(1, .int (nI (k12 + 1))), (5, .int (nI k34)), (2, .int a34_2), (3, .int a34_3), (4, .int (nI a34_4)), (0, .ref h0)]) hx hb dX11_findGiven_168 hl (k := 4) rfl ((rfl : nI k12 + Int32.ofInt 1 = nI k12 + 1).trans (nI_add k12 1)) (by decide) rfl (fun ls hl => ?_)
                  refine lv_goto (tgt := 12) hx hb dX11_findGiven_171 (by decide) ?_
                  exact ih12 (k12 + 1) (nI k12) a34_3 _ _ _ (by omega) hP hD hS (lv_sub hl [0, 5] rfl)
        ·
          have c7 : ¬ nh ≤ k34 := fun h => c7 ((nI_leI (a := nh) (b := k34) (by omega) (by omega)).mpr h)
          omega
      | succ d34 ih34 =>
        intro k34 a34_2 a34_3 a34_4 H locs ls hk34 hn34_4 hP hD hS hl
        refine lv_iload hx hb dX11_findGiven_34 (lv_at hl 0 rfl) ?_
        refine lv_aload_n hx hb dX11_findGiven_36 rfl (lv_at hl 5 rfl) ?_
        refine va_get (D := (dC, dI)) (ci := 11) (v := .int (nI nh)) (C := RX11) (T := TX11) (N := 46) hx hb hts hi_X11 hown hK hP 0 rfl rfl 6 (by decide) (hts (.fieldLink RX11 106 "LeftQuillsModel" "hands" "I") (wmx 3 rfl)) (fun _ h9 => h9) rfl dX11_findGiven_37 ?_
        refine lv_icmp_ge (tgt := 118) hx hb dX11_findGiven_40 (by decide) (fun c16 => ?_) (fun c16 => ?_)
        ·
          have c16 : nh ≤ k34 := (nI_leI (a := nh) (b := k34) (by omega) (by omega)).mp c16
          omega
        ·
          have c16 : ¬ nh ≤ k34 := fun h => c16 ((nI_leI (a := nh) (b := k34) (by omega) (by omega)).mpr h)
          refine lv_iload hx hb dX11_findGiven_43 (lv_at hl 3 rfl) ?_
          refine lv_if_eq (tgt := 118) hx hb dX11_findGiven_45 (by decide) (fun c17 => ?_) (fun c17 => ?_)
          ·
            have c17 : a34_4 = 0 := (nI_eq (a := a34_4) (b := 0) (by omega) (by omega)).mp c17
            refine lv_aload_n hx hb dX11_findGiven_118 rfl (lv_at hl 5 rfl) ?_
            refine lv_iload hx hb dX11_findGiven_119 (lv_at hl 3 rfl) ?_
            refine lv_if_eq (tgt := 136) hx hb dX11_findGiven_121 (by decide) (fun c18 => ?_) (fun c18 => ?_)
            ·
              have c18 : a34_4 = 0 := (nI_eq (a := a34_4) (b := 0) (by omega) (by omega)).mp c18
              refine lv_aload_n hx hb dX11_findGiven_136 rfl (lv_at hl 5 rfl) ?_
              refine va_get (D := (dC, dI)) (ci := 11) (v := .int i12_h0_31) (C := RX11) (T := TX11) (N := 46) hx hb hts hi_X11 hown hK hP 0 rfl rfl 31 (by decide) (hts (.fieldLink RX11 269 "LeftQuillsModel" "given" "I") (wmx 1 rfl)) (fun _ h9 => h9) rfl dX11_findGiven_137 ?_
              refine va_put (D := (dC, dI)) (ci := 11) (v := .int i12_h0_31) (ty := .int) (C := RX11) (T := TX11) (N := 46) hx hb hts hi_X11 tyX11 tyX11_ok nmX11 hown hK hP hD hS 0 rfl rfl 31 (by decide) (hts (.fieldLink RX11 269 "LeftQuillsModel" "given" "I") (wmx 1 rfl)) (fun _ h9 => h9) rfl (by decide +kernel) rfl rfl (Nat.le_of_ble_eq_true rfl) dX11_findGiven_140 (fun H locs hP hD hS => ?_)
              have hPD : pdW (dC, dI) vwCl A [(h0, .inr (11, (.int n0 :: .int n1 :: .int (nI nq) :: .ref m3 :: .ref m4 :: .ref m5 :: .int (nI nh) :: .ref m7 :: .ref m8 :: .ref m9 :: .ref m10 :: .int (nI sd) :: .ref m12 :: .int (nI tx) :: .int n14 :: .int (nI at9) :: .int n16 :: .int n17 :: .ref m18 :: .int (nI rq) :: .ref m20 :: .ref m21 :: .ref m22 :: .ref m23 :: .ref m24 :: .int (nI rh) :: .ref m26 :: .ref m27 :: .ref m28 :: .int (nI un) :: .ref m30 :: .int i12_h0_31 :: .int i12_h0_32 :: .ref m33 :: .int n34 :: .int n35 :: .ref m36 :: .int (nI wm) :: .ref m38 :: .ref m39 :: .ref m40 :: .int (nI bk) :: .ref m42 :: .ref m43 :: .ref m44 :: .ref m45 :: []))), (m3, .inl (cI, 8, .inl fm3)), (m4, .inl (cI, 8, .inl fm4)), (m5, .inl (cI, 8, .inl fm5)), (m7, .inl (cI, 4, .inl fm7)), (m8, .inl (cI, 4, .inl fm8)), (m9, .inl (cI, 4, .inl fm9)), (m10, .inl (cI, 34, .inl fm10))] H := ⟨hP, hD⟩
              have hP := hPD.1
              have hD := hPD.2
              clear hPD
              refine lv_aload_n hx hb dX11_findGiven_143 rfl (lv_at hl 5 rfl) ?_
              refine lv_iload hx hb dX11_findGiven_144 (lv_at hl 3 rfl) ?_
              refine lv_if_eq (tgt := 161) hx hb dX11_findGiven_146 (by decide) (fun c19 => ?_) (fun c19 => ?_)
              ·
                have c19 : a34_4 = 0 := (nI_eq (a := a34_4) (b := 0) (by omega) (by omega)).mp c19
                refine lv_aload_n hx hb dX11_findGiven_161 rfl (lv_at hl 5 rfl) ?_
                refine va_get (D := (dC, dI)) (ci := 11) (v := .int i12_h0_32) (C := RX11) (T := TX11) (N := 46) hx hb hts hi_X11 hown hK hP 0 rfl rfl 32 (by decide) (hts (.fieldLink RX11 272 "LeftQuillsModel" "givenMost" "I") (wmx 2 rfl)) (fun _ h9 => h9) rfl dX11_findGiven_162 ?_
                refine va_put (D := (dC, dI)) (ci := 11) (v := .int i12_h0_32) (ty := .int) (C := RX11) (T := TX11) (N := 46) hx hb hts hi_X11 tyX11 tyX11_ok nmX11 hown hK hP hD hS 0 rfl rfl 32 (by decide) (hts (.fieldLink RX11 272 "LeftQuillsModel" "givenMost" "I") (wmx 2 rfl)) (fun _ h9 => h9) rfl (by decide +kernel) rfl rfl (Nat.le_of_ble_eq_true rfl) dX11_findGiven_165 (fun H locs hP hD hS => ?_)
                have hPD : pdW (dC, dI) vwCl A [(h0, .inr (11, (.int n0 :: .int n1 :: .int (nI nq) :: .ref m3 :: .ref m4 :: .ref m5 :: .int (nI nh) :: .ref m7 :: .ref m8 :: .ref m9 :: .ref m10 :: .int (nI sd) :: .ref m12 :: .int (nI tx) :: .int n14 :: .int (nI at9) :: .int n16 :: .int n17 :: .ref m18 :: .int (nI rq) :: .ref m20 :: .ref m21 :: .ref m22 :: .ref m23 :: .ref m24 :: .int (nI rh) :: .ref m26 :: .ref m27 :: .ref m28 :: .int (nI un) :: .ref m30 :: .int i12_h0_31 :: .int i12_h0_32 :: .ref m33 :: .int n34 :: .int n35 :: .ref m36 :: .int (nI wm) :: .ref m38 :: .ref m39 :: .ref m40 :: .int (nI bk) :: .ref m42 :: .ref m43 :: .ref m44 :: .ref m45 :: []))), (m3, .inl (cI, 8, .inl fm3)), (m4, .inl (cI, 8, .inl fm4)), (m5, .inl (cI, 8, .inl fm5)), (m7, .inl (cI, 4, .inl fm7)), (m8, .inl (cI, 4, .inl fm8)), (m9, .inl (cI, 4, .inl fm9)), (m10, .inl (cI, 34, .inl fm10))] H := ⟨hP, hD⟩
                have hP := hPD.1
                have hD := hPD.2
                clear hPD
                refine lv_iinc (v := nI (k12 + 1)) (lv' := [(1, .int (nI (k12 + 1))), (5, .int (nI k34)), (2, .int a34_2), (3, .int a34_3), (4, .int (nI a34_4)), (0, .ref h0)]) hx hb dX11_findGiven_168 hl (k := 4) rfl ((rfl : nI k12 + Int32.ofInt 1 = nI k12 + 1).trans (nI_add k12 1)) (by decide) rfl (fun ls hl => ?_)
                refine lv_goto (tgt := 12) hx hb dX11_findGiven_171 (by decide) ?_
                exact ih12 (k12 + 1) i12_h0_31 i12_h0_32 _ _ _ (by omega) hP hD hS (lv_sub hl [0, 5] rfl)
              ·
                have c19 : ¬ a34_4 = 0 := fun h => c19 ((nI_eq (a := a34_4) (b := 0) (by omega) (by omega)).mpr h)
                refine lv_iload_n hx hb dX11_findGiven_149 rfl (lv_at hl 2 rfl) ?_
                refine lv_aload_n hx hb dX11_findGiven_150 rfl (lv_at hl 5 rfl) ?_
                refine va_get (D := (dC, dI)) (ci := 11) (v := .int i12_h0_32) (C := RX11) (T := TX11) (N := 46) hx hb hts hi_X11 hown hK hP 0 rfl rfl 32 (by decide) (hts (.fieldLink RX11 272 "LeftQuillsModel" "givenMost" "I") (wmx 2 rfl)) (fun _ h9 => h9) rfl dX11_findGiven_151 ?_
                refine lv_icmp_le (tgt := 161) hx hb dX11_findGiven_154 (by decide) (fun c20 => ?_) (fun c20 => ?_)
                ·
                  refine lv_aload_n hx hb dX11_findGiven_161 rfl (lv_at hl 5 rfl) ?_
                  refine va_get (D := (dC, dI)) (ci := 11) (v := .int i12_h0_32) (C := RX11) (T := TX11) (N := 46) hx hb hts hi_X11 hown hK hP 0 rfl rfl 32 (by decide) (hts (.fieldLink RX11 272 "LeftQuillsModel" "givenMost" "I") (wmx 2 rfl)) (fun _ h9 => h9) rfl dX11_findGiven_162 ?_
                  refine va_put (D := (dC, dI)) (ci := 11) (v := .int i12_h0_32) (ty := .int) (C := RX11) (T := TX11) (N := 46) hx hb hts hi_X11 tyX11 tyX11_ok nmX11 hown hK hP hD hS 0 rfl rfl 32 (by decide) (hts (.fieldLink RX11 272 "LeftQuillsModel" "givenMost" "I") (wmx 2 rfl)) (fun _ h9 => h9) rfl (by decide +kernel) rfl rfl (Nat.le_of_ble_eq_true rfl) dX11_findGiven_165 (fun H locs hP hD hS => ?_)
                  have hPD : pdW (dC, dI) vwCl A [(h0, .inr (11, (.int n0 :: .int n1 :: .int (nI nq) :: .ref m3 :: .ref m4 :: .ref m5 :: .int (nI nh) :: .ref m7 :: .ref m8 :: .ref m9 :: .ref m10 :: .int (nI sd) :: .ref m12 :: .int (nI tx) :: .int n14 :: .int (nI at9) :: .int n16 :: .int n17 :: .ref m18 :: .int (nI rq) :: .ref m20 :: .ref m21 :: .ref m22 :: .ref m23 :: .ref m24 :: .int (nI rh) :: .ref m26 :: .ref m27 :: .ref m28 :: .int (nI un) :: .ref m30 :: .int i12_h0_31 :: .int i12_h0_32 :: .ref m33 :: .int n34 :: .int n35 :: .ref m36 :: .int (nI wm) :: .ref m38 :: .ref m39 :: .ref m40 :: .int (nI bk) :: .ref m42 :: .ref m43 :: .ref m44 :: .ref m45 :: []))), (m3, .inl (cI, 8, .inl fm3)), (m4, .inl (cI, 8, .inl fm4)), (m5, .inl (cI, 8, .inl fm5)), (m7, .inl (cI, 4, .inl fm7)), (m8, .inl (cI, 4, .inl fm8)), (m9, .inl (cI, 4, .inl fm9)), (m10, .inl (cI, 34, .inl fm10))] H := ⟨hP, hD⟩
                  have hP := hPD.1
                  have hD := hPD.2
                  clear hPD
                  refine lv_iinc (v := nI (k12 + 1)) (lv' := [(1, .int (nI (k12 + 1))), (5, .int (nI k34)), (2, .int a34_2), (3, .int a34_3), (4, .int (nI a34_4)), (0, .ref h0)]) hx hb dX11_findGiven_168 hl (k := 4) rfl ((rfl : nI k12 + Int32.ofInt 1 = nI k12 + 1).trans (nI_add k12 1)) (by decide) rfl (fun ls hl => ?_)
                  refine lv_goto (tgt := 12) hx hb dX11_findGiven_171 (by decide) ?_
                  exact ih12 (k12 + 1) i12_h0_31 i12_h0_32 _ _ _ (by omega) hP hD hS (lv_sub hl [0, 5] rfl)
                ·
                  refine lv_iload_n hx hb dX11_findGiven_157 rfl (lv_at hl 2 rfl) ?_
                  refine lv_goto (tgt := 165) hx hb dX11_findGiven_158 (by decide) ?_
                  refine va_put (D := (dC, dI)) (ci := 11) (v := .int a34_3) (ty := .int) (C := RX11) (T := TX11) (N := 46) hx hb hts hi_X11 tyX11 tyX11_ok nmX11 hown hK hP hD hS 0 rfl rfl 32 (by decide) (hts (.fieldLink RX11 272 "LeftQuillsModel" "givenMost" "I") (wmx 2 rfl)) (fun _ h9 => h9) rfl (by decide +kernel) rfl rfl (Nat.le_of_ble_eq_true rfl) dX11_findGiven_165 (fun H locs hP hD hS => ?_)
                  have hPD : pdW (dC, dI) vwCl A [(h0, .inr (11, (.int n0 :: .int n1 :: .int (nI nq) :: .ref m3 :: .ref m4 :: .ref m5 :: .int (nI nh) :: .ref m7 :: .ref m8 :: .ref m9 :: .ref m10 :: .int (nI sd) :: .ref m12 :: .int (nI tx) :: .int n14 :: .int (nI at9) :: .int n16 :: .int n17 :: .ref m18 :: .int (nI rq) :: .ref m20 :: .ref m21 :: .ref m22 :: .ref m23 :: .ref m24 :: .int (nI rh) :: .ref m26 :: .ref m27 :: .ref m28 :: .int (nI un) :: .ref m30 :: .int i12_h0_31 :: .int a34_3 :: .ref m33 :: .int n34 :: .int n35 :: .ref m36 :: .int (nI wm) :: .ref m38 :: .ref m39 :: .ref m40 :: .int (nI bk) :: .ref m42 :: .ref m43 :: .ref m44 :: .ref m45 :: []))), (m3, .inl (cI, 8, .inl fm3)), (m4, .inl (cI, 8, .inl fm4)), (m5, .inl (cI, 8, .inl fm5)), (m7, .inl (cI, 4, .inl fm7)), (m8, .inl (cI, 4, .inl fm8)), (m9, .inl (cI, 4, .inl fm9)), (m10, .inl (cI, 34, .inl fm10))] H := ⟨hP, hD⟩
                  have hP := hPD.1
                  have hD := hPD.2
                  clear hPD
                  refine lv_iinc (v := nI (k12 + 1)) (lv' := [(1, .int (nI (k12 + 1))), (5, .int (nI k34)), (2, .int a34_2), (3, .int a34_3), (4, .int (nI a34_4)), (0, .ref h0)]) hx hb dX11_findGiven_168 hl (k := 4) rfl ((rfl : nI k12 + Int32.ofInt 1 = nI k12 + 1).trans (nI_add k12 1)) (by decide) rfl (fun ls hl => ?_)
                  refine lv_goto (tgt := 12) hx hb dX11_findGiven_171 (by decide) ?_
                  exact ih12 (k12 + 1) i12_h0_31 a34_3 _ _ _ (by omega) hP hD hS (lv_sub hl [0, 5] rfl)
            ·
              have c18 : ¬ a34_4 = 0 := fun h => c18 ((nI_eq (a := a34_4) (b := 0) (by omega) (by omega)).mpr h)
              refine lv_iload_n hx hb dX11_findGiven_124 rfl (lv_at hl 2 rfl) ?_
              refine lv_aload_n hx hb dX11_findGiven_125 rfl (lv_at hl 5 rfl) ?_
              refine va_get (D := (dC, dI)) (ci := 11) (v := .int i12_h0_32) (C := RX11) (T := TX11) (N := 46) hx hb hts hi_X11 hown hK hP 0 rfl rfl 32 (by decide) (hts (.fieldLink RX11 272 "LeftQuillsModel" "givenMost" "I") (wmx 2 rfl)) (fun _ h9 => h9) rfl dX11_findGiven_126 ?_
              refine lv_icmp_le (tgt := 136) hx hb dX11_findGiven_129 (by decide) (fun c21 => ?_) (fun c21 => ?_)
              ·
                refine lv_aload_n hx hb dX11_findGiven_136 rfl (lv_at hl 5 rfl) ?_
                refine va_get (D := (dC, dI)) (ci := 11) (v := .int i12_h0_31) (C := RX11) (T := TX11) (N := 46) hx hb hts hi_X11 hown hK hP 0 rfl rfl 31 (by decide) (hts (.fieldLink RX11 269 "LeftQuillsModel" "given" "I") (wmx 1 rfl)) (fun _ h9 => h9) rfl dX11_findGiven_137 ?_
                refine va_put (D := (dC, dI)) (ci := 11) (v := .int i12_h0_31) (ty := .int) (C := RX11) (T := TX11) (N := 46) hx hb hts hi_X11 tyX11 tyX11_ok nmX11 hown hK hP hD hS 0 rfl rfl 31 (by decide) (hts (.fieldLink RX11 269 "LeftQuillsModel" "given" "I") (wmx 1 rfl)) (fun _ h9 => h9) rfl (by decide +kernel) rfl rfl (Nat.le_of_ble_eq_true rfl) dX11_findGiven_140 (fun H locs hP hD hS => ?_)
                have hPD : pdW (dC, dI) vwCl A [(h0, .inr (11, (.int n0 :: .int n1 :: .int (nI nq) :: .ref m3 :: .ref m4 :: .ref m5 :: .int (nI nh) :: .ref m7 :: .ref m8 :: .ref m9 :: .ref m10 :: .int (nI sd) :: .ref m12 :: .int (nI tx) :: .int n14 :: .int (nI at9) :: .int n16 :: .int n17 :: .ref m18 :: .int (nI rq) :: .ref m20 :: .ref m21 :: .ref m22 :: .ref m23 :: .ref m24 :: .int (nI rh) :: .ref m26 :: .ref m27 :: .ref m28 :: .int (nI un) :: .ref m30 :: .int i12_h0_31 :: .int i12_h0_32 :: .ref m33 :: .int n34 :: .int n35 :: .ref m36 :: .int (nI wm) :: .ref m38 :: .ref m39 :: .ref m40 :: .int (nI bk) :: .ref m42 :: .ref m43 :: .ref m44 :: .ref m45 :: []))), (m3, .inl (cI, 8, .inl fm3)), (m4, .inl (cI, 8, .inl fm4)), (m5, .inl (cI, 8, .inl fm5)), (m7, .inl (cI, 4, .inl fm7)), (m8, .inl (cI, 4, .inl fm8)), (m9, .inl (cI, 4, .inl fm9)), (m10, .inl (cI, 34, .inl fm10))] H := ⟨hP, hD⟩
                have hP := hPD.1
                have hD := hPD.2
                clear hPD
                refine lv_aload_n hx hb dX11_findGiven_143 rfl (lv_at hl 5 rfl) ?_
                refine lv_iload hx hb dX11_findGiven_144 (lv_at hl 3 rfl) ?_
                refine lv_if_eq (tgt := 161) hx hb dX11_findGiven_146 (by decide) (fun c22 => ?_) (fun c22 => ?_)
                ·
                  have c22 : a34_4 = 0 := (nI_eq (a := a34_4) (b := 0) (by omega) (by omega)).mp c22
                  refine lv_aload_n hx hb dX11_findGiven_161 rfl (lv_at hl 5 rfl) ?_
                  refine va_get (D := (dC, dI)) (ci := 11) (v := .int i12_h0_32) (C := RX11) (T := TX11) (N := 46) hx hb hts hi_X11 hown hK hP 0 rfl rfl 32 (by decide) (hts (.fieldLink RX11 272 "LeftQuillsModel" "givenMost" "I") (wmx 2 rfl)) (fun _ h9 => h9) rfl dX11_findGiven_162 ?_
                  refine va_put (D := (dC, dI)) (ci := 11) (v := .int i12_h0_32) (ty := .int) (C := RX11) (T := TX11) (N := 46) hx hb hts hi_X11 tyX11 tyX11_ok nmX11 hown hK hP hD hS 0 rfl rfl 32 (by decide) (hts (.fieldLink RX11 272 "LeftQuillsModel" "givenMost" "I") (wmx 2 rfl)) (fun _ h9 => h9) rfl (by decide +kernel) rfl rfl (Nat.le_of_ble_eq_true rfl) dX11_findGiven_165 (fun H locs hP hD hS => ?_)
                  have hPD : pdW (dC, dI) vwCl A [(h0, .inr (11, (.int n0 :: .int n1 :: .int (nI nq) :: .ref m3 :: .ref m4 :: .ref m5 :: .int (nI nh) :: .ref m7 :: .ref m8 :: .ref m9 :: .ref m10 :: .int (nI sd) :: .ref m12 :: .int (nI tx) :: .int n14 :: .int (nI at9) :: .int n16 :: .int n17 :: .ref m18 :: .int (nI rq) :: .ref m20 :: .ref m21 :: .ref m22 :: .ref m23 :: .ref m24 :: .int (nI rh) :: .ref m26 :: .ref m27 :: .ref m28 :: .int (nI un) :: .ref m30 :: .int i12_h0_31 :: .int i12_h0_32 :: .ref m33 :: .int n34 :: .int n35 :: .ref m36 :: .int (nI wm) :: .ref m38 :: .ref m39 :: .ref m40 :: .int (nI bk) :: .ref m42 :: .ref m43 :: .ref m44 :: .ref m45 :: []))), (m3, .inl (cI, 8, .inl fm3)), (m4, .inl (cI, 8, .inl fm4)), (m5, .inl (cI, 8, .inl fm5)), (m7, .inl (cI, 4, .inl fm7)), (m8, .inl (cI, 4, .inl fm8)), (m9, .inl (cI, 4, .inl fm9)), (m10, .inl (cI, 34, .inl fm10))] H := ⟨hP, hD⟩
                  have hP := hPD.1
                  have hD := hPD.2
                  clear hPD
                  refine lv_iinc (v := nI (k12 + 1)) (lv' := [(1, .int (nI (k12 + 1))), (5, .int (nI k34)), (2, .int a34_2), (3, .int a34_3), (4, .int (nI a34_4)), (0, .ref h0)]) hx hb dX11_findGiven_168 hl (k := 4) rfl ((rfl : nI k12 + Int32.ofInt 1 = nI k12 + 1).trans (nI_add k12 1)) (by decide) rfl (fun ls hl => ?_)
                  refine lv_goto (tgt := 12) hx hb dX11_findGiven_171 (by decide) ?_
                  exact ih12 (k12 + 1) i12_h0_31 i12_h0_32 _ _ _ (by omega) hP hD hS (lv_sub hl [0, 5] rfl)
                ·
                  have c22 : ¬ a34_4 = 0 := fun h => c22 ((nI_eq (a := a34_4) (b := 0) (by omega) (by omega)).mpr h)
                  refine lv_iload_n hx hb dX11_findGiven_149 rfl (lv_at hl 2 rfl) ?_
                  refine lv_aload_n hx hb dX11_findGiven_150 rfl (lv_at hl 5 rfl) ?_
                  refine va_get (D := (dC, dI)) (ci := 11) (v := .int i12_h0_32) (C := RX11) (T := TX11) (N := 46) hx hb hts hi_X11 hown hK hP 0 rfl rfl 32 (by decide) (hts (.fieldLink RX11 272 "LeftQuillsModel" "givenMost" "I") (wmx 2 rfl)) (fun _ h9 => h9) rfl dX11_findGiven_151 ?_
                  refine lv_icmp_le (tgt := 161) hx hb dX11_findGiven_154 (by decide) (fun c23 => ?_) (fun c23 => ?_)
                  ·
                    refine lv_aload_n hx hb dX11_findGiven_161 rfl (lv_at hl 5 rfl) ?_
                    refine va_get (D := (dC, dI)) (ci := 11) (v := .int i12_h0_32) (C := RX11) (T := TX11) (N := 46) hx hb hts hi_X11 hown hK hP 0 rfl rfl 32 (by decide) (hts (.fieldLink RX11 272 "LeftQuillsModel" "givenMost" "I") (wmx 2 rfl)) (fun _ h9 => h9) rfl dX11_findGiven_162 ?_
                    refine va_put (D := (dC, dI)) (ci := 11) (v := .int i12_h0_32) (ty := .int) (C := RX11) (T := TX11) (N := 46) hx hb hts hi_X11 tyX11 tyX11_ok nmX11 hown hK hP hD hS 0 rfl rfl 32 (by decide) (hts (.fieldLink RX11 272 "LeftQuillsModel" "givenMost" "I") (wmx 2 rfl)) (fun _ h9 => h9) rfl (by decide +kernel) rfl rfl (Nat.le_of_ble_eq_true rfl) dX11_findGiven_165 (fun H locs hP hD hS => ?_)
                    have hPD : pdW (dC, dI) vwCl A [(h0, .inr (11, (.int n0 :: .int n1 :: .int (nI nq) :: .ref m3 :: .ref m4 :: .ref m5 :: .int (nI nh) :: .ref m7 :: .ref m8 :: .ref m9 :: .ref m10 :: .int (nI sd) :: .ref m12 :: .int (nI tx) :: .int n14 :: .int (nI at9) :: .int n16 :: .int n17 :: .ref m18 :: .int (nI rq) :: .ref m20 :: .ref m21 :: .ref m22 :: .ref m23 :: .ref m24 :: .int (nI rh) :: .ref m26 :: .ref m27 :: .ref m28 :: .int (nI un) :: .ref m30 :: .int i12_h0_31 :: .int i12_h0_32 :: .ref m33 :: .int n34 :: .int n35 :: .ref m36 :: .int (nI wm) :: .ref m38 :: .ref m39 :: .ref m40 :: .int (nI bk) :: .ref m42 :: .ref m43 :: .ref m44 :: .ref m45 :: []))), (m3, .inl (cI, 8, .inl fm3)), (m4, .inl (cI, 8, .inl fm4)), (m5, .inl (cI, 8, .inl fm5)), (m7, .inl (cI, 4, .inl fm7)), (m8, .inl (cI, 4, .inl fm8)), (m9, .inl (cI, 4, .inl fm9)), (m10, .inl (cI, 34, .inl fm10))] H := ⟨hP, hD⟩
                    have hP := hPD.1
                    have hD := hPD.2
                    clear hPD
                    refine lv_iinc (v := nI (k12 + 1)) (lv' := [(1, .int (nI (k12 + 1))), (5, .int (nI k34)), (2, .int a34_2), (3, .int a34_3), (4, .int (nI a34_4)), (0, .ref h0)]) hx hb dX11_findGiven_168 hl (k := 4) rfl ((rfl : nI k12 + Int32.ofInt 1 = nI k12 + 1).trans (nI_add k12 1)) (by decide) rfl (fun ls hl => ?_)
                    refine lv_goto (tgt := 12) hx hb dX11_findGiven_171 (by decide) ?_
                    exact ih12 (k12 + 1) i12_h0_31 i12_h0_32 _ _ _ (by omega) hP hD hS (lv_sub hl [0, 5] rfl)
                  ·
                    refine lv_iload_n hx hb dX11_findGiven_157 rfl (lv_at hl 2 rfl) ?_
                    refine lv_goto (tgt := 165) hx hb dX11_findGiven_158 (by decide) ?_
                    refine va_put (D := (dC, dI)) (ci := 11) (v := .int a34_3) (ty := .int) (C := RX11) (T := TX11) (N := 46) hx hb hts hi_X11 tyX11 tyX11_ok nmX11 hown hK hP hD hS 0 rfl rfl 32 (by decide) (hts (.fieldLink RX11 272 "LeftQuillsModel" "givenMost" "I") (wmx 2 rfl)) (fun _ h9 => h9) rfl (by decide +kernel) rfl rfl (Nat.le_of_ble_eq_true rfl) dX11_findGiven_165 (fun H locs hP hD hS => ?_)
                    have hPD : pdW (dC, dI) vwCl A [(h0, .inr (11, (.int n0 :: .int n1 :: .int (nI nq) :: .ref m3 :: .ref m4 :: .ref m5 :: .int (nI nh) :: .ref m7 :: .ref m8 :: .ref m9 :: .ref m10 :: .int (nI sd) :: .ref m12 :: .int (nI tx) :: .int n14 :: .int (nI at9) :: .int n16 :: .int n17 :: .ref m18 :: .int (nI rq) :: .ref m20 :: .ref m21 :: .ref m22 :: .ref m23 :: .ref m24 :: .int (nI rh) :: .ref m26 :: .ref m27 :: .ref m28 :: .int (nI un) :: .ref m30 :: .int i12_h0_31 :: .int a34_3 :: .ref m33 :: .int n34 :: .int n35 :: .ref m36 :: .int (nI wm) :: .ref m38 :: .ref m39 :: .ref m40 :: .int (nI bk) :: .ref m42 :: .ref m43 :: .ref m44 :: .ref m45 :: []))), (m3, .inl (cI, 8, .inl fm3)), (m4, .inl (cI, 8, .inl fm4)), (m5, .inl (cI, 8, .inl fm5)), (m7, .inl (cI, 4, .inl fm7)), (m8, .inl (cI, 4, .inl fm8)), (m9, .inl (cI, 4, .inl fm9)), (m10, .inl (cI, 34, .inl fm10))] H := ⟨hP, hD⟩
                    have hP := hPD.1
                    have hD := hPD.2
                    clear hPD
                    refine lv_iinc (v := nI (k12 + 1)) (lv' := [(1, .int (nI (k12 + 1))), (5, .int (nI k34)), (2, .int a34_2), (3, .int a34_3), (4, .int (nI a34_4)), (0, .ref h0)]) hx hb dX11_findGiven_168 hl (k := 4) rfl ((rfl : nI k12 + Int32.ofInt 1 = nI k12 + 1).trans (nI_add k12 1)) (by decide) rfl (fun ls hl => ?_)
                    refine lv_goto (tgt := 12) hx hb dX11_findGiven_171 (by decide) ?_
                    exact ih12 (k12 + 1) i12_h0_31 a34_3 _ _ _ (by omega) hP hD hS (lv_sub hl [0, 5] rfl)
              ·
                refine lv_iload_n hx hb dX11_findGiven_132 rfl (lv_at hl 4 rfl) ?_
                refine lv_goto (tgt := 140) hx hb dX11_findGiven_133 (by decide) ?_
                refine va_put (D := (dC, dI)) (ci := 11) (v := .int (nI k12)) (ty := .int) (C := RX11) (T := TX11) (N := 46) hx hb hts hi_X11 tyX11 tyX11_ok nmX11 hown hK hP hD hS 0 rfl rfl 31 (by decide) (hts (.fieldLink RX11 269 "LeftQuillsModel" "given" "I") (wmx 1 rfl)) (fun _ h9 => h9) rfl (by decide +kernel) rfl rfl (Nat.le_of_ble_eq_true rfl) dX11_findGiven_140 (fun H locs hP hD hS => ?_)
                have hPD : pdW (dC, dI) vwCl A [(h0, .inr (11, (.int n0 :: .int n1 :: .int (nI nq) :: .ref m3 :: .ref m4 :: .ref m5 :: .int (nI nh) :: .ref m7 :: .ref m8 :: .ref m9 :: .ref m10 :: .int (nI sd) :: .ref m12 :: .int (nI tx) :: .int n14 :: .int (nI at9) :: .int n16 :: .int n17 :: .ref m18 :: .int (nI rq) :: .ref m20 :: .ref m21 :: .ref m22 :: .ref m23 :: .ref m24 :: .int (nI rh) :: .ref m26 :: .ref m27 :: .ref m28 :: .int (nI un) :: .ref m30 :: .int (nI k12) :: .int i12_h0_32 :: .ref m33 :: .int n34 :: .int n35 :: .ref m36 :: .int (nI wm) :: .ref m38 :: .ref m39 :: .ref m40 :: .int (nI bk) :: .ref m42 :: .ref m43 :: .ref m44 :: .ref m45 :: []))), (m3, .inl (cI, 8, .inl fm3)), (m4, .inl (cI, 8, .inl fm4)), (m5, .inl (cI, 8, .inl fm5)), (m7, .inl (cI, 4, .inl fm7)), (m8, .inl (cI, 4, .inl fm8)), (m9, .inl (cI, 4, .inl fm9)), (m10, .inl (cI, 34, .inl fm10))] H := ⟨hP, hD⟩
                have hP := hPD.1
                have hD := hPD.2
                clear hPD
                refine lv_aload_n hx hb dX11_findGiven_143 rfl (lv_at hl 5 rfl) ?_
                refine lv_iload hx hb dX11_findGiven_144 (lv_at hl 3 rfl) ?_
                refine lv_if_eq (tgt := 161) hx hb dX11_findGiven_146 (by decide) (fun c24 => ?_) (fun c24 => ?_)
                ·
                  have c24 : a34_4 = 0 := (nI_eq (a := a34_4) (b := 0) (by omega) (by omega)).mp c24
                  refine lv_aload_n hx hb dX11_findGiven_161 rfl (lv_at hl 5 rfl) ?_
                  refine va_get (D := (dC, dI)) (ci := 11) (v := .int i12_h0_32) (C := RX11) (T := TX11) (N := 46) hx hb hts hi_X11 hown hK hP 0 rfl rfl 32 (by decide) (hts (.fieldLink RX11 272 "LeftQuillsModel" "givenMost" "I") (wmx 2 rfl)) (fun _ h9 => h9) rfl dX11_findGiven_162 ?_
                  refine va_put (D := (dC, dI)) (ci := 11) (v := .int i12_h0_32) (ty := .int) (C := RX11) (T := TX11) (N := 46) hx hb hts hi_X11 tyX11 tyX11_ok nmX11 hown hK hP hD hS 0 rfl rfl 32 (by decide) (hts (.fieldLink RX11 272 "LeftQuillsModel" "givenMost" "I") (wmx 2 rfl)) (fun _ h9 => h9) rfl (by decide +kernel) rfl rfl (Nat.le_of_ble_eq_true rfl) dX11_findGiven_165 (fun H locs hP hD hS => ?_)
                  have hPD : pdW (dC, dI) vwCl A [(h0, .inr (11, (.int n0 :: .int n1 :: .int (nI nq) :: .ref m3 :: .ref m4 :: .ref m5 :: .int (nI nh) :: .ref m7 :: .ref m8 :: .ref m9 :: .ref m10 :: .int (nI sd) :: .ref m12 :: .int (nI tx) :: .int n14 :: .int (nI at9) :: .int n16 :: .int n17 :: .ref m18 :: .int (nI rq) :: .ref m20 :: .ref m21 :: .ref m22 :: .ref m23 :: .ref m24 :: .int (nI rh) :: .ref m26 :: .ref m27 :: .ref m28 :: .int (nI un) :: .ref m30 :: .int (nI k12) :: .int i12_h0_32 :: .ref m33 :: .int n34 :: .int n35 :: .ref m36 :: .int (nI wm) :: .ref m38 :: .ref m39 :: .ref m40 :: .int (nI bk) :: .ref m42 :: .ref m43 :: .ref m44 :: .ref m45 :: []))), (m3, .inl (cI, 8, .inl fm3)), (m4, .inl (cI, 8, .inl fm4)), (m5, .inl (cI, 8, .inl fm5)), (m7, .inl (cI, 4, .inl fm7)), (m8, .inl (cI, 4, .inl fm8)), (m9, .inl (cI, 4, .inl fm9)), (m10, .inl (cI, 34, .inl fm10))] H := ⟨hP, hD⟩
                  have hP := hPD.1
                  have hD := hPD.2
                  clear hPD
                  refine lv_iinc (v := nI (k12 + 1)) (lv' := [(1, .int (nI (k12 + 1))), (5, .int (nI k34)), (2, .int a34_2), (3, .int a34_3), (4, .int (nI a34_4)), (0, .ref h0)]) hx hb dX11_findGiven_168 hl (k := 4) rfl ((rfl : nI k12 + Int32.ofInt 1 = nI k12 + 1).trans (nI_add k12 1)) (by decide) rfl (fun ls hl => ?_)
                  refine lv_goto (tgt := 12) hx hb dX11_findGiven_171 (by decide) ?_
                  exact ih12 (k12 + 1) (nI k12) i12_h0_32 _ _ _ (by omega) hP hD hS (lv_sub hl [0, 5] rfl)
                ·
                  have c24 : ¬ a34_4 = 0 := fun h => c24 ((nI_eq (a := a34_4) (b := 0) (by omega) (by omega)).mpr h)
                  refine lv_iload_n hx hb dX11_findGiven_149 rfl (lv_at hl 2 rfl) ?_
                  refine lv_aload_n hx hb dX11_findGiven_150 rfl (lv_at hl 5 rfl) ?_
                  refine va_get (D := (dC, dI)) (ci := 11) (v := .int i12_h0_32) (C := RX11) (T := TX11) (N := 46) hx hb hts hi_X11 hown hK hP 0 rfl rfl 32 (by decide) (hts (.fieldLink RX11 272 "LeftQuillsModel" "givenMost" "I") (wmx 2 rfl)) (fun _ h9 => h9) rfl dX11_findGiven_151 ?_
                  refine lv_icmp_le (tgt := 161) hx hb dX11_findGiven_154 (by decide) (fun c25 => ?_) (fun c25 => ?_)
                  ·
                    refine lv_aload_n hx hb dX11_findGiven_161 rfl (lv_at hl 5 rfl) ?_
                    refine va_get (D := (dC, dI)) (ci := 11) (v := .int i12_h0_32) (C := RX11) (T := TX11) (N := 46) hx hb hts hi_X11 hown hK hP 0 rfl rfl 32 (by decide) (hts (.fieldLink RX11 272 "LeftQuillsModel" "givenMost" "I") (wmx 2 rfl)) (fun _ h9 => h9) rfl dX11_findGiven_162 ?_
                    refine va_put (D := (dC, dI)) (ci := 11) (v := .int i12_h0_32) (ty := .int) (C := RX11) (T := TX11) (N := 46) hx hb hts hi_X11 tyX11 tyX11_ok nmX11 hown hK hP hD hS 0 rfl rfl 32 (by decide) (hts (.fieldLink RX11 272 "LeftQuillsModel" "givenMost" "I") (wmx 2 rfl)) (fun _ h9 => h9) rfl (by decide +kernel) rfl rfl (Nat.le_of_ble_eq_true rfl) dX11_findGiven_165 (fun H locs hP hD hS => ?_)
                    have hPD : pdW (dC, dI) vwCl A [(h0, .inr (11, (.int n0 :: .int n1 :: .int (nI nq) :: .ref m3 :: .ref m4 :: .ref m5 :: .int (nI nh) :: .ref m7 :: .ref m8 :: .ref m9 :: .ref m10 :: .int (nI sd) :: .ref m12 :: .int (nI tx) :: .int n14 :: .int (nI at9) :: .int n16 :: .int n17 :: .ref m18 :: .int (nI rq) :: .ref m20 :: .ref m21 :: .ref m22 :: .ref m23 :: .ref m24 :: .int (nI rh) :: .ref m26 :: .ref m27 :: .ref m28 :: .int (nI un) :: .ref m30 :: .int (nI k12) :: .int i12_h0_32 :: .ref m33 :: .int n34 :: .int n35 :: .ref m36 :: .int (nI wm) :: .ref m38 :: .ref m39 :: .ref m40 :: .int (nI bk) :: .ref m42 :: .ref m43 :: .ref m44 :: .ref m45 :: []))), (m3, .inl (cI, 8, .inl fm3)), (m4, .inl (cI, 8, .inl fm4)), (m5, .inl (cI, 8, .inl fm5)), (m7, .inl (cI, 4, .inl fm7)), (m8, .inl (cI, 4, .inl fm8)), (m9, .inl (cI, 4, .inl fm9)), (m10, .inl (cI, 34, .inl fm10))] H := ⟨hP, hD⟩
                    have hP := hPD.1
                    have hD := hPD.2
                    clear hPD
                    refine lv_iinc (v := nI (k12 + 1)) (lv' := [(1, .int (nI (k12 + 1))), (5, .int (nI k34)), (2, .int a34_2), (3, .int a34_3), (4, .int (nI a34_4)), (0, .ref h0)]) hx hb dX11_findGiven_168 hl (k := 4) rfl ((rfl : nI k12 + Int32.ofInt 1 = nI k12 + 1).trans (nI_add k12 1)) (by decide) rfl (fun ls hl => ?_)
                    refine lv_goto (tgt := 12) hx hb dX11_findGiven_171 (by decide) ?_
                    exact ih12 (k12 + 1) (nI k12) i12_h0_32 _ _ _ (by omega) hP hD hS (lv_sub hl [0, 5] rfl)
                  ·
                    refine lv_iload_n hx hb dX11_findGiven_157 rfl (lv_at hl 2 rfl) ?_
                    refine lv_goto (tgt := 165) hx hb dX11_findGiven_158 (by decide) ?_
                    refine va_put (D := (dC, dI)) (ci := 11) (v := .int a34_3) (ty := .int) (C := RX11) (T := TX11) (N := 46) hx hb hts hi_X11 tyX11 tyX11_ok nmX11 hown hK hP hD hS 0 rfl rfl 32 (by decide) (hts (.fieldLink RX11 272 "LeftQuillsModel" "givenMost" "I") (wmx 2 rfl)) (fun _ h9 => h9) rfl (by decide +kernel) rfl rfl (Nat.le_of_ble_eq_true rfl) dX11_findGiven_165 (fun H locs hP hD hS => ?_)
                    have hPD : pdW (dC, dI) vwCl A [(h0, .inr (11, (.int n0 :: .int n1 :: .int (nI nq) :: .ref m3 :: .ref m4 :: .ref m5 :: .int (nI nh) :: .ref m7 :: .ref m8 :: .ref m9 :: .ref m10 :: .int (nI sd) :: .ref m12 :: .int (nI tx) :: .int n14 :: .int (nI at9) :: .int n16 :: .int n17 :: .ref m18 :: .int (nI rq) :: .ref m20 :: .ref m21 :: .ref m22 :: .ref m23 :: .ref m24 :: .int (nI rh) :: .ref m26 :: .ref m27 :: .ref m28 :: .int (nI un) :: .ref m30 :: .int (nI k12) :: .int a34_3 :: .ref m33 :: .int n34 :: .int n35 :: .ref m36 :: .int (nI wm) :: .ref m38 :: .ref m39 :: .ref m40 :: .int (nI bk) :: .ref m42 :: .ref m43 :: .ref m44 :: .ref m45 :: []))), (m3, .inl (cI, 8, .inl fm3)), (m4, .inl (cI, 8, .inl fm4)), (m5, .inl (cI, 8, .inl fm5)), (m7, .inl (cI, 4, .inl fm7)), (m8, .inl (cI, 4, .inl fm8)), (m9, .inl (cI, 4, .inl fm9)), (m10, .inl (cI, 34, .inl fm10))] H := ⟨hP, hD⟩
                    have hP := hPD.1
                    have hD := hPD.2
                    clear hPD
                    refine lv_iinc (v := nI (k12 + 1)) (lv' := [(1, .int (nI (k12 + 1))), (5, .int (nI k34)), (2, .int a34_2), (3, .int a34_3), (4, .int (nI a34_4)), (0, .ref h0)]) hx hb dX11_findGiven_168 hl (k := 4) rfl ((rfl : nI k12 + Int32.ofInt 1 = nI k12 + 1).trans (nI_add k12 1)) (by decide) rfl (fun ls hl => ?_)
                    refine lv_goto (tgt := 12) hx hb dX11_findGiven_171 (by decide) ?_
                    exact ih12 (k12 + 1) (nI k12) a34_3 _ _ _ (by omega) hP hD hS (lv_sub hl [0, 5] rfl)
          ·
            have c17 : ¬ a34_4 = 0 := fun h => c17 ((nI_eq (a := a34_4) (b := 0) (by omega) (by omega)).mpr h)
            refine lv_iload_n hx hb dX11_findGiven_48 rfl (lv_at hl 4 rfl) ?_
            refine lv_aload_n hx hb dX11_findGiven_49 rfl (lv_at hl 5 rfl) ?_
            refine va_get (D := (dC, dI)) (ci := 11) (v := .int (nI nh)) (C := RX11) (T := TX11) (N := 46) hx hb hts hi_X11 hown hK hP 0 rfl rfl 6 (by decide) (hts (.fieldLink RX11 106 "LeftQuillsModel" "hands" "I") (wmx 3 rfl)) (fun _ h9 => h9) rfl dX11_findGiven_50 ?_
            refine lv_iload hx hb dX11_findGiven_53 (lv_at hl 0 rfl) ?_
            have hPc := hP.sub (ws' := []) [] rfl
            refine va_calli (va_runS (As := [.int (nI k12), .int (nI nh), .int (nI k34)]) (rest := []) ⟨hx, hb, hml, hown, hts⟩ (c_X11_figure l dC dI cI cZ cQ (nI k12) (nI nh) (nI k34) H.size ) (va_cwS 3 hts gX11_findGiven_X11_figure rfl rfl rfl (by decide +kernel) ⟨Nat.le_of_ble_eq_true rfl, Nat.le_of_ble_eq_true rfl⟩) (ps_R hK hPc) rfl rfl hl.1 rfl (lv_room (Nat.le_of_ble_eq_true rfl)) dX11_findGiven_55 ⟨Nat.le_of_ble_eq_true rfl, Nat.le_of_ble_eq_true rfl⟩) hS (fun q _ h => False.elim h) (fun q h => False.elim h) (fun r26 u27 t H1 locs ht hvm hw28 hB hz1 hk1 hS => ?_)
            have hP := hP.kept (fun k q hk => hk1 q.1 (hP k q hk).lt (fun h => h))
            clear hz1 hk1 hPc
            generalize H1 = H at hP hS ht ⊢
            try dsimp only at hw28
            obtain ⟨w29, hw29, rfl⟩ := hw28
            refine lv_istore (lv' := [(6, .int (nI w29)), (5, .int (nI k34)), (2, .int a34_2), (3, .int a34_3), (4, .int (nI a34_4)), (1, .int (nI k12)), (0, .ref h0)]) hx hb dX11_findGiven_58 hl (by decide) rfl (fun ls hl => ?_)
            refine lv_iload hx hb dX11_findGiven_60 (lv_at hl 0 rfl) ?_
            refine lv_aload_n hx hb dX11_findGiven_62 rfl (lv_at hl 6 rfl) ?_
            refine va_get (D := (dC, dI)) (ci := 11) (v := .int (nI nq)) (C := RX11) (T := TX11) (N := 46) hx hb hts hi_X11 hown hK hP 0 rfl rfl 2 (by decide) (hts (.fieldLink RX11 99 "LeftQuillsModel" "quills" "I") (wmx 4 rfl)) (fun _ h9 => h9) rfl dX11_findGiven_63 ?_
            refine lv_icmp_ge (tgt := 82) hx hb dX11_findGiven_66 (by decide) (fun c30 => ?_) (fun c30 => ?_)
            ·
              have c30 : nq ≤ w29 := (nI_leI (a := nq) (b := w29) (by omega) (by omega)).mp c30
              refine lv_iconst (v := 0) hx hb dX11_findGiven_82 (by decide) ?_
              refine lv_istore (lv' := [(4, .int 0), (6, .int (nI w29)), (5, .int (nI k34)), (2, .int a34_2), (3, .int a34_3), (1, .int (nI k12)), (0, .ref h0)]) hx hb dX11_findGiven_83 hl (by decide) rfl (fun ls hl => ?_)
              refine lv_iload_n hx hb dX11_findGiven_85 rfl (lv_at hl 3 rfl) ?_
              refine lv_iconst (v := 1) hx hb dX11_findGiven_86 (by decide) ?_
              refine lv_iload hx hb dX11_findGiven_87 (lv_at hl 1 rfl) ?_
              refine lv_ishl hx hb dX11_findGiven_89 ?_
              refine lv_topi (fun z31 ez31 => ?_)
              refine lv_ior hx hb dX11_findGiven_90 ?_
              refine lv_topi (fun z32 ez32 => ?_)
              refine lv_istore_n (lv' := [(2, .int z32), (4, .int 0), (6, .int (nI w29)), (5, .int (nI k34)), (3, .int a34_3), (1, .int (nI k12)), (0, .ref h0)]) hx hb dX11_findGiven_91 rfl hl (by decide) rfl (fun ls hl => ?_)
              refine lv_iload_n hx hb dX11_findGiven_92 rfl (lv_at hl 4 rfl) ?_
              refine lv_iload hx hb dX11_findGiven_93 (lv_at hl 1 rfl) ?_
              refine lv_if_eq (tgt := 109) hx hb dX11_findGiven_95 (by decide) (fun c33 => ?_) (fun c33 => ?_)
              rotate_left
              · exact absurd c33 (by decide)
              clear c33
              refine lv_iconst (v := 0) hx hb dX11_findGiven_109 (by decide) ?_
              refine lv_iadd hx hb dX11_findGiven_110 ?_
              refine lv_topi (fun z34 ez34 => ?_)
              refine lv_istore_n (lv' := [(3, .int z34), (2, .int z32), (4, .int 0), (6, .int (nI w29)), (5, .int (nI k34)), (1, .int (nI k12)), (0, .ref h0)]) hx hb dX11_findGiven_111 rfl hl (by decide) rfl (fun ls hl => ?_)
              refine lv_iinc (v := nI (k34 + 1)) (lv' := [(5, .int (nI (k34 + 1))), (3, .int z34), (2, .int z32), (4, .int 0), (6, .int (nI w29)), (1, .int (nI k12)), (0, .ref h0)]) hx hb dX11_findGiven_112 hl (k := 4) rfl ((rfl : nI k34 + Int32.ofInt 1 = nI k34 + 1).trans (nI_add k34 1)) (by decide) rfl (fun ls hl => ?_)
              refine lv_goto (tgt := 34) hx hb dX11_findGiven_115 (by decide) ?_
              exact ih34 (k34 + 1) z32 z34 0 _ _ _ (by omega) (by omega) hP hD hS (lv_sub hl [0, 2, 1, 3, 5, 6] rfl)
            ·
              have c30 : ¬ nq ≤ w29 := fun h => c30 ((nI_leI (a := nq) (b := w29) (by omega) (by omega)).mpr h)
              refine lv_iload_n hx hb dX11_findGiven_69 rfl (lv_at hl 2 rfl) ?_
              refine lv_iload hx hb dX11_findGiven_70 (lv_at hl 0 rfl) ?_
              have hPc := hP.sub (ws' := []) [] rfl
              refine va_calli (va_runS (As := [.int a34_2, .int (nI w29)]) (rest := []) ⟨hx, hb, hml, hown, hts⟩ (c_X11_has l dC dI cI cZ cQ a34_2 (nI w29) H.size ) (va_cwS 2 hts gX11_findGiven_X11_has rfl rfl rfl (by decide +kernel) ⟨Nat.le_of_ble_eq_true rfl, Nat.le_of_ble_eq_true rfl⟩) (ps_R hK hPc) rfl rfl hl.1 rfl (lv_room (Nat.le_of_ble_eq_true rfl)) dX11_findGiven_72 ⟨Nat.le_of_ble_eq_true rfl, Nat.le_of_ble_eq_true rfl⟩) hS (fun q _ h => False.elim h) (fun q h => False.elim h) (fun r35 u36 t H1 locs ht hvm hw37 hB hz1 hk1 hS => ?_)
              have hP := hP.kept (fun k q hk => hk1 q.1 (hP k q hk).lt (fun h => h))
              clear hz1 hk1 hPc
              generalize H1 = H at hP hS ht ⊢
              try dsimp only at hw37
              rcases hw37 with rfl | rfl
              ·
                refine lv_if_ne (tgt := 82) hx hb dX11_findGiven_75 (by decide) (fun c38 => ?_) (fun c38 => ?_)
                rotate_left
                · exact absurd c38 (by decide)
                clear c38
                refine lv_iconst (v := 0) hx hb dX11_findGiven_82 (by decide) ?_
                refine lv_istore (lv' := [(4, .int 0), (6, .int (nI w29)), (5, .int (nI k34)), (2, .int a34_2), (3, .int a34_3), (1, .int (nI k12)), (0, .ref h0)]) hx hb dX11_findGiven_83 hl (by decide) rfl (fun ls hl => ?_)
                refine lv_iload_n hx hb dX11_findGiven_85 rfl (lv_at hl 3 rfl) ?_
                refine lv_iconst (v := 1) hx hb dX11_findGiven_86 (by decide) ?_
                refine lv_iload hx hb dX11_findGiven_87 (lv_at hl 1 rfl) ?_
                refine lv_ishl hx hb dX11_findGiven_89 ?_
                refine lv_topi (fun z39 ez39 => ?_)
                refine lv_ior hx hb dX11_findGiven_90 ?_
                refine lv_topi (fun z40 ez40 => ?_)
                refine lv_istore_n (lv' := [(2, .int z40), (4, .int 0), (6, .int (nI w29)), (5, .int (nI k34)), (3, .int a34_3), (1, .int (nI k12)), (0, .ref h0)]) hx hb dX11_findGiven_91 rfl hl (by decide) rfl (fun ls hl => ?_)
                refine lv_iload_n hx hb dX11_findGiven_92 rfl (lv_at hl 4 rfl) ?_
                refine lv_iload hx hb dX11_findGiven_93 (lv_at hl 1 rfl) ?_
                refine lv_if_eq (tgt := 109) hx hb dX11_findGiven_95 (by decide) (fun c41 => ?_) (fun c41 => ?_)
                rotate_left
                · exact absurd c41 (by decide)
                clear c41
                refine lv_iconst (v := 0) hx hb dX11_findGiven_109 (by decide) ?_
                refine lv_iadd hx hb dX11_findGiven_110 ?_
                refine lv_topi (fun z42 ez42 => ?_)
                refine lv_istore_n (lv' := [(3, .int z42), (2, .int z40), (4, .int 0), (6, .int (nI w29)), (5, .int (nI k34)), (1, .int (nI k12)), (0, .ref h0)]) hx hb dX11_findGiven_111 rfl hl (by decide) rfl (fun ls hl => ?_)
                refine lv_iinc (v := nI (k34 + 1)) (lv' := [(5, .int (nI (k34 + 1))), (3, .int z42), (2, .int z40), (4, .int 0), (6, .int (nI w29)), (1, .int (nI k12)), (0, .ref h0)]) hx hb dX11_findGiven_112 hl (k := 4) rfl ((rfl : nI k34 + Int32.ofInt 1 = nI k34 + 1).trans (nI_add k34 1)) (by decide) rfl (fun ls hl => ?_)
                refine lv_goto (tgt := 34) hx hb dX11_findGiven_115 (by decide) ?_
                exact ih34 (k34 + 1) z40 z42 0 _ _ _ (by omega) (by omega) hP hD hS (lv_sub hl [0, 2, 1, 3, 5, 6] rfl)
              ·
                refine lv_if_ne (tgt := 82) hx hb dX11_findGiven_75 (by decide) (fun c43 => ?_) (fun c43 => ?_)
                · exact absurd c43 (by decide)
                clear c43
                refine lv_iconst (v := 1) hx hb dX11_findGiven_78 (by decide) ?_
                refine lv_goto (tgt := 83) hx hb dX11_findGiven_79 (by decide) ?_
                refine lv_istore (lv' := [(4, .int 1), (6, .int (nI w29)), (5, .int (nI k34)), (2, .int a34_2), (3, .int a34_3), (1, .int (nI k12)), (0, .ref h0)]) hx hb dX11_findGiven_83 hl (by decide) rfl (fun ls hl => ?_)
                refine lv_iload_n hx hb dX11_findGiven_85 rfl (lv_at hl 3 rfl) ?_
                refine lv_iconst (v := 1) hx hb dX11_findGiven_86 (by decide) ?_
                refine lv_iload hx hb dX11_findGiven_87 (lv_at hl 1 rfl) ?_
                refine lv_ishl hx hb dX11_findGiven_89 ?_
                refine lv_topi (fun z44 ez44 => ?_)
                refine lv_ior hx hb dX11_findGiven_90 ?_
                refine lv_topi (fun z45 ez45 => ?_)
                refine lv_istore_n (lv' := [(2, .int z45), (4, .int 1), (6, .int (nI w29)), (5, .int (nI k34)), (3, .int a34_3), (1, .int (nI k12)), (0, .ref h0)]) hx hb dX11_findGiven_91 rfl hl (by decide) rfl (fun ls hl => ?_)
                refine lv_iload_n hx hb dX11_findGiven_92 rfl (lv_at hl 4 rfl) ?_
                refine lv_iload hx hb dX11_findGiven_93 (lv_at hl 1 rfl) ?_
                refine lv_if_eq (tgt := 109) hx hb dX11_findGiven_95 (by decide) (fun c46 => ?_) (fun c46 => ?_)
                · exact absurd c46 (by decide)
                clear c46
                refine lv_aload_n hx hb dX11_findGiven_98 rfl (lv_at hl 6 rfl) ?_
                refine lv_iload hx hb dX11_findGiven_99 (lv_at hl 2 rfl) ?_
                refine lv_iload hx hb dX11_findGiven_101 (lv_at hl 3 rfl) ?_
                have hPc := hP.sub (ws' := [(h0, .inr (11, (.int n0 :: .int n1 :: .int (nI nq) :: .ref m3 :: .ref m4 :: .ref m5 :: .int (nI nh) :: .ref m7 :: .ref m8 :: .ref m9 :: .ref m10 :: .int (nI sd) :: .ref m12 :: .int (nI tx) :: .int n14 :: .int (nI at9) :: .int n16 :: .int n17 :: .ref m18 :: .int (nI rq) :: .ref m20 :: .ref m21 :: .ref m22 :: .ref m23 :: .ref m24 :: .int (nI rh) :: .ref m26 :: .ref m27 :: .ref m28 :: .int (nI un) :: .ref m30 :: .int i12_h0_31 :: .int i12_h0_32 :: .ref m33 :: .int n34 :: .int n35 :: .ref m36 :: .int (nI wm) :: .ref m38 :: .ref m39 :: .ref m40 :: .int (nI bk) :: .ref m42 :: .ref m43 :: .ref m44 :: .ref m45 :: []))), (m3, .inl (cI, 8, .inl fm3)), (m4, .inl (cI, 8, .inl fm4)), (m5, .inl (cI, 8, .inl fm5)), (m7, .inl (cI, 4, .inl fm7)), (m8, .inl (cI, 4, .inl fm8)), (m9, .inl (cI, 4, .inl fm9)), (m10, .inl (cI, 34, .inl fm10))]) [0, 1, 2, 3, 4, 5, 6, 7] rfl
                refine va_calli (va_runV (As := [.int (nI w29), .int (nI k34)]) (rest := [.int a34_3]) ⟨hx, hb, hml, hown, hts⟩ (c_X11_goodNow l dC dI cI cZ cQ h0 m3 m4 m5 m7 m8 m9 m10 ((.int n0 :: .int n1 :: .int (nI nq) :: .ref m3 :: .ref m4 :: .ref m5 :: .int (nI nh) :: .ref m7 :: .ref m8 :: .ref m9 :: .ref m10 :: .int (nI sd) :: .ref m12 :: .int (nI tx) :: .int n14 :: .int (nI at9) :: .int n16 :: .int n17 :: .ref m18 :: .int (nI rq) :: .ref m20 :: .ref m21 :: .ref m22 :: .ref m23 :: .ref m24 :: .int (nI rh) :: .ref m26 :: .ref m27 :: .ref m28 :: .int (nI un) :: .ref m30 :: .int i12_h0_31 :: .int i12_h0_32 :: .ref m33 :: .int n34 :: .int n35 :: .ref m36 :: .int (nI wm) :: .ref m38 :: .ref m39 :: .ref m40 :: .int (nI bk) :: .ref m42 :: .ref m43 :: .ref m44 :: .ref m45 :: [])) fm3 fm4 fm5 fm7 fm8 fm9 fm10 w29 k34 nq H.size rfl rfl rfl rfl rfl rfl rfl (by omega) (by first | assumption | decide) (by omega) (by omega)) (cwV 2 hts gX11_findGiven_X11_goodNow rfl rfl rfl hd_X11_goodNow_RX11 ⟨Nat.le_of_ble_eq_true rfl, Nat.le_of_ble_eq_true rfl⟩) (pv_R (va_recv hK hP (ci := 11) (q0 := 0) rfl rfl) hK hPc) rfl rfl hl.1 rfl (lv_room (Nat.le_of_ble_eq_true rfl)) dX11_findGiven_103 ⟨Nat.le_of_ble_eq_true rfl, Nat.le_of_ble_eq_true rfl⟩) hS (fun q _ h => False.elim h) (fun q h => False.elim h) (fun r47 u48 t H1 locs ht hvm hw49 hB hz1 hk1 hS => ?_)
                have hP := hP.kept (fun k q hk => hk1 q.1 (hP k q hk).lt (fun h => h))
                clear hz1 hk1 hPc
                generalize H1 = H at hP hS ht ⊢
                try dsimp only at hw49
                refine lv_goto (tgt := 110) hx hb dX11_findGiven_106 (by decide) ?_
                refine lv_iadd hx hb dX11_findGiven_110 ?_
                refine lv_topi (fun z50 ez50 => ?_)
                refine lv_istore_n (lv' := [(3, .int z50), (2, .int z45), (4, .int 1), (6, .int (nI w29)), (5, .int (nI k34)), (1, .int (nI k12)), (0, .ref h0)]) hx hb dX11_findGiven_111 rfl hl (by decide) rfl (fun ls hl => ?_)
                refine lv_iinc (v := nI (k34 + 1)) (lv' := [(5, .int (nI (k34 + 1))), (3, .int z50), (2, .int z45), (4, .int 1), (6, .int (nI w29)), (1, .int (nI k12)), (0, .ref h0)]) hx hb dX11_findGiven_112 hl (k := 4) rfl ((rfl : nI k34 + Int32.ofInt 1 = nI k34 + 1).trans (nI_add k34 1)) (by decide) rfl (fun ls hl => ?_)
                refine lv_goto (tgt := 34) hx hb dX11_findGiven_115 (by decide) ?_
                exact ih34 (k34 + 1) z45 z50 1 _ _ _ (by omega) (by omega) hP hD hS (lv_sub hl [0, 2, 1, 3, 5, 6] rfl)
set_option maxHeartbeats 4000000 in
set_option maxRecDepth 100000 in
theorem c_X11_toWhomA (l : Launch) (dC : Nat → ClassId) (dI : Nat → Nat → Nat) (cI cZ cQ : ClassId) (h0 : Nat) (n0 : Int32) (n1 : Int32) (nq : Nat) (m3 : Nat) (m4 : Nat) (m5 : Nat) (nh : Nat) (m7 : Nat) (m8 : Nat) (m9 : Nat) (m10 : Nat) (sd : Nat) (m12 : Nat) (tx : Nat) (n14 : Int32) (at9 : Nat) (n16 : Int32) (n17 : Int32) (m18 : Nat) (rq : Nat) (m20 : Nat) (m21 : Nat) (m22 : Nat) (m23 : Nat) (m24 : Nat) (rh : Nat) (m26 : Nat) (m27 : Nat) (m28 : Nat) (un : Nat) (m30 : Nat) (n31 : Int32) (n32 : Int32) (m33 : Nat) (n34 : Int32) (n35 : Int32) (m36 : Nat) (wm : Nat) (m38 : Nat) (m39 : Nat) (m40 : Nat) (bk : Nat) (m42 : Nat) (m43 : Nat) (m44 : Nat) (m45 : Nat) (fm3 : Nat → Int32) (fm4 : Nat → Int32) (fm5 : Nat → Int32) (fm7 : Nat → Int32) (fm8 : Nat → Int32) (fm9 : Nat → Int32) (fm10 : Nat → Int32) (q0 : Int32) (sz : Nat) (hnq : nq ≤ 8) (hci : cIn fm5 nq) (hnh : nh ≤ 4) : Met l yX11_toWhom wsX11_toWhom ({ frames := 6, cells := 0, slots := 0, locals := 183 }) (va_Pc [.ref h0, .int q0] (fun U => U.heap.size = sz ∧ va_P (dC, dI) vwCl [(h0, .inr (11, (.int n0 :: .int n1 :: .int (nI nq) :: .ref m3 :: .ref m4 :: .ref m5 :: .int (nI nh) :: .ref m7 :: .ref m8 :: .ref m9 :: .ref m10 :: .int (nI sd) :: .ref m12 :: .int (nI tx) :: .int n14 :: .int (nI at9) :: .int n16 :: .int n17 :: .ref m18 :: .int (nI rq) :: .ref m20 :: .ref m21 :: .ref m22 :: .ref m23 :: .ref m24 :: .int (nI rh) :: .ref m26 :: .ref m27 :: .ref m28 :: .int (nI un) :: .ref m30 :: .int n31 :: .int n32 :: .ref m33 :: .int n34 :: .int n35 :: .ref m36 :: .int (nI wm) :: .ref m38 :: .ref m39 :: .ref m40 :: .int (nI bk) :: .ref m42 :: .ref m43 :: .ref m44 :: .ref m45 :: []))), (m3, .inl (cI, 8, .inl fm3)), (m4, .inl (cI, 8, .inl fm4)), (m5, .inl (cI, 8, .inl fm5)), (m7, .inl (cI, 4, .inl fm7)), (m8, .inl (cI, 4, .inl fm8)), (m9, .inl (cI, 4, .inl fm9)), (m10, .inl (cI, 34, .inl fm10))] U.heap ∧ va_K (dC, dI) vwCl (tys0 cI cZ cQ) U ∧ va_D (fun _ => True) [(h0, .inr (11, (.int n0 :: .int n1 :: .int (nI nq) :: .ref m3 :: .ref m4 :: .ref m5 :: .int (nI nh) :: .ref m7 :: .ref m8 :: .ref m9 :: .ref m10 :: .int (nI sd) :: .ref m12 :: .int (nI tx) :: .int n14 :: .int (nI at9) :: .int n16 :: .int n17 :: .ref m18 :: .int (nI rq) :: .ref m20 :: .ref m21 :: .ref m22 :: .ref m23 :: .ref m24 :: .int (nI rh) :: .ref m26 :: .ref m27 :: .ref m28 :: .int (nI un) :: .ref m30 :: .int n31 :: .int n32 :: .ref m33 :: .int n34 :: .int n35 :: .ref m36 :: .int (nI wm) :: .ref m38 :: .ref m39 :: .ref m40 :: .int (nI bk) :: .ref m42 :: .ref m43 :: .ref m44 :: .ref m45 :: []))), (m3, .inl (cI, 8, .inl fm3)), (m4, .inl (cI, 8, .inl fm4)), (m5, .inl (cI, 8, .inl fm5)), (m7, .inl (cI, 4, .inl fm7)), (m8, .inl (cI, 4, .inl fm8)), (m9, .inl (cI, 4, .inl fm9)), (m10, .inl (cI, 34, .inl fm10))])) (va_Qi (fun (r : Int32) (u : Nat → Nat) => True) (fun (_ : Nat → Nat) (t : State) => ∃ (ii0 ii1 : Int32) , (nh = nh) ∧ va_P (dC, dI) vwCl [(h0, .inr (11, (.int n0 :: .int n1 :: .int (nI nq) :: .ref m3 :: .ref m4 :: .ref m5 :: .int (nI nh) :: .ref m7 :: .ref m8 :: .ref m9 :: .ref m10 :: .int (nI sd) :: .ref m12 :: .int (nI tx) :: .int n14 :: .int (nI at9) :: .int n16 :: .int n17 :: .ref m18 :: .int (nI rq) :: .ref m20 :: .ref m21 :: .ref m22 :: .ref m23 :: .ref m24 :: .int (nI rh) :: .ref m26 :: .ref m27 :: .ref m28 :: .int (nI un) :: .ref m30 :: .int ii0 :: .int ii1 :: .ref m33 :: .int n34 :: .int n35 :: .ref m36 :: .int (nI wm) :: .ref m38 :: .ref m39 :: .ref m40 :: .int (nI bk) :: .ref m42 :: .ref m43 :: .ref m44 :: .ref m45 :: []))), (m3, .inl (cI, 8, .inl fm3)), (m4, .inl (cI, 8, .inl fm4)), (m5, .inl (cI, 8, .inl fm5)), (m7, .inl (cI, 4, .inl fm7)), (m8, .inl (cI, 4, .inl fm8)), (m9, .inl (cI, 4, .inl fm9)), (m10, .inl (cI, 34, .inl fm10))] t.heap ∧ va_D (va_A [(h0, .inr (11, (.int n0 :: .int n1 :: .int (nI nq) :: .ref m3 :: .ref m4 :: .ref m5 :: .int (nI nh) :: .ref m7 :: .ref m8 :: .ref m9 :: .ref m10 :: .int (nI sd) :: .ref m12 :: .int (nI tx) :: .int n14 :: .int (nI at9) :: .int n16 :: .int n17 :: .ref m18 :: .int (nI rq) :: .ref m20 :: .ref m21 :: .ref m22 :: .ref m23 :: .ref m24 :: .int (nI rh) :: .ref m26 :: .ref m27 :: .ref m28 :: .int (nI un) :: .ref m30 :: .int n31 :: .int n32 :: .ref m33 :: .int n34 :: .int n35 :: .ref m36 :: .int (nI wm) :: .ref m38 :: .ref m39 :: .ref m40 :: .int (nI bk) :: .ref m42 :: .ref m43 :: .ref m44 :: .ref m45 :: []))), (m3, .inl (cI, 8, .inl fm3)), (m4, .inl (cI, 8, .inl fm4)), (m5, .inl (cI, 8, .inl fm5)), (m7, .inl (cI, 4, .inl fm7)), (m8, .inl (cI, 4, .inl fm8)), (m9, .inl (cI, 4, .inl fm9)), (m10, .inl (cI, 34, .inl fm10))] sz) [(h0, .inr (11, (.int n0 :: .int n1 :: .int (nI nq) :: .ref m3 :: .ref m4 :: .ref m5 :: .int (nI nh) :: .ref m7 :: .ref m8 :: .ref m9 :: .ref m10 :: .int (nI sd) :: .ref m12 :: .int (nI tx) :: .int n14 :: .int (nI at9) :: .int n16 :: .int n17 :: .ref m18 :: .int (nI rq) :: .ref m20 :: .ref m21 :: .ref m22 :: .ref m23 :: .ref m24 :: .int (nI rh) :: .ref m26 :: .ref m27 :: .ref m28 :: .int (nI un) :: .ref m30 :: .int ii0 :: .int ii1 :: .ref m33 :: .int n34 :: .int n35 :: .ref m36 :: .int (nI wm) :: .ref m38 :: .ref m39 :: .ref m40 :: .int (nI bk) :: .ref m42 :: .ref m43 :: .ref m44 :: .ref m45 :: []))), (m3, .inl (cI, 8, .inl fm3)), (m4, .inl (cI, 8, .inl fm4)), (m5, .inl (cI, 8, .inl fm5)), (m7, .inl (cI, 4, .inl fm7)), (m8, .inl (cI, 4, .inl fm8)), (m9, .inl (cI, 4, .inl fm9)), (m10, .inl (cI, 34, .inl fm10))]) (va_A [(h0, .inr (11, (.int n0 :: .int n1 :: .int (nI nq) :: .ref m3 :: .ref m4 :: .ref m5 :: .int (nI nh) :: .ref m7 :: .ref m8 :: .ref m9 :: .ref m10 :: .int (nI sd) :: .ref m12 :: .int (nI tx) :: .int n14 :: .int (nI at9) :: .int n16 :: .int n17 :: .ref m18 :: .int (nI rq) :: .ref m20 :: .ref m21 :: .ref m22 :: .ref m23 :: .ref m24 :: .int (nI rh) :: .ref m26 :: .ref m27 :: .ref m28 :: .int (nI un) :: .ref m30 :: .int n31 :: .int n32 :: .ref m33 :: .int n34 :: .int n35 :: .ref m36 :: .int (nI wm) :: .ref m38 :: .ref m39 :: .ref m40 :: .int (nI bk) :: .ref m42 :: .ref m43 :: .ref m44 :: .ref m45 :: []))), (m3, .inl (cI, 8, .inl fm3)), (m4, .inl (cI, 8, .inl fm4)), (m5, .inl (cI, 8, .inl fm5)), (m7, .inl (cI, 4, .inl fm7)), (m8, .inl (cI, 4, .inl fm8)), (m9, .inl (cI, 4, .inl fm9)), (m10, .inl (cI, 34, .inl fm10))] sz)) 0 0 (va_A [(h0, .inr (11, (.int n0 :: .int n1 :: .int (nI nq) :: .ref m3 :: .ref m4 :: .ref m5 :: .int (nI nh) :: .ref m7 :: .ref m8 :: .ref m9 :: .ref m10 :: .int (nI sd) :: .ref m12 :: .int (nI tx) :: .int n14 :: .int (nI at9) :: .int n16 :: .int n17 :: .ref m18 :: .int (nI rq) :: .ref m20 :: .ref m21 :: .ref m22 :: .ref m23 :: .ref m24 :: .int (nI rh) :: .ref m26 :: .ref m27 :: .ref m28 :: .int (nI un) :: .ref m30 :: .int n31 :: .int n32 :: .ref m33 :: .int n34 :: .int n35 :: .ref m36 :: .int (nI wm) :: .ref m38 :: .ref m39 :: .ref m40 :: .int (nI bk) :: .ref m42 :: .ref m43 :: .ref m44 :: .ref m45 :: []))), (m3, .inl (cI, 8, .inl fm3)), (m4, .inl (cI, 8, .inl fm4)), (m5, .inl (cI, 8, .inl fm5)), (m7, .inl (cI, 4, .inl fm7)), (m8, .inl (cI, 4, .inl fm8)), (m9, .inl (cI, 4, .inl fm9)), (m10, .inl (cI, 34, .inl fm10))] sz) := by
  refine Met.ofW (cc := cX11_toWhom) (maxL := 2) (ret := (some .int)) (by decide) rfl ?_
  intro p e s m args below meth c s₁ B hml hv
  obtain ⟨rfl, hsz, hP, hK, hD0⟩ := hv
  have hx := B.exec
  have hb := B.bytes
  have hr := B.returns
  have hts := atoms_spec (ws := wsX11_toWhom) B.pre
  have hown : s.vm.findClass RX11 = some m.cls := findClass_of_methodNamed B.named
  have hlocks := B.notSynchronized
  have hi_X11 : ∀ w ∈ u_ws RX11 TX11 46, w ∈ wsX11_toWhom := fun _ h => List.mem_cons_of_mem _ (List.mem_append_right _ (h))
  subst hsz
  have hD := hD0.self (sz := s.heap.size)
  generalize hAe : va_A [(h0, .inr (11, (.int n0 :: .int n1 :: .int (nI nq) :: .ref m3 :: .ref m4 :: .ref m5 :: .int (nI nh) :: .ref m7 :: .ref m8 :: .ref m9 :: .ref m10 :: .int (nI sd) :: .ref m12 :: .int (nI tx) :: .int n14 :: .int (nI at9) :: .int n16 :: .int n17 :: .ref m18 :: .int (nI rq) :: .ref m20 :: .ref m21 :: .ref m22 :: .ref m23 :: .ref m24 :: .int (nI rh) :: .ref m26 :: .ref m27 :: .ref m28 :: .int (nI un) :: .ref m30 :: .int n31 :: .int n32 :: .ref m33 :: .int n34 :: .int n35 :: .ref m36 :: .int (nI wm) :: .ref m38 :: .ref m39 :: .ref m40 :: .int (nI bk) :: .ref m42 :: .ref m43 :: .ref m44 :: .ref m45 :: []))), (m3, .inl (cI, 8, .inl fm3)), (m4, .inl (cI, 8, .inl fm4)), (m5, .inl (cI, 8, .inl fm5)), (m7, .inl (cI, 4, .inl fm7)), (m8, .inl (cI, 4, .inl fm8)), (m9, .inl (cI, 4, .inl fm9)), (m10, .inl (cI, 34, .inl fm10))] s.heap.size = A at hD ⊢
  have hA : ∀ q : Nat, s.heap.size ≤ q → A q := fun q h => by rw [← hAe]; exact Or.inr h
  have hS : va_S A s.heap s.heap [] := va_S.rf
  have hl := lv_entry ([.ref h0, .int q0]) (n := 2) (Nat.le_of_ble_eq_true rfl)
  rw [lg_entry_eq]
  generalize (lg_sl ([.ref h0, .int q0]) ++ List.replicate (2 - (lg_sl ([.ref h0, .int q0])).length) Slot.unset).toArray = ls at hl ⊢
  have hl : lv_has ls 2 [(0, .ref h0), (1, .int q0)] := hl
  refine lv_iload_n hx hb dX11_toWhom_0 rfl (lv_at hl 1 rfl) ?_
  refine lv_iconst (v := (-1)) hx hb dX11_toWhom_1 (by decide) ?_
  refine lv_icmp_eq (tgt := 16) hx hb dX11_toWhom_2 (by decide) (fun c1 => ?_) (fun c1 => ?_)
  ·
    refine lv_aload_n hx hb dX11_toWhom_16 rfl (lv_at hl 0 rfl) ?_
    refine va_get (D := (dC, dI)) (ci := 11) (v := .int (nI nq)) (C := RX11) (T := TX11) (N := 46) hx hb hts hi_X11 hown hK hP 0 rfl rfl 2 (by decide) (hts (.fieldLink RX11 99 "LeftQuillsModel" "quills" "I") (wmx 2 rfl)) (fun _ h9 => h9) rfl dX11_toWhom_17 ?_
    refine lv_aload_n hx hb dX11_toWhom_20 rfl (lv_at hl 0 rfl) ?_
    refine va_get (D := (dC, dI)) (ci := 11) (v := .int (nI nh)) (C := RX11) (T := TX11) (N := 46) hx hb hts hi_X11 hown hK hP 0 rfl rfl 6 (by decide) (hts (.fieldLink RX11 106 "LeftQuillsModel" "hands" "I") (wmx 3 rfl)) (fun _ h9 => h9) rfl dX11_toWhom_21 ?_
    refine lv_icmp_ge (tgt := 29) hx hb dX11_toWhom_24 (by decide) (fun c2 => ?_) (fun c2 => ?_)
    ·
      have c2 : nh ≤ nq := (nI_leI (a := nh) (b := nq) (by omega) (by omega)).mp c2
      refine lv_aload_n hx hb dX11_toWhom_29 rfl (lv_at hl 0 rfl) ?_
      have hc9 := va_cut (W' := [(h0, .inr (11, (.int n0 :: .int n1 :: .int (nI nq) :: .ref m3 :: .ref m4 :: .ref m5 :: .int (nI nh) :: .ref m7 :: .ref m8 :: .ref m9 :: .ref m10 :: .int (nI sd) :: .ref m12 :: .int (nI tx) :: .int n14 :: .int (nI at9) :: .int n16 :: .int n17 :: .ref m18 :: .int (nI rq) :: .ref m20 :: .ref m21 :: .ref m22 :: .ref m23 :: .ref m24 :: .int (nI rh) :: .ref m26 :: .ref m27 :: .ref m28 :: .int (nI un) :: .ref m30 :: .int n31 :: .int n32 :: .ref m33 :: .int n34 :: .int n35 :: .ref m36 :: .int (nI wm) :: .ref m38 :: .ref m39 :: .ref m40 :: .int (nI bk) :: .ref m42 :: .ref m43 :: .ref m44 :: .ref m45 :: []))), (m3, .inl (cI, 8, .inl fm3)), (m4, .inl (cI, 8, .inl fm4)), (m5, .inl (cI, 8, .inl fm5)), (m7, .inl (cI, 4, .inl fm7)), (m8, .inl (cI, 4, .inl fm8)), (m9, .inl (cI, 4, .inl fm9)), (m10, .inl (cI, 34, .inl fm10))]) hP hD hS hA [0, 1, 2, 3, 4, 5, 6, 7] (by decide) rfl
      have hPc := hc9.1
      have hDc := hc9.2.1
      have hFc := hc9.2.2
      clear hc9
      refine va_callv (va_runV (As := []) (rest := []) ⟨hx, hb, hml, hown, hts⟩ (c_X11_findGivenA l dC dI cI cZ cQ h0 n0 n1 nq m3 m4 m5 nh m7 m8 m9 m10 sd m12 tx n14 at9 n16 n17 m18 rq m20 m21 m22 m23 m24 rh m26 m27 m28 un m30 n31 n32 m33 n34 n35 m36 wm m38 m39 m40 bk m42 m43 m44 m45 fm3 fm4 fm5 fm7 fm8 fm9 fm10 s.heap.size (by omega) (by first | assumption | decide) (by omega)) (cwV 0 hts gX11_toWhom_X11_findGiven rfl rfl rfl hd_X11_findGiven_RX11 ⟨Nat.le_of_ble_eq_true rfl, Nat.le_of_ble_eq_true rfl⟩) (pv_D (va_recv hK hP (ci := 11) (q0 := 0) rfl rfl) hK hPc hDc) rfl rfl hl.1 rfl (lv_room (Nat.le_of_ble_eq_true rfl)) dX11_toWhom_30 ⟨Nat.le_of_ble_eq_true rfl, Nat.le_of_ble_eq_true rfl⟩) hS (fun q _ h => hFc q h) hFc (fun u4 t H1 locs ht hvm hw5 hB hz1 hk1 hS => ?_)
      obtain ⟨i6, i7, he8, hP1, hD1⟩ := hB
      replace hP1 := va_hp ht hP1
      obtain ⟨hP, hD⟩ := va_join (wr := []) (w1 := [(h0, .inr (11, (.int n0 :: .int n1 :: .int (nI nq) :: .ref m3 :: .ref m4 :: .ref m5 :: .int (nI nh) :: .ref m7 :: .ref m8 :: .ref m9 :: .ref m10 :: .int (nI sd) :: .ref m12 :: .int (nI tx) :: .int n14 :: .int (nI at9) :: .int n16 :: .int n17 :: .ref m18 :: .int (nI rq) :: .ref m20 :: .ref m21 :: .ref m22 :: .ref m23 :: .ref m24 :: .int (nI rh) :: .ref m26 :: .ref m27 :: .ref m28 :: .int (nI un) :: .ref m30 :: .int i6 :: .int i7 :: .ref m33 :: .int n34 :: .int n35 :: .ref m36 :: .int (nI wm) :: .ref m38 :: .ref m39 :: .ref m40 :: .int (nI bk) :: .ref m42 :: .ref m43 :: .ref m44 :: .ref m45 :: []))), (m3, .inl (cI, 8, .inl fm3)), (m4, .inl (cI, 8, .inl fm4)), (m5, .inl (cI, 8, .inl fm5)), (m7, .inl (cI, 4, .inl fm7)), (m8, .inl (cI, 4, .inl fm8)), (m9, .inl (cI, 4, .inl fm9)), (m10, .inl (cI, 34, .inl fm10))]) hP hD [0, 1, 2, 3, 4, 5, 6, 7] [] rfl rfl (by decide +kernel) (by decide +kernel) hk1 hFc hP1 hD1
      clear hP1 hD1
      clear hz1 hk1 hPc hDc hFc
      generalize H1 = H at hP hS ht ⊢
      have hPD : pdW (dC, dI) vwCl A [(h0, .inr (11, (.int n0 :: .int n1 :: .int (nI nq) :: .ref m3 :: .ref m4 :: .ref m5 :: .int (nI nh) :: .ref m7 :: .ref m8 :: .ref m9 :: .ref m10 :: .int (nI sd) :: .ref m12 :: .int (nI tx) :: .int n14 :: .int (nI at9) :: .int n16 :: .int n17 :: .ref m18 :: .int (nI rq) :: .ref m20 :: .ref m21 :: .ref m22 :: .ref m23 :: .ref m24 :: .int (nI rh) :: .ref m26 :: .ref m27 :: .ref m28 :: .int (nI un) :: .ref m30 :: .int i6 :: .int i7 :: .ref m33 :: .int n34 :: .int n35 :: .ref m36 :: .int (nI wm) :: .ref m38 :: .ref m39 :: .ref m40 :: .int (nI bk) :: .ref m42 :: .ref m43 :: .ref m44 :: .ref m45 :: []))), (m3, .inl (cI, 8, .inl fm3)), (m4, .inl (cI, 8, .inl fm4)), (m5, .inl (cI, 8, .inl fm5)), (m7, .inl (cI, 4, .inl fm7)), (m8, .inl (cI, 4, .inl fm8)), (m9, .inl (cI, 4, .inl fm9)), (m10, .inl (cI, 34, .inl fm10))] H := ⟨hP, hD⟩
      have hP := hPD.1
      have hD := hPD.2
      clear hPD
      try dsimp only at hw5
      refine lv_iload_n hx hb dX11_toWhom_33 rfl (lv_at hl 1 rfl) ?_
      refine lv_iconst (v := (-1)) hx hb dX11_toWhom_34 (by decide) ?_
      refine lv_icmp_ne (tgt := 45) hx hb dX11_toWhom_35 (by decide) (fun c9 => ?_) (fun c9 => ?_)
      ·
        refine lv_aload_n hx hb dX11_toWhom_45 rfl (lv_at hl 0 rfl) ?_
        refine va_get (D := (dC, dI)) (ci := 11) (v := .int i6) (C := RX11) (T := TX11) (N := 46) hx hb hts hi_X11 hown hK hP 0 rfl rfl 31 (by decide) (hts (.fieldLink RX11 269 "LeftQuillsModel" "given" "I") (wmx 5 rfl)) (fun _ h9 => h9) rfl dX11_toWhom_46 ?_
        refine lv_aload_n hx hb dX11_toWhom_49 rfl (lv_at hl 0 rfl) ?_
        refine va_get (D := (dC, dI)) (ci := 11) (v := .int (nI nh)) (C := RX11) (T := TX11) (N := 46) hx hb hts hi_X11 hown hK hP 0 rfl rfl 6 (by decide) (hts (.fieldLink RX11 106 "LeftQuillsModel" "hands" "I") (wmx 3 rfl)) (fun _ h9 => h9) rfl dX11_toWhom_50 ?_
        refine lv_iload_n hx hb dX11_toWhom_53 rfl (lv_at hl 1 rfl) ?_
        have hPc := hP.sub (ws' := []) [] rfl
        refine va_calli (va_runS (As := [.int i6, .int (nI nh), .int q0]) (rest := []) ⟨hx, hb, hml, hown, hts⟩ (c_X11_figure l dC dI cI cZ cQ i6 (nI nh) q0 H.size ) (va_cwS 3 hts gX11_toWhom_X11_figure rfl rfl rfl (by decide +kernel) ⟨Nat.le_of_ble_eq_true rfl, Nat.le_of_ble_eq_true rfl⟩) (ps_R hK hPc) rfl rfl hl.1 rfl (lv_room (Nat.le_of_ble_eq_true rfl)) dX11_toWhom_54 ⟨Nat.le_of_ble_eq_true rfl, Nat.le_of_ble_eq_true rfl⟩) hS (fun q _ h => False.elim h) (fun q h => False.elim h) (fun r10 u11 t H1 locs ht hvm hw12 hB hz1 hk1 hS => ?_)
        have hP := hP.kept (fun k q hk => hk1 q.1 (hP k q hk).lt (fun h => h))
        clear hz1 hk1 hPc
        generalize H1 = H at hP hS ht ⊢
        try dsimp only at hw12
        obtain ⟨w13, hw13, rfl⟩ := hw12
        have hP9 := hP.sub (ws' := [(h0, .inr (11, (.int n0 :: .int n1 :: .int (nI nq) :: .ref m3 :: .ref m4 :: .ref m5 :: .int (nI nh) :: .ref m7 :: .ref m8 :: .ref m9 :: .ref m10 :: .int (nI sd) :: .ref m12 :: .int (nI tx) :: .int n14 :: .int (nI at9) :: .int n16 :: .int n17 :: .ref m18 :: .int (nI rq) :: .ref m20 :: .ref m21 :: .ref m22 :: .ref m23 :: .ref m24 :: .int (nI rh) :: .ref m26 :: .ref m27 :: .ref m28 :: .int (nI un) :: .ref m30 :: .int i6 :: .int i7 :: .ref m33 :: .int n34 :: .int n35 :: .ref m36 :: .int (nI wm) :: .ref m38 :: .ref m39 :: .ref m40 :: .int (nI bk) :: .ref m42 :: .ref m43 :: .ref m44 :: .ref m45 :: []))), (m3, .inl (cI, 8, .inl fm3)), (m4, .inl (cI, 8, .inl fm4)), (m5, .inl (cI, 8, .inl fm5)), (m7, .inl (cI, 4, .inl fm7)), (m8, .inl (cI, 4, .inl fm8)), (m9, .inl (cI, 4, .inl fm9)), (m10, .inl (cI, 34, .inl fm10))]) [0, 1, 2, 3, 4, 5, 6, 7] rfl
        have hD9 := hD.sub (ws' := [(h0, .inr (11, (.int n0 :: .int n1 :: .int (nI nq) :: .ref m3 :: .ref m4 :: .ref m5 :: .int (nI nh) :: .ref m7 :: .ref m8 :: .ref m9 :: .ref m10 :: .int (nI sd) :: .ref m12 :: .int (nI tx) :: .int n14 :: .int (nI at9) :: .int n16 :: .int n17 :: .ref m18 :: .int (nI rq) :: .ref m20 :: .ref m21 :: .ref m22 :: .ref m23 :: .ref m24 :: .int (nI rh) :: .ref m26 :: .ref m27 :: .ref m28 :: .int (nI un) :: .ref m30 :: .int i6 :: .int i7 :: .ref m33 :: .int n34 :: .int n35 :: .ref m36 :: .int (nI wm) :: .ref m38 :: .ref m39 :: .ref m40 :: .int (nI bk) :: .ref m42 :: .ref m43 :: .ref m44 :: .ref m45 :: []))), (m3, .inl (cI, 8, .inl fm3)), (m4, .inl (cI, 8, .inl fm4)), (m5, .inl (cI, 8, .inl fm5)), (m7, .inl (cI, 4, .inl fm7)), (m8, .inl (cI, 4, .inl fm8)), (m9, .inl (cI, 4, .inl fm9)), (m10, .inl (cI, 34, .inl fm10))]) [0, 1, 2, 3, 4, 5, 6, 7] (by decide +kernel) rfl
        exact W.iret (v := nI w13) hx hb hr (fun t ht hW => ⟨⟨nI w13, (fun _ => 0), rfl, trivial, ⟨i6, i7, he8, va_hq ht hP9, hD9⟩⟩, hS.F ht⟩) hS.2.2 dX11_toWhom_57
      ·
        refine lv_aload_n hx hb dX11_toWhom_38 rfl (lv_at hl 0 rfl) ?_
        refine va_get (D := (dC, dI)) (ci := 11) (v := .int i7) (C := RX11) (T := TX11) (N := 46) hx hb hts hi_X11 hown hK hP 0 rfl rfl 32 (by decide) (hts (.fieldLink RX11 272 "LeftQuillsModel" "givenMost" "I") (wmx 4 rfl)) (fun _ h9 => h9) rfl dX11_toWhom_39 ?_
        refine lv_goto (tgt := 57) hx hb dX11_toWhom_42 (by decide) ?_
        have hP9 := hP.sub (ws' := [(h0, .inr (11, (.int n0 :: .int n1 :: .int (nI nq) :: .ref m3 :: .ref m4 :: .ref m5 :: .int (nI nh) :: .ref m7 :: .ref m8 :: .ref m9 :: .ref m10 :: .int (nI sd) :: .ref m12 :: .int (nI tx) :: .int n14 :: .int (nI at9) :: .int n16 :: .int n17 :: .ref m18 :: .int (nI rq) :: .ref m20 :: .ref m21 :: .ref m22 :: .ref m23 :: .ref m24 :: .int (nI rh) :: .ref m26 :: .ref m27 :: .ref m28 :: .int (nI un) :: .ref m30 :: .int i6 :: .int i7 :: .ref m33 :: .int n34 :: .int n35 :: .ref m36 :: .int (nI wm) :: .ref m38 :: .ref m39 :: .ref m40 :: .int (nI bk) :: .ref m42 :: .ref m43 :: .ref m44 :: .ref m45 :: []))), (m3, .inl (cI, 8, .inl fm3)), (m4, .inl (cI, 8, .inl fm4)), (m5, .inl (cI, 8, .inl fm5)), (m7, .inl (cI, 4, .inl fm7)), (m8, .inl (cI, 4, .inl fm8)), (m9, .inl (cI, 4, .inl fm9)), (m10, .inl (cI, 34, .inl fm10))]) [0, 1, 2, 3, 4, 5, 6, 7] rfl
        have hD9 := hD.sub (ws' := [(h0, .inr (11, (.int n0 :: .int n1 :: .int (nI nq) :: .ref m3 :: .ref m4 :: .ref m5 :: .int (nI nh) :: .ref m7 :: .ref m8 :: .ref m9 :: .ref m10 :: .int (nI sd) :: .ref m12 :: .int (nI tx) :: .int n14 :: .int (nI at9) :: .int n16 :: .int n17 :: .ref m18 :: .int (nI rq) :: .ref m20 :: .ref m21 :: .ref m22 :: .ref m23 :: .ref m24 :: .int (nI rh) :: .ref m26 :: .ref m27 :: .ref m28 :: .int (nI un) :: .ref m30 :: .int i6 :: .int i7 :: .ref m33 :: .int n34 :: .int n35 :: .ref m36 :: .int (nI wm) :: .ref m38 :: .ref m39 :: .ref m40 :: .int (nI bk) :: .ref m42 :: .ref m43 :: .ref m44 :: .ref m45 :: []))), (m3, .inl (cI, 8, .inl fm3)), (m4, .inl (cI, 8, .inl fm4)), (m5, .inl (cI, 8, .inl fm5)), (m7, .inl (cI, 4, .inl fm7)), (m8, .inl (cI, 4, .inl fm8)), (m9, .inl (cI, 4, .inl fm9)), (m10, .inl (cI, 34, .inl fm10))]) [0, 1, 2, 3, 4, 5, 6, 7] (by decide +kernel) rfl
        exact W.iret (v := i7) hx hb hr (fun t ht hW => ⟨⟨i7, (fun _ => 0), rfl, trivial, ⟨i6, i7, he8, va_hq ht hP9, hD9⟩⟩, hS.F ht⟩) hS.2.2 dX11_toWhom_57
    ·
      have c2 : ¬ nh ≤ nq := fun h => c2 ((nI_leI (a := nh) (b := nq) (by omega) (by omega)).mpr h)
      refine lv_iconst (v := (-1)) hx hb dX11_toWhom_27 (by decide) ?_
      have hP9 := hP.sub (ws' := [(h0, .inr (11, (.int n0 :: .int n1 :: .int (nI nq) :: .ref m3 :: .ref m4 :: .ref m5 :: .int (nI nh) :: .ref m7 :: .ref m8 :: .ref m9 :: .ref m10 :: .int (nI sd) :: .ref m12 :: .int (nI tx) :: .int n14 :: .int (nI at9) :: .int n16 :: .int n17 :: .ref m18 :: .int (nI rq) :: .ref m20 :: .ref m21 :: .ref m22 :: .ref m23 :: .ref m24 :: .int (nI rh) :: .ref m26 :: .ref m27 :: .ref m28 :: .int (nI un) :: .ref m30 :: .int n31 :: .int n32 :: .ref m33 :: .int n34 :: .int n35 :: .ref m36 :: .int (nI wm) :: .ref m38 :: .ref m39 :: .ref m40 :: .int (nI bk) :: .ref m42 :: .ref m43 :: .ref m44 :: .ref m45 :: []))), (m3, .inl (cI, 8, .inl fm3)), (m4, .inl (cI, 8, .inl fm4)), (m5, .inl (cI, 8, .inl fm5)), (m7, .inl (cI, 4, .inl fm7)), (m8, .inl (cI, 4, .inl fm8)), (m9, .inl (cI, 4, .inl fm9)), (m10, .inl (cI, 34, .inl fm10))]) [0, 1, 2, 3, 4, 5, 6, 7] rfl
      have hD9 := hD.sub (ws' := [(h0, .inr (11, (.int n0 :: .int n1 :: .int (nI nq) :: .ref m3 :: .ref m4 :: .ref m5 :: .int (nI nh) :: .ref m7 :: .ref m8 :: .ref m9 :: .ref m10 :: .int (nI sd) :: .ref m12 :: .int (nI tx) :: .int n14 :: .int (nI at9) :: .int n16 :: .int n17 :: .ref m18 :: .int (nI rq) :: .ref m20 :: .ref m21 :: .ref m22 :: .ref m23 :: .ref m24 :: .int (nI rh) :: .ref m26 :: .ref m27 :: .ref m28 :: .int (nI un) :: .ref m30 :: .int n31 :: .int n32 :: .ref m33 :: .int n34 :: .int n35 :: .ref m36 :: .int (nI wm) :: .ref m38 :: .ref m39 :: .ref m40 :: .int (nI bk) :: .ref m42 :: .ref m43 :: .ref m44 :: .ref m45 :: []))), (m3, .inl (cI, 8, .inl fm3)), (m4, .inl (cI, 8, .inl fm4)), (m5, .inl (cI, 8, .inl fm5)), (m7, .inl (cI, 4, .inl fm7)), (m8, .inl (cI, 4, .inl fm8)), (m9, .inl (cI, 4, .inl fm9)), (m10, .inl (cI, 34, .inl fm10))]) [0, 1, 2, 3, 4, 5, 6, 7] (by decide +kernel) rfl
      exact W.iret (v := (-1)) hx hb hr (fun t ht hW => ⟨⟨(-1), (fun _ => 0), rfl, trivial, ⟨n31, n32, rfl, va_hq ht hP9, hD9⟩⟩, hS.F ht⟩) hS.2.2 dX11_toWhom_28
  ·
    refine lv_aload_n hx hb dX11_toWhom_5 rfl (lv_at hl 0 rfl) ?_
    refine lv_iload_n hx hb dX11_toWhom_6 rfl (lv_at hl 1 rfl) ?_
    have hPc := hP.sub (ws' := [(h0, .inr (11, (.int n0 :: .int n1 :: .int (nI nq) :: .ref m3 :: .ref m4 :: .ref m5 :: .int (nI nh) :: .ref m7 :: .ref m8 :: .ref m9 :: .ref m10 :: .int (nI sd) :: .ref m12 :: .int (nI tx) :: .int n14 :: .int (nI at9) :: .int n16 :: .int n17 :: .ref m18 :: .int (nI rq) :: .ref m20 :: .ref m21 :: .ref m22 :: .ref m23 :: .ref m24 :: .int (nI rh) :: .ref m26 :: .ref m27 :: .ref m28 :: .int (nI un) :: .ref m30 :: .int n31 :: .int n32 :: .ref m33 :: .int n34 :: .int n35 :: .ref m36 :: .int (nI wm) :: .ref m38 :: .ref m39 :: .ref m40 :: .int (nI bk) :: .ref m42 :: .ref m43 :: .ref m44 :: .ref m45 :: [])))]) [0] rfl
    refine va_calli (va_runV (As := [.int q0]) (rest := []) ⟨hx, hb, hml, hown, hts⟩ (c_X11_isHand l dC dI cI cZ cQ h0 (nI nh) ((.int n0 :: .int n1 :: .int (nI nq) :: .ref m3 :: .ref m4 :: .ref m5 :: .int (nI nh) :: .ref m7 :: .ref m8 :: .ref m9 :: .ref m10 :: .int (nI sd) :: .ref m12 :: .int (nI tx) :: .int n14 :: .int (nI at9) :: .int n16 :: .int n17 :: .ref m18 :: .int (nI rq) :: .ref m20 :: .ref m21 :: .ref m22 :: .ref m23 :: .ref m24 :: .int (nI rh) :: .ref m26 :: .ref m27 :: .ref m28 :: .int (nI un) :: .ref m30 :: .int n31 :: .int n32 :: .ref m33 :: .int n34 :: .int n35 :: .ref m36 :: .int (nI wm) :: .ref m38 :: .ref m39 :: .ref m40 :: .int (nI bk) :: .ref m42 :: .ref m43 :: .ref m44 :: .ref m45 :: [])) q0 s.heap.size rfl (nI_pos' (n := nh) (by omega))) (cwV 1 hts gX11_toWhom_X11_isHand rfl rfl rfl hd_X11_isHand_RX11 ⟨Nat.le_of_ble_eq_true rfl, Nat.le_of_ble_eq_true rfl⟩) (pv_R (va_recv hK hP (ci := 11) (q0 := 0) rfl rfl) hK hPc) rfl rfl hl.1 rfl (lv_room (Nat.le_of_ble_eq_true rfl)) dX11_toWhom_7 ⟨Nat.le_of_ble_eq_true rfl, Nat.le_of_ble_eq_true rfl⟩) hS (fun q _ h => False.elim h) (fun q h => False.elim h) (fun r14 u15 t H1 locs ht hvm hw16 hB hz1 hk1 hS => ?_)
    have hP := hP.kept (fun k q hk => hk1 q.1 (hP k q hk).lt (fun h => h))
    clear hz1 hk1 hPc
    generalize H1 = H at hP hS ht ⊢
    try dsimp only at hw16
    rcases hw16 with ⟨rfl, hw16⟩ | ⟨rfl, hw16⟩
    ·
      obtain ⟨j17, hj17, rfl⟩ := x_ix hw16 (by omega)
      refine lv_if_ne (tgt := 16) hx hb dX11_toWhom_10 (by decide) (fun c18 => ?_) (fun c18 => ?_)
      rotate_left
      · exact absurd c18 (by decide)
      clear c18
      refine lv_aload_n hx hb dX11_toWhom_16 rfl (lv_at hl 0 rfl) ?_
      refine va_get (D := (dC, dI)) (ci := 11) (v := .int (nI nq)) (C := RX11) (T := TX11) (N := 46) hx hb hts hi_X11 hown hK hP 0 rfl rfl 2 (by decide) (hts (.fieldLink RX11 99 "LeftQuillsModel" "quills" "I") (wmx 2 rfl)) (fun _ h9 => h9) rfl dX11_toWhom_17 ?_
      refine lv_aload_n hx hb dX11_toWhom_20 rfl (lv_at hl 0 rfl) ?_
      refine va_get (D := (dC, dI)) (ci := 11) (v := .int (nI nh)) (C := RX11) (T := TX11) (N := 46) hx hb hts hi_X11 hown hK hP 0 rfl rfl 6 (by decide) (hts (.fieldLink RX11 106 "LeftQuillsModel" "hands" "I") (wmx 3 rfl)) (fun _ h9 => h9) rfl dX11_toWhom_21 ?_
      refine lv_icmp_ge (tgt := 29) hx hb dX11_toWhom_24 (by decide) (fun c19 => ?_) (fun c19 => ?_)
      ·
        have c19 : nh ≤ nq := (nI_leI (a := nh) (b := nq) (by omega) (by omega)).mp c19
        refine lv_aload_n hx hb dX11_toWhom_29 rfl (lv_at hl 0 rfl) ?_
        have hc9 := va_cut (W' := [(h0, .inr (11, (.int n0 :: .int n1 :: .int (nI nq) :: .ref m3 :: .ref m4 :: .ref m5 :: .int (nI nh) :: .ref m7 :: .ref m8 :: .ref m9 :: .ref m10 :: .int (nI sd) :: .ref m12 :: .int (nI tx) :: .int n14 :: .int (nI at9) :: .int n16 :: .int n17 :: .ref m18 :: .int (nI rq) :: .ref m20 :: .ref m21 :: .ref m22 :: .ref m23 :: .ref m24 :: .int (nI rh) :: .ref m26 :: .ref m27 :: .ref m28 :: .int (nI un) :: .ref m30 :: .int n31 :: .int n32 :: .ref m33 :: .int n34 :: .int n35 :: .ref m36 :: .int (nI wm) :: .ref m38 :: .ref m39 :: .ref m40 :: .int (nI bk) :: .ref m42 :: .ref m43 :: .ref m44 :: .ref m45 :: []))), (m3, .inl (cI, 8, .inl fm3)), (m4, .inl (cI, 8, .inl fm4)), (m5, .inl (cI, 8, .inl fm5)), (m7, .inl (cI, 4, .inl fm7)), (m8, .inl (cI, 4, .inl fm8)), (m9, .inl (cI, 4, .inl fm9)), (m10, .inl (cI, 34, .inl fm10))]) hP hD hS hA [0, 1, 2, 3, 4, 5, 6, 7] (by decide) rfl
        have hPc := hc9.1
        have hDc := hc9.2.1
        have hFc := hc9.2.2
        clear hc9
        refine va_callv (va_runV (As := []) (rest := []) ⟨hx, hb, hml, hown, hts⟩ (c_X11_findGivenA l dC dI cI cZ cQ h0 n0 n1 nq m3 m4 m5 nh m7 m8 m9 m10 sd m12 tx n14 at9 n16 n17 m18 rq m20 m21 m22 m23 m24 rh m26 m27 m28 un m30 n31 n32 m33 n34 n35 m36 wm m38 m39 m40 bk m42 m43 m44 m45 fm3 fm4 fm5 fm7 fm8 fm9 fm10 H.size (by omega) (by first | assumption | decide) (by omega)) (cwV 0 hts gX11_toWhom_X11_findGiven rfl rfl rfl hd_X11_findGiven_RX11 ⟨Nat.le_of_ble_eq_true rfl, Nat.le_of_ble_eq_true rfl⟩) (pv_D (va_recv hK hP (ci := 11) (q0 := 0) rfl rfl) hK hPc hDc) rfl rfl hl.1 rfl (lv_room (Nat.le_of_ble_eq_true rfl)) dX11_toWhom_30 ⟨Nat.le_of_ble_eq_true rfl, Nat.le_of_ble_eq_true rfl⟩) hS (fun q _ h => hFc q h) hFc (fun u21 t H1 locs ht hvm hw22 hB hz1 hk1 hS => ?_)
        obtain ⟨i23, i24, he25, hP1, hD1⟩ := hB
        replace hP1 := va_hp ht hP1
        obtain ⟨hP, hD⟩ := va_join (wr := []) (w1 := [(h0, .inr (11, (.int n0 :: .int n1 :: .int (nI nq) :: .ref m3 :: .ref m4 :: .ref m5 :: .int (nI nh) :: .ref m7 :: .ref m8 :: .ref m9 :: .ref m10 :: .int (nI sd) :: .ref m12 :: .int (nI tx) :: .int n14 :: .int (nI at9) :: .int n16 :: .int n17 :: .ref m18 :: .int (nI rq) :: .ref m20 :: .ref m21 :: .ref m22 :: .ref m23 :: .ref m24 :: .int (nI rh) :: .ref m26 :: .ref m27 :: .ref m28 :: .int (nI un) :: .ref m30 :: .int i23 :: .int i24 :: .ref m33 :: .int n34 :: .int n35 :: .ref m36 :: .int (nI wm) :: .ref m38 :: .ref m39 :: .ref m40 :: .int (nI bk) :: .ref m42 :: .ref m43 :: .ref m44 :: .ref m45 :: []))), (m3, .inl (cI, 8, .inl fm3)), (m4, .inl (cI, 8, .inl fm4)), (m5, .inl (cI, 8, .inl fm5)), (m7, .inl (cI, 4, .inl fm7)), (m8, .inl (cI, 4, .inl fm8)), (m9, .inl (cI, 4, .inl fm9)), (m10, .inl (cI, 34, .inl fm10))]) hP hD [0, 1, 2, 3, 4, 5, 6, 7] [] rfl rfl (by decide +kernel) (by decide +kernel) hk1 hFc hP1 hD1
        clear hP1 hD1
        clear hz1 hk1 hPc hDc hFc
        generalize H1 = H at hP hS ht ⊢
        have hPD : pdW (dC, dI) vwCl A [(h0, .inr (11, (.int n0 :: .int n1 :: .int (nI nq) :: .ref m3 :: .ref m4 :: .ref m5 :: .int (nI nh) :: .ref m7 :: .ref m8 :: .ref m9 :: .ref m10 :: .int (nI sd) :: .ref m12 :: .int (nI tx) :: .int n14 :: .int (nI at9) :: .int n16 :: .int n17 :: .ref m18 :: .int (nI rq) :: .ref m20 :: .ref m21 :: .ref m22 :: .ref m23 :: .ref m24 :: .int (nI rh) :: .ref m26 :: .ref m27 :: .ref m28 :: .int (nI un) :: .ref m30 :: .int i23 :: .int i24 :: .ref m33 :: .int n34 :: .int n35 :: .ref m36 :: .int (nI wm) :: .ref m38 :: .ref m39 :: .ref m40 :: .int (nI bk) :: .ref m42 :: .ref m43 :: .ref m44 :: .ref m45 :: []))), (m3, .inl (cI, 8, .inl fm3)), (m4, .inl (cI, 8, .inl fm4)), (m5, .inl (cI, 8, .inl fm5)), (m7, .inl (cI, 4, .inl fm7)), (m8, .inl (cI, 4, .inl fm8)), (m9, .inl (cI, 4, .inl fm9)), (m10, .inl (cI, 34, .inl fm10))] H := ⟨hP, hD⟩
        have hP := hPD.1
        have hD := hPD.2
        clear hPD
        try dsimp only at hw22
        refine lv_iload_n hx hb dX11_toWhom_33 rfl (lv_at hl 1 rfl) ?_
        refine lv_iconst (v := (-1)) hx hb dX11_toWhom_34 (by decide) ?_
        refine lv_icmp_ne (tgt := 45) hx hb dX11_toWhom_35 (by decide) (fun c26 => ?_) (fun c26 => ?_)
        ·
          refine lv_aload_n hx hb dX11_toWhom_45 rfl (lv_at hl 0 rfl) ?_
          refine va_get (D := (dC, dI)) (ci := 11) (v := .int i23) (C := RX11) (T := TX11) (N := 46) hx hb hts hi_X11 hown hK hP 0 rfl rfl 31 (by decide) (hts (.fieldLink RX11 269 "LeftQuillsModel" "given" "I") (wmx 5 rfl)) (fun _ h9 => h9) rfl dX11_toWhom_46 ?_
          refine lv_aload_n hx hb dX11_toWhom_49 rfl (lv_at hl 0 rfl) ?_
          refine va_get (D := (dC, dI)) (ci := 11) (v := .int (nI nh)) (C := RX11) (T := TX11) (N := 46) hx hb hts hi_X11 hown hK hP 0 rfl rfl 6 (by decide) (hts (.fieldLink RX11 106 "LeftQuillsModel" "hands" "I") (wmx 3 rfl)) (fun _ h9 => h9) rfl dX11_toWhom_50 ?_
          refine lv_iload_n hx hb dX11_toWhom_53 rfl (lv_at hl 1 rfl) ?_
          have hPc := hP.sub (ws' := []) [] rfl
          refine va_calli (va_runS (As := [.int i23, .int (nI nh), .int (nI j17)]) (rest := []) ⟨hx, hb, hml, hown, hts⟩ (c_X11_figure l dC dI cI cZ cQ i23 (nI nh) (nI j17) H.size ) (va_cwS 3 hts gX11_toWhom_X11_figure rfl rfl rfl (by decide +kernel) ⟨Nat.le_of_ble_eq_true rfl, Nat.le_of_ble_eq_true rfl⟩) (ps_R hK hPc) rfl rfl hl.1 rfl (lv_room (Nat.le_of_ble_eq_true rfl)) dX11_toWhom_54 ⟨Nat.le_of_ble_eq_true rfl, Nat.le_of_ble_eq_true rfl⟩) hS (fun q _ h => False.elim h) (fun q h => False.elim h) (fun r27 u28 t H1 locs ht hvm hw29 hB hz1 hk1 hS => ?_)
          have hP := hP.kept (fun k q hk => hk1 q.1 (hP k q hk).lt (fun h => h))
          clear hz1 hk1 hPc
          generalize H1 = H at hP hS ht ⊢
          try dsimp only at hw29
          obtain ⟨w30, hw30, rfl⟩ := hw29
          have hP9 := hP.sub (ws' := [(h0, .inr (11, (.int n0 :: .int n1 :: .int (nI nq) :: .ref m3 :: .ref m4 :: .ref m5 :: .int (nI nh) :: .ref m7 :: .ref m8 :: .ref m9 :: .ref m10 :: .int (nI sd) :: .ref m12 :: .int (nI tx) :: .int n14 :: .int (nI at9) :: .int n16 :: .int n17 :: .ref m18 :: .int (nI rq) :: .ref m20 :: .ref m21 :: .ref m22 :: .ref m23 :: .ref m24 :: .int (nI rh) :: .ref m26 :: .ref m27 :: .ref m28 :: .int (nI un) :: .ref m30 :: .int i23 :: .int i24 :: .ref m33 :: .int n34 :: .int n35 :: .ref m36 :: .int (nI wm) :: .ref m38 :: .ref m39 :: .ref m40 :: .int (nI bk) :: .ref m42 :: .ref m43 :: .ref m44 :: .ref m45 :: []))), (m3, .inl (cI, 8, .inl fm3)), (m4, .inl (cI, 8, .inl fm4)), (m5, .inl (cI, 8, .inl fm5)), (m7, .inl (cI, 4, .inl fm7)), (m8, .inl (cI, 4, .inl fm8)), (m9, .inl (cI, 4, .inl fm9)), (m10, .inl (cI, 34, .inl fm10))]) [0, 1, 2, 3, 4, 5, 6, 7] rfl
          have hD9 := hD.sub (ws' := [(h0, .inr (11, (.int n0 :: .int n1 :: .int (nI nq) :: .ref m3 :: .ref m4 :: .ref m5 :: .int (nI nh) :: .ref m7 :: .ref m8 :: .ref m9 :: .ref m10 :: .int (nI sd) :: .ref m12 :: .int (nI tx) :: .int n14 :: .int (nI at9) :: .int n16 :: .int n17 :: .ref m18 :: .int (nI rq) :: .ref m20 :: .ref m21 :: .ref m22 :: .ref m23 :: .ref m24 :: .int (nI rh) :: .ref m26 :: .ref m27 :: .ref m28 :: .int (nI un) :: .ref m30 :: .int i23 :: .int i24 :: .ref m33 :: .int n34 :: .int n35 :: .ref m36 :: .int (nI wm) :: .ref m38 :: .ref m39 :: .ref m40 :: .int (nI bk) :: .ref m42 :: .ref m43 :: .ref m44 :: .ref m45 :: []))), (m3, .inl (cI, 8, .inl fm3)), (m4, .inl (cI, 8, .inl fm4)), (m5, .inl (cI, 8, .inl fm5)), (m7, .inl (cI, 4, .inl fm7)), (m8, .inl (cI, 4, .inl fm8)), (m9, .inl (cI, 4, .inl fm9)), (m10, .inl (cI, 34, .inl fm10))]) [0, 1, 2, 3, 4, 5, 6, 7] (by decide +kernel) rfl
          exact W.iret (v := nI w30) hx hb hr (fun t ht hW => ⟨⟨nI w30, (fun _ => 0), rfl, trivial, ⟨i23, i24, he25, va_hq ht hP9, hD9⟩⟩, hS.F ht⟩) hS.2.2 dX11_toWhom_57
        ·
          refine lv_aload_n hx hb dX11_toWhom_38 rfl (lv_at hl 0 rfl) ?_
          refine va_get (D := (dC, dI)) (ci := 11) (v := .int i24) (C := RX11) (T := TX11) (N := 46) hx hb hts hi_X11 hown hK hP 0 rfl rfl 32 (by decide) (hts (.fieldLink RX11 272 "LeftQuillsModel" "givenMost" "I") (wmx 4 rfl)) (fun _ h9 => h9) rfl dX11_toWhom_39 ?_
          refine lv_goto (tgt := 57) hx hb dX11_toWhom_42 (by decide) ?_
          have hP9 := hP.sub (ws' := [(h0, .inr (11, (.int n0 :: .int n1 :: .int (nI nq) :: .ref m3 :: .ref m4 :: .ref m5 :: .int (nI nh) :: .ref m7 :: .ref m8 :: .ref m9 :: .ref m10 :: .int (nI sd) :: .ref m12 :: .int (nI tx) :: .int n14 :: .int (nI at9) :: .int n16 :: .int n17 :: .ref m18 :: .int (nI rq) :: .ref m20 :: .ref m21 :: .ref m22 :: .ref m23 :: .ref m24 :: .int (nI rh) :: .ref m26 :: .ref m27 :: .ref m28 :: .int (nI un) :: .ref m30 :: .int i23 :: .int i24 :: .ref m33 :: .int n34 :: .int n35 :: .ref m36 :: .int (nI wm) :: .ref m38 :: .ref m39 :: .ref m40 :: .int (nI bk) :: .ref m42 :: .ref m43 :: .ref m44 :: .ref m45 :: []))), (m3, .inl (cI, 8, .inl fm3)), (m4, .inl (cI, 8, .inl fm4)), (m5, .inl (cI, 8, .inl fm5)), (m7, .inl (cI, 4, .inl fm7)), (m8, .inl (cI, 4, .inl fm8)), (m9, .inl (cI, 4, .inl fm9)), (m10, .inl (cI, 34, .inl fm10))]) [0, 1, 2, 3, 4, 5, 6, 7] rfl
          have hD9 := hD.sub (ws' := [(h0, .inr (11, (.int n0 :: .int n1 :: .int (nI nq) :: .ref m3 :: .ref m4 :: .ref m5 :: .int (nI nh) :: .ref m7 :: .ref m8 :: .ref m9 :: .ref m10 :: .int (nI sd) :: .ref m12 :: .int (nI tx) :: .int n14 :: .int (nI at9) :: .int n16 :: .int n17 :: .ref m18 :: .int (nI rq) :: .ref m20 :: .ref m21 :: .ref m22 :: .ref m23 :: .ref m24 :: .int (nI rh) :: .ref m26 :: .ref m27 :: .ref m28 :: .int (nI un) :: .ref m30 :: .int i23 :: .int i24 :: .ref m33 :: .int n34 :: .int n35 :: .ref m36 :: .int (nI wm) :: .ref m38 :: .ref m39 :: .ref m40 :: .int (nI bk) :: .ref m42 :: .ref m43 :: .ref m44 :: .ref m45 :: []))), (m3, .inl (cI, 8, .inl fm3)), (m4, .inl (cI, 8, .inl fm4)), (m5, .inl (cI, 8, .inl fm5)), (m7, .inl (cI, 4, .inl fm7)), (m8, .inl (cI, 4, .inl fm8)), (m9, .inl (cI, 4, .inl fm9)), (m10, .inl (cI, 34, .inl fm10))]) [0, 1, 2, 3, 4, 5, 6, 7] (by decide +kernel) rfl
          exact W.iret (v := i24) hx hb hr (fun t ht hW => ⟨⟨i24, (fun _ => 0), rfl, trivial, ⟨i23, i24, he25, va_hq ht hP9, hD9⟩⟩, hS.F ht⟩) hS.2.2 dX11_toWhom_57
      ·
        have c19 : ¬ nh ≤ nq := fun h => c19 ((nI_leI (a := nh) (b := nq) (by omega) (by omega)).mpr h)
        refine lv_iconst (v := (-1)) hx hb dX11_toWhom_27 (by decide) ?_
        have hP9 := hP.sub (ws' := [(h0, .inr (11, (.int n0 :: .int n1 :: .int (nI nq) :: .ref m3 :: .ref m4 :: .ref m5 :: .int (nI nh) :: .ref m7 :: .ref m8 :: .ref m9 :: .ref m10 :: .int (nI sd) :: .ref m12 :: .int (nI tx) :: .int n14 :: .int (nI at9) :: .int n16 :: .int n17 :: .ref m18 :: .int (nI rq) :: .ref m20 :: .ref m21 :: .ref m22 :: .ref m23 :: .ref m24 :: .int (nI rh) :: .ref m26 :: .ref m27 :: .ref m28 :: .int (nI un) :: .ref m30 :: .int n31 :: .int n32 :: .ref m33 :: .int n34 :: .int n35 :: .ref m36 :: .int (nI wm) :: .ref m38 :: .ref m39 :: .ref m40 :: .int (nI bk) :: .ref m42 :: .ref m43 :: .ref m44 :: .ref m45 :: []))), (m3, .inl (cI, 8, .inl fm3)), (m4, .inl (cI, 8, .inl fm4)), (m5, .inl (cI, 8, .inl fm5)), (m7, .inl (cI, 4, .inl fm7)), (m8, .inl (cI, 4, .inl fm8)), (m9, .inl (cI, 4, .inl fm9)), (m10, .inl (cI, 34, .inl fm10))]) [0, 1, 2, 3, 4, 5, 6, 7] rfl
        have hD9 := hD.sub (ws' := [(h0, .inr (11, (.int n0 :: .int n1 :: .int (nI nq) :: .ref m3 :: .ref m4 :: .ref m5 :: .int (nI nh) :: .ref m7 :: .ref m8 :: .ref m9 :: .ref m10 :: .int (nI sd) :: .ref m12 :: .int (nI tx) :: .int n14 :: .int (nI at9) :: .int n16 :: .int n17 :: .ref m18 :: .int (nI rq) :: .ref m20 :: .ref m21 :: .ref m22 :: .ref m23 :: .ref m24 :: .int (nI rh) :: .ref m26 :: .ref m27 :: .ref m28 :: .int (nI un) :: .ref m30 :: .int n31 :: .int n32 :: .ref m33 :: .int n34 :: .int n35 :: .ref m36 :: .int (nI wm) :: .ref m38 :: .ref m39 :: .ref m40 :: .int (nI bk) :: .ref m42 :: .ref m43 :: .ref m44 :: .ref m45 :: []))), (m3, .inl (cI, 8, .inl fm3)), (m4, .inl (cI, 8, .inl fm4)), (m5, .inl (cI, 8, .inl fm5)), (m7, .inl (cI, 4, .inl fm7)), (m8, .inl (cI, 4, .inl fm8)), (m9, .inl (cI, 4, .inl fm9)), (m10, .inl (cI, 34, .inl fm10))]) [0, 1, 2, 3, 4, 5, 6, 7] (by decide +kernel) rfl
        exact W.iret (v := (-1)) hx hb hr (fun t ht hW => ⟨⟨(-1), (fun _ => 0), rfl, trivial, ⟨n31, n32, rfl, va_hq ht hP9, hD9⟩⟩, hS.F ht⟩) hS.2.2 dX11_toWhom_28
    ·
      refine lv_if_ne (tgt := 16) hx hb dX11_toWhom_10 (by decide) (fun c31 => ?_) (fun c31 => ?_)
      · exact absurd c31 (by decide)
      clear c31
      refine lv_ldc (v := (-1000000001)) hx hb hown (hts (.constant RX11 188 (-1000000001)) (wmx 1 rfl)) dX11_toWhom_13 ?_
      have hP9 := hP.sub (ws' := [(h0, .inr (11, (.int n0 :: .int n1 :: .int (nI nq) :: .ref m3 :: .ref m4 :: .ref m5 :: .int (nI nh) :: .ref m7 :: .ref m8 :: .ref m9 :: .ref m10 :: .int (nI sd) :: .ref m12 :: .int (nI tx) :: .int n14 :: .int (nI at9) :: .int n16 :: .int n17 :: .ref m18 :: .int (nI rq) :: .ref m20 :: .ref m21 :: .ref m22 :: .ref m23 :: .ref m24 :: .int (nI rh) :: .ref m26 :: .ref m27 :: .ref m28 :: .int (nI un) :: .ref m30 :: .int n31 :: .int n32 :: .ref m33 :: .int n34 :: .int n35 :: .ref m36 :: .int (nI wm) :: .ref m38 :: .ref m39 :: .ref m40 :: .int (nI bk) :: .ref m42 :: .ref m43 :: .ref m44 :: .ref m45 :: []))), (m3, .inl (cI, 8, .inl fm3)), (m4, .inl (cI, 8, .inl fm4)), (m5, .inl (cI, 8, .inl fm5)), (m7, .inl (cI, 4, .inl fm7)), (m8, .inl (cI, 4, .inl fm8)), (m9, .inl (cI, 4, .inl fm9)), (m10, .inl (cI, 34, .inl fm10))]) [0, 1, 2, 3, 4, 5, 6, 7] rfl
      have hD9 := hD.sub (ws' := [(h0, .inr (11, (.int n0 :: .int n1 :: .int (nI nq) :: .ref m3 :: .ref m4 :: .ref m5 :: .int (nI nh) :: .ref m7 :: .ref m8 :: .ref m9 :: .ref m10 :: .int (nI sd) :: .ref m12 :: .int (nI tx) :: .int n14 :: .int (nI at9) :: .int n16 :: .int n17 :: .ref m18 :: .int (nI rq) :: .ref m20 :: .ref m21 :: .ref m22 :: .ref m23 :: .ref m24 :: .int (nI rh) :: .ref m26 :: .ref m27 :: .ref m28 :: .int (nI un) :: .ref m30 :: .int n31 :: .int n32 :: .ref m33 :: .int n34 :: .int n35 :: .ref m36 :: .int (nI wm) :: .ref m38 :: .ref m39 :: .ref m40 :: .int (nI bk) :: .ref m42 :: .ref m43 :: .ref m44 :: .ref m45 :: []))), (m3, .inl (cI, 8, .inl fm3)), (m4, .inl (cI, 8, .inl fm4)), (m5, .inl (cI, 8, .inl fm5)), (m7, .inl (cI, 4, .inl fm7)), (m8, .inl (cI, 4, .inl fm8)), (m9, .inl (cI, 4, .inl fm9)), (m10, .inl (cI, 34, .inl fm10))]) [0, 1, 2, 3, 4, 5, 6, 7] (by decide +kernel) rfl
      exact W.iret (v := (-1000000001)) hx hb hr (fun t ht hW => ⟨⟨(-1000000001), (fun _ => 0), rfl, trivial, ⟨n31, n32, rfl, va_hq ht hP9, hD9⟩⟩, hS.F ht⟩) hS.2.2 dX11_toWhom_15
