set_option maxHeartbeats 4000000 in
set_option maxRecDepth 100000 in
theorem c_X11_takeQuillF (l : Launch) (dC : Nat → ClassId) (dI : Nat → Nat → Nat) (cI cZ cQ : ClassId) (h0 : Nat) (n0 : Int32) (n1 : Int32) (nq : Nat) (m3 : Nat) (m4 : Nat) (m5 : Nat) (nh : Nat) (m7 : Nat) (m8 : Nat) (m9 : Nat) (m10 : Nat) (sd : Nat) (m12 : Nat) (tx : Nat) (n14 : Int32) (at9 : Nat) (n16 : Int32) (n17 : Int32) (m18 : Nat) (rq : Nat) (m20 : Nat) (m21 : Nat) (m22 : Nat) (m23 : Nat) (m24 : Nat) (rh : Nat) (m26 : Nat) (m27 : Nat) (m28 : Nat) (un : Nat) (m30 : Nat) (n31 : Int32) (n32 : Int32) (m33 : Nat) (n34 : Int32) (n35 : Int32) (m36 : Nat) (wm : Nat) (m38 : Nat) (m39 : Nat) (m40 : Nat) (bk : Nat) (m42 : Nat) (m43 : Nat) (m44 : Nat) (m45 : Nat) (fm12 : Nat → Int32) (fm20 : Nat → Int32) (fm21 : Nat → Int32) (fm22 : Nat → Int32) (fm23 : Nat → Int32) (fm24 : Nat → Int32) (T0 : Nat → Int32) (sz : Nat) (htx : tx ≤ 220) (hat : at9 ≤ tx) (hT : ∀ j, j < tx → fm12 j = T0 j) (hrq : rq < 8) (hci : cIn fm22 rq) : Met l yX11_takeQuill wsX11_takeQuill ({ frames := 3, cells := 0, slots := 0, locals := 113 }) (va_Pc [.ref h0] (fun U => U.heap.size = sz ∧ va_P (dC, dI) vwCl [(h0, .inr (11, (.int n0 :: .int n1 :: .int (nI nq) :: .ref m3 :: .ref m4 :: .ref m5 :: .int (nI nh) :: .ref m7 :: .ref m8 :: .ref m9 :: .ref m10 :: .int (nI sd) :: .ref m12 :: .int (nI tx) :: .int n14 :: .int (nI at9) :: .int n16 :: .int n17 :: .ref m18 :: .int (nI rq) :: .ref m20 :: .ref m21 :: .ref m22 :: .ref m23 :: .ref m24 :: .int (nI rh) :: .ref m26 :: .ref m27 :: .ref m28 :: .int (nI un) :: .ref m30 :: .int n31 :: .int n32 :: .ref m33 :: .int n34 :: .int n35 :: .ref m36 :: .int (nI wm) :: .ref m38 :: .ref m39 :: .ref m40 :: .int (nI bk) :: .ref m42 :: .ref m43 :: .ref m44 :: .ref m45 :: []))), (m12, .inl (cI, 220, .inl fm12)), (m20, .inl (cI, 8, .inl fm20)), (m21, .inl (cI, 8, .inl fm21)), (m22, .inl (cI, 8, .inl fm22)), (m23, .inl (cI, 8, .inl fm23)), (m24, .inl (cI, 8, .inl fm24))] U.heap ∧ va_K (dC, dI) vwCl (tys0 cI cZ cQ) U ∧ va_D (fun _ => True) [(h0, .inr (11, (.int n0 :: .int n1 :: .int (nI nq) :: .ref m3 :: .ref m4 :: .ref m5 :: .int (nI nh) :: .ref m7 :: .ref m8 :: .ref m9 :: .ref m10 :: .int (nI sd) :: .ref m12 :: .int (nI tx) :: .int n14 :: .int (nI at9) :: .int n16 :: .int n17 :: .ref m18 :: .int (nI rq) :: .ref m20 :: .ref m21 :: .ref m22 :: .ref m23 :: .ref m24 :: .int (nI rh) :: .ref m26 :: .ref m27 :: .ref m28 :: .int (nI un) :: .ref m30 :: .int n31 :: .int n32 :: .ref m33 :: .int n34 :: .int n35 :: .ref m36 :: .int (nI wm) :: .ref m38 :: .ref m39 :: .ref m40 :: .int (nI bk) :: .ref m42 :: .ref m43 :: .ref m44 :: .ref m45 :: []))), (m12, .inl (cI, 220, .inl fm12)), (m20, .inl (cI, 8, .inl fm20)), (m21, .inl (cI, 8, .inl fm21)), (m22, .inl (cI, 8, .inl fm22)), (m23, .inl (cI, 8, .inl fm23)), (m24, .inl (cI, 8, .inl fm24))])) (va_Qi (fun (r : Int32) (u : Nat → Nat) => r = nI (u 0) ∧ u 0 ≤ 3) (fun (u : Nat → Nat) (t : State) => ∃ (gg0 gg1 gg2 gg3 gg4 : Nat → Int32) (ii0 ii2 ii3 : Int32) (kk1 kk4 : Nat), kk1 ≤ tx ∧ kk4 ≤ 8 ∧ (Hid (u 0 = (rd T0 tx gQL gQM 5 0 at9).1 ∧ (u 0 = 0 → kk1 = (rd T0 tx gQL gQM 5 0 at9).2.2 ∧ n14 = ii0 ∧ gg0 = upd fm20 rq (nmV T0 tx (rdP T0 tx at9 0)) ∧ gg1 = upd fm21 rq (nmV T0 tx (rdP T0 tx at9 1)) ∧ gg2 = upd fm22 rq (nmV T0 tx (rdP T0 tx at9 2)) ∧ gg3 = upd fm23 rq (nmV T0 tx (rdP T0 tx at9 3)) ∧ gg4 = upd fm24 rq (nmV T0 tx (rdP T0 tx at9 4))) ∧ (u 0 ≠ 0 → ii0 = nI (rd T0 tx gQL gQM 5 0 at9).2.1))) ∧ (at9 ≤ kk1) ∧ (u 0 = 0 → cIn gg2 kk4) ∧ (kk4 = rq + 1) ∧ va_P (dC, dI) vwCl [(h0, .inr (11, (.int n0 :: .int n1 :: .int (nI nq) :: .ref m3 :: .ref m4 :: .ref m5 :: .int (nI nh) :: .ref m7 :: .ref m8 :: .ref m9 :: .ref m10 :: .int (nI sd) :: .ref m12 :: .int (nI tx) :: .int ii0 :: .int (nI kk1) :: .int ii2 :: .int ii3 :: .ref m18 :: .int (nI kk4) :: .ref m20 :: .ref m21 :: .ref m22 :: .ref m23 :: .ref m24 :: .int (nI rh) :: .ref m26 :: .ref m27 :: .ref m28 :: .int (nI un) :: .ref m30 :: .int n31 :: .int n32 :: .ref m33 :: .int n34 :: .int n35 :: .ref m36 :: .int (nI wm) :: .ref m38 :: .ref m39 :: .ref m40 :: .int (nI bk) :: .ref m42 :: .ref m43 :: .ref m44 :: .ref m45 :: []))), (m12, .inl (cI, 220, .inl fm12)), (m20, .inl (cI, 8, .inl gg0)), (m21, .inl (cI, 8, .inl gg1)), (m22, .inl (cI, 8, .inl gg2)), (m23, .inl (cI, 8, .inl gg3)), (m24, .inl (cI, 8, .inl gg4))] t.heap ∧ va_D (va_A [(h0, .inr (11, (.int n0 :: .int n1 :: .int (nI nq) :: .ref m3 :: .ref m4 :: .ref m5 :: .int (nI nh) :: .ref m7 :: .ref m8 :: .ref m9 :: .ref m10 :: .int (nI sd) :: .ref m12 :: .int (nI tx) :: .int n14 :: .int (nI at9) :: .int n16 :: .int n17 :: .ref m18 :: .int (nI rq) :: .ref m20 :: .ref m21 :: .ref m22 :: .ref m23 :: .ref m24 :: .int (nI rh) :: .ref m26 :: .ref m27 :: .ref m28 :: .int (nI un) :: .ref m30 :: .int n31 :: .int n32 :: .ref m33 :: .int n34 :: .int n35 :: .ref m36 :: .int (nI wm) :: .ref m38 :: .ref m39 :: .ref m40 :: .int (nI bk) :: .ref m42 :: .ref m43 :: .ref m44 :: .ref m45 :: []))), (m12, .inl (cI, 220, .inl fm12)), (m20, .inl (cI, 8, .inl fm20)), (m21, .inl (cI, 8, .inl fm21)), (m22, .inl (cI, 8, .inl fm22)), (m23, .inl (cI, 8, .inl fm23)), (m24, .inl (cI, 8, .inl fm24))] sz) [(h0, .inr (11, (.int n0 :: .int n1 :: .int (nI nq) :: .ref m3 :: .ref m4 :: .ref m5 :: .int (nI nh) :: .ref m7 :: .ref m8 :: .ref m9 :: .ref m10 :: .int (nI sd) :: .ref m12 :: .int (nI tx) :: .int ii0 :: .int (nI kk1) :: .int ii2 :: .int ii3 :: .ref m18 :: .int (nI kk4) :: .ref m20 :: .ref m21 :: .ref m22 :: .ref m23 :: .ref m24 :: .int (nI rh) :: .ref m26 :: .ref m27 :: .ref m28 :: .int (nI un) :: .ref m30 :: .int n31 :: .int n32 :: .ref m33 :: .int n34 :: .int n35 :: .ref m36 :: .int (nI wm) :: .ref m38 :: .ref m39 :: .ref m40 :: .int (nI bk) :: .ref m42 :: .ref m43 :: .ref m44 :: .ref m45 :: []))), (m12, .inl (cI, 220, .inl fm12)), (m20, .inl (cI, 8, .inl gg0)), (m21, .inl (cI, 8, .inl gg1)), (m22, .inl (cI, 8, .inl gg2)), (m23, .inl (cI, 8, .inl gg3)), (m24, .inl (cI, 8, .inl gg4))]) (va_A [(h0, .inr (11, (.int n0 :: .int n1 :: .int (nI nq) :: .ref m3 :: .ref m4 :: .ref m5 :: .int (nI nh) :: .ref m7 :: .ref m8 :: .ref m9 :: .ref m10 :: .int (nI sd) :: .ref m12 :: .int (nI tx) :: .int n14 :: .int (nI at9) :: .int n16 :: .int n17 :: .ref m18 :: .int (nI rq) :: .ref m20 :: .ref m21 :: .ref m22 :: .ref m23 :: .ref m24 :: .int (nI rh) :: .ref m26 :: .ref m27 :: .ref m28 :: .int (nI un) :: .ref m30 :: .int n31 :: .int n32 :: .ref m33 :: .int n34 :: .int n35 :: .ref m36 :: .int (nI wm) :: .ref m38 :: .ref m39 :: .ref m40 :: .int (nI bk) :: .ref m42 :: .ref m43 :: .ref m44 :: .ref m45 :: []))), (m12, .inl (cI, 220, .inl fm12)), (m20, .inl (cI, 8, .inl fm20)), (m21, .inl (cI, 8, .inl fm21)), (m22, .inl (cI, 8, .inl fm22)), (m23, .inl (cI, 8, .inl fm23)), (m24, .inl (cI, 8, .inl fm24))] sz)) 0 0 (va_A [(h0, .inr (11, (.int n0 :: .int n1 :: .int (nI nq) :: .ref m3 :: .ref m4 :: .ref m5 :: .int (nI nh) :: .ref m7 :: .ref m8 :: .ref m9 :: .ref m10 :: .int (nI sd) :: .ref m12 :: .int (nI tx) :: .int n14 :: .int (nI at9) :: .int n16 :: .int n17 :: .ref m18 :: .int (nI rq) :: .ref m20 :: .ref m21 :: .ref m22 :: .ref m23 :: .ref m24 :: .int (nI rh) :: .ref m26 :: .ref m27 :: .ref m28 :: .int (nI un) :: .ref m30 :: .int n31 :: .int n32 :: .ref m33 :: .int n34 :: .int n35 :: .ref m36 :: .int (nI wm) :: .ref m38 :: .ref m39 :: .ref m40 :: .int (nI bk) :: .ref m42 :: .ref m43 :: .ref m44 :: .ref m45 :: []))), (m12, .inl (cI, 220, .inl fm12)), (m20, .inl (cI, 8, .inl fm20)), (m21, .inl (cI, 8, .inl fm21)), (m22, .inl (cI, 8, .inl fm22)), (m23, .inl (cI, 8, .inl fm23)), (m24, .inl (cI, 8, .inl fm24))] sz) := by
  refine Met.ofW (cc := cX11_takeQuill) (maxL := 3) (ret := (some .int)) (by decide) rfl ?_
  intro p e s m args below meth c s₁ B hml hv
  obtain ⟨rfl, hsz, hP, hK, hD0⟩ := hv
  have hx := B.exec
  have hb := B.bytes
  have hr := B.returns
  have hts := atoms_spec (ws := wsX11_takeQuill) B.pre
  have hown : s.vm.findClass RX11 = some m.cls := findClass_of_methodNamed B.named
  have hlocks := B.notSynchronized
  have hi_X11 : ∀ w ∈ u_ws RX11 TX11 46, w ∈ wsX11_takeQuill := fun _ h => List.mem_cons_of_mem _ (List.mem_append_right _ (h))
  subst hsz
  have hD := hD0.self (sz := s.heap.size)
  generalize hAe : va_A [(h0, .inr (11, (.int n0 :: .int n1 :: .int (nI nq) :: .ref m3 :: .ref m4 :: .ref m5 :: .int (nI nh) :: .ref m7 :: .ref m8 :: .ref m9 :: .ref m10 :: .int (nI sd) :: .ref m12 :: .int (nI tx) :: .int n14 :: .int (nI at9) :: .int n16 :: .int n17 :: .ref m18 :: .int (nI rq) :: .ref m20 :: .ref m21 :: .ref m22 :: .ref m23 :: .ref m24 :: .int (nI rh) :: .ref m26 :: .ref m27 :: .ref m28 :: .int (nI un) :: .ref m30 :: .int n31 :: .int n32 :: .ref m33 :: .int n34 :: .int n35 :: .ref m36 :: .int (nI wm) :: .ref m38 :: .ref m39 :: .ref m40 :: .int (nI bk) :: .ref m42 :: .ref m43 :: .ref m44 :: .ref m45 :: []))), (m12, .inl (cI, 220, .inl fm12)), (m20, .inl (cI, 8, .inl fm20)), (m21, .inl (cI, 8, .inl fm21)), (m22, .inl (cI, 8, .inl fm22)), (m23, .inl (cI, 8, .inl fm23)), (m24, .inl (cI, 8, .inl fm24))] s.heap.size = A at hD ⊢
  have hA : ∀ q : Nat, s.heap.size ≤ q → A q := fun q h => by rw [← hAe]; exact Or.inr h
  have hS : va_S A s.heap s.heap [] := va_S.rf
  have hl := lv_entry ([.ref h0]) (n := 3) (Nat.le_of_ble_eq_true rfl)
  rw [lg_entry_eq]
  generalize (lg_sl ([.ref h0]) ++ List.replicate (3 - (lg_sl ([.ref h0])).length) Slot.unset).toArray = ls at hl ⊢
  have hl : lv_has ls 3 [(0, .ref h0)] := hl
  have hR0 : rd T0 tx gQL gQM 5 0 (rdP T0 tx at9 0) = (rd T0 tx gQL gQM 5 0 at9) := rfl
  refine lv_aload_n hx hb dX11_takeQuill_0 rfl (lv_at hl 0 rfl) ?_
  refine va_get (D := (dC, dI)) (ci := 11) (v := .int (nI rq)) (C := RX11) (T := TX11) (N := 46) hx hb hts hi_X11 hown hK hP 0 rfl rfl 19 (by decide) (hts (.fieldLink RX11 144 "LeftQuillsModel" "readQuills" "I") (wmx 1 rfl)) (fun _ h9 => h9) rfl dX11_takeQuill_1 ?_
  refine lv_istore_n (lv' := [(1, .int (nI rq)), (0, .ref h0)]) hx hb dX11_takeQuill_4 rfl hl (by decide) rfl (fun ls hl => ?_)
  refine lv_aload_n hx hb dX11_takeQuill_5 rfl (lv_at hl 1 rfl) ?_
  refine lv_dup hx hb dX11_takeQuill_6 rfl ?_
  refine va_get (D := (dC, dI)) (ci := 11) (v := .int (nI rq)) (C := RX11) (T := TX11) (N := 46) hx hb hts hi_X11 hown hK hP 0 rfl rfl 19 (by decide) (hts (.fieldLink RX11 144 "LeftQuillsModel" "readQuills" "I") (wmx 1 rfl)) (fun _ h9 => h9) rfl dX11_takeQuill_7 ?_
  refine lv_iconst (v := 1) hx hb dX11_takeQuill_10 (by decide) ?_
  refine lv_iadd hx hb dX11_takeQuill_11 ?_
  refine lv_topi (fun z1 ez1 => ?_)
  obtain rfl : z1 = nI (rq + 1) := ez1.trans (nI_add rq 1)
  refine va_put (D := (dC, dI)) (ci := 11) (v := .int (nI (rq + 1))) (ty := .int) (C := RX11) (T := TX11) (N := 46) hx hb hts hi_X11 tyX11 tyX11_ok nmX11 hown hK hP hD hS 0 rfl rfl 19 (by decide) (hts (.fieldLink RX11 144 "LeftQuillsModel" "readQuills" "I") (wmx 1 rfl)) (fun _ h9 => h9) rfl (by decide +kernel) rfl rfl (Nat.le_of_ble_eq_true rfl) dX11_takeQuill_12 (fun H locs hP hD hS => ?_)
  have hPD : pdW (dC, dI) vwCl A [(h0, .inr (11, (.int n0 :: .int n1 :: .int (nI nq) :: .ref m3 :: .ref m4 :: .ref m5 :: .int (nI nh) :: .ref m7 :: .ref m8 :: .ref m9 :: .ref m10 :: .int (nI sd) :: .ref m12 :: .int (nI tx) :: .int n14 :: .int (nI at9) :: .int n16 :: .int n17 :: .ref m18 :: .int (nI (rq + 1)) :: .ref m20 :: .ref m21 :: .ref m22 :: .ref m23 :: .ref m24 :: .int (nI rh) :: .ref m26 :: .ref m27 :: .ref m28 :: .int (nI un) :: .ref m30 :: .int n31 :: .int n32 :: .ref m33 :: .int n34 :: .int n35 :: .ref m36 :: .int (nI wm) :: .ref m38 :: .ref m39 :: .ref m40 :: .int (nI bk) :: .ref m42 :: .ref m43 :: .ref m44 :: .ref m45 :: []))), (m12, .inl (cI, 220, .inl fm12)), (m20, .inl (cI, 8, .inl fm20)), (m21, .inl (cI, 8, .inl fm21)), (m22, .inl (cI, 8, .inl fm22)), (m23, .inl (cI, 8, .inl fm23)), (m24, .inl (cI, 8, .inl fm24))] H := ⟨hP, hD⟩
  have hP := hPD.1
  have hD := hPD.2
  clear hPD
  refine lv_aload_n hx hb dX11_takeQuill_15 rfl (lv_at hl 1 rfl) ?_
  refine lv_aload_n hx hb dX11_takeQuill_16 rfl (lv_at hl 1 rfl) ?_
  refine va_get (D := (dC, dI)) (ci := 11) (v := .ref m20) (C := RX11) (T := TX11) (N := 46) hx hb hts hi_X11 hown hK hP 0 rfl rfl 20 (by decide) (hts (.fieldLink RX11 41 "LeftQuillsModel" "readWing" "[I") (wmx 2 rfl)) (fun _ h9 => h9) rfl dX11_takeQuill_17 ?_
  refine lv_iload_n hx hb dX11_takeQuill_20 rfl (lv_at hl 0 rfl) ?_
  refine lv_iconst (v := 0) hx hb dX11_takeQuill_21 (by decide) ?_
  refine lv_iconst (v := 1) hx hb dX11_takeQuill_22 (by decide) ?_
  have hc9 := va_cut (W' := [(h0, .inr (11, (.int n0 :: .int n1 :: .int (nI nq) :: .ref m3 :: .ref m4 :: .ref m5 :: .int (nI nh) :: .ref m7 :: .ref m8 :: .ref m9 :: .ref m10 :: .int (nI sd) :: .ref m12 :: .int (nI tx) :: .int n14 :: .int (nI at9) :: .int n16 :: .int n17 :: .ref m18 :: .int (nI (rq + 1)) :: .ref m20 :: .ref m21 :: .ref m22 :: .ref m23 :: .ref m24 :: .int (nI rh) :: .ref m26 :: .ref m27 :: .ref m28 :: .int (nI un) :: .ref m30 :: .int n31 :: .int n32 :: .ref m33 :: .int n34 :: .int n35 :: .ref m36 :: .int (nI wm) :: .ref m38 :: .ref m39 :: .ref m40 :: .int (nI bk) :: .ref m42 :: .ref m43 :: .ref m44 :: .ref m45 :: []))), (m12, .inl (cI, 220, .inl fm12)), (m20, .inl (cI, 8, .inl fm20))]) hP hD hS hA [0, 1, 2] (by decide) rfl
  have hPc := hc9.1
  have hDc := hc9.2.1
  have hFc := hc9.2.2
  clear hc9
  refine va_calli (va_runV (As := [.ref m20, .int (nI rq), .int 0, .int 1]) (rest := []) ⟨hx, hb, hml, hown, hts⟩ (c_X11_intoF l dC dI cI cZ cQ h0 n0 n1 nq m3 m4 m5 nh m7 m8 m9 m10 sd m12 tx n14 at9 n16 n17 m18 (rq + 1) m20 m21 m22 m23 m24 rh m26 m27 m28 un m30 n31 n32 m33 n34 n35 m36 wm m38 m39 m40 bk m42 m43 m44 m45 fm12 m20 fm20 rq 0 1 8 T0 H.size (by omega) (by omega) hT (by omega) (by omega) (by omega) (by omega)) (cwV 4 hts gX11_takeQuill_X11_into rfl rfl rfl hd_X11_into_RX11 ⟨Nat.le_of_ble_eq_true rfl, Nat.le_of_ble_eq_true rfl⟩) (pv_D (va_recv hK hP (ci := 11) (q0 := 0) rfl rfl) hK hPc hDc) rfl rfl hl.1 rfl (lv_room (Nat.le_of_ble_eq_true rfl)) dX11_takeQuill_23 ⟨Nat.le_of_ble_eq_true rfl, Nat.le_of_ble_eq_true rfl⟩) hS (fun q _ h => hFc q h) hFc (fun r2 u3 t H1 locs ht hvm hw4 hB hz1 hk1 hS => ?_)
  obtain ⟨f5, i6, i8, i9, k7, hk7, he10, he11, he12, he13, hP1, hD1⟩ := hB
  replace hP1 := va_hp ht hP1
  obtain ⟨hP, hD⟩ := va_join (wr := [(m21, .inl (cI, 8, .inl fm21)), (m22, .inl (cI, 8, .inl fm22)), (m23, .inl (cI, 8, .inl fm23)), (m24, .inl (cI, 8, .inl fm24))]) (w1 := [(h0, .inr (11, (.int n0 :: .int n1 :: .int (nI nq) :: .ref m3 :: .ref m4 :: .ref m5 :: .int (nI nh) :: .ref m7 :: .ref m8 :: .ref m9 :: .ref m10 :: .int (nI sd) :: .ref m12 :: .int (nI tx) :: .int i6 :: .int (nI k7) :: .int i8 :: .int i9 :: .ref m18 :: .int (nI (rq + 1)) :: .ref m20 :: .ref m21 :: .ref m22 :: .ref m23 :: .ref m24 :: .int (nI rh) :: .ref m26 :: .ref m27 :: .ref m28 :: .int (nI un) :: .ref m30 :: .int n31 :: .int n32 :: .ref m33 :: .int n34 :: .int n35 :: .ref m36 :: .int (nI wm) :: .ref m38 :: .ref m39 :: .ref m40 :: .int (nI bk) :: .ref m42 :: .ref m43 :: .ref m44 :: .ref m45 :: []))), (m12, .inl (cI, 220, .inl fm12)), (m20, .inl (cI, 8, .inl f5))]) hP hD [0, 1, 2] [3, 4, 5, 6] rfl rfl (by decide +kernel) (by decide +kernel) hk1 hFc hP1 hD1
  clear hP1 hD1
  clear hz1 hk1 hPc hDc hFc
  generalize H1 = H at hP hS ht ⊢
  have hPD : pdW (dC, dI) vwCl A [(m21, .inl (cI, 8, .inl fm21)), (m22, .inl (cI, 8, .inl fm22)), (m23, .inl (cI, 8, .inl fm23)), (m24, .inl (cI, 8, .inl fm24)), (h0, .inr (11, (.int n0 :: .int n1 :: .int (nI nq) :: .ref m3 :: .ref m4 :: .ref m5 :: .int (nI nh) :: .ref m7 :: .ref m8 :: .ref m9 :: .ref m10 :: .int (nI sd) :: .ref m12 :: .int (nI tx) :: .int i6 :: .int (nI k7) :: .int i8 :: .int i9 :: .ref m18 :: .int (nI (rq + 1)) :: .ref m20 :: .ref m21 :: .ref m22 :: .ref m23 :: .ref m24 :: .int (nI rh) :: .ref m26 :: .ref m27 :: .ref m28 :: .int (nI un) :: .ref m30 :: .int n31 :: .int n32 :: .ref m33 :: .int n34 :: .int n35 :: .ref m36 :: .int (nI wm) :: .ref m38 :: .ref m39 :: .ref m40 :: .int (nI bk) :: .ref m42 :: .ref m43 :: .ref m44 :: .ref m45 :: []))), (m12, .inl (cI, 220, .inl fm12)), (m20, .inl (cI, 8, .inl f5))] H := ⟨hP, hD⟩
  have hP := hPD.1
  have hD := hPD.2
  clear hPD
  try dsimp only at hw4
  obtain ⟨rfl, hu_u3⟩ := hw4
  refine lv_istore_n (lv' := [(2, .int (nI (u3 0))), (1, .int (nI rq)), (0, .ref h0)]) hx hb dX11_takeQuill_26 rfl hl (by decide) rfl (fun ls hl => ?_)
  refine lv_iload_n hx hb dX11_takeQuill_27 rfl (lv_at hl 0 rfl) ?_
  refine lv_if_le (tgt := 35) hx hb dX11_takeQuill_28 (by decide) (fun c14 => ?_) (fun c14 => ?_)
  ·
    have c14 : (u3 0) ≤ 0 := (nI_leI (a := u3 0) (b := 0) (by omega) (by omega)).mp c14
    have hz18 : u3 0 = 0 := by omega
    obtain ⟨q15, q16, q17⟩ := he10.out.2.1 hz18
    have hf19 : Hid (nmF T0 tx (rdP T0 tx at9 0) (gQL 0) (gQM 0) = 0) := Hid.mk (Eq.trans (rfl : nmF T0 tx at9 (gQL 0) (gQM 0) = nmF T0 tx at9 (gQL 0) (gQM 0)).symm (he10.out.1.symm.trans hz18))
    have hR1 : rd T0 tx gQL gQM 4 1 (rdP T0 tx at9 1) = (rd T0 tx gQL gQM 5 0 at9) := (rd_goP (d := 4) (d1 := 5) (i := 0) (i1 := 1) rfl rfl hf19.out).trans hR0
    have hp1 : Hid (k7 = rdP T0 tx at9 1) := Hid.mk (q15.trans rdP_1)
    clear q15
    subst q16
    subst q17
    have hPD : pdW (dC, dI) vwCl A [(m21, .inl (cI, 8, .inl fm21)), (m22, .inl (cI, 8, .inl fm22)), (m23, .inl (cI, 8, .inl fm23)), (m24, .inl (cI, 8, .inl fm24)), (h0, .inr (11, (.int n0 :: .int n1 :: .int (nI nq) :: .ref m3 :: .ref m4 :: .ref m5 :: .int (nI nh) :: .ref m7 :: .ref m8 :: .ref m9 :: .ref m10 :: .int (nI sd) :: .ref m12 :: .int (nI tx) :: .int n14 :: .int (nI k7) :: .int i8 :: .int i9 :: .ref m18 :: .int (nI (rq + 1)) :: .ref m20 :: .ref m21 :: .ref m22 :: .ref m23 :: .ref m24 :: .int (nI rh) :: .ref m26 :: .ref m27 :: .ref m28 :: .int (nI un) :: .ref m30 :: .int n31 :: .int n32 :: .ref m33 :: .int n34 :: .int n35 :: .ref m36 :: .int (nI wm) :: .ref m38 :: .ref m39 :: .ref m40 :: .int (nI bk) :: .ref m42 :: .ref m43 :: .ref m44 :: .ref m45 :: []))), (m12, .inl (cI, 220, .inl fm12)), (m20, .inl (cI, 8, .inl (upd fm20 rq (nmV T0 tx at9))))] H := ⟨hP, hD⟩
    have hP := hPD.1
    have hD := hPD.2
    clear hPD
    refine lv_aload_n hx hb dX11_takeQuill_35 rfl (lv_at hl 2 rfl) ?_
    refine lv_aload_n hx hb dX11_takeQuill_36 rfl (lv_at hl 2 rfl) ?_
    refine va_get (D := (dC, dI)) (ci := 11) (v := .ref m21) (C := RX11) (T := TX11) (N := 46) hx hb hts hi_X11 hown hK hP 4 rfl rfl 21 (by decide) (hts (.fieldLink RX11 44 "LeftQuillsModel" "readPlace" "[I") (wmx 3 rfl)) (fun _ h9 => h9) rfl dX11_takeQuill_37 ?_
    refine lv_iload_n hx hb dX11_takeQuill_40 rfl (lv_at hl 1 rfl) ?_
    refine lv_iconst (v := 1) hx hb dX11_takeQuill_41 (by decide) ?_
    refine lv_iconst (v := 5) hx hb dX11_takeQuill_42 (by decide) ?_
    have hc9 := va_cut (W' := [(h0, .inr (11, (.int n0 :: .int n1 :: .int (nI nq) :: .ref m3 :: .ref m4 :: .ref m5 :: .int (nI nh) :: .ref m7 :: .ref m8 :: .ref m9 :: .ref m10 :: .int (nI sd) :: .ref m12 :: .int (nI tx) :: .int n14 :: .int (nI k7) :: .int i8 :: .int i9 :: .ref m18 :: .int (nI (rq + 1)) :: .ref m20 :: .ref m21 :: .ref m22 :: .ref m23 :: .ref m24 :: .int (nI rh) :: .ref m26 :: .ref m27 :: .ref m28 :: .int (nI un) :: .ref m30 :: .int n31 :: .int n32 :: .ref m33 :: .int n34 :: .int n35 :: .ref m36 :: .int (nI wm) :: .ref m38 :: .ref m39 :: .ref m40 :: .int (nI bk) :: .ref m42 :: .ref m43 :: .ref m44 :: .ref m45 :: []))), (m12, .inl (cI, 220, .inl fm12)), (m21, .inl (cI, 8, .inl fm21))]) hP hD hS hA [4, 5, 0] (by decide) rfl
    have hPc := hc9.1
    have hDc := hc9.2.1
    have hFc := hc9.2.2
    clear hc9
    refine va_calli (va_runV (As := [.ref m21, .int (nI rq), .int 1, .int 5]) (rest := []) ⟨hx, hb, hml, hown, hts⟩ (c_X11_intoF l dC dI cI cZ cQ h0 n0 n1 nq m3 m4 m5 nh m7 m8 m9 m10 sd m12 tx n14 k7 i8 i9 m18 (rq + 1) m20 m21 m22 m23 m24 rh m26 m27 m28 un m30 n31 n32 m33 n34 n35 m36 wm m38 m39 m40 bk m42 m43 m44 m45 fm12 m21 fm21 rq 1 5 8 T0 H.size (by omega) (by omega) hT (by omega) (by omega) (by omega) (by omega)) (cwV 4 hts gX11_takeQuill_X11_into rfl rfl rfl hd_X11_into_RX11 ⟨Nat.le_of_ble_eq_true rfl, Nat.le_of_ble_eq_true rfl⟩) (pv_D (va_recv hK hP (ci := 11) (q0 := 4) rfl rfl) hK hPc hDc) rfl rfl hl.1 rfl (lv_room (Nat.le_of_ble_eq_true rfl)) dX11_takeQuill_43 ⟨Nat.le_of_ble_eq_true rfl, Nat.le_of_ble_eq_true rfl⟩) hS (fun q _ h => hFc q h) hFc (fun r20 u21 t H1 locs ht hvm hw22 hB hz1 hk1 hS => ?_)
    obtain ⟨f23, i24, i26, i27, k25, hk25, he28, he29, he30, he31, hP1, hD1⟩ := hB
    replace hP1 := va_hp ht hP1
    obtain ⟨hP, hD⟩ := va_join (wr := [(m22, .inl (cI, 8, .inl fm22)), (m23, .inl (cI, 8, .inl fm23)), (m24, .inl (cI, 8, .inl fm24)), (m20, .inl (cI, 8, .inl (upd fm20 rq (nmV T0 tx at9))))]) (w1 := [(h0, .inr (11, (.int n0 :: .int n1 :: .int (nI nq) :: .ref m3 :: .ref m4 :: .ref m5 :: .int (nI nh) :: .ref m7 :: .ref m8 :: .ref m9 :: .ref m10 :: .int (nI sd) :: .ref m12 :: .int (nI tx) :: .int i24 :: .int (nI k25) :: .int i26 :: .int i27 :: .ref m18 :: .int (nI (rq + 1)) :: .ref m20 :: .ref m21 :: .ref m22 :: .ref m23 :: .ref m24 :: .int (nI rh) :: .ref m26 :: .ref m27 :: .ref m28 :: .int (nI un) :: .ref m30 :: .int n31 :: .int n32 :: .ref m33 :: .int n34 :: .int n35 :: .ref m36 :: .int (nI wm) :: .ref m38 :: .ref m39 :: .ref m40 :: .int (nI bk) :: .ref m42 :: .ref m43 :: .ref m44 :: .ref m45 :: []))), (m12, .inl (cI, 220, .inl fm12)), (m21, .inl (cI, 8, .inl f23))]) hP hD [4, 5, 0] [1, 2, 3, 6] rfl rfl (by decide +kernel) (by decide +kernel) hk1 hFc hP1 hD1
    clear hP1 hD1
    clear hz1 hk1 hPc hDc hFc
    generalize H1 = H at hP hS ht ⊢
    have hPD : pdW (dC, dI) vwCl A [(m22, .inl (cI, 8, .inl fm22)), (m23, .inl (cI, 8, .inl fm23)), (m24, .inl (cI, 8, .inl fm24)), (m20, .inl (cI, 8, .inl (upd fm20 rq (nmV T0 tx at9)))), (h0, .inr (11, (.int n0 :: .int n1 :: .int (nI nq) :: .ref m3 :: .ref m4 :: .ref m5 :: .int (nI nh) :: .ref m7 :: .ref m8 :: .ref m9 :: .ref m10 :: .int (nI sd) :: .ref m12 :: .int (nI tx) :: .int i24 :: .int (nI k25) :: .int i26 :: .int i27 :: .ref m18 :: .int (nI (rq + 1)) :: .ref m20 :: .ref m21 :: .ref m22 :: .ref m23 :: .ref m24 :: .int (nI rh) :: .ref m26 :: .ref m27 :: .ref m28 :: .int (nI un) :: .ref m30 :: .int n31 :: .int n32 :: .ref m33 :: .int n34 :: .int n35 :: .ref m36 :: .int (nI wm) :: .ref m38 :: .ref m39 :: .ref m40 :: .int (nI bk) :: .ref m42 :: .ref m43 :: .ref m44 :: .ref m45 :: []))), (m12, .inl (cI, 220, .inl fm12)), (m21, .inl (cI, 8, .inl f23))] H := ⟨hP, hD⟩
    have hP := hPD.1
    have hD := hPD.2
    clear hPD
    try dsimp only at hw22
    obtain ⟨rfl, hu_u21⟩ := hw22
    refine lv_istore_n (lv' := [(2, .int (nI (u21 0))), (1, .int (nI rq)), (0, .ref h0)]) hx hb dX11_takeQuill_46 rfl hl (by decide) rfl (fun ls hl => ?_)
    refine lv_iload_n hx hb dX11_takeQuill_47 rfl (lv_at hl 0 rfl) ?_
    refine lv_if_le (tgt := 55) hx hb dX11_takeQuill_48 (by decide) (fun c32 => ?_) (fun c32 => ?_)
    ·
      have c32 : (u21 0) ≤ 0 := (nI_leI (a := u21 0) (b := 0) (by omega) (by omega)).mp c32
      have hz36 : u21 0 = 0 := by omega
      obtain ⟨q33, q34, q35⟩ := he28.out.2.1 hz36
      have hf37 : Hid (nmF T0 tx (rdP T0 tx at9 1) (gQL 1) (gQM 1) = 0) := Hid.mk (Eq.trans (congrArg (fun y => nmF T0 tx y (gQL 1) (gQM 1)) hp1.out).symm (he28.out.1.symm.trans hz36))
      have hR2 : rd T0 tx gQL gQM 3 2 (rdP T0 tx at9 2) = (rd T0 tx gQL gQM 5 0 at9) := (rd_goP (d := 3) (d1 := 4) (i := 1) (i1 := 2) rfl rfl hf37.out).trans hR1
      have hp2 : Hid (k25 = rdP T0 tx at9 2) := Hid.mk ((q33.trans (congrArg (fun y => nmE T0 tx y) hp1.out)).trans (rdP_s rfl))
      clear q33
      subst q34
      subst q35
      have hPD : pdW (dC, dI) vwCl A [(m22, .inl (cI, 8, .inl fm22)), (m23, .inl (cI, 8, .inl fm23)), (m24, .inl (cI, 8, .inl fm24)), (m20, .inl (cI, 8, .inl (upd fm20 rq (nmV T0 tx at9)))), (h0, .inr (11, (.int n0 :: .int n1 :: .int (nI nq) :: .ref m3 :: .ref m4 :: .ref m5 :: .int (nI nh) :: .ref m7 :: .ref m8 :: .ref m9 :: .ref m10 :: .int (nI sd) :: .ref m12 :: .int (nI tx) :: .int n14 :: .int (nI k25) :: .int i26 :: .int i27 :: .ref m18 :: .int (nI (rq + 1)) :: .ref m20 :: .ref m21 :: .ref m22 :: .ref m23 :: .ref m24 :: .int (nI rh) :: .ref m26 :: .ref m27 :: .ref m28 :: .int (nI un) :: .ref m30 :: .int n31 :: .int n32 :: .ref m33 :: .int n34 :: .int n35 :: .ref m36 :: .int (nI wm) :: .ref m38 :: .ref m39 :: .ref m40 :: .int (nI bk) :: .ref m42 :: .ref m43 :: .ref m44 :: .ref m45 :: []))), (m12, .inl (cI, 220, .inl fm12)), (m21, .inl (cI, 8, .inl (upd fm21 rq (nmV T0 tx k7))))] H := ⟨hP, hD⟩
      have hP := hPD.1
      have hD := hPD.2
      clear hPD
      refine lv_aload_n hx hb dX11_takeQuill_55 rfl (lv_at hl 2 rfl) ?_
      refine lv_aload_n hx hb dX11_takeQuill_56 rfl (lv_at hl 2 rfl) ?_
      refine va_get (D := (dC, dI)) (ci := 11) (v := .ref m22) (C := RX11) (T := TX11) (N := 46) hx hb hts hi_X11 hown hK hP 4 rfl rfl 22 (by decide) (hts (.fieldLink RX11 47 "LeftQuillsModel" "readCooked" "[I") (wmx 4 rfl)) (fun _ h9 => h9) rfl dX11_takeQuill_57 ?_
      refine lv_iload_n hx hb dX11_takeQuill_60 rfl (lv_at hl 1 rfl) ?_
      refine lv_iconst (v := 0) hx hb dX11_takeQuill_61 (by decide) ?_
      refine lv_bipush (v := 9) hx hb dX11_takeQuill_62 (by decide) ?_
      have hc9 := va_cut (W' := [(h0, .inr (11, (.int n0 :: .int n1 :: .int (nI nq) :: .ref m3 :: .ref m4 :: .ref m5 :: .int (nI nh) :: .ref m7 :: .ref m8 :: .ref m9 :: .ref m10 :: .int (nI sd) :: .ref m12 :: .int (nI tx) :: .int n14 :: .int (nI k25) :: .int i26 :: .int i27 :: .ref m18 :: .int (nI (rq + 1)) :: .ref m20 :: .ref m21 :: .ref m22 :: .ref m23 :: .ref m24 :: .int (nI rh) :: .ref m26 :: .ref m27 :: .ref m28 :: .int (nI un) :: .ref m30 :: .int n31 :: .int n32 :: .ref m33 :: .int n34 :: .int n35 :: .ref m36 :: .int (nI wm) :: .ref m38 :: .ref m39 :: .ref m40 :: .int (nI bk) :: .ref m42 :: .ref m43 :: .ref m44 :: .ref m45 :: []))), (m12, .inl (cI, 220, .inl fm12)), (m22, .inl (cI, 8, .inl fm22))]) hP hD hS hA [4, 5, 0] (by decide) rfl
      have hPc := hc9.1
      have hDc := hc9.2.1
      have hFc := hc9.2.2
      clear hc9
      refine va_calli (va_runV (As := [.ref m22, .int (nI rq), .int 0, .int 9]) (rest := []) ⟨hx, hb, hml, hown, hts⟩ (c_X11_intoF l dC dI cI cZ cQ h0 n0 n1 nq m3 m4 m5 nh m7 m8 m9 m10 sd m12 tx n14 k25 i26 i27 m18 (rq + 1) m20 m21 m22 m23 m24 rh m26 m27 m28 un m30 n31 n32 m33 n34 n35 m36 wm m38 m39 m40 bk m42 m43 m44 m45 fm12 m22 fm22 rq 0 9 8 T0 H.size (by omega) (by omega) hT (by omega) (by omega) (by omega) (by omega)) (cwV 4 hts gX11_takeQuill_X11_into rfl rfl rfl hd_X11_into_RX11 ⟨Nat.le_of_ble_eq_true rfl, Nat.le_of_ble_eq_true rfl⟩) (pv_D (va_recv hK hP (ci := 11) (q0 := 4) rfl rfl) hK hPc hDc) rfl rfl hl.1 rfl (lv_room (Nat.le_of_ble_eq_true rfl)) dX11_takeQuill_64 ⟨Nat.le_of_ble_eq_true rfl, Nat.le_of_ble_eq_true rfl⟩) hS (fun q _ h => hFc q h) hFc (fun r38 u39 t H1 locs ht hvm hw40 hB hz1 hk1 hS => ?_)
      obtain ⟨f41, i42, i44, i45, k43, hk43, he46, he47, he48, he49, hP1, hD1⟩ := hB
      replace hP1 := va_hp ht hP1
      obtain ⟨hP, hD⟩ := va_join (wr := [(m23, .inl (cI, 8, .inl fm23)), (m24, .inl (cI, 8, .inl fm24)), (m20, .inl (cI, 8, .inl (upd fm20 rq (nmV T0 tx at9)))), (m21, .inl (cI, 8, .inl (upd fm21 rq (nmV T0 tx k7))))]) (w1 := [(h0, .inr (11, (.int n0 :: .int n1 :: .int (nI nq) :: .ref m3 :: .ref m4 :: .ref m5 :: .int (nI nh) :: .ref m7 :: .ref m8 :: .ref m9 :: .ref m10 :: .int (nI sd) :: .ref m12 :: .int (nI tx) :: .int i42 :: .int (nI k43) :: .int i44 :: .int i45 :: .ref m18 :: .int (nI (rq + 1)) :: .ref m20 :: .ref m21 :: .ref m22 :: .ref m23 :: .ref m24 :: .int (nI rh) :: .ref m26 :: .ref m27 :: .ref m28 :: .int (nI un) :: .ref m30 :: .int n31 :: .int n32 :: .ref m33 :: .int n34 :: .int n35 :: .ref m36 :: .int (nI wm) :: .ref m38 :: .ref m39 :: .ref m40 :: .int (nI bk) :: .ref m42 :: .ref m43 :: .ref m44 :: .ref m45 :: []))), (m12, .inl (cI, 220, .inl fm12)), (m22, .inl (cI, 8, .inl f41))]) hP hD [4, 5, 0] [1, 2, 3, 6] rfl rfl (by decide +kernel) (by decide +kernel) hk1 hFc hP1 hD1
      clear hP1 hD1
      clear hz1 hk1 hPc hDc hFc
      generalize H1 = H at hP hS ht ⊢
      have hPD : pdW (dC, dI) vwCl A [(m23, .inl (cI, 8, .inl fm23)), (m24, .inl (cI, 8, .inl fm24)), (m20, .inl (cI, 8, .inl (upd fm20 rq (nmV T0 tx at9)))), (m21, .inl (cI, 8, .inl (upd fm21 rq (nmV T0 tx k7)))), (h0, .inr (11, (.int n0 :: .int n1 :: .int (nI nq) :: .ref m3 :: .ref m4 :: .ref m5 :: .int (nI nh) :: .ref m7 :: .ref m8 :: .ref m9 :: .ref m10 :: .int (nI sd) :: .ref m12 :: .int (nI tx) :: .int i42 :: .int (nI k43) :: .int i44 :: .int i45 :: .ref m18 :: .int (nI (rq + 1)) :: .ref m20 :: .ref m21 :: .ref m22 :: .ref m23 :: .ref m24 :: .int (nI rh) :: .ref m26 :: .ref m27 :: .ref m28 :: .int (nI un) :: .ref m30 :: .int n31 :: .int n32 :: .ref m33 :: .int n34 :: .int n35 :: .ref m36 :: .int (nI wm) :: .ref m38 :: .ref m39 :: .ref m40 :: .int (nI bk) :: .ref m42 :: .ref m43 :: .ref m44 :: .ref m45 :: []))), (m12, .inl (cI, 220, .inl fm12)), (m22, .inl (cI, 8, .inl f41))] H := ⟨hP, hD⟩
      have hP := hPD.1
      have hD := hPD.2
      clear hPD
      try dsimp only at hw40
      obtain ⟨rfl, hu_u39⟩ := hw40
      refine lv_istore_n (lv' := [(2, .int (nI (u39 0))), (1, .int (nI rq)), (0, .ref h0)]) hx hb dX11_takeQuill_67 rfl hl (by decide) rfl (fun ls hl => ?_)
      refine lv_iload_n hx hb dX11_takeQuill_68 rfl (lv_at hl 0 rfl) ?_
      refine lv_if_le (tgt := 76) hx hb dX11_takeQuill_69 (by decide) (fun c50 => ?_) (fun c50 => ?_)
      ·
        have c50 : (u39 0) ≤ 0 := (nI_leI (a := u39 0) (b := 0) (by omega) (by omega)).mp c50
        have hz54 : u39 0 = 0 := by omega
        obtain ⟨q51, q52, q53⟩ := he46.out.2.1 hz54
        have hf55 : Hid (nmF T0 tx (rdP T0 tx at9 2) (gQL 2) (gQM 2) = 0) := Hid.mk (Eq.trans (congrArg (fun y => nmF T0 tx y (gQL 2) (gQM 2)) hp2.out).symm (he46.out.1.symm.trans hz54))
        have hR3 : rd T0 tx gQL gQM 2 3 (rdP T0 tx at9 3) = (rd T0 tx gQL gQM 5 0 at9) := (rd_goP (d := 2) (d1 := 3) (i := 2) (i1 := 3) rfl rfl hf55.out).trans hR2
        have hp3 : Hid (k43 = rdP T0 tx at9 3) := Hid.mk ((q51.trans (congrArg (fun y => nmE T0 tx y) hp2.out)).trans (rdP_s rfl))
        clear q51
        subst q52
        subst q53
        have hPD : pdW (dC, dI) vwCl A [(m23, .inl (cI, 8, .inl fm23)), (m24, .inl (cI, 8, .inl fm24)), (m20, .inl (cI, 8, .inl (upd fm20 rq (nmV T0 tx at9)))), (m21, .inl (cI, 8, .inl (upd fm21 rq (nmV T0 tx k7)))), (h0, .inr (11, (.int n0 :: .int n1 :: .int (nI nq) :: .ref m3 :: .ref m4 :: .ref m5 :: .int (nI nh) :: .ref m7 :: .ref m8 :: .ref m9 :: .ref m10 :: .int (nI sd) :: .ref m12 :: .int (nI tx) :: .int n14 :: .int (nI k43) :: .int i44 :: .int i45 :: .ref m18 :: .int (nI (rq + 1)) :: .ref m20 :: .ref m21 :: .ref m22 :: .ref m23 :: .ref m24 :: .int (nI rh) :: .ref m26 :: .ref m27 :: .ref m28 :: .int (nI un) :: .ref m30 :: .int n31 :: .int n32 :: .ref m33 :: .int n34 :: .int n35 :: .ref m36 :: .int (nI wm) :: .ref m38 :: .ref m39 :: .ref m40 :: .int (nI bk) :: .ref m42 :: .ref m43 :: .ref m44 :: .ref m45 :: []))), (m12, .inl (cI, 220, .inl fm12)), (m22, .inl (cI, 8, .inl (upd fm22 rq (nmV T0 tx k25))))] H := ⟨hP, hD⟩
        have hP := hPD.1
        have hD := hPD.2
        clear hPD
        refine lv_aload_n hx hb dX11_takeQuill_76 rfl (lv_at hl 2 rfl) ?_
        refine lv_aload_n hx hb dX11_takeQuill_77 rfl (lv_at hl 2 rfl) ?_
        refine va_get (D := (dC, dI)) (ci := 11) (v := .ref m23) (C := RX11) (T := TX11) (N := 46) hx hb hts hi_X11 hown hK hP 4 rfl rfl 23 (by decide) (hts (.fieldLink RX11 50 "LeftQuillsModel" "readLength" "[I") (wmx 5 rfl)) (fun _ h9 => h9) rfl dX11_takeQuill_78 ?_
        refine lv_iload_n hx hb dX11_takeQuill_81 rfl (lv_at hl 1 rfl) ?_
        refine lv_iconst (v := 0) hx hb dX11_takeQuill_82 (by decide) ?_
        refine lv_bipush (v := 99) hx hb dX11_takeQuill_83 (by decide) ?_
        have hc9 := va_cut (W' := [(h0, .inr (11, (.int n0 :: .int n1 :: .int (nI nq) :: .ref m3 :: .ref m4 :: .ref m5 :: .int (nI nh) :: .ref m7 :: .ref m8 :: .ref m9 :: .ref m10 :: .int (nI sd) :: .ref m12 :: .int (nI tx) :: .int n14 :: .int (nI k43) :: .int i44 :: .int i45 :: .ref m18 :: .int (nI (rq + 1)) :: .ref m20 :: .ref m21 :: .ref m22 :: .ref m23 :: .ref m24 :: .int (nI rh) :: .ref m26 :: .ref m27 :: .ref m28 :: .int (nI un) :: .ref m30 :: .int n31 :: .int n32 :: .ref m33 :: .int n34 :: .int n35 :: .ref m36 :: .int (nI wm) :: .ref m38 :: .ref m39 :: .ref m40 :: .int (nI bk) :: .ref m42 :: .ref m43 :: .ref m44 :: .ref m45 :: []))), (m12, .inl (cI, 220, .inl fm12)), (m23, .inl (cI, 8, .inl fm23))]) hP hD hS hA [4, 5, 0] (by decide) rfl
        have hPc := hc9.1
        have hDc := hc9.2.1
        have hFc := hc9.2.2
        clear hc9
        refine va_calli (va_runV (As := [.ref m23, .int (nI rq), .int 0, .int 99]) (rest := []) ⟨hx, hb, hml, hown, hts⟩ (c_X11_intoF l dC dI cI cZ cQ h0 n0 n1 nq m3 m4 m5 nh m7 m8 m9 m10 sd m12 tx n14 k43 i44 i45 m18 (rq + 1) m20 m21 m22 m23 m24 rh m26 m27 m28 un m30 n31 n32 m33 n34 n35 m36 wm m38 m39 m40 bk m42 m43 m44 m45 fm12 m23 fm23 rq 0 99 8 T0 H.size (by omega) (by omega) hT (by omega) (by omega) (by omega) (by omega)) (cwV 4 hts gX11_takeQuill_X11_into rfl rfl rfl hd_X11_into_RX11 ⟨Nat.le_of_ble_eq_true rfl, Nat.le_of_ble_eq_true rfl⟩) (pv_D (va_recv hK hP (ci := 11) (q0 := 4) rfl rfl) hK hPc hDc) rfl rfl hl.1 rfl (lv_room (Nat.le_of_ble_eq_true rfl)) dX11_takeQuill_85 ⟨Nat.le_of_ble_eq_true rfl, Nat.le_of_ble_eq_true rfl⟩) hS (fun q _ h => hFc q h) hFc (fun r56 u57 t H1 locs ht hvm hw58 hB hz1 hk1 hS => ?_)
        obtain ⟨f59, i60, i62, i63, k61, hk61, he64, he65, he66, he67, hP1, hD1⟩ := hB
        replace hP1 := va_hp ht hP1
        obtain ⟨hP, hD⟩ := va_join (wr := [(m24, .inl (cI, 8, .inl fm24)), (m20, .inl (cI, 8, .inl (upd fm20 rq (nmV T0 tx at9)))), (m21, .inl (cI, 8, .inl (upd fm21 rq (nmV T0 tx k7)))), (m22, .inl (cI, 8, .inl (upd fm22 rq (nmV T0 tx k25))))]) (w1 := [(h0, .inr (11, (.int n0 :: .int n1 :: .int (nI nq) :: .ref m3 :: .ref m4 :: .ref m5 :: .int (nI nh) :: .ref m7 :: .ref m8 :: .ref m9 :: .ref m10 :: .int (nI sd) :: .ref m12 :: .int (nI tx) :: .int i60 :: .int (nI k61) :: .int i62 :: .int i63 :: .ref m18 :: .int (nI (rq + 1)) :: .ref m20 :: .ref m21 :: .ref m22 :: .ref m23 :: .ref m24 :: .int (nI rh) :: .ref m26 :: .ref m27 :: .ref m28 :: .int (nI un) :: .ref m30 :: .int n31 :: .int n32 :: .ref m33 :: .int n34 :: .int n35 :: .ref m36 :: .int (nI wm) :: .ref m38 :: .ref m39 :: .ref m40 :: .int (nI bk) :: .ref m42 :: .ref m43 :: .ref m44 :: .ref m45 :: []))), (m12, .inl (cI, 220, .inl fm12)), (m23, .inl (cI, 8, .inl f59))]) hP hD [4, 5, 0] [1, 2, 3, 6] rfl rfl (by decide +kernel) (by decide +kernel) hk1 hFc hP1 hD1
        clear hP1 hD1
        clear hz1 hk1 hPc hDc hFc
        generalize H1 = H at hP hS ht ⊢
        have hPD : pdW (dC, dI) vwCl A [(m24, .inl (cI, 8, .inl fm24)), (m20, .inl (cI, 8, .inl (upd fm20 rq (nmV T0 tx at9)))), (m21, .inl (cI, 8, .inl (upd fm21 rq (nmV T0 tx k7)))), (m22, .inl (cI, 8, .inl (upd fm22 rq (nmV T0 tx k25)))), (h0, .inr (11, (.int n0 :: .int n1 :: .int (nI nq) :: .ref m3 :: .ref m4 :: .ref m5 :: .int (nI nh) :: .ref m7 :: .ref m8 :: .ref m9 :: .ref m10 :: .int (nI sd) :: .ref m12 :: .int (nI tx) :: .int i60 :: .int (nI k61) :: .int i62 :: .int i63 :: .ref m18 :: .int (nI (rq + 1)) :: .ref m20 :: .ref m21 :: .ref m22 :: .ref m23 :: .ref m24 :: .int (nI rh) :: .ref m26 :: .ref m27 :: .ref m28 :: .int (nI un) :: .ref m30 :: .int n31 :: .int n32 :: .ref m33 :: .int n34 :: .int n35 :: .ref m36 :: .int (nI wm) :: .ref m38 :: .ref m39 :: .ref m40 :: .int (nI bk) :: .ref m42 :: .ref m43 :: .ref m44 :: .ref m45 :: []))), (m12, .inl (cI, 220, .inl fm12)), (m23, .inl (cI, 8, .inl f59))] H := ⟨hP, hD⟩
        have hP := hPD.1
        have hD := hPD.2
        clear hPD
        try dsimp only at hw58
        obtain ⟨rfl, hu_u57⟩ := hw58
        refine lv_istore_n (lv' := [(2, .int (nI (u57 0))), (1, .int (nI rq)), (0, .ref h0)]) hx hb dX11_takeQuill_88 rfl hl (by decide) rfl (fun ls hl => ?_)
        refine lv_iload_n hx hb dX11_takeQuill_89 rfl (lv_at hl 0 rfl) ?_
        refine lv_if_le (tgt := 97) hx hb dX11_takeQuill_90 (by decide) (fun c68 => ?_) (fun c68 => ?_)
        ·
          have c68 : (u57 0) ≤ 0 := (nI_leI (a := u57 0) (b := 0) (by omega) (by omega)).mp c68
          have hz72 : u57 0 = 0 := by omega
          obtain ⟨q69, q70, q71⟩ := he64.out.2.1 hz72
          have hf73 : Hid (nmF T0 tx (rdP T0 tx at9 3) (gQL 3) (gQM 3) = 0) := Hid.mk (Eq.trans (congrArg (fun y => nmF T0 tx y (gQL 3) (gQM 3)) hp3.out).symm (he64.out.1.symm.trans hz72))
          have hR4 : rd T0 tx gQL gQM 1 4 (rdP T0 tx at9 4) = (rd T0 tx gQL gQM 5 0 at9) := (rd_goP (d := 1) (d1 := 2) (i := 3) (i1 := 4) rfl rfl hf73.out).trans hR3
          have hp4 : Hid (k61 = rdP T0 tx at9 4) := Hid.mk ((q69.trans (congrArg (fun y => nmE T0 tx y) hp3.out)).trans (rdP_s rfl))
          clear q69
          subst q70
          subst q71
          have hPD : pdW (dC, dI) vwCl A [(m24, .inl (cI, 8, .inl fm24)), (m20, .inl (cI, 8, .inl (upd fm20 rq (nmV T0 tx at9)))), (m21, .inl (cI, 8, .inl (upd fm21 rq (nmV T0 tx k7)))), (m22, .inl (cI, 8, .inl (upd fm22 rq (nmV T0 tx k25)))), (h0, .inr (11, (.int n0 :: .int n1 :: .int (nI nq) :: .ref m3 :: .ref m4 :: .ref m5 :: .int (nI nh) :: .ref m7 :: .ref m8 :: .ref m9 :: .ref m10 :: .int (nI sd) :: .ref m12 :: .int (nI tx) :: .int n14 :: .int (nI k61) :: .int i62 :: .int i63 :: .ref m18 :: .int (nI (rq + 1)) :: .ref m20 :: .ref m21 :: .ref m22 :: .ref m23 :: .ref m24 :: .int (nI rh) :: .ref m26 :: .ref m27 :: .ref m28 :: .int (nI un) :: .ref m30 :: .int n31 :: .int n32 :: .ref m33 :: .int n34 :: .int n35 :: .ref m36 :: .int (nI wm) :: .ref m38 :: .ref m39 :: .ref m40 :: .int (nI bk) :: .ref m42 :: .ref m43 :: .ref m44 :: .ref m45 :: []))), (m12, .inl (cI, 220, .inl fm12)), (m23, .inl (cI, 8, .inl (upd fm23 rq (nmV T0 tx k43))))] H := ⟨hP, hD⟩
          have hP := hPD.1
          have hD := hPD.2
          clear hPD
          refine lv_aload_n hx hb dX11_takeQuill_97 rfl (lv_at hl 2 rfl) ?_
          refine lv_aload_n hx hb dX11_takeQuill_98 rfl (lv_at hl 2 rfl) ?_
          refine va_get (D := (dC, dI)) (ci := 11) (v := .ref m24) (C := RX11) (T := TX11) (N := 46) hx hb hts hi_X11 hown hK hP 4 rfl rfl 24 (by decide) (hts (.fieldLink RX11 53 "LeftQuillsModel" "readNib" "[I") (wmx 6 rfl)) (fun _ h9 => h9) rfl dX11_takeQuill_99 ?_
          refine lv_iload_n hx hb dX11_takeQuill_102 rfl (lv_at hl 1 rfl) ?_
          refine lv_iconst (v := 1) hx hb dX11_takeQuill_103 (by decide) ?_
          refine lv_bipush (v := 9) hx hb dX11_takeQuill_104 (by decide) ?_
          have hc9 := va_cut (W' := [(h0, .inr (11, (.int n0 :: .int n1 :: .int (nI nq) :: .ref m3 :: .ref m4 :: .ref m5 :: .int (nI nh) :: .ref m7 :: .ref m8 :: .ref m9 :: .ref m10 :: .int (nI sd) :: .ref m12 :: .int (nI tx) :: .int n14 :: .int (nI k61) :: .int i62 :: .int i63 :: .ref m18 :: .int (nI (rq + 1)) :: .ref m20 :: .ref m21 :: .ref m22 :: .ref m23 :: .ref m24 :: .int (nI rh) :: .ref m26 :: .ref m27 :: .ref m28 :: .int (nI un) :: .ref m30 :: .int n31 :: .int n32 :: .ref m33 :: .int n34 :: .int n35 :: .ref m36 :: .int (nI wm) :: .ref m38 :: .ref m39 :: .ref m40 :: .int (nI bk) :: .ref m42 :: .ref m43 :: .ref m44 :: .ref m45 :: []))), (m12, .inl (cI, 220, .inl fm12)), (m24, .inl (cI, 8, .inl fm24))]) hP hD hS hA [4, 5, 0] (by decide) rfl
          have hPc := hc9.1
          have hDc := hc9.2.1
          have hFc := hc9.2.2
          clear hc9
          refine va_calli (va_runV (As := [.ref m24, .int (nI rq), .int 1, .int 9]) (rest := []) ⟨hx, hb, hml, hown, hts⟩ (c_X11_intoF l dC dI cI cZ cQ h0 n0 n1 nq m3 m4 m5 nh m7 m8 m9 m10 sd m12 tx n14 k61 i62 i63 m18 (rq + 1) m20 m21 m22 m23 m24 rh m26 m27 m28 un m30 n31 n32 m33 n34 n35 m36 wm m38 m39 m40 bk m42 m43 m44 m45 fm12 m24 fm24 rq 1 9 8 T0 H.size (by omega) (by omega) hT (by omega) (by omega) (by omega) (by omega)) (cwV 4 hts gX11_takeQuill_X11_into rfl rfl rfl hd_X11_into_RX11 ⟨Nat.le_of_ble_eq_true rfl, Nat.le_of_ble_eq_true rfl⟩) (pv_D (va_recv hK hP (ci := 11) (q0 := 4) rfl rfl) hK hPc hDc) rfl rfl hl.1 rfl (lv_room (Nat.le_of_ble_eq_true rfl)) dX11_takeQuill_106 ⟨Nat.le_of_ble_eq_true rfl, Nat.le_of_ble_eq_true rfl⟩) hS (fun q _ h => hFc q h) hFc (fun r74 u75 t H1 locs ht hvm hw76 hB hz1 hk1 hS => ?_)
          obtain ⟨f77, i78, i80, i81, k79, hk79, he82, he83, he84, he85, hP1, hD1⟩ := hB
          replace hP1 := va_hp ht hP1
          obtain ⟨hP, hD⟩ := va_join (wr := [(m20, .inl (cI, 8, .inl (upd fm20 rq (nmV T0 tx at9)))), (m21, .inl (cI, 8, .inl (upd fm21 rq (nmV T0 tx k7)))), (m22, .inl (cI, 8, .inl (upd fm22 rq (nmV T0 tx k25)))), (m23, .inl (cI, 8, .inl (upd fm23 rq (nmV T0 tx k43))))]) (w1 := [(h0, .inr (11, (.int n0 :: .int n1 :: .int (nI nq) :: .ref m3 :: .ref m4 :: .ref m5 :: .int (nI nh) :: .ref m7 :: .ref m8 :: .ref m9 :: .ref m10 :: .int (nI sd) :: .ref m12 :: .int (nI tx) :: .int i78 :: .int (nI k79) :: .int i80 :: .int i81 :: .ref m18 :: .int (nI (rq + 1)) :: .ref m20 :: .ref m21 :: .ref m22 :: .ref m23 :: .ref m24 :: .int (nI rh) :: .ref m26 :: .ref m27 :: .ref m28 :: .int (nI un) :: .ref m30 :: .int n31 :: .int n32 :: .ref m33 :: .int n34 :: .int n35 :: .ref m36 :: .int (nI wm) :: .ref m38 :: .ref m39 :: .ref m40 :: .int (nI bk) :: .ref m42 :: .ref m43 :: .ref m44 :: .ref m45 :: []))), (m12, .inl (cI, 220, .inl fm12)), (m24, .inl (cI, 8, .inl f77))]) hP hD [4, 5, 0] [1, 2, 3, 6] rfl rfl (by decide +kernel) (by decide +kernel) hk1 hFc hP1 hD1
          clear hP1 hD1
          clear hz1 hk1 hPc hDc hFc
          generalize H1 = H at hP hS ht ⊢
          have hPD : pdW (dC, dI) vwCl A [(m20, .inl (cI, 8, .inl (upd fm20 rq (nmV T0 tx at9)))), (m21, .inl (cI, 8, .inl (upd fm21 rq (nmV T0 tx k7)))), (m22, .inl (cI, 8, .inl (upd fm22 rq (nmV T0 tx k25)))), (m23, .inl (cI, 8, .inl (upd fm23 rq (nmV T0 tx k43)))), (h0, .inr (11, (.int n0 :: .int n1 :: .int (nI nq) :: .ref m3 :: .ref m4 :: .ref m5 :: .int (nI nh) :: .ref m7 :: .ref m8 :: .ref m9 :: .ref m10 :: .int (nI sd) :: .ref m12 :: .int (nI tx) :: .int i78 :: .int (nI k79) :: .int i80 :: .int i81 :: .ref m18 :: .int (nI (rq + 1)) :: .ref m20 :: .ref m21 :: .ref m22 :: .ref m23 :: .ref m24 :: .int (nI rh) :: .ref m26 :: .ref m27 :: .ref m28 :: .int (nI un) :: .ref m30 :: .int n31 :: .int n32 :: .ref m33 :: .int n34 :: .int n35 :: .ref m36 :: .int (nI wm) :: .ref m38 :: .ref m39 :: .ref m40 :: .int (nI bk) :: .ref m42 :: .ref m43 :: .ref m44 :: .ref m45 :: []))), (m12, .inl (cI, 220, .inl fm12)), (m24, .inl (cI, 8, .inl f77))] H := ⟨hP, hD⟩
          have hP := hPD.1
          have hD := hPD.2
          clear hPD
          try dsimp only at hw76
          obtain ⟨rfl, hu_u75⟩ := hw76
          have hP9 := hP.sub (ws' := [(h0, .inr (11, (.int n0 :: .int n1 :: .int (nI nq) :: .ref m3 :: .ref m4 :: .ref m5 :: .int (nI nh) :: .ref m7 :: .ref m8 :: .ref m9 :: .ref m10 :: .int (nI sd) :: .ref m12 :: .int (nI tx) :: .int i78 :: .int (nI k79) :: .int i80 :: .int i81 :: .ref m18 :: .int (nI (rq + 1)) :: .ref m20 :: .ref m21 :: .ref m22 :: .ref m23 :: .ref m24 :: .int (nI rh) :: .ref m26 :: .ref m27 :: .ref m28 :: .int (nI un) :: .ref m30 :: .int n31 :: .int n32 :: .ref m33 :: .int n34 :: .int n35 :: .ref m36 :: .int (nI wm) :: .ref m38 :: .ref m39 :: .ref m40 :: .int (nI bk) :: .ref m42 :: .ref m43 :: .ref m44 :: .ref m45 :: []))), (m12, .inl (cI, 220, .inl fm12)), (m20, .inl (cI, 8, .inl (upd fm20 rq (nmV T0 tx at9)))), (m21, .inl (cI, 8, .inl (upd fm21 rq (nmV T0 tx k7)))), (m22, .inl (cI, 8, .inl (upd fm22 rq (nmV T0 tx k25)))), (m23, .inl (cI, 8, .inl (upd fm23 rq (nmV T0 tx k43)))), (m24, .inl (cI, 8, .inl f77))]) [4, 5, 0, 1, 2, 3, 6] rfl
          have hD9 := hD.sub (ws' := [(h0, .inr (11, (.int n0 :: .int n1 :: .int (nI nq) :: .ref m3 :: .ref m4 :: .ref m5 :: .int (nI nh) :: .ref m7 :: .ref m8 :: .ref m9 :: .ref m10 :: .int (nI sd) :: .ref m12 :: .int (nI tx) :: .int i78 :: .int (nI k79) :: .int i80 :: .int i81 :: .ref m18 :: .int (nI (rq + 1)) :: .ref m20 :: .ref m21 :: .ref m22 :: .ref m23 :: .ref m24 :: .int (nI rh) :: .ref m26 :: .ref m27 :: .ref m28 :: .int (nI un) :: .ref m30 :: .int n31 :: .int n32 :: .ref m33 :: .int n34 :: .int n35 :: .ref m36 :: .int (nI wm) :: .ref m38 :: .ref m39 :: .ref m40 :: .int (nI bk) :: .ref m42 :: .ref m43 :: .ref m44 :: .ref m45 :: []))), (m12, .inl (cI, 220, .inl fm12)), (m20, .inl (cI, 8, .inl (upd fm20 rq (nmV T0 tx at9)))), (m21, .inl (cI, 8, .inl (upd fm21 rq (nmV T0 tx k7)))), (m22, .inl (cI, 8, .inl (upd fm22 rq (nmV T0 tx k25)))), (m23, .inl (cI, 8, .inl (upd fm23 rq (nmV T0 tx k43)))), (m24, .inl (cI, 8, .inl f77))]) [4, 5, 0, 1, 2, 3, 6] (by decide +kernel) rfl
          exact W.iret (v := nI (u75 0)) hx hb hr (fun t ht hW => ⟨⟨nI (u75 0), (fun _ => u75 0), rfl, ⟨rfl, hu_u75⟩, ⟨(upd fm20 rq (nmV T0 tx at9)), (upd fm21 rq (nmV T0 tx k7)), (upd fm22 rq (nmV T0 tx k25)), (upd fm23 rq (nmV T0 tx k43)), f77, i78, i80, i81, k79, (rq + 1), by first | assumption | omega, by first | assumption | omega, Hid.mk (by
                                                                                by_cases z9 : u75 0 = 0
                                                                                · have f9 : nmF T0 tx (rdP T0 tx at9 4) (gQL 4) (gQM 4) = 0 := Eq.trans (congrArg (fun y => nmF T0 tx y (gQL 4) (gQM 4)) hp4.out).symm (he82.out.1.symm.trans z9)
                                                                                  have h9 : (rd T0 tx gQL gQM 5 0 at9) = (0, 0, rdP T0 tx at9 5) := hR4.symm.trans (rd_goP (d := 0) (d1 := 1) (i := 4) (i1 := 5) rfl rfl f9).symm
                                                                                  have x9 : k79 = rdP T0 tx at9 5 := ((he82.out.2.1 z9).1.trans (congrArg (fun y => nmE T0 tx y) hp4.out)).trans (rdP_s rfl)
                                                                                  exact ⟨by rw [h9]; dsimp only; exact z9, fun _ => ⟨by rw [h9]; dsimp only; exact x9, (he82.out.2.1 z9).2.2, rfl, (congrArg (fun y => upd fm21 rq (nmV T0 tx y)) hp1.out), (congrArg (fun y => upd fm22 rq (nmV T0 tx y)) hp2.out), (congrArg (fun y => upd fm23 rq (nmV T0 tx y)) hp3.out), ((he82.out.2.1 z9).2.1.trans (congrArg (fun y => upd fm24 rq (nmV T0 tx y)) hp4.out))⟩, fun h => absurd z9 h⟩
                                                                                · have g9 : nmF T0 tx (rdP T0 tx at9 4) (gQL 4) (gQM 4) ≠ 0 := fun h => z9 (he82.out.1.trans (Eq.trans (congrArg (fun y => nmF T0 tx y (gQL 4) (gQM 4)) hp4.out) h))
                                                                                  have h9 : (rd T0 tx gQL gQM 5 0 at9) = (nmF T0 tx (rdP T0 tx at9 4) (gQL 4) (gQM 4), nmQ T0 tx (rdP T0 tx at9 4), (rdP T0 tx at9 4)) := hR4.symm.trans (rd_fl (d := 0) (d1 := 1) rfl g9)
                                                                                  have x9 : u75 0 = nmF T0 tx (rdP T0 tx at9 4) (gQL 4) (gQM 4) := he82.out.1.trans (congrArg (fun y => nmF T0 tx y (gQL 4) (gQM 4)) hp4.out)
                                                                                  have y9 : i78 = nI (nmQ T0 tx (rdP T0 tx at9 4)) := (he82.out.2.2 z9).trans (congrArg (fun y => nI (sk T0 tx y)) hp4.out)
                                                                                  exact ⟨by rw [h9]; dsimp only; exact x9, fun h => absurd h z9, fun h => by rw [h9]; dsimp only; exact y9⟩), (Nat.le_trans he11 (Nat.le_trans he29 (Nat.le_trans he47 (Nat.le_trans he65 he83)))), (fun _ => cIn_into hci he48 (he49.out (by omega))), rfl, va_hq ht hP9, hD9⟩⟩, hS.F ht⟩) hS.2.2 dX11_takeQuill_109
        ·
          have c68 : ¬ (u57 0) ≤ 0 := fun h => c68 ((nI_leI (a := u57 0) (b := 0) (by omega) (by omega)).mpr h)
          refine lv_iload_n hx hb dX11_takeQuill_93 rfl (lv_at hl 0 rfl) ?_
          refine lv_goto (tgt := 109) hx hb dX11_takeQuill_94 (by decide) ?_
          have hP9 := hP.sub (ws' := [(h0, .inr (11, (.int n0 :: .int n1 :: .int (nI nq) :: .ref m3 :: .ref m4 :: .ref m5 :: .int (nI nh) :: .ref m7 :: .ref m8 :: .ref m9 :: .ref m10 :: .int (nI sd) :: .ref m12 :: .int (nI tx) :: .int i60 :: .int (nI k61) :: .int i62 :: .int i63 :: .ref m18 :: .int (nI (rq + 1)) :: .ref m20 :: .ref m21 :: .ref m22 :: .ref m23 :: .ref m24 :: .int (nI rh) :: .ref m26 :: .ref m27 :: .ref m28 :: .int (nI un) :: .ref m30 :: .int n31 :: .int n32 :: .ref m33 :: .int n34 :: .int n35 :: .ref m36 :: .int (nI wm) :: .ref m38 :: .ref m39 :: .ref m40 :: .int (nI bk) :: .ref m42 :: .ref m43 :: .ref m44 :: .ref m45 :: []))), (m12, .inl (cI, 220, .inl fm12)), (m20, .inl (cI, 8, .inl (upd fm20 rq (nmV T0 tx at9)))), (m21, .inl (cI, 8, .inl (upd fm21 rq (nmV T0 tx k7)))), (m22, .inl (cI, 8, .inl (upd fm22 rq (nmV T0 tx k25)))), (m23, .inl (cI, 8, .inl f59)), (m24, .inl (cI, 8, .inl fm24))]) [4, 5, 1, 2, 3, 6, 0] rfl
          have hD9 := hD.sub (ws' := [(h0, .inr (11, (.int n0 :: .int n1 :: .int (nI nq) :: .ref m3 :: .ref m4 :: .ref m5 :: .int (nI nh) :: .ref m7 :: .ref m8 :: .ref m9 :: .ref m10 :: .int (nI sd) :: .ref m12 :: .int (nI tx) :: .int i60 :: .int (nI k61) :: .int i62 :: .int i63 :: .ref m18 :: .int (nI (rq + 1)) :: .ref m20 :: .ref m21 :: .ref m22 :: .ref m23 :: .ref m24 :: .int (nI rh) :: .ref m26 :: .ref m27 :: .ref m28 :: .int (nI un) :: .ref m30 :: .int n31 :: .int n32 :: .ref m33 :: .int n34 :: .int n35 :: .ref m36 :: .int (nI wm) :: .ref m38 :: .ref m39 :: .ref m40 :: .int (nI bk) :: .ref m42 :: .ref m43 :: .ref m44 :: .ref m45 :: []))), (m12, .inl (cI, 220, .inl fm12)), (m20, .inl (cI, 8, .inl (upd fm20 rq (nmV T0 tx at9)))), (m21, .inl (cI, 8, .inl (upd fm21 rq (nmV T0 tx k7)))), (m22, .inl (cI, 8, .inl (upd fm22 rq (nmV T0 tx k25)))), (m23, .inl (cI, 8, .inl f59)), (m24, .inl (cI, 8, .inl fm24))]) [4, 5, 1, 2, 3, 6, 0] (by decide +kernel) rfl
          exact W.iret (v := nI (u57 0)) hx hb hr (fun t ht hW => ⟨⟨nI (u57 0), (fun _ => u57 0), rfl, ⟨rfl, hu_u57⟩, ⟨(upd fm20 rq (nmV T0 tx at9)), (upd fm21 rq (nmV T0 tx k7)), (upd fm22 rq (nmV T0 tx k25)), f59, fm24, i60, i62, i63, k61, (rq + 1), by first | assumption | omega, by first | assumption | omega, Hid.mk (by have g9 : nmF T0 tx (rdP T0 tx at9 3) (gQL 3) (gQM 3) ≠ 0 := fun h => c68 (by have h8 : u57 0 = 0 := he64.out.1.trans (Eq.trans (congrArg (fun y => nmF T0 tx y (gQL 3) (gQM 3)) hp3.out) h); omega); have h9 : (rd T0 tx gQL gQM 5 0 at9) = (nmF T0 tx (rdP T0 tx at9 3) (gQL 3) (gQM 3), nmQ T0 tx (rdP T0 tx at9 3), (rdP T0 tx at9 3)) := hR3.symm.trans (rd_fl (d := 1) (d1 := 2) rfl g9); have x9 : u57 0 = nmF T0 tx (rdP T0 tx at9 3) (gQL 3) (gQM 3) := he64.out.1.trans (congrArg (fun y => nmF T0 tx y (gQL 3) (gQM 3)) hp3.out); have y9 : i60 = nI (nmQ T0 tx (rdP T0 tx at9 3)) := (he64.out.2.2 (by omega)).trans (congrArg (fun y => nI (sk T0 tx y)) hp3.out); exact ⟨by rw [h9]; dsimp only; exact x9, fun h => absurd h (by show ¬ u57 0 = 0; omega), fun _ => by rw [h9]; dsimp only; exact y9⟩), (Nat.le_trans he11 (Nat.le_trans he29 (Nat.le_trans he47 he65))), (fun h => by have h9 : u57 0 = 0 := h; omega), rfl, va_hq ht hP9, hD9⟩⟩, hS.F ht⟩) hS.2.2 dX11_takeQuill_109
      ·
        have c50 : ¬ (u39 0) ≤ 0 := fun h => c50 ((nI_leI (a := u39 0) (b := 0) (by omega) (by omega)).mpr h)
        refine lv_iload_n hx hb dX11_takeQuill_72 rfl (lv_at hl 0 rfl) ?_
        refine lv_goto (tgt := 88) hx hb dX11_takeQuill_73 (by decide) ?_
        refine lv_istore_n (lv' := [(2, .int (nI (u39 0))), (1, .int (nI rq)), (0, .ref h0)]) hx hb dX11_takeQuill_88 rfl hl (by decide) rfl (fun ls hl => ?_)
        refine lv_iload_n hx hb dX11_takeQuill_89 rfl (lv_at hl 0 rfl) ?_
        refine lv_if_le (tgt := 97) hx hb dX11_takeQuill_90 (by decide) (fun c86 => ?_) (fun c86 => ?_)
        ·
          have c86 : (u39 0) ≤ 0 := (nI_leI (a := u39 0) (b := 0) (by omega) (by omega)).mp c86
          omega
        ·
          have c86 : ¬ (u39 0) ≤ 0 := fun h => c86 ((nI_leI (a := u39 0) (b := 0) (by omega) (by omega)).mpr h)
          refine lv_iload_n hx hb dX11_takeQuill_93 rfl (lv_at hl 0 rfl) ?_
          refine lv_goto (tgt := 109) hx hb dX11_takeQuill_94 (by decide) ?_
          have hP9 := hP.sub (ws' := [(h0, .inr (11, (.int n0 :: .int n1 :: .int (nI nq) :: .ref m3 :: .ref m4 :: .ref m5 :: .int (nI nh) :: .ref m7 :: .ref m8 :: .ref m9 :: .ref m10 :: .int (nI sd) :: .ref m12 :: .int (nI tx) :: .int i42 :: .int (nI k43) :: .int i44 :: .int i45 :: .ref m18 :: .int (nI (rq + 1)) :: .ref m20 :: .ref m21 :: .ref m22 :: .ref m23 :: .ref m24 :: .int (nI rh) :: .ref m26 :: .ref m27 :: .ref m28 :: .int (nI un) :: .ref m30 :: .int n31 :: .int n32 :: .ref m33 :: .int n34 :: .int n35 :: .ref m36 :: .int (nI wm) :: .ref m38 :: .ref m39 :: .ref m40 :: .int (nI bk) :: .ref m42 :: .ref m43 :: .ref m44 :: .ref m45 :: []))), (m12, .inl (cI, 220, .inl fm12)), (m20, .inl (cI, 8, .inl (upd fm20 rq (nmV T0 tx at9)))), (m21, .inl (cI, 8, .inl (upd fm21 rq (nmV T0 tx k7)))), (m22, .inl (cI, 8, .inl f41)), (m23, .inl (cI, 8, .inl fm23)), (m24, .inl (cI, 8, .inl fm24))]) [4, 5, 2, 3, 6, 0, 1] rfl
          have hD9 := hD.sub (ws' := [(h0, .inr (11, (.int n0 :: .int n1 :: .int (nI nq) :: .ref m3 :: .ref m4 :: .ref m5 :: .int (nI nh) :: .ref m7 :: .ref m8 :: .ref m9 :: .ref m10 :: .int (nI sd) :: .ref m12 :: .int (nI tx) :: .int i42 :: .int (nI k43) :: .int i44 :: .int i45 :: .ref m18 :: .int (nI (rq + 1)) :: .ref m20 :: .ref m21 :: .ref m22 :: .ref m23 :: .ref m24 :: .int (nI rh) :: .ref m26 :: .ref m27 :: .ref m28 :: .int (nI un) :: .ref m30 :: .int n31 :: .int n32 :: .ref m33 :: .int n34 :: .int n35 :: .ref m36 :: .int (nI wm) :: .ref m38 :: .ref m39 :: .ref m40 :: .int (nI bk) :: .ref m42 :: .ref m43 :: .ref m44 :: .ref m45 :: []))), (m12, .inl (cI, 220, .inl fm12)), (m20, .inl (cI, 8, .inl (upd fm20 rq (nmV T0 tx at9)))), (m21, .inl (cI, 8, .inl (upd fm21 rq (nmV T0 tx k7)))), (m22, .inl (cI, 8, .inl f41)), (m23, .inl (cI, 8, .inl fm23)), (m24, .inl (cI, 8, .inl fm24))]) [4, 5, 2, 3, 6, 0, 1] (by decide +kernel) rfl
          exact W.iret (v := nI (u39 0)) hx hb hr (fun t ht hW => ⟨⟨nI (u39 0), (fun _ => u39 0), rfl, ⟨rfl, hu_u39⟩, ⟨(upd fm20 rq (nmV T0 tx at9)), (upd fm21 rq (nmV T0 tx k7)), f41, fm23, fm24, i42, i44, i45, k43, (rq + 1), by first | assumption | omega, by first | assumption | omega, Hid.mk (by have g9 : nmF T0 tx (rdP T0 tx at9 2) (gQL 2) (gQM 2) ≠ 0 := fun h => c50 (by have h8 : u39 0 = 0 := he46.out.1.trans (Eq.trans (congrArg (fun y => nmF T0 tx y (gQL 2) (gQM 2)) hp2.out) h); omega); have h9 : (rd T0 tx gQL gQM 5 0 at9) = (nmF T0 tx (rdP T0 tx at9 2) (gQL 2) (gQM 2), nmQ T0 tx (rdP T0 tx at9 2), (rdP T0 tx at9 2)) := hR2.symm.trans (rd_fl (d := 2) (d1 := 3) rfl g9); have x9 : u39 0 = nmF T0 tx (rdP T0 tx at9 2) (gQL 2) (gQM 2) := he46.out.1.trans (congrArg (fun y => nmF T0 tx y (gQL 2) (gQM 2)) hp2.out); have y9 : i42 = nI (nmQ T0 tx (rdP T0 tx at9 2)) := (he46.out.2.2 (by omega)).trans (congrArg (fun y => nI (sk T0 tx y)) hp2.out); exact ⟨by rw [h9]; dsimp only; exact x9, fun h => absurd h (by show ¬ u39 0 = 0; omega), fun _ => by rw [h9]; dsimp only; exact y9⟩), (Nat.le_trans he11 (Nat.le_trans he29 he47)), (fun h => by have h9 : u39 0 = 0 := h; omega), rfl, va_hq ht hP9, hD9⟩⟩, hS.F ht⟩) hS.2.2 dX11_takeQuill_109
    ·
      have c32 : ¬ (u21 0) ≤ 0 := fun h => c32 ((nI_leI (a := u21 0) (b := 0) (by omega) (by omega)).mpr h)
      refine lv_iload_n hx hb dX11_takeQuill_51 rfl (lv_at hl 0 rfl) ?_
      refine lv_goto (tgt := 67) hx hb dX11_takeQuill_52 (by decide) ?_
      refine lv_istore_n (lv' := [(2, .int (nI (u21 0))), (1, .int (nI rq)), (0, .ref h0)]) hx hb dX11_takeQuill_67 rfl hl (by decide) rfl (fun ls hl => ?_)
      refine lv_iload_n hx hb dX11_takeQuill_68 rfl (lv_at hl 0 rfl) ?_
      refine lv_if_le (tgt := 76) hx hb dX11_takeQuill_69 (by decide) (fun c87 => ?_) (fun c87 => ?_)
      ·
        have c87 : (u21 0) ≤ 0 := (nI_leI (a := u21 0) (b := 0) (by omega) (by omega)).mp c87
        omega
      ·
        have c87 : ¬ (u21 0) ≤ 0 := fun h => c87 ((nI_leI (a := u21 0) (b := 0) (by omega) (by omega)).mpr h)
        refine lv_iload_n hx hb dX11_takeQuill_72 rfl (lv_at hl 0 rfl) ?_
        refine lv_goto (tgt := 88) hx hb dX11_takeQuill_73 (by decide) ?_
        refine lv_istore_n (lv' := [(2, .int (nI (u21 0))), (1, .int (nI rq)), (0, .ref h0)]) hx hb dX11_takeQuill_88 rfl hl (by decide) rfl (fun ls hl => ?_)
        refine lv_iload_n hx hb dX11_takeQuill_89 rfl (lv_at hl 0 rfl) ?_
        refine lv_if_le (tgt := 97) hx hb dX11_takeQuill_90 (by decide) (fun c88 => ?_) (fun c88 => ?_)
        ·
          have c88 : (u21 0) ≤ 0 := (nI_leI (a := u21 0) (b := 0) (by omega) (by omega)).mp c88
          omega
        ·
          have c88 : ¬ (u21 0) ≤ 0 := fun h => c88 ((nI_leI (a := u21 0) (b := 0) (by omega) (by omega)).mpr h)
          refine lv_iload_n hx hb dX11_takeQuill_93 rfl (lv_at hl 0 rfl) ?_
          refine lv_goto (tgt := 109) hx hb dX11_takeQuill_94 (by decide) ?_
          have hP9 := hP.sub (ws' := [(h0, .inr (11, (.int n0 :: .int n1 :: .int (nI nq) :: .ref m3 :: .ref m4 :: .ref m5 :: .int (nI nh) :: .ref m7 :: .ref m8 :: .ref m9 :: .ref m10 :: .int (nI sd) :: .ref m12 :: .int (nI tx) :: .int i24 :: .int (nI k25) :: .int i26 :: .int i27 :: .ref m18 :: .int (nI (rq + 1)) :: .ref m20 :: .ref m21 :: .ref m22 :: .ref m23 :: .ref m24 :: .int (nI rh) :: .ref m26 :: .ref m27 :: .ref m28 :: .int (nI un) :: .ref m30 :: .int n31 :: .int n32 :: .ref m33 :: .int n34 :: .int n35 :: .ref m36 :: .int (nI wm) :: .ref m38 :: .ref m39 :: .ref m40 :: .int (nI bk) :: .ref m42 :: .ref m43 :: .ref m44 :: .ref m45 :: []))), (m12, .inl (cI, 220, .inl fm12)), (m20, .inl (cI, 8, .inl (upd fm20 rq (nmV T0 tx at9)))), (m21, .inl (cI, 8, .inl f23)), (m22, .inl (cI, 8, .inl fm22)), (m23, .inl (cI, 8, .inl fm23)), (m24, .inl (cI, 8, .inl fm24))]) [4, 5, 3, 6, 0, 1, 2] rfl
          have hD9 := hD.sub (ws' := [(h0, .inr (11, (.int n0 :: .int n1 :: .int (nI nq) :: .ref m3 :: .ref m4 :: .ref m5 :: .int (nI nh) :: .ref m7 :: .ref m8 :: .ref m9 :: .ref m10 :: .int (nI sd) :: .ref m12 :: .int (nI tx) :: .int i24 :: .int (nI k25) :: .int i26 :: .int i27 :: .ref m18 :: .int (nI (rq + 1)) :: .ref m20 :: .ref m21 :: .ref m22 :: .ref m23 :: .ref m24 :: .int (nI rh) :: .ref m26 :: .ref m27 :: .ref m28 :: .int (nI un) :: .ref m30 :: .int n31 :: .int n32 :: .ref m33 :: .int n34 :: .int n35 :: .ref m36 :: .int (nI wm) :: .ref m38 :: .ref m39 :: .ref m40 :: .int (nI bk) :: .ref m42 :: .ref m43 :: .ref m44 :: .ref m45 :: []))), (m12, .inl (cI, 220, .inl fm12)), (m20, .inl (cI, 8, .inl (upd fm20 rq (nmV T0 tx at9)))), (m21, .inl (cI, 8, .inl f23)), (m22, .inl (cI, 8, .inl fm22)), (m23, .inl (cI, 8, .inl fm23)), (m24, .inl (cI, 8, .inl fm24))]) [4, 5, 3, 6, 0, 1, 2] (by decide +kernel) rfl
          exact W.iret (v := nI (u21 0)) hx hb hr (fun t ht hW => ⟨⟨nI (u21 0), (fun _ => u21 0), rfl, ⟨rfl, hu_u21⟩, ⟨(upd fm20 rq (nmV T0 tx at9)), f23, fm22, fm23, fm24, i24, i26, i27, k25, (rq + 1), by first | assumption | omega, by first | assumption | omega, Hid.mk (by have g9 : nmF T0 tx (rdP T0 tx at9 1) (gQL 1) (gQM 1) ≠ 0 := fun h => c32 (by have h8 : u21 0 = 0 := he28.out.1.trans (Eq.trans (congrArg (fun y => nmF T0 tx y (gQL 1) (gQM 1)) hp1.out) h); omega); have h9 : (rd T0 tx gQL gQM 5 0 at9) = (nmF T0 tx (rdP T0 tx at9 1) (gQL 1) (gQM 1), nmQ T0 tx (rdP T0 tx at9 1), (rdP T0 tx at9 1)) := hR1.symm.trans (rd_fl (d := 3) (d1 := 4) rfl g9); have x9 : u21 0 = nmF T0 tx (rdP T0 tx at9 1) (gQL 1) (gQM 1) := he28.out.1.trans (congrArg (fun y => nmF T0 tx y (gQL 1) (gQM 1)) hp1.out); have y9 : i24 = nI (nmQ T0 tx (rdP T0 tx at9 1)) := (he28.out.2.2 (by omega)).trans (congrArg (fun y => nI (sk T0 tx y)) hp1.out); exact ⟨by rw [h9]; dsimp only; exact x9, fun h => absurd h (by show ¬ u21 0 = 0; omega), fun _ => by rw [h9]; dsimp only; exact y9⟩), (Nat.le_trans he11 he29), (fun h => by have h9 : u21 0 = 0 := h; omega), rfl, va_hq ht hP9, hD9⟩⟩, hS.F ht⟩) hS.2.2 dX11_takeQuill_109
  ·
    have c14 : ¬ (u3 0) ≤ 0 := fun h => c14 ((nI_leI (a := u3 0) (b := 0) (by omega) (by omega)).mpr h)
    refine lv_iload_n hx hb dX11_takeQuill_31 rfl (lv_at hl 0 rfl) ?_
    refine lv_goto (tgt := 46) hx hb dX11_takeQuill_32 (by decide) ?_
    refine lv_istore_n (lv' := [(2, .int (nI (u3 0))), (1, .int (nI rq)), (0, .ref h0)]) hx hb dX11_takeQuill_46 rfl hl (by decide) rfl (fun ls hl => ?_)
    refine lv_iload_n hx hb dX11_takeQuill_47 rfl (lv_at hl 0 rfl) ?_
    refine lv_if_le (tgt := 55) hx hb dX11_takeQuill_48 (by decide) (fun c89 => ?_) (fun c89 => ?_)
    ·
      have c89 : (u3 0) ≤ 0 := (nI_leI (a := u3 0) (b := 0) (by omega) (by omega)).mp c89
      omega
    ·
      have c89 : ¬ (u3 0) ≤ 0 := fun h => c89 ((nI_leI (a := u3 0) (b := 0) (by omega) (by omega)).mpr h)
      refine lv_iload_n hx hb dX11_takeQuill_51 rfl (lv_at hl 0 rfl) ?_
      refine lv_goto (tgt := 67) hx hb dX11_takeQuill_52 (by decide) ?_
      refine lv_istore_n (lv' := [(2, .int (nI (u3 0))), (1, .int (nI rq)), (0, .ref h0)]) hx hb dX11_takeQuill_67 rfl hl (by decide) rfl (fun ls hl => ?_)
      refine lv_iload_n hx hb dX11_takeQuill_68 rfl (lv_at hl 0 rfl) ?_
      refine lv_if_le (tgt := 76) hx hb dX11_takeQuill_69 (by decide) (fun c90 => ?_) (fun c90 => ?_)
      ·
        have c90 : (u3 0) ≤ 0 := (nI_leI (a := u3 0) (b := 0) (by omega) (by omega)).mp c90
        omega
      ·
        have c90 : ¬ (u3 0) ≤ 0 := fun h => c90 ((nI_leI (a := u3 0) (b := 0) (by omega) (by omega)).mpr h)
        refine lv_iload_n hx hb dX11_takeQuill_72 rfl (lv_at hl 0 rfl) ?_
        refine lv_goto (tgt := 88) hx hb dX11_takeQuill_73 (by decide) ?_
        refine lv_istore_n (lv' := [(2, .int (nI (u3 0))), (1, .int (nI rq)), (0, .ref h0)]) hx hb dX11_takeQuill_88 rfl hl (by decide) rfl (fun ls hl => ?_)
        refine lv_iload_n hx hb dX11_takeQuill_89 rfl (lv_at hl 0 rfl) ?_
        refine lv_if_le (tgt := 97) hx hb dX11_takeQuill_90 (by decide) (fun c91 => ?_) (fun c91 => ?_)
        ·
          have c91 : (u3 0) ≤ 0 := (nI_leI (a := u3 0) (b := 0) (by omega) (by omega)).mp c91
          omega
        ·
          have c91 : ¬ (u3 0) ≤ 0 := fun h => c91 ((nI_leI (a := u3 0) (b := 0) (by omega) (by omega)).mpr h)
          refine lv_iload_n hx hb dX11_takeQuill_93 rfl (lv_at hl 0 rfl) ?_
          refine lv_goto (tgt := 109) hx hb dX11_takeQuill_94 (by decide) ?_
          have hP9 := hP.sub (ws' := [(h0, .inr (11, (.int n0 :: .int n1 :: .int (nI nq) :: .ref m3 :: .ref m4 :: .ref m5 :: .int (nI nh) :: .ref m7 :: .ref m8 :: .ref m9 :: .ref m10 :: .int (nI sd) :: .ref m12 :: .int (nI tx) :: .int i6 :: .int (nI k7) :: .int i8 :: .int i9 :: .ref m18 :: .int (nI (rq + 1)) :: .ref m20 :: .ref m21 :: .ref m22 :: .ref m23 :: .ref m24 :: .int (nI rh) :: .ref m26 :: .ref m27 :: .ref m28 :: .int (nI un) :: .ref m30 :: .int n31 :: .int n32 :: .ref m33 :: .int n34 :: .int n35 :: .ref m36 :: .int (nI wm) :: .ref m38 :: .ref m39 :: .ref m40 :: .int (nI bk) :: .ref m42 :: .ref m43 :: .ref m44 :: .ref m45 :: []))), (m12, .inl (cI, 220, .inl fm12)), (m20, .inl (cI, 8, .inl f5)), (m21, .inl (cI, 8, .inl fm21)), (m22, .inl (cI, 8, .inl fm22)), (m23, .inl (cI, 8, .inl fm23)), (m24, .inl (cI, 8, .inl fm24))]) [4, 5, 6, 0, 1, 2, 3] rfl
          have hD9 := hD.sub (ws' := [(h0, .inr (11, (.int n0 :: .int n1 :: .int (nI nq) :: .ref m3 :: .ref m4 :: .ref m5 :: .int (nI nh) :: .ref m7 :: .ref m8 :: .ref m9 :: .ref m10 :: .int (nI sd) :: .ref m12 :: .int (nI tx) :: .int i6 :: .int (nI k7) :: .int i8 :: .int i9 :: .ref m18 :: .int (nI (rq + 1)) :: .ref m20 :: .ref m21 :: .ref m22 :: .ref m23 :: .ref m24 :: .int (nI rh) :: .ref m26 :: .ref m27 :: .ref m28 :: .int (nI un) :: .ref m30 :: .int n31 :: .int n32 :: .ref m33 :: .int n34 :: .int n35 :: .ref m36 :: .int (nI wm) :: .ref m38 :: .ref m39 :: .ref m40 :: .int (nI bk) :: .ref m42 :: .ref m43 :: .ref m44 :: .ref m45 :: []))), (m12, .inl (cI, 220, .inl fm12)), (m20, .inl (cI, 8, .inl f5)), (m21, .inl (cI, 8, .inl fm21)), (m22, .inl (cI, 8, .inl fm22)), (m23, .inl (cI, 8, .inl fm23)), (m24, .inl (cI, 8, .inl fm24))]) [4, 5, 6, 0, 1, 2, 3] (by decide +kernel) rfl
          exact W.iret (v := nI (u3 0)) hx hb hr (fun t ht hW => ⟨⟨nI (u3 0), (fun _ => u3 0), rfl, ⟨rfl, hu_u3⟩, ⟨f5, fm21, fm22, fm23, fm24, i6, i8, i9, k7, (rq + 1), by first | assumption | omega, by first | assumption | omega, Hid.mk (by have g9 : nmF T0 tx (rdP T0 tx at9 0) (gQL 0) (gQM 0) ≠ 0 := fun h => c14 (by have h8 : u3 0 = 0 := he10.out.1.trans (Eq.trans rfl h); omega); have h9 : (rd T0 tx gQL gQM 5 0 at9) = (nmF T0 tx (rdP T0 tx at9 0) (gQL 0) (gQM 0), nmQ T0 tx (rdP T0 tx at9 0), (rdP T0 tx at9 0)) := hR0.symm.trans (rd_fl (d := 4) (d1 := 5) rfl g9); have x9 : u3 0 = nmF T0 tx (rdP T0 tx at9 0) (gQL 0) (gQM 0) := he10.out.1.trans rfl; have y9 : i6 = nI (nmQ T0 tx (rdP T0 tx at9 0)) := (he10.out.2.2 (by omega)).trans rfl; exact ⟨by rw [h9]; dsimp only; exact x9, fun h => absurd h (by show ¬ u3 0 = 0; omega), fun _ => by rw [h9]; dsimp only; exact y9⟩), he11, (fun h => by have h9 : u3 0 = 0 := h; omega), rfl, va_hq ht hP9, hD9⟩⟩, hS.F ht⟩) hS.2.2 dX11_takeQuill_109
