set_option maxHeartbeats 4000000 in
set_option maxRecDepth 100000 in
theorem c_X11_mendNowD (l : Launch) (dC : Nat → ClassId) (dI : Nat → Nat → Nat) (cI cZ cQ : ClassId) (h0 : Nat) (n0 : Int32) (n1 : Int32) (m10 : Nat) (f_h0 : List Value) (fm10 : Nat → Int32) (j : Nat) (sz : Nat) (e_h0_0 : f_h0[0]? = some (.int n0)) (e_h0_1 : f_h0[1]? = some (.int n1)) (e_h0_10 : f_h0[10]? = some (.ref m10)) (hj : j < 8) : Met l yX11_mendNow wsX11_mendNow ({ frames := 1, cells := 0, slots := 0, locals := 61 }) (va_Pc [.ref h0, .int (nI j)] (fun U => U.heap.size = sz ∧ va_P (dC, dI) vwCl [(h0, .inr (11, f_h0)), (m10, .inl (cI, 34, .inl fm10))] U.heap ∧ va_K (dC, dI) vwCl (tys0 cI cZ cQ) U ∧ va_D (fun _ => True) [(h0, .inr (11, f_h0)), (m10, .inl (cI, 34, .inl fm10))])) (va_Qv (fun (u : Nat → Nat) => True) (fun (_ : Nat → Nat) (t : State) => ∃ (gg0 : Nat → Int32) , (gg0 = mdX bmF n0 n1 j fm10) ∧ va_P (dC, dI) vwCl [(h0, .inr (11, f_h0)), (m10, .inl (cI, 34, .inl gg0))] t.heap ∧ va_D (va_A [(h0, .inr (11, f_h0)), (m10, .inl (cI, 34, .inl fm10))] sz) [(h0, .inr (11, f_h0)), (m10, .inl (cI, 34, .inl gg0))]) (va_A [(h0, .inr (11, f_h0)), (m10, .inl (cI, 34, .inl fm10))] sz)) 0 0 (va_A [(h0, .inr (11, f_h0)), (m10, .inl (cI, 34, .inl fm10))] sz) := by
  refine Met.ofW (cc := cX11_mendNow) (maxL := 3) (ret := none) (by decide) rfl ?_
  intro p e s m args below meth c s₁ B hml hv
  obtain ⟨rfl, hsz, hP, hK, hD0⟩ := hv
  have hx := B.exec
  have hb := B.bytes
  have hr := B.returns
  have hts := atoms_spec (ws := wsX11_mendNow) B.pre
  have hown : s.vm.findClass RX11 = some m.cls := findClass_of_methodNamed B.named
  have hlocks := B.notSynchronized
  have hi_X11 : ∀ w ∈ u_ws RX11 TX11 46, w ∈ wsX11_mendNow := fun _ h => List.mem_cons_of_mem _ (List.mem_append_right _ (h))
  subst hsz
  have hD := hD0.self (sz := s.heap.size)
  generalize hAe : va_A [(h0, .inr (11, f_h0)), (m10, .inl (cI, 34, .inl fm10))] s.heap.size = A at hD ⊢
  have hA : ∀ q : Nat, s.heap.size ≤ q → A q := fun q h => by rw [← hAe]; exact Or.inr h
  have hS : va_S A s.heap s.heap [] := va_S.rf
  have hl := lv_entry ([.ref h0, .int (nI j)]) (n := 3) (Nat.le_of_ble_eq_true rfl)
  rw [lg_entry_eq]
  generalize (lg_sl ([.ref h0, .int (nI j)]) ++ List.replicate (3 - (lg_sl ([.ref h0, .int (nI j)])).length) Slot.unset).toArray = ls at hl ⊢
  have hl : lv_has ls 3 [(0, .ref h0), (1, .int (nI j))] := hl
  refine lv_aload_n hx hb dX11_mendNow_0 rfl (lv_at hl 0 rfl) ?_
  have hPc := hP.sub (ws' := [(h0, .inr (11, f_h0)), (m10, .inl (cI, 34, .inl fm10))]) [0, 1] rfl
  refine va_calli (va_runV (As := []) (rest := []) ⟨hx, hb, hml, hown, hts⟩ (c_X11_isBluntD l dC dI cI cZ cQ h0 n0 m10 f_h0 fm10 s.heap.size e_h0_0 e_h0_10) (cwV 0 hts gX11_mendNow_X11_isBlunt rfl rfl rfl (by decide +kernel) ⟨Nat.le_of_ble_eq_true rfl, Nat.le_of_ble_eq_true rfl⟩) ⟨fun a U g mk q => by obtain ⟨q0, q1, qP, qK⟩ := q; exact ⟨q0, q1, qP, va_K.moved (u := U) (U := U.calling g mk a) (Vm.Alike.refl U.vm) qK⟩, va_recv hK hP (ci := 11) (q0 := 0) rfl rfl, fun U hU hW => ⟨rfl, by rw [hU], by rw [hU]; exact hPc, va_K.moved hW.alike hK⟩⟩ rfl rfl hl.1 rfl (lv_room (Nat.le_of_ble_eq_true rfl)) dX11_mendNow_1 ⟨Nat.le_of_ble_eq_true rfl, Nat.le_of_ble_eq_true rfl⟩) hS (fun q _ h => False.elim h) (fun q h => False.elim h) (fun r1 u2 t H1 locs ht hvm hw3 hB hz1 hk1 hS => ?_)
  have hP := hP.kept (fun k q hk => hk1 q.1 (hP k q hk).lt (fun h => h))
  clear hz1 hk1 hPc
  generalize H1 = H at hP hS ht ⊢
  try dsimp only at hw3
  rcases hw3 with ⟨rfl, hw3⟩ | ⟨rfl, hw3⟩
  ·
    refine lv_istore_n (lv' := [(2, .int 1), (0, .ref h0), (1, .int (nI j))]) hx hb dX11_mendNow_4 rfl hl (by decide) rfl (fun ls hl => ?_)
    refine lv_aload_n hx hb dX11_mendNow_5 rfl (lv_at hl 1 rfl) ?_
    refine va_get (D := (dC, dI)) (ci := 11) (v := .ref m10) (C := RX11) (T := TX11) (N := 46) hx hb hts hi_X11 hown hK hP 0 rfl rfl 10 (by decide) (hts (.fieldLink RX11 28 "LeftQuillsModel" "now" "[I") (wmx 1 rfl)) (fun _ h9 => h9) e_h0_10 dX11_mendNow_6 ?_
    refine lv_iload_n hx hb dX11_mendNow_9 rfl (lv_at hl 2 rfl) ?_
    refine lv_dup2_11 hx hb dX11_mendNow_10 rfl rfl ?_
    refine va_iald hx hb hK hP 1 0 rfl rfl (vp_in_nI (n := j) (N := 34) (by omega) (by decide)) dX11_mendNow_11 ?_
    refine W.eq (g2 := F0 m 12 ls [.int (fm10 j), .int (nI j), .ref m10]) (congrArg (fun y9 => F0 m 12 ls (.int (fm10 y9) :: [.int (nI j), .ref m10])) ((nI_clamp (n := j) (by omega)))) ?_
    refine lv_iload_n hx hb dX11_mendNow_12 rfl (lv_at hl 0 rfl) ?_
    refine lv_if_eq (tgt := 21) hx hb dX11_mendNow_13 (by decide) (fun c4 => ?_) (fun c4 => ?_)
    · exact absurd c4 (by decide)
    clear c4
    refine lv_bipush (v := 9) hx hb dX11_mendNow_16 (by decide) ?_
    refine lv_goto (tgt := 22) hx hb dX11_mendNow_18 (by decide) ?_
    refine lv_isub hx hb dX11_mendNow_22 ?_
    refine va_iast hx hb hK hP hD hS 1 0 rfl rfl (vp_in_nI (n := j) (N := 34) (by omega) (by decide)) dX11_mendNow_23 (fun H locs hP hD hS => ?_)
    have hcl := (nI_clamp (n := j) (by omega))
    rw [hcl] at hP hD
    clear hcl
    have hP : va_P (dC, dI) vwCl [(h0, .inr (11, f_h0)), (m10, .inl (cI, 34, .inl (upd fm10 j ((fm10 j) - 9))))] H := hP
    have hD : va_D A [(h0, .inr (11, f_h0)), (m10, .inl (cI, 34, .inl (upd fm10 j ((fm10 j) - 9))))] := hD
    refine lv_iload_n hx hb dX11_mendNow_24 rfl (lv_at hl 0 rfl) ?_
    refine lv_if_eq (tgt := 33) hx hb dX11_mendNow_25 (by decide) (fun c6 => ?_) (fun c6 => ?_)
    · exact absurd c6 (by decide)
    clear c6
    refine lv_aload_n hx hb dX11_mendNow_28 rfl (lv_at hl 1 rfl) ?_
    refine lv_iload_n hx hb dX11_mendNow_29 rfl (lv_at hl 2 rfl) ?_
    have hPc := hP.sub (ws' := [(h0, .inr (11, f_h0)), (m10, .inl (cI, 34, .inl (upd fm10 j ((fm10 j) - 9))))]) [0, 1] rfl
    have hDc := hD.sub (ws' := [(h0, .inr (11, f_h0)), (m10, .inl (cI, 34, .inl (upd fm10 j ((fm10 j) - 9))))]) [0, 1] (by decide) rfl
    have hFc := va_free (wc := [(h0, .inr (11, f_h0)), (m10, .inl (cI, 34, .inl (upd fm10 j ((fm10 j) - 9))))]) hD hS hA [0, 1] rfl
    refine va_callv (va_runV (As := [.int (nI j)]) (rest := []) ⟨hx, hb, hml, hown, hts⟩ (c_X11_broadenNowD l dC dI cI cZ cQ h0 m10 f_h0 (upd fm10 j ((fm10 j) - 9)) j H.size e_h0_10 (by omega)) (cwV 1 hts gX11_mendNow_X11_broadenNow rfl rfl rfl (by decide +kernel) ⟨Nat.le_of_ble_eq_true rfl, Nat.le_of_ble_eq_true rfl⟩) ⟨fun a U g mk q => by obtain ⟨q0, q1, qP, qK, qD⟩ := q; exact ⟨q0, q1, qP, va_K.moved (u := U) (U := U.calling g mk a) (Vm.Alike.refl U.vm) qK, qD⟩, va_recv hK hP (ci := 11) (q0 := 0) rfl rfl, fun U hU hW => ⟨rfl, by rw [hU], by rw [hU]; exact hPc, va_K.moved hW.alike hK, hDc.weaken (fun _ _ _ _ => trivial)⟩⟩ rfl rfl hl.1 rfl (lv_room (Nat.le_of_ble_eq_true rfl)) dX11_mendNow_30 ⟨Nat.le_of_ble_eq_true rfl, Nat.le_of_ble_eq_true rfl⟩) hS (fun q _ h => hFc q h) hFc (fun u8 t H1 locs ht hvm hw9 hB hz1 hk1 hS => ?_)
    obtain ⟨f10, he11, hP1, hD1⟩ := hB
    rw [ht] at hP1
    obtain ⟨hP, hD⟩ := va_join (wr := []) (w1 := [(h0, .inr (11, f_h0)), (m10, .inl (cI, 34, .inl f10))]) hP hD [0, 1] [] rfl rfl (by decide +kernel) (by decide +kernel) hk1 hFc hP1 hD1
    clear hP1 hD1
    clear hz1 hk1 hPc hDc hFc
    generalize H1 = H at hP hS ht ⊢
    have hP : va_P (dC, dI) vwCl [(h0, .inr (11, f_h0)), (m10, .inl (cI, 34, .inl f10))] H := hP
    have hD : va_D A [(h0, .inr (11, f_h0)), (m10, .inl (cI, 34, .inl f10))] := hD
    try dsimp only at hw9
    subst he11
    have hP : va_P (dC, dI) vwCl [(h0, .inr (11, f_h0)), (m10, .inl (cI, 34, .inl (upd (upd fm10 j ((fm10 j) - 9)) (8 + j) (bmF ((upd fm10 j ((fm10 j) - 9)) (8 + j))))))] H := hP
    have hD : va_D A [(h0, .inr (11, f_h0)), (m10, .inl (cI, 34, .inl (upd (upd fm10 j ((fm10 j) - 9)) (8 + j) (bmF ((upd fm10 j ((fm10 j) - 9)) (8 + j))))))] := hD
    refine lv_aload_n hx hb dX11_mendNow_33 rfl (lv_at hl 1 rfl) ?_
    refine va_get (D := (dC, dI)) (ci := 11) (v := .ref m10) (C := RX11) (T := TX11) (N := 46) hx hb hts hi_X11 hown hK hP 0 rfl rfl 10 (by decide) (hts (.fieldLink RX11 28 "LeftQuillsModel" "now" "[I") (wmx 1 rfl)) (fun _ h9 => h9) e_h0_10 dX11_mendNow_34 ?_
    refine lv_bipush (v := 16) hx hb dX11_mendNow_37 (by decide) ?_
    refine lv_iload_n hx hb dX11_mendNow_39 rfl (lv_at hl 2 rfl) ?_
    refine lv_iadd hx hb dX11_mendNow_40 ?_
    refine lv_topi (fun z12 ez12 => ?_)
    obtain rfl : z12 = nI (16 + j) := ez12.trans (nI_add 16 j)
    refine lv_iconst (v := 0) hx hb dX11_mendNow_41 (by decide) ?_
    refine va_iast hx hb hK hP hD hS 1 0 rfl rfl (vp_in_nI (n := 16 + j) (N := 34) (by omega) (by decide)) dX11_mendNow_42 (fun H locs hP hD hS => ?_)
    have hcl := (nI_clamp (n := 16 + j) (by omega))
    rw [hcl] at hP hD
    clear hcl
    have hP : va_P (dC, dI) vwCl [(h0, .inr (11, f_h0)), (m10, .inl (cI, 34, .inl (upd (upd (upd fm10 j ((fm10 j) - 9)) (8 + j) (bmF ((upd fm10 j ((fm10 j) - 9)) (8 + j)))) (16 + j) 0)))] H := hP
    have hD : va_D A [(h0, .inr (11, f_h0)), (m10, .inl (cI, 34, .inl (upd (upd (upd fm10 j ((fm10 j) - 9)) (8 + j) (bmF ((upd fm10 j ((fm10 j) - 9)) (8 + j)))) (16 + j) 0)))] := hD
    refine lv_aload_n hx hb dX11_mendNow_43 rfl (lv_at hl 1 rfl) ?_
    refine va_get (D := (dC, dI)) (ci := 11) (v := .ref m10) (C := RX11) (T := TX11) (N := 46) hx hb hts hi_X11 hown hK hP 0 rfl rfl 10 (by decide) (hts (.fieldLink RX11 28 "LeftQuillsModel" "now" "[I") (wmx 1 rfl)) (fun _ h9 => h9) e_h0_10 dX11_mendNow_44 ?_
    refine lv_bipush (v := 33) hx hb dX11_mendNow_47 (by decide) ?_
    refine lv_dup2_11 hx hb dX11_mendNow_49 rfl rfl ?_
    refine va_iald hx hb hK hP 1 0 rfl rfl (vp_in_iff.mpr ⟨by decide, by decide⟩) dX11_mendNow_50 ?_
    refine W.eq (g2 := F0 m 51 ls [.int ((upd (upd (upd fm10 j ((fm10 j) - 9)) (8 + j) (bmF ((upd fm10 j ((fm10 j) - 9)) (8 + j)))) (16 + j) 0) 33), .int 33, .ref m10]) (congrArg (fun y9 => F0 m 51 ls (.int ((upd (upd (upd fm10 j ((fm10 j) - 9)) (8 + j) (bmF ((upd fm10 j ((fm10 j) - 9)) (8 + j)))) (16 + j) 0) y9) :: [.int 33, .ref m10])) ((show ((33 : Int32)).toNatClampNeg = 33 from by decide))) ?_
    refine lv_iconst (v := 1) hx hb dX11_mendNow_51 (by decide) ?_
    refine lv_iadd hx hb dX11_mendNow_52 ?_
    refine va_iast hx hb hK hP hD hS 1 0 rfl rfl (vp_in_iff.mpr ⟨by decide, by decide⟩) dX11_mendNow_53 (fun H locs hP hD hS => ?_)
    have hcl := (show ((33 : Int32)).toNatClampNeg = 33 from by decide)
    rw [hcl] at hP hD
    clear hcl
    have hP : va_P (dC, dI) vwCl [(h0, .inr (11, f_h0)), (m10, .inl (cI, 34, .inl (upd (upd (upd (upd fm10 j ((fm10 j) - 9)) (8 + j) (bmF ((upd fm10 j ((fm10 j) - 9)) (8 + j)))) (16 + j) 0) 33 (((upd (upd (upd fm10 j ((fm10 j) - 9)) (8 + j) (bmF ((upd fm10 j ((fm10 j) - 9)) (8 + j)))) (16 + j) 0) 33) + 1))))] H := hP
    have hD : va_D A [(h0, .inr (11, f_h0)), (m10, .inl (cI, 34, .inl (upd (upd (upd (upd fm10 j ((fm10 j) - 9)) (8 + j) (bmF ((upd fm10 j ((fm10 j) - 9)) (8 + j)))) (16 + j) 0) 33 (((upd (upd (upd fm10 j ((fm10 j) - 9)) (8 + j) (bmF ((upd fm10 j ((fm10 j) - 9)) (8 + j)))) (16 + j) 0) 33) + 1))))] := hD
    refine lv_aload_n hx hb dX11_mendNow_54 rfl (lv_at hl 1 rfl) ?_
    refine va_get (D := (dC, dI)) (ci := 11) (v := .ref m10) (C := RX11) (T := TX11) (N := 46) hx hb hts hi_X11 hown hK hP 0 rfl rfl 10 (by decide) (hts (.fieldLink RX11 28 "LeftQuillsModel" "now" "[I") (wmx 1 rfl)) (fun _ h9 => h9) e_h0_10 dX11_mendNow_55 ?_
    refine lv_bipush (v := 32) hx hb dX11_mendNow_58 (by decide) ?_
    refine lv_dup2_11 hx hb dX11_mendNow_60 rfl rfl ?_
    refine va_iald hx hb hK hP 1 0 rfl rfl (vp_in_iff.mpr ⟨by decide, by decide⟩) dX11_mendNow_61 ?_
    refine W.eq (g2 := F0 m 62 ls [.int ((upd (upd (upd (upd fm10 j ((fm10 j) - 9)) (8 + j) (bmF ((upd fm10 j ((fm10 j) - 9)) (8 + j)))) (16 + j) 0) 33 (((upd (upd (upd fm10 j ((fm10 j) - 9)) (8 + j) (bmF ((upd fm10 j ((fm10 j) - 9)) (8 + j)))) (16 + j) 0) 33) + 1)) 32), .int 32, .ref m10]) (congrArg (fun y9 => F0 m 62 ls (.int ((upd (upd (upd (upd fm10 j ((fm10 j) - 9)) (8 + j) (bmF ((upd fm10 j ((fm10 j) - 9)) (8 + j)))) (16 + j) 0) 33 (((upd (upd (upd fm10 j ((fm10 j) - 9)) (8 + j) (bmF ((upd fm10 j ((fm10 j) - 9)) (8 + j)))) (16 + j) 0) 33) + 1)) y9) :: [.int 32, .ref m10])) ((show ((32 : Int32)).toNatClampNeg = 32 from by decide))) ?_
    refine lv_aload_n hx hb dX11_mendNow_62 rfl (lv_at hl 1 rfl) ?_
    refine va_get (D := (dC, dI)) (ci := 11) (v := .int n1) (C := RX11) (T := TX11) (N := 46) hx hb hts hi_X11 hown hK hP 0 rfl rfl 1 (by decide) (hts (.fieldLink RX11 159 "LeftQuillsModel" "mendTakes" "I") (wmx 2 rfl)) (fun _ h9 => h9) e_h0_1 dX11_mendNow_63 ?_
    refine lv_iadd hx hb dX11_mendNow_66 ?_
    refine va_iast hx hb hK hP hD hS 1 0 rfl rfl (vp_in_iff.mpr ⟨by decide, by decide⟩) dX11_mendNow_67 (fun H locs hP hD hS => ?_)
    have hcl := (show ((32 : Int32)).toNatClampNeg = 32 from by decide)
    rw [hcl] at hP hD
    clear hcl
    have hP : va_P (dC, dI) vwCl [(h0, .inr (11, f_h0)), (m10, .inl (cI, 34, .inl (upd (upd (upd (upd (upd fm10 j ((fm10 j) - 9)) (8 + j) (bmF ((upd fm10 j ((fm10 j) - 9)) (8 + j)))) (16 + j) 0) 33 (((upd (upd (upd fm10 j ((fm10 j) - 9)) (8 + j) (bmF ((upd fm10 j ((fm10 j) - 9)) (8 + j)))) (16 + j) 0) 33) + 1)) 32 (((upd (upd (upd (upd fm10 j ((fm10 j) - 9)) (8 + j) (bmF ((upd fm10 j ((fm10 j) - 9)) (8 + j)))) (16 + j) 0) 33 (((upd (upd (upd fm10 j ((fm10 j) - 9)) (8 + j) (bmF ((upd fm10 j ((fm10 j) - 9)) (8 + j)))) (16 + j) 0) 33) + 1)) 32) + n1))))] H := hP
    have hD : va_D A [(h0, .inr (11, f_h0)), (m10, .inl (cI, 34, .inl (upd (upd (upd (upd (upd fm10 j ((fm10 j) - 9)) (8 + j) (bmF ((upd fm10 j ((fm10 j) - 9)) (8 + j)))) (16 + j) 0) 33 (((upd (upd (upd fm10 j ((fm10 j) - 9)) (8 + j) (bmF ((upd fm10 j ((fm10 j) - 9)) (8 + j)))) (16 + j) 0) 33) + 1)) 32 (((upd (upd (upd (upd fm10 j ((fm10 j) - 9)) (8 + j) (bmF ((upd fm10 j ((fm10 j) - 9)) (8 + j)))) (16 + j) 0) 33 (((upd (upd (upd fm10 j ((fm10 j) - 9)) (8 + j) (bmF ((upd fm10 j ((fm10 j) - 9)) (8 + j)))) (16 + j) 0) 33) + 1)) 32) + n1))))] := hD
    have hP9 := hP.sub (ws' := [(h0, .inr (11, f_h0)), (m10, .inl (cI, 34, .inl (upd (upd (upd (upd (upd fm10 j ((fm10 j) - 9)) (8 + j) (bmF ((upd fm10 j ((fm10 j) - 9)) (8 + j)))) (16 + j) 0) 33 (((upd (upd (upd fm10 j ((fm10 j) - 9)) (8 + j) (bmF ((upd fm10 j ((fm10 j) - 9)) (8 + j)))) (16 + j) 0) 33) + 1)) 32 (((upd (upd (upd (upd fm10 j ((fm10 j) - 9)) (8 + j) (bmF ((upd fm10 j ((fm10 j) - 9)) (8 + j)))) (16 + j) 0) 33 (((upd (upd (upd fm10 j ((fm10 j) - 9)) (8 + j) (bmF ((upd fm10 j ((fm10 j) - 9)) (8 + j)))) (16 + j) 0) 33) + 1)) 32) + n1))))]) [0, 1] rfl
    have hD9 := hD.sub (ws' := [(h0, .inr (11, f_h0)), (m10, .inl (cI, 34, .inl (upd (upd (upd (upd (upd fm10 j ((fm10 j) - 9)) (8 + j) (bmF ((upd fm10 j ((fm10 j) - 9)) (8 + j)))) (16 + j) 0) 33 (((upd (upd (upd fm10 j ((fm10 j) - 9)) (8 + j) (bmF ((upd fm10 j ((fm10 j) - 9)) (8 + j)))) (16 + j) 0) 33) + 1)) 32 (((upd (upd (upd (upd fm10 j ((fm10 j) - 9)) (8 + j) (bmF ((upd fm10 j ((fm10 j) - 9)) (8 + j)))) (16 + j) 0) 33 (((upd (upd (upd fm10 j ((fm10 j) - 9)) (8 + j) (bmF ((upd fm10 j ((fm10 j) - 9)) (8 + j)))) (16 + j) 0) 33) + 1)) 32) + n1))))]) [0, 1] (by decide +kernel) rfl
    exact W.vret hx hb hr (fun t ht hW => ⟨⟨(fun _ => 0), rfl, trivial, ⟨(upd (upd (upd (upd (upd fm10 j ((fm10 j) - 9)) (8 + j) (bmF ((upd fm10 j ((fm10 j) - 9)) (8 + j)))) (16 + j) 0) 33 (((upd (upd (upd fm10 j ((fm10 j) - 9)) (8 + j) (bmF ((upd fm10 j ((fm10 j) - 9)) (8 + j)))) (16 + j) 0) 33) + 1)) 32 (((upd (upd (upd (upd fm10 j ((fm10 j) - 9)) (8 + j) (bmF ((upd fm10 j ((fm10 j) - 9)) (8 + j)))) (16 + j) 0) 33 (((upd (upd (upd fm10 j ((fm10 j) - 9)) (8 + j) (bmF ((upd fm10 j ((fm10 j) - 9)) (8 + j)))) (16 + j) 0) 33) + 1)) 32) + n1)), (mmd_b hj hw3), by rw [ht]; exact hP9, hD9⟩⟩, hS.F ht⟩) hS.2.2 dX11_mendNow_68
  ·
    refine lv_istore_n (lv' := [(2, .int 0), (0, .ref h0), (1, .int (nI j))]) hx hb dX11_mendNow_4 rfl hl (by decide) rfl (fun ls hl => ?_)
    refine lv_aload_n hx hb dX11_mendNow_5 rfl (lv_at hl 1 rfl) ?_
    refine va_get (D := (dC, dI)) (ci := 11) (v := .ref m10) (C := RX11) (T := TX11) (N := 46) hx hb hts hi_X11 hown hK hP 0 rfl rfl 10 (by decide) (hts (.fieldLink RX11 28 "LeftQuillsModel" "now" "[I") (wmx 1 rfl)) (fun _ h9 => h9) e_h0_10 dX11_mendNow_6 ?_
    refine lv_iload_n hx hb dX11_mendNow_9 rfl (lv_at hl 2 rfl) ?_
    refine lv_dup2_11 hx hb dX11_mendNow_10 rfl rfl ?_
    refine va_iald hx hb hK hP 1 0 rfl rfl (vp_in_nI (n := j) (N := 34) (by omega) (by decide)) dX11_mendNow_11 ?_
    refine W.eq (g2 := F0 m 12 ls [.int (fm10 j), .int (nI j), .ref m10]) (congrArg (fun y9 => F0 m 12 ls (.int (fm10 y9) :: [.int (nI j), .ref m10])) ((nI_clamp (n := j) (by omega)))) ?_
    refine lv_iload_n hx hb dX11_mendNow_12 rfl (lv_at hl 0 rfl) ?_
    refine lv_if_eq (tgt := 21) hx hb dX11_mendNow_13 (by decide) (fun c16 => ?_) (fun c16 => ?_)
    rotate_left
    · exact absurd c16 (by decide)
    clear c16
    refine lv_iconst (v := 5) hx hb dX11_mendNow_21 (by decide) ?_
    refine lv_isub hx hb dX11_mendNow_22 ?_
    refine va_iast hx hb hK hP hD hS 1 0 rfl rfl (vp_in_nI (n := j) (N := 34) (by omega) (by decide)) dX11_mendNow_23 (fun H locs hP hD hS => ?_)
    have hcl := (nI_clamp (n := j) (by omega))
    rw [hcl] at hP hD
    clear hcl
    have hP : va_P (dC, dI) vwCl [(h0, .inr (11, f_h0)), (m10, .inl (cI, 34, .inl (upd fm10 j ((fm10 j) - 5))))] H := hP
    have hD : va_D A [(h0, .inr (11, f_h0)), (m10, .inl (cI, 34, .inl (upd fm10 j ((fm10 j) - 5))))] := hD
    refine lv_iload_n hx hb dX11_mendNow_24 rfl (lv_at hl 0 rfl) ?_
    refine lv_if_eq (tgt := 33) hx hb dX11_mendNow_25 (by decide) (fun c18 => ?_) (fun c18 => ?_)
    rotate_left
    · exact absurd c18 (by decide)
    clear c18
    refine lv_aload_n hx hb dX11_mendNow_33 rfl (lv_at hl 1 rfl) ?_
    refine va_get (D := (dC, dI)) (ci := 11) (v := .ref m10) (C := RX11) (T := TX11) (N := 46) hx hb hts hi_X11 hown hK hP 0 rfl rfl 10 (by decide) (hts (.fieldLink RX11 28 "LeftQuillsModel" "now" "[I") (wmx 1 rfl)) (fun _ h9 => h9) e_h0_10 dX11_mendNow_34 ?_
    refine lv_bipush (v := 16) hx hb dX11_mendNow_37 (by decide) ?_
    refine lv_iload_n hx hb dX11_mendNow_39 rfl (lv_at hl 2 rfl) ?_
    refine lv_iadd hx hb dX11_mendNow_40 ?_
    refine lv_topi (fun z19 ez19 => ?_)
    obtain rfl : z19 = nI (16 + j) := ez19.trans (nI_add 16 j)
    refine lv_iconst (v := 0) hx hb dX11_mendNow_41 (by decide) ?_
    refine va_iast hx hb hK hP hD hS 1 0 rfl rfl (vp_in_nI (n := 16 + j) (N := 34) (by omega) (by decide)) dX11_mendNow_42 (fun H locs hP hD hS => ?_)
    have hcl := (nI_clamp (n := 16 + j) (by omega))
    rw [hcl] at hP hD
    clear hcl
    have hP : va_P (dC, dI) vwCl [(h0, .inr (11, f_h0)), (m10, .inl (cI, 34, .inl (upd (upd fm10 j ((fm10 j) - 5)) (16 + j) 0)))] H := hP
    have hD : va_D A [(h0, .inr (11, f_h0)), (m10, .inl (cI, 34, .inl (upd (upd fm10 j ((fm10 j) - 5)) (16 + j) 0)))] := hD
    refine lv_aload_n hx hb dX11_mendNow_43 rfl (lv_at hl 1 rfl) ?_
    refine va_get (D := (dC, dI)) (ci := 11) (v := .ref m10) (C := RX11) (T := TX11) (N := 46) hx hb hts hi_X11 hown hK hP 0 rfl rfl 10 (by decide) (hts (.fieldLink RX11 28 "LeftQuillsModel" "now" "[I") (wmx 1 rfl)) (fun _ h9 => h9) e_h0_10 dX11_mendNow_44 ?_
    refine lv_bipush (v := 33) hx hb dX11_mendNow_47 (by decide) ?_
    refine lv_dup2_11 hx hb dX11_mendNow_49 rfl rfl ?_
    refine va_iald hx hb hK hP 1 0 rfl rfl (vp_in_iff.mpr ⟨by decide, by decide⟩) dX11_mendNow_50 ?_
    refine W.eq (g2 := F0 m 51 ls [.int ((upd (upd fm10 j ((fm10 j) - 5)) (16 + j) 0) 33), .int 33, .ref m10]) (congrArg (fun y9 => F0 m 51 ls (.int ((upd (upd fm10 j ((fm10 j) - 5)) (16 + j) 0) y9) :: [.int 33, .ref m10])) ((show ((33 : Int32)).toNatClampNeg = 33 from by decide))) ?_
    refine lv_iconst (v := 1) hx hb dX11_mendNow_51 (by decide) ?_
    refine lv_iadd hx hb dX11_mendNow_52 ?_
    refine va_iast hx hb hK hP hD hS 1 0 rfl rfl (vp_in_iff.mpr ⟨by decide, by decide⟩) dX11_mendNow_53 (fun H locs hP hD hS => ?_)
    have hcl := (show ((33 : Int32)).toNatClampNeg = 33 from by decide)
    rw [hcl] at hP hD
    clear hcl
    have hP : va_P (dC, dI) vwCl [(h0, .inr (11, f_h0)), (m10, .inl (cI, 34, .inl (upd (upd (upd fm10 j ((fm10 j) - 5)) (16 + j) 0) 33 (((upd (upd fm10 j ((fm10 j) - 5)) (16 + j) 0) 33) + 1))))] H := hP
    have hD : va_D A [(h0, .inr (11, f_h0)), (m10, .inl (cI, 34, .inl (upd (upd (upd fm10 j ((fm10 j) - 5)) (16 + j) 0) 33 (((upd (upd fm10 j ((fm10 j) - 5)) (16 + j) 0) 33) + 1))))] := hD
    refine lv_aload_n hx hb dX11_mendNow_54 rfl (lv_at hl 1 rfl) ?_
    refine va_get (D := (dC, dI)) (ci := 11) (v := .ref m10) (C := RX11) (T := TX11) (N := 46) hx hb hts hi_X11 hown hK hP 0 rfl rfl 10 (by decide) (hts (.fieldLink RX11 28 "LeftQuillsModel" "now" "[I") (wmx 1 rfl)) (fun _ h9 => h9) e_h0_10 dX11_mendNow_55 ?_
    refine lv_bipush (v := 32) hx hb dX11_mendNow_58 (by decide) ?_
    refine lv_dup2_11 hx hb dX11_mendNow_60 rfl rfl ?_
    refine va_iald hx hb hK hP 1 0 rfl rfl (vp_in_iff.mpr ⟨by decide, by decide⟩) dX11_mendNow_61 ?_
    refine W.eq (g2 := F0 m 62 ls [.int ((upd (upd (upd fm10 j ((fm10 j) - 5)) (16 + j) 0) 33 (((upd (upd fm10 j ((fm10 j) - 5)) (16 + j) 0) 33) + 1)) 32), .int 32, .ref m10]) (congrArg (fun y9 => F0 m 62 ls (.int ((upd (upd (upd fm10 j ((fm10 j) - 5)) (16 + j) 0) 33 (((upd (upd fm10 j ((fm10 j) - 5)) (16 + j) 0) 33) + 1)) y9) :: [.int 32, .ref m10])) ((show ((32 : Int32)).toNatClampNeg = 32 from by decide))) ?_
    refine lv_aload_n hx hb dX11_mendNow_62 rfl (lv_at hl 1 rfl) ?_
    refine va_get (D := (dC, dI)) (ci := 11) (v := .int n1) (C := RX11) (T := TX11) (N := 46) hx hb hts hi_X11 hown hK hP 0 rfl rfl 1 (by decide) (hts (.fieldLink RX11 159 "LeftQuillsModel" "mendTakes" "I") (wmx 2 rfl)) (fun _ h9 => h9) e_h0_1 dX11_mendNow_63 ?_
    refine lv_iadd hx hb dX11_mendNow_66 ?_
    refine va_iast hx hb hK hP hD hS 1 0 rfl rfl (vp_in_iff.mpr ⟨by decide, by decide⟩) dX11_mendNow_67 (fun H locs hP hD hS => ?_)
    have hcl := (show ((32 : Int32)).toNatClampNeg = 32 from by decide)
    rw [hcl] at hP hD
    clear hcl
    have hP : va_P (dC, dI) vwCl [(h0, .inr (11, f_h0)), (m10, .inl (cI, 34, .inl (upd (upd (upd (upd fm10 j ((fm10 j) - 5)) (16 + j) 0) 33 (((upd (upd fm10 j ((fm10 j) - 5)) (16 + j) 0) 33) + 1)) 32 (((upd (upd (upd fm10 j ((fm10 j) - 5)) (16 + j) 0) 33 (((upd (upd fm10 j ((fm10 j) - 5)) (16 + j) 0) 33) + 1)) 32) + n1))))] H := hP
    have hD : va_D A [(h0, .inr (11, f_h0)), (m10, .inl (cI, 34, .inl (upd (upd (upd (upd fm10 j ((fm10 j) - 5)) (16 + j) 0) 33 (((upd (upd fm10 j ((fm10 j) - 5)) (16 + j) 0) 33) + 1)) 32 (((upd (upd (upd fm10 j ((fm10 j) - 5)) (16 + j) 0) 33 (((upd (upd fm10 j ((fm10 j) - 5)) (16 + j) 0) 33) + 1)) 32) + n1))))] := hD
    have hP9 := hP.sub (ws' := [(h0, .inr (11, f_h0)), (m10, .inl (cI, 34, .inl (upd (upd (upd (upd fm10 j ((fm10 j) - 5)) (16 + j) 0) 33 (((upd (upd fm10 j ((fm10 j) - 5)) (16 + j) 0) 33) + 1)) 32 (((upd (upd (upd fm10 j ((fm10 j) - 5)) (16 + j) 0) 33 (((upd (upd fm10 j ((fm10 j) - 5)) (16 + j) 0) 33) + 1)) 32) + n1))))]) [0, 1] rfl
    have hD9 := hD.sub (ws' := [(h0, .inr (11, f_h0)), (m10, .inl (cI, 34, .inl (upd (upd (upd (upd fm10 j ((fm10 j) - 5)) (16 + j) 0) 33 (((upd (upd fm10 j ((fm10 j) - 5)) (16 + j) 0) 33) + 1)) 32 (((upd (upd (upd fm10 j ((fm10 j) - 5)) (16 + j) 0) 33 (((upd (upd fm10 j ((fm10 j) - 5)) (16 + j) 0) 33) + 1)) 32) + n1))))]) [0, 1] (by decide +kernel) rfl
    exact W.vret hx hb hr (fun t ht hW => ⟨⟨(fun _ => 0), rfl, trivial, ⟨(upd (upd (upd (upd fm10 j ((fm10 j) - 5)) (16 + j) 0) 33 (((upd (upd fm10 j ((fm10 j) - 5)) (16 + j) 0) 33) + 1)) 32 (((upd (upd (upd fm10 j ((fm10 j) - 5)) (16 + j) 0) 33 (((upd (upd fm10 j ((fm10 j) - 5)) (16 + j) 0) 33) + 1)) 32) + n1)), (mmd_n hj hw3), by rw [ht]; exact hP9, hD9⟩⟩, hS.F ht⟩) hS.2.2 dX11_mendNow_68
