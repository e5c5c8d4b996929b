set_option maxHeartbeats 4000000 in
set_option maxRecDepth 100000 in
theorem c_X11_broadenNowD (l : Launch) (dC : Nat → ClassId) (dI : Nat → Nat → Nat) (cI cZ cQ : ClassId) (h0 : Nat) (m10 : Nat) (f_h0 : List Value) (fm10 : Nat → Int32) (j : Nat) (sz : Nat) (e_h0_10 : f_h0[10]? = some (.ref m10)) (hj : j < 8) : Met l yX11_broadenNow wsX11_broadenNow ({ frames := 0, cells := 0, slots := 0, locals := 40 }) (va_Pc [.ref h0, .int (nI j)] (fun U => U.heap.size = sz ∧ va_P (dC, dI) vwCl [(h0, .inr (11, f_h0)), (m10, .inl (cI, 34, .inl fm10))] U.heap ∧ va_K (dC, dI) vwCl (tys0 cI cZ cQ) U ∧ va_D (fun _ => True) [(h0, .inr (11, f_h0)), (m10, .inl (cI, 34, .inl fm10))])) (va_Qv (fun (u : Nat → Nat) => True) (fun (_ : Nat → Nat) (t : State) => ∃ (gg0 : Nat → Int32) , (gg0 = upd fm10 (8 + j) (bmF (fm10 (8 + j)))) ∧ va_P (dC, dI) vwCl [(h0, .inr (11, f_h0)), (m10, .inl (cI, 34, .inl gg0))] t.heap ∧ va_D (va_A [(h0, .inr (11, f_h0)), (m10, .inl (cI, 34, .inl fm10))] sz) [(h0, .inr (11, f_h0)), (m10, .inl (cI, 34, .inl gg0))]) (va_A [(h0, .inr (11, f_h0)), (m10, .inl (cI, 34, .inl fm10))] sz)) 0 0 (va_A [(h0, .inr (11, f_h0)), (m10, .inl (cI, 34, .inl fm10))] sz) := by
  refine Met.ofW (cc := cX11_broadenNow) (maxL := 2) (ret := none) (by decide) rfl ?_
  intro p e s m args below meth c s₁ B hml hv
  obtain ⟨rfl, hsz, hP, hK, hD0⟩ := hv
  have hx := B.exec
  have hb := B.bytes
  have hr := B.returns
  have hts := atoms_spec (ws := wsX11_broadenNow) B.pre
  have hown : s.vm.findClass RX11 = some m.cls := findClass_of_methodNamed B.named
  have hlocks := B.notSynchronized
  have hi_X11 : ∀ w ∈ u_ws RX11 TX11 46, w ∈ wsX11_broadenNow := fun _ h => List.mem_cons_of_mem _ (List.mem_append_right _ (h))
  subst hsz
  have hD := hD0.self (sz := s.heap.size)
  generalize hAe : va_A [(h0, .inr (11, f_h0)), (m10, .inl (cI, 34, .inl fm10))] s.heap.size = A at hD ⊢
  have hA : ∀ q : Nat, s.heap.size ≤ q → A q := fun q h => by rw [← hAe]; exact Or.inr h
  have hS : va_S A s.heap s.heap [] := va_S.rf
  have hl := lv_entry ([.ref h0, .int (nI j)]) (n := 2) (Nat.le_of_ble_eq_true rfl)
  rw [lg_entry_eq]
  generalize (lg_sl ([.ref h0, .int (nI j)]) ++ List.replicate (2 - (lg_sl ([.ref h0, .int (nI j)])).length) Slot.unset).toArray = ls at hl ⊢
  have hl : lv_has ls 2 [(0, .ref h0), (1, .int (nI j))] := hl
  refine lv_aload_n hx hb dX11_broadenNow_0 rfl (lv_at hl 0 rfl) ?_
  refine va_get (D := (dC, dI)) (ci := 11) (v := .ref m10) (C := RX11) (T := TX11) (N := 46) hx hb hts hi_X11 hown hK hP 0 rfl rfl 10 (by decide) (hts (.fieldLink RX11 28 "LeftQuillsModel" "now" "[I") (wmx 1 rfl)) (fun _ h9 => h9) e_h0_10 dX11_broadenNow_1 ?_
  refine lv_bipush (v := 8) hx hb dX11_broadenNow_4 (by decide) ?_
  refine lv_iload_n hx hb dX11_broadenNow_6 rfl (lv_at hl 1 rfl) ?_
  refine lv_iadd hx hb dX11_broadenNow_7 ?_
  refine lv_topi (fun z1 ez1 => ?_)
  obtain rfl : z1 = nI (8 + j) := ez1.trans (nI_add 8 j)
  refine lv_aload_n hx hb dX11_broadenNow_8 rfl (lv_at hl 0 rfl) ?_
  refine va_get (D := (dC, dI)) (ci := 11) (v := .ref m10) (C := RX11) (T := TX11) (N := 46) hx hb hts hi_X11 hown hK hP 0 rfl rfl 10 (by decide) (hts (.fieldLink RX11 28 "LeftQuillsModel" "now" "[I") (wmx 1 rfl)) (fun _ h9 => h9) e_h0_10 dX11_broadenNow_9 ?_
  refine lv_bipush (v := 8) hx hb dX11_broadenNow_12 (by decide) ?_
  refine lv_iload_n hx hb dX11_broadenNow_14 rfl (lv_at hl 1 rfl) ?_
  refine lv_iadd hx hb dX11_broadenNow_15 ?_
  refine lv_topi (fun z2 ez2 => ?_)
  obtain rfl : z2 = nI (8 + j) := ez2.trans (nI_add 8 j)
  refine va_iald hx hb hK hP 1 0 rfl rfl (vp_in_nI (n := 8 + j) (N := 34) (by omega) (by decide)) dX11_broadenNow_16 ?_
  refine W.eq (g2 := F0 m 17 ls [.int (fm10 (8 + j)), .int (nI (8 + j)), .ref m10]) (congrArg (fun y9 => F0 m 17 ls (.int (fm10 y9) :: [.int (nI (8 + j)), .ref m10])) ((nI_clamp (n := 8 + j) (by omega)))) ?_
  refine lv_bipush (v := 9) hx hb dX11_broadenNow_17 (by decide) ?_
  refine lv_icmp_ge (tgt := 36) hx hb dX11_broadenNow_19 (by decide) (fun c3 => ?_) (fun c3 => ?_)
  ·
    refine lv_bipush (v := 9) hx hb dX11_broadenNow_36 (by decide) ?_
    refine va_iast hx hb hK hP hD hS 1 0 rfl rfl (vp_in_nI (n := 8 + j) (N := 34) (by omega) (by decide)) dX11_broadenNow_38 (fun H locs hP hD hS => ?_)
    have hcl := (nI_clamp (n := 8 + j) (by omega))
    rw [hcl] at hP hD
    clear hcl
    have hP : va_P (dC, dI) vwCl [(h0, .inr (11, f_h0)), (m10, .inl (cI, 34, .inl (upd fm10 (8 + j) 9)))] H := hP
    have hD : va_D A [(h0, .inr (11, f_h0)), (m10, .inl (cI, 34, .inl (upd fm10 (8 + j) 9)))] := hD
    have hP9 := hP.sub (ws' := [(h0, .inr (11, f_h0)), (m10, .inl (cI, 34, .inl (upd fm10 (8 + j) 9)))]) [0, 1] rfl
    have hD9 := hD.sub (ws' := [(h0, .inr (11, f_h0)), (m10, .inl (cI, 34, .inl (upd fm10 (8 + j) 9)))]) [0, 1] (by decide +kernel) rfl
    exact W.vret hx hb hr (fun t ht hW => ⟨⟨(fun _ => 0), rfl, trivial, ⟨(upd fm10 (8 + j) 9), (congrArg (upd fm10 (8 + j)) (if_neg (fa_len c3)).symm), by rw [ht]; exact hP9, hD9⟩⟩, hS.F ht⟩) hS.2.2 dX11_broadenNow_39
  ·
    refine lv_aload_n hx hb dX11_broadenNow_22 rfl (lv_at hl 0 rfl) ?_
    refine va_get (D := (dC, dI)) (ci := 11) (v := .ref m10) (C := RX11) (T := TX11) (N := 46) hx hb hts hi_X11 hown hK hP 0 rfl rfl 10 (by decide) (hts (.fieldLink RX11 28 "LeftQuillsModel" "now" "[I") (wmx 1 rfl)) (fun _ h9 => h9) e_h0_10 dX11_broadenNow_23 ?_
    refine lv_bipush (v := 8) hx hb dX11_broadenNow_26 (by decide) ?_
    refine lv_iload_n hx hb dX11_broadenNow_28 rfl (lv_at hl 1 rfl) ?_
    refine lv_iadd hx hb dX11_broadenNow_29 ?_
    refine lv_topi (fun z5 ez5 => ?_)
    obtain rfl : z5 = nI (8 + j) := ez5.trans (nI_add 8 j)
    refine va_iald hx hb hK hP 1 0 rfl rfl (vp_in_nI (n := 8 + j) (N := 34) (by omega) (by decide)) dX11_broadenNow_30 ?_
    refine W.eq (g2 := F0 m 31 ls [.int (fm10 (8 + j)), .int (nI (8 + j)), .ref m10]) (congrArg (fun y9 => F0 m 31 ls (.int (fm10 y9) :: [.int (nI (8 + j)), .ref m10])) ((nI_clamp (n := 8 + j) (by omega)))) ?_
    refine lv_iconst (v := 1) hx hb dX11_broadenNow_31 (by decide) ?_
    refine lv_iadd hx hb dX11_broadenNow_32 ?_
    refine lv_goto (tgt := 38) hx hb dX11_broadenNow_33 (by decide) ?_
    refine va_iast hx hb hK hP hD hS 1 0 rfl rfl (vp_in_nI (n := 8 + j) (N := 34) (by omega) (by decide)) dX11_broadenNow_38 (fun H locs hP hD hS => ?_)
    have hcl := (nI_clamp (n := 8 + j) (by omega))
    rw [hcl] at hP hD
    clear hcl
    have hP : va_P (dC, dI) vwCl [(h0, .inr (11, f_h0)), (m10, .inl (cI, 34, .inl (upd fm10 (8 + j) ((fm10 (8 + j)) + 1))))] H := hP
    have hD : va_D A [(h0, .inr (11, f_h0)), (m10, .inl (cI, 34, .inl (upd fm10 (8 + j) ((fm10 (8 + j)) + 1))))] := hD
    have hP9 := hP.sub (ws' := [(h0, .inr (11, f_h0)), (m10, .inl (cI, 34, .inl (upd fm10 (8 + j) ((fm10 (8 + j)) + 1))))]) [0, 1] rfl
    have hD9 := hD.sub (ws' := [(h0, .inr (11, f_h0)), (m10, .inl (cI, 34, .inl (upd fm10 (8 + j) ((fm10 (8 + j)) + 1))))]) [0, 1] (by decide +kernel) rfl
    exact W.vret hx hb hr (fun t ht hW => ⟨⟨(fun _ => 0), rfl, trivial, ⟨(upd fm10 (8 + j) ((fm10 (8 + j)) + 1)), (congrArg (upd fm10 (8 + j)) (if_pos (fa_nle c3)).symm), by rw [ht]; exact hP9, hD9⟩⟩, hS.F ht⟩) hS.2.2 dX11_broadenNow_39
