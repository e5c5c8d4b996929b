set_option maxHeartbeats 4000000 in
set_option maxRecDepth 100000 in
theorem c_X11_hardD (l : Launch) (dC : Nat → ClassId) (dI : Nat → Nat → Nat) (cI cZ cQ : ClassId) (h0 : Nat) (m4 : Nat) (m5 : Nat) (f_h0 : List Value) (fm4 : Nat → Int32) (fm5 : Nat → Int32) (j : Nat) (nq : Nat) (sz : Nat) (e_h0_4 : f_h0[4]? = some (.ref m4)) (e_h0_5 : f_h0[5]? = some (.ref m5)) (hnq : nq ≤ 8) (hci : cIn fm5 nq) (hj : j < nq) : Met l yX11_hard wsX11_hard ({ frames := 0, cells := 0, slots := 0, locals := 40 }) (va_Pc [.ref h0, .int (nI j)] (fun U => U.heap.size = sz ∧ va_P (dC, dI) vwCl [(h0, .inr (11, f_h0)), (m4, .inl (cI, 8, .inl fm4)), (m5, .inl (cI, 8, .inl fm5))] U.heap ∧ va_K (dC, dI) vwCl (tys0 cI cZ cQ) U)) (va_Qi (fun (r : Int32) (u : Nat → Nat) => r = hdF (fm4 j) (fm5 j)) (fun (_ : Nat → Nat) (_ : State) => True) (fun _ : Nat => False)) 0 0 (fun _ : Nat => False) := by
  refine Met.ofW (cc := cX11_hard) (maxL := 3) (ret := (some .int)) (by decide) rfl ?_
  intro p e s m args below meth c s₁ B hml hv
  obtain ⟨rfl, hsz, hP, hK⟩ := hv
  have hx := B.exec
  have hb := B.bytes
  have hr := B.returns
  have hts := atoms_spec (ws := wsX11_hard) B.pre
  have hown : s.vm.findClass RX11 = some m.cls := findClass_of_methodNamed B.named
  have hlocks := B.notSynchronized
  have hi_X11 : ∀ w ∈ u_ws RX11 TX11 46, w ∈ wsX11_hard := fun _ h => List.mem_cons_of_mem _ (List.mem_append_right _ (h))
  subst hsz
  have hS : va_S (fun _ : Nat => False) s.heap s.heap [] := va_S.rf
  have hl := lv_entry ([.ref h0, .int (nI j)]) (n := 3) (Nat.le_of_ble_eq_true rfl)
  rw [lg_entry_eq]
  generalize (lg_sl ([.ref h0, .int (nI j)]) ++ List.replicate (3 - (lg_sl ([.ref h0, .int (nI j)])).length) Slot.unset).toArray = ls at hl ⊢
  have hl : lv_has ls 3 [(0, .ref h0), (1, .int (nI j))] := hl
  refine lv_aload_n hx hb dX11_hard_0 rfl (lv_at hl 0 rfl) ?_
  refine va_get (D := (dC, dI)) (ci := 11) (v := .ref m4) (C := RX11) (T := TX11) (N := 46) hx hb hts hi_X11 hown hK hP 0 rfl rfl 4 (by decide) (hts (.fieldLink RX11 13 "LeftQuillsModel" "place" "[I") (wmx 1 rfl)) (fun _ h9 => h9) e_h0_4 dX11_hard_1 ?_
  refine lv_iload_n hx hb dX11_hard_4 rfl (lv_at hl 1 rfl) ?_
  refine va_iald hx hb hK hP 1 0 rfl rfl (vp_in_nI (n := j) (N := 8) (by omega) (by decide)) dX11_hard_5 ?_
  refine W.eq (g2 := F0 m 6 ls [.int (fm4 j)]) (congrArg (fun y9 => F0 m 6 ls (.int (fm4 y9) :: [])) ((nI_clamp (n := j) (by omega)))) ?_
  refine lv_iconst (v := 2) hx hb dX11_hard_6 (by decide) ?_
  refine lv_icmp_eq (tgt := 20) hx hb dX11_hard_7 (by decide) (fun c1 => ?_) (fun c1 => ?_)
  ·
    refine lv_iconst (v := 3) hx hb dX11_hard_20 (by decide) ?_
    refine lv_goto (tgt := 39) hx hb dX11_hard_21 (by decide) ?_
    refine lv_istore_n (lv' := [(2, .int 3), (0, .ref h0), (1, .int (nI j))]) hx hb dX11_hard_39 rfl hl (by decide) rfl (fun ls hl => ?_)
    refine lv_iconst (v := 2) hx hb dX11_hard_40 (by decide) ?_
    refine lv_aload_n hx hb dX11_hard_41 rfl (lv_at hl 1 rfl) ?_
    refine va_get (D := (dC, dI)) (ci := 11) (v := .ref m5) (C := RX11) (T := TX11) (N := 46) hx hb hts hi_X11 hown hK hP 0 rfl rfl 5 (by decide) (hts (.fieldLink RX11 16 "LeftQuillsModel" "cooked" "[I") (wmx 2 rfl)) (fun _ h9 => h9) e_h0_5 dX11_hard_42 ?_
    refine lv_iload_n hx hb dX11_hard_45 rfl (lv_at hl 2 rfl) ?_
    refine va_iald hx hb hK hP 2 0 rfl rfl (vp_in_nI (n := j) (N := 8) (by omega) (by decide)) dX11_hard_46 ?_
    refine W.eq (g2 := F0 m 47 ls [.int (fm5 j), .int 2]) (congrArg (fun y9 => F0 m 47 ls (.int (fm5 y9) :: [.int 2])) ((nI_clamp (n := j) (by omega)))) ?_
    refine lv_iadd hx hb dX11_hard_47 ?_
    refine lv_iload_n hx hb dX11_hard_48 rfl (lv_at hl 0 rfl) ?_
    refine lv_iadd hx hb dX11_hard_49 ?_
    exact W.iret (v := (2 + (fm5 j)) + 3) hx hb hr (fun t ht hW => ⟨⟨(2 + (fm5 j)) + 3, (fun _ => 0), rfl, (hd_2 c1), trivial⟩, hS.F ht⟩) hS.2.2 dX11_hard_50
  ·
    refine lv_aload_n hx hb dX11_hard_10 rfl (lv_at hl 0 rfl) ?_
    refine va_get (D := (dC, dI)) (ci := 11) (v := .ref m4) (C := RX11) (T := TX11) (N := 46) hx hb hts hi_X11 hown hK hP 0 rfl rfl 4 (by decide) (hts (.fieldLink RX11 13 "LeftQuillsModel" "place" "[I") (wmx 1 rfl)) (fun _ h9 => h9) e_h0_4 dX11_hard_11 ?_
    refine lv_iload_n hx hb dX11_hard_14 rfl (lv_at hl 1 rfl) ?_
    refine va_iald hx hb hK hP 1 0 rfl rfl (vp_in_nI (n := j) (N := 8) (by omega) (by decide)) dX11_hard_15 ?_
    refine W.eq (g2 := F0 m 16 ls [.int (fm4 j)]) (congrArg (fun y9 => F0 m 16 ls (.int (fm4 y9) :: [])) ((nI_clamp (n := j) (by omega)))) ?_
    refine lv_iconst (v := 3) hx hb dX11_hard_16 (by decide) ?_
    refine lv_icmp_ne (tgt := 24) hx hb dX11_hard_17 (by decide) (fun c2 => ?_) (fun c2 => ?_)
    ·
      refine lv_aload_n hx hb dX11_hard_24 rfl (lv_at hl 0 rfl) ?_
      refine va_get (D := (dC, dI)) (ci := 11) (v := .ref m4) (C := RX11) (T := TX11) (N := 46) hx hb hts hi_X11 hown hK hP 0 rfl rfl 4 (by decide) (hts (.fieldLink RX11 13 "LeftQuillsModel" "place" "[I") (wmx 1 rfl)) (fun _ h9 => h9) e_h0_4 dX11_hard_25 ?_
      refine lv_iload_n hx hb dX11_hard_28 rfl (lv_at hl 1 rfl) ?_
      refine va_iald hx hb hK hP 1 0 rfl rfl (vp_in_nI (n := j) (N := 8) (by omega) (by decide)) dX11_hard_29 ?_
      refine W.eq (g2 := F0 m 30 ls [.int (fm4 j)]) (congrArg (fun y9 => F0 m 30 ls (.int (fm4 y9) :: [])) ((nI_clamp (n := j) (by omega)))) ?_
      refine lv_iconst (v := 4) hx hb dX11_hard_30 (by decide) ?_
      refine lv_icmp_ne (tgt := 38) hx hb dX11_hard_31 (by decide) (fun c3 => ?_) (fun c3 => ?_)
      ·
        refine lv_iconst (v := 1) hx hb dX11_hard_38 (by decide) ?_
        refine lv_istore_n (lv' := [(2, .int 1), (0, .ref h0), (1, .int (nI j))]) hx hb dX11_hard_39 rfl hl (by decide) rfl (fun ls hl => ?_)
        refine lv_iconst (v := 2) hx hb dX11_hard_40 (by decide) ?_
        refine lv_aload_n hx hb dX11_hard_41 rfl (lv_at hl 1 rfl) ?_
        refine va_get (D := (dC, dI)) (ci := 11) (v := .ref m5) (C := RX11) (T := TX11) (N := 46) hx hb hts hi_X11 hown hK hP 0 rfl rfl 5 (by decide) (hts (.fieldLink RX11 16 "LeftQuillsModel" "cooked" "[I") (wmx 2 rfl)) (fun _ h9 => h9) e_h0_5 dX11_hard_42 ?_
        refine lv_iload_n hx hb dX11_hard_45 rfl (lv_at hl 2 rfl) ?_
        refine va_iald hx hb hK hP 2 0 rfl rfl (vp_in_nI (n := j) (N := 8) (by omega) (by decide)) dX11_hard_46 ?_
        refine W.eq (g2 := F0 m 47 ls [.int (fm5 j), .int 2]) (congrArg (fun y9 => F0 m 47 ls (.int (fm5 y9) :: [.int 2])) ((nI_clamp (n := j) (by omega)))) ?_
        refine lv_iadd hx hb dX11_hard_47 ?_
        refine lv_iload_n hx hb dX11_hard_48 rfl (lv_at hl 0 rfl) ?_
        refine lv_iadd hx hb dX11_hard_49 ?_
        exact W.iret (v := (2 + (fm5 j)) + 1) hx hb hr (fun t ht hW => ⟨⟨(2 + (fm5 j)) + 1, (fun _ => 0), rfl, (hd_n c1 c2 c3), trivial⟩, hS.F ht⟩) hS.2.2 dX11_hard_50
      ·
        refine lv_iconst (v := 2) hx hb dX11_hard_34 (by decide) ?_
        refine lv_goto (tgt := 39) hx hb dX11_hard_35 (by decide) ?_
        refine lv_istore_n (lv' := [(2, .int 2), (0, .ref h0), (1, .int (nI j))]) hx hb dX11_hard_39 rfl hl (by decide) rfl (fun ls hl => ?_)
        refine lv_iconst (v := 2) hx hb dX11_hard_40 (by decide) ?_
        refine lv_aload_n hx hb dX11_hard_41 rfl (lv_at hl 1 rfl) ?_
        refine va_get (D := (dC, dI)) (ci := 11) (v := .ref m5) (C := RX11) (T := TX11) (N := 46) hx hb hts hi_X11 hown hK hP 0 rfl rfl 5 (by decide) (hts (.fieldLink RX11 16 "LeftQuillsModel" "cooked" "[I") (wmx 2 rfl)) (fun _ h9 => h9) e_h0_5 dX11_hard_42 ?_
        refine lv_iload_n hx hb dX11_hard_45 rfl (lv_at hl 2 rfl) ?_
        refine va_iald hx hb hK hP 2 0 rfl rfl (vp_in_nI (n := j) (N := 8) (by omega) (by decide)) dX11_hard_46 ?_
        refine W.eq (g2 := F0 m 47 ls [.int (fm5 j), .int 2]) (congrArg (fun y9 => F0 m 47 ls (.int (fm5 y9) :: [.int 2])) ((nI_clamp (n := j) (by omega)))) ?_
        refine lv_iadd hx hb dX11_hard_47 ?_
        refine lv_iload_n hx hb dX11_hard_48 rfl (lv_at hl 0 rfl) ?_
        refine lv_iadd hx hb dX11_hard_49 ?_
        exact W.iret (v := (2 + (fm5 j)) + 2) hx hb hr (fun t ht hW => ⟨⟨(2 + (fm5 j)) + 2, (fun _ => 0), rfl, (hd_4 c3), trivial⟩, hS.F ht⟩) hS.2.2 dX11_hard_50
    ·
      refine lv_iconst (v := 3) hx hb dX11_hard_20 (by decide) ?_
      refine lv_goto (tgt := 39) hx hb dX11_hard_21 (by decide) ?_
      refine lv_istore_n (lv' := [(2, .int 3), (0, .ref h0), (1, .int (nI j))]) hx hb dX11_hard_39 rfl hl (by decide) rfl (fun ls hl => ?_)
      refine lv_iconst (v := 2) hx hb dX11_hard_40 (by decide) ?_
      refine lv_aload_n hx hb dX11_hard_41 rfl (lv_at hl 1 rfl) ?_
      refine va_get (D := (dC, dI)) (ci := 11) (v := .ref m5) (C := RX11) (T := TX11) (N := 46) hx hb hts hi_X11 hown hK hP 0 rfl rfl 5 (by decide) (hts (.fieldLink RX11 16 "LeftQuillsModel" "cooked" "[I") (wmx 2 rfl)) (fun _ h9 => h9) e_h0_5 dX11_hard_42 ?_
      refine lv_iload_n hx hb dX11_hard_45 rfl (lv_at hl 2 rfl) ?_
      refine va_iald hx hb hK hP 2 0 rfl rfl (vp_in_nI (n := j) (N := 8) (by omega) (by decide)) dX11_hard_46 ?_
      refine W.eq (g2 := F0 m 47 ls [.int (fm5 j), .int 2]) (congrArg (fun y9 => F0 m 47 ls (.int (fm5 y9) :: [.int 2])) ((nI_clamp (n := j) (by omega)))) ?_
      refine lv_iadd hx hb dX11_hard_47 ?_
      refine lv_iload_n hx hb dX11_hard_48 rfl (lv_at hl 0 rfl) ?_
      refine lv_iadd hx hb dX11_hard_49 ?_
      exact W.iret (v := (2 + (fm5 j)) + 3) hx hb hr (fun t ht hW => ⟨⟨(2 + (fm5 j)) + 3, (fun _ => 0), rfl, (hd_3 c2), trivial⟩, hS.F ht⟩) hS.2.2 dX11_hard_50
