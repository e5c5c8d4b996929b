set_option maxHeartbeats 4000000 in
set_option maxRecDepth 100000 in
theorem c_X11_driedByD (l : Launch) (dC : Nat → ClassId) (dI : Nat → Nat → Nat) (cI cZ cQ : ClassId) (a0 : Int32) (a1 : Int32) (sz : Nat)  : Met l yX11_driedBy wsX11_driedBy ({ frames := 0, cells := 0, slots := 0, locals := 40 }) (va_Pc [.int a0, .int a1] (fun U => U.heap.size = sz ∧ va_P (dC, dI) vwCl [] U.heap ∧ va_K (dC, dI) vwCl (tys0 cI cZ cQ) U)) (va_Qi (fun (r : Int32) (u : Nat → Nat) => r = dsF a0 a1) (fun (_ : Nat → Nat) (_ : State) => True) (fun _ : Nat => False)) 0 0 (fun _ : Nat => False) := by
  refine Met.ofW (cc := cX11_driedBy) (maxL := 3) (ret := (some .int)) (by decide) rfl ?_
  intro p e s m args below meth c s₁ B hml hv
  obtain ⟨rfl, hsz, hP, hK⟩ := hv
  have hx := B.exec
  have hb := B.bytes
  have hr := B.returns
  have hts := atoms_spec (ws := wsX11_driedBy) B.pre
  have hown : s.vm.findClass RX11 = some m.cls := findClass_of_methodNamed B.named
  have hlocks := B.notSynchronized
  subst hsz
  have hS : va_S (fun _ : Nat => False) s.heap s.heap [] := va_S.rf
  have hl := lv_entry ([.int a0, .int a1]) (n := 3) (Nat.le_of_ble_eq_true rfl)
  rw [lg_entry_eq]
  generalize (lg_sl ([.int a0, .int a1]) ++ List.replicate (3 - (lg_sl ([.int a0, .int a1])).length) Slot.unset).toArray = ls at hl ⊢
  have hl : lv_has ls 3 [(0, .int a0), (1, .int a1)] := hl
  refine lv_iload_n hx hb dX11_driedBy_0 rfl (lv_at hl 0 rfl) ?_
  refine lv_bipush (v := 8) hx hb dX11_driedBy_1 (by decide) ?_
  refine lv_iload_n hx hb dX11_driedBy_3 rfl (lv_at hl 1 rfl) ?_
  refine lv_imul hx hb dX11_driedBy_4 ?_
  refine lv_isub hx hb dX11_driedBy_5 ?_
  refine lv_istore_n (lv' := [(2, .int (a0 - (8 * a1))), (0, .int a0), (1, .int a1)]) hx hb dX11_driedBy_6 rfl hl (by decide) rfl (fun ls hl => ?_)
  refine lv_iload_n hx hb dX11_driedBy_7 rfl (lv_at hl 0 rfl) ?_
  refine lv_iload_n hx hb dX11_driedBy_8 rfl (lv_at hl 1 rfl) ?_
  refine lv_iconst (v := 3) hx hb dX11_driedBy_9 (by decide) ?_
  refine lv_idiv hx hb dX11_driedBy_10 (by decide) ?_
  refine lv_icmp_le (tgt := 18) hx hb dX11_driedBy_11 (by decide) (fun c1 => ?_) (fun c1 => ?_)
  ·
    refine lv_iload_n hx hb dX11_driedBy_18 rfl (lv_at hl 1 rfl) ?_
    refine lv_iconst (v := 3) hx hb dX11_driedBy_19 (by decide) ?_
    refine lv_idiv hx hb dX11_driedBy_20 (by decide) ?_
    exact W.iret (v := a0 / 3) hx hb hr (fun t ht hW => ⟨⟨a0 / 3, (fun _ => 0), rfl, (ds_2 (fa_len c1)), trivial⟩, hS.F ht⟩) hS.2.2 dX11_driedBy_21
  ·
    refine lv_iload_n hx hb dX11_driedBy_14 rfl (lv_at hl 0 rfl) ?_
    refine lv_goto (tgt := 21) hx hb dX11_driedBy_15 (by decide) ?_
    exact W.iret (v := a0 - (8 * a1)) hx hb hr (fun t ht hW => ⟨⟨a0 - (8 * a1), (fun _ => 0), rfl, (ds_1 (fa_nle c1)), trivial⟩, hS.F ht⟩) hS.2.2 dX11_driedBy_21
set_option maxHeartbeats 4000000 in
set_option maxRecDepth 100000 in
theorem c_X11_hardD (l : Launch) (dC : Nat → ClassId) (dI : Nat → Nat → Nat) (cI cZ cQ : ClassId) (h0 : Nat) (m4 : Nat) (m5 : Nat) (f_h0 : List Value) (fm4 : Nat → Int32) (fm5 : Nat → Int32) (j : Nat) (nq : Nat) (sz : Nat) (e_h0_4 : fAt f_h0 4 = some (.ref m4)) (e_h0_5 : fAt f_h0 5 = some (.ref m5)) (hnq : nq ≤ 8) (hci : cIn fm5 nq) (hj : j < nq) : Met l yX11_hard wsX11_hard ({ frames := 0, cells := 0, slots := 0, locals := 40 }) (va_Pc [.ref h0, .int (nI j)] (fun U => U.heap.size = sz ∧ va_P (dC, dI) vwCl [(h0, .inr (11, f_h0)), (m4, .inl (cI, 8, .inl fm4)), (m5, .inl (cI, 8, .inl fm5))] U.heap ∧ va_K (dC, dI) vwCl (tys0 cI cZ cQ) U)) (va_Qi (fun (r : Int32) (u : Nat → Nat) => r = hdF (fm4 j) (fm5 j)) (fun (_ : Nat → Nat) (_ : State) => True) (fun _ : Nat => False)) 0 0 (fun _ : Nat => False) := by
  refine Met.ofW (cc := cX11_hard) (maxL := 3) (ret := (some .int)) (by decide) rfl ?_
  intro p e s m args below meth c s₁ B hml hv
  obtain ⟨rfl, hsz, hP, hK⟩ := hv
  have hx := B.exec
  have hb := B.bytes
  have hr := B.returns
  have hts := atoms_spec (ws := wsX11_hard) B.pre
  have hown : s.vm.findClass RX11 = some m.cls := findClass_of_methodNamed B.named
  have hlocks := B.notSynchronized
  have hi_X11 : ∀ w ∈ u_ws RX11 TX11 46, w ∈ wsX11_hard := fun _ h => List.mem_cons_of_mem _ (List.mem_append_right _ (h))
  subst hsz
  have hS : va_S (fun _ : Nat => False) s.heap s.heap [] := va_S.rf
  have hl := lv_entry ([.ref h0, .int (nI j)]) (n := 3) (Nat.le_of_ble_eq_true rfl)
  rw [lg_entry_eq]
  generalize (lg_sl ([.ref h0, .int (nI j)]) ++ List.replicate (3 - (lg_sl ([.ref h0, .int (nI j)])).length) Slot.unset).toArray = ls at hl ⊢
  have hl : lv_has ls 3 [(0, .ref h0), (1, .int (nI j))] := hl
  refine lv_aload_n hx hb dX11_hard_0 rfl (lv_at hl 0 rfl) ?_
  refine va_get (D := (dC, dI)) (ci := 11) (v := .ref m4) (C := RX11) (T := TX11) (N := 46) hx hb hts hi_X11 hown hK hP 0 rfl rfl 4 (by decide) (hts (.fieldLink RX11 13 "LeftQuillsModel" "place" "[I") (wmx 1 rfl)) (fun _ h9 => h9) e_h0_4 dX11_hard_1 ?_
  refine lv_iload_n hx hb dX11_hard_4 rfl (lv_at hl 1 rfl) ?_
  refine va_iald hx hb hK hP 1 0 rfl rfl (vp_in_nI (n := j) (N := 8) (by omega) (by decide)) dX11_hard_5 ?_
  refine W.eq (g2 := F0 m 6 ls [.int (fm4 j)]) (congrArg (fun y9 => F0 m 6 ls (.int (fm4 y9) :: [])) ((nI_clamp (n := j) (by omega)))) ?_
  refine lv_iconst (v := 2) hx hb dX11_hard_6 (by decide) ?_
  refine lv_icmp_eq (tgt := 20) hx hb dX11_hard_7 (by decide) (fun c1 => ?_) (fun c1 => ?_)
  ·
    refine lv_iconst (v := 3) hx hb dX11_hard_20 (by decide) ?_
    refine lv_goto (tgt := 39) hx hb dX11_hard_21 (by decide) ?_
    refine lv_istore_n (lv' := [(2, .int 3), (0, .ref h0), (1, .int (nI j))]) hx hb dX11_hard_39 rfl hl (by decide) rfl (fun ls hl => ?_)
    refine lv_iconst (v := 2) hx hb dX11_hard_40 (by decide) ?_
    refine lv_aload_n hx hb dX11_hard_41 rfl (lv_at hl 1 rfl) ?_
    refine va_get (D := (dC, dI)) (ci := 11) (v := .ref m5) (C := RX11) (T := TX11) (N := 46) hx hb hts hi_X11 hown hK hP 0 rfl rfl 5 (by decide) (hts (.fieldLink RX11 16 "LeftQuillsModel" "cooked" "[I") (wmx 2 rfl)) (fun _ h9 => h9) e_h0_5 dX11_hard_42 ?_
    refine lv_iload_n hx hb dX11_hard_45 rfl (lv_at hl 2 rfl) ?_
    refine va_iald hx hb hK hP 2 0 rfl rfl (vp_in_nI (n := j) (N := 8) (by omega) (by decide)) dX11_hard_46 ?_
    refine W.eq (g2 := F0 m 47 ls [.int (fm5 j), .int 2]) (congrArg (fun y9 => F0 m 47 ls (.int (fm5 y9) :: [.int 2])) ((nI_clamp (n := j) (by omega)))) ?_
    refine lv_iadd hx hb dX11_hard_47 ?_
    refine lv_iload_n hx hb dX11_hard_48 rfl (lv_at hl 0 rfl) ?_
    refine lv_iadd hx hb dX11_hard_49 ?_
    exact W.iret (v := (2 + (fm5 j)) + 3) hx hb hr (fun t ht hW => ⟨⟨(2 + (fm5 j)) + 3, (fun _ => 0), rfl, (hd_2 c1), trivial⟩, hS.F ht⟩) hS.2.2 dX11_hard_50
  ·
    refine lv_aload_n hx hb dX11_hard_10 rfl (lv_at hl 0 rfl) ?_
    refine va_get (D := (dC, dI)) (ci := 11) (v := .ref m4) (C := RX11) (T := TX11) (N := 46) hx hb hts hi_X11 hown hK hP 0 rfl rfl 4 (by decide) (hts (.fieldLink RX11 13 "LeftQuillsModel" "place" "[I") (wmx 1 rfl)) (fun _ h9 => h9) e_h0_4 dX11_hard_11 ?_
    refine lv_iload_n hx hb dX11_hard_14 rfl (lv_at hl 1 rfl) ?_
    refine va_iald hx hb hK hP 1 0 rfl rfl (vp_in_nI (n := j) (N := 8) (by omega) (by decide)) dX11_hard_15 ?_
    refine W.eq (g2 := F0 m 16 ls [.int (fm4 j)]) (congrArg (fun y9 => F0 m 16 ls (.int (fm4 y9) :: [])) ((nI_clamp (n := j) (by omega)))) ?_
    refine lv_iconst (v := 3) hx hb dX11_hard_16 (by decide) ?_
    refine lv_icmp_ne (tgt := 24) hx hb dX11_hard_17 (by decide) (fun c2 => ?_) (fun c2 => ?_)
    ·
      refine lv_aload_n hx hb dX11_hard_24 rfl (lv_at hl 0 rfl) ?_
      refine va_get (D := (dC, dI)) (ci := 11) (v := .ref m4) (C := RX11) (T := TX11) (N := 46) hx hb hts hi_X11 hown hK hP 0 rfl rfl 4 (by decide) (hts (.fieldLink RX11 13 "LeftQuillsModel" "place" "[I") (wmx 1 rfl)) (fun _ h9 => h9) e_h0_4 dX11_hard_25 ?_
      refine lv_iload_n hx hb dX11_hard_28 rfl (lv_at hl 1 rfl) ?_
      refine va_iald hx hb hK hP 1 0 rfl rfl (vp_in_nI (n := j) (N := 8) (by omega) (by decide)) dX11_hard_29 ?_
      refine W.eq (g2 := F0 m 30 ls [.int (fm4 j)]) (congrArg (fun y9 => F0 m 30 ls (.int (fm4 y9) :: [])) ((nI_clamp (n := j) (by omega)))) ?_
      refine lv_iconst (v := 4) hx hb dX11_hard_30 (by decide) ?_
      refine lv_icmp_ne (tgt := 38) hx hb dX11_hard_31 (by decide) (fun c3 => ?_) (fun c3 => ?_)
      ·
        refine lv_iconst (v := 1) hx hb dX11_hard_38 (by decide) ?_
        refine lv_istore_n (lv' := [(2, .int 1), (0, .ref h0), (1, .int (nI j))]) hx hb dX11_hard_39 rfl hl (by decide) rfl (fun ls hl => ?_)
        refine lv_iconst (v := 2) hx hb dX11_hard_40 (by decide) ?_
        refine lv_aload_n hx hb dX11_hard_41 rfl (lv_at hl 1 rfl) ?_
        refine va_get (D := (dC, dI)) (ci := 11) (v := .ref m5) (C := RX11) (T := TX11) (N := 46) hx hb hts hi_X11 hown hK hP 0 rfl rfl 5 (by decide) (hts (.fieldLink RX11 16 "LeftQuillsModel" "cooked" "[I") (wmx 2 rfl)) (fun _ h9 => h9) e_h0_5 dX11_hard_42 ?_
        refine lv_iload_n hx hb dX11_hard_45 rfl (lv_at hl 2 rfl) ?_
        refine va_iald hx hb hK hP 2 0 rfl rfl (vp_in_nI (n := j) (N := 8) (by omega) (by decide)) dX11_hard_46 ?_
        refine W.eq (g2 := F0 m 47 ls [.int (fm5 j), .int 2]) (congrArg (fun y9 => F0 m 47 ls (.int (fm5 y9) :: [.int 2])) ((nI_clamp (n := j) (by omega)))) ?_
        refine lv_iadd hx hb dX11_hard_47 ?_
        refine lv_iload_n hx hb dX11_hard_48 rfl (lv_at hl 0 rfl) ?_
        refine lv_iadd hx hb dX11_hard_49 ?_
        exact W.iret (v := (2 + (fm5 j)) + 1) hx hb hr (fun t ht hW => ⟨⟨(2 + (fm5 j)) + 1, (fun _ => 0), rfl, (hd_n c1 c2 c3), trivial⟩, hS.F ht⟩) hS.2.2 dX11_hard_50
      ·
        refine lv_iconst (v := 2) hx hb dX11_hard_34 (by decide) ?_
        refine lv_goto (tgt := 39) hx hb dX11_hard_35 (by decide) ?_
        refine lv_istore_n (lv' := [(2, .int 2), (0, .ref h0), (1, .int (nI j))]) hx hb dX11_hard_39 rfl hl (by decide) rfl (fun ls hl => ?_)
        refine lv_iconst (v := 2) hx hb dX11_hard_40 (by decide) ?_
        refine lv_aload_n hx hb dX11_hard_41 rfl (lv_at hl 1 rfl) ?_
        refine va_get (D := (dC, dI)) (ci := 11) (v := .ref m5) (C := RX11) (T := TX11) (N := 46) hx hb hts hi_X11 hown hK hP 0 rfl rfl 5 (by decide) (hts (.fieldLink RX11 16 "LeftQuillsModel" "cooked" "[I") (wmx 2 rfl)) (fun _ h9 => h9) e_h0_5 dX11_hard_42 ?_
        refine lv_iload_n hx hb dX11_hard_45 rfl (lv_at hl 2 rfl) ?_
        refine va_iald hx hb hK hP 2 0 rfl rfl (vp_in_nI (n := j) (N := 8) (by omega) (by decide)) dX11_hard_46 ?_
        refine W.eq (g2 := F0 m 47 ls [.int (fm5 j), .int 2]) (congrArg (fun y9 => F0 m 47 ls (.int (fm5 y9) :: [.int 2])) ((nI_clamp (n := j) (by omega)))) ?_
        refine lv_iadd hx hb dX11_hard_47 ?_
        refine lv_iload_n hx hb dX11_hard_48 rfl (lv_at hl 0 rfl) ?_
        refine lv_iadd hx hb dX11_hard_49 ?_
        exact W.iret (v := (2 + (fm5 j)) + 2) hx hb hr (fun t ht hW => ⟨⟨(2 + (fm5 j)) + 2, (fun _ => 0), rfl, (hd_4 c3), trivial⟩, hS.F ht⟩) hS.2.2 dX11_hard_50
    ·
      refine lv_iconst (v := 3) hx hb dX11_hard_20 (by decide) ?_
      refine lv_goto (tgt := 39) hx hb dX11_hard_21 (by decide) ?_
      refine lv_istore_n (lv' := [(2, .int 3), (0, .ref h0), (1, .int (nI j))]) hx hb dX11_hard_39 rfl hl (by decide) rfl (fun ls hl => ?_)
      refine lv_iconst (v := 2) hx hb dX11_hard_40 (by decide) ?_
      refine lv_aload_n hx hb dX11_hard_41 rfl (lv_at hl 1 rfl) ?_
      refine va_get (D := (dC, dI)) (ci := 11) (v := .ref m5) (C := RX11) (T := TX11) (N := 46) hx hb hts hi_X11 hown hK hP 0 rfl rfl 5 (by decide) (hts (.fieldLink RX11 16 "LeftQuillsModel" "cooked" "[I") (wmx 2 rfl)) (fun _ h9 => h9) e_h0_5 dX11_hard_42 ?_
      refine lv_iload_n hx hb dX11_hard_45 rfl (lv_at hl 2 rfl) ?_
      refine va_iald hx hb hK hP 2 0 rfl rfl (vp_in_nI (n := j) (N := 8) (by omega) (by decide)) dX11_hard_46 ?_
      refine W.eq (g2 := F0 m 47 ls [.int (fm5 j), .int 2]) (congrArg (fun y9 => F0 m 47 ls (.int (fm5 y9) :: [.int 2])) ((nI_clamp (n := j) (by omega)))) ?_
      refine lv_iadd hx hb dX11_hard_47 ?_
      refine lv_iload_n hx hb dX11_hard_48 rfl (lv_at hl 0 rfl) ?_
      refine lv_iadd hx hb dX11_hard_49 ?_
      exact W.iret (v := (2 + (fm5 j)) + 3) hx hb hr (fun t ht hW => ⟨⟨(2 + (fm5 j)) + 3, (fun _ => 0), rfl, (hd_3 c2), trivial⟩, hS.F ht⟩) hS.2.2 dX11_hard_50
set_option maxHeartbeats 4000000 in
set_option maxRecDepth 100000 in
theorem c_X11_wearsD (l : Launch) (dC : Nat → ClassId) (dI : Nat → Nat → Nat) (cI cZ cQ : ClassId) (h0 : Nat) (m3 : Nat) (m4 : Nat) (m5 : Nat) (m7 : Nat) (m8 : Nat) (f_h0 : List Value) (fm3 : Nat → Int32) (fm4 : Nat → Int32) (fm5 : Nat → Int32) (fm7 : Nat → Int32) (fm8 : Nat → Int32) (j : Nat) (k : Nat) (nq : Nat) (sz : Nat) (e_h0_3 : fAt f_h0 3 = some (.ref m3)) (e_h0_4 : fAt f_h0 4 = some (.ref m4)) (e_h0_5 : fAt f_h0 5 = some (.ref m5)) (e_h0_7 : fAt f_h0 7 = some (.ref m7)) (e_h0_8 : fAt f_h0 8 = some (.ref m8)) (hnq : nq ≤ 8) (hci : cIn fm5 nq) (hj : j < nq) (hk : k < 4) : Met l yX11_wears wsX11_wears ({ frames := 1, cells := 0, slots := 0, locals := 62 }) (va_Pc [.ref h0, .int (nI j), .int (nI k)] (fun U => U.heap.size = sz ∧ va_P (dC, dI) vwCl [(h0, .inr (11, f_h0)), (m3, .inl (cI, 8, .inl fm3)), (m4, .inl (cI, 8, .inl fm4)), (m5, .inl (cI, 8, .inl fm5)), (m7, .inl (cI, 4, .inl fm7)), (m8, .inl (cI, 4, .inl fm8))] U.heap ∧ va_K (dC, dI) vwCl (tys0 cI cZ cQ) U)) (va_Qi (fun (r : Int32) (u : Nat → Nat) => r = wrF (fm3 j) (fm4 j) (fm5 j) (fm7 k) (fm8 k)) (fun (_ : Nat → Nat) (_ : State) => True) (fun _ : Nat => False)) 0 0 (fun _ : Nat => False) := by
  refine Met.ofW (cc := cX11_wears) (maxL := 4) (ret := (some .int)) (by decide) rfl ?_
  intro p e s m args below meth c s₁ B hml hv
  obtain ⟨rfl, hsz, hP, hK⟩ := hv
  have hx := B.exec
  have hb := B.bytes
  have hr := B.returns
  have hts := atoms_spec (ws := wsX11_wears) B.pre
  have hown : s.vm.findClass RX11 = some m.cls := findClass_of_methodNamed B.named
  have hlocks := B.notSynchronized
  have hi_X11 : ∀ w ∈ u_ws RX11 TX11 46, w ∈ wsX11_wears := fun _ h => List.mem_cons_of_mem _ (List.mem_append_right _ (h))
  subst hsz
  have hS : va_S (fun _ : Nat => False) s.heap s.heap [] := va_S.rf
  have hl := lv_entry ([.ref h0, .int (nI j), .int (nI k)]) (n := 4) (Nat.le_of_ble_eq_true rfl)
  rw [lg_entry_eq]
  generalize (lg_sl ([.ref h0, .int (nI j), .int (nI k)]) ++ List.replicate (4 - (lg_sl ([.ref h0, .int (nI j), .int (nI k)])).length) Slot.unset).toArray = ls at hl ⊢
  have hl : lv_has ls 4 [(0, .ref h0), (1, .int (nI j)), (2, .int (nI k))] := hl
  refine lv_bipush (v := 12) hx hb dX11_wears_0 (by decide) ?_
  refine lv_aload_n hx hb dX11_wears_2 rfl (lv_at hl 0 rfl) ?_
  refine va_get (D := (dC, dI)) (ci := 11) (v := .ref m8) (C := RX11) (T := TX11) (N := 46) hx hb hts hi_X11 hown hK hP 0 rfl rfl 8 (by decide) (hts (.fieldLink RX11 22 "LeftQuillsModel" "presses" "[I") (wmx 1 rfl)) (fun _ h9 => h9) e_h0_8 dX11_wears_3 ?_
  refine lv_iload_n hx hb dX11_wears_6 rfl (lv_at hl 2 rfl) ?_
  refine va_iald hx hb hK hP 5 0 rfl rfl (vp_in_nI (n := k) (N := 4) (by omega) (by decide)) dX11_wears_7 ?_
  refine W.eq (g2 := F0 m 8 ls [.int (fm8 k), .int 12]) (congrArg (fun y9 => F0 m 8 ls (.int (fm8 y9) :: [.int 12])) ((nI_clamp (n := k) (by omega)))) ?_
  refine lv_imul hx hb dX11_wears_8 ?_
  refine lv_aload_n hx hb dX11_wears_9 rfl (lv_at hl 0 rfl) ?_
  refine lv_iload_n hx hb dX11_wears_10 rfl (lv_at hl 1 rfl) ?_
  have hPc := hP.sub (ws' := [(h0, .inr (11, f_h0)), (m4, .inl (cI, 8, .inl fm4)), (m5, .inl (cI, 8, .inl fm5))]) [0, 2, 3] rfl
  refine va_calli (va_runV (As := [.int (nI j)]) (rest := [.int (12 * (fm8 k))]) ⟨hx, hb, hml, hown, hts⟩ (c_X11_hardD l dC dI cI cZ cQ h0 m4 m5 f_h0 fm4 fm5 j nq s.heap.size e_h0_4 e_h0_5 (by omega) (by first | assumption | decide) (by omega)) (cwV 1 hts gX11_wears_X11_hard rfl rfl rfl hd_X11_hard_RX11 ⟨Nat.le_of_ble_eq_true rfl, Nat.le_of_ble_eq_true rfl⟩) (pv_R (va_recv hK hP (ci := 11) (q0 := 0) rfl rfl) hK hPc) rfl rfl hl.1 rfl (lv_room (Nat.le_of_ble_eq_true rfl)) dX11_wears_11 ⟨Nat.le_of_ble_eq_true rfl, Nat.le_of_ble_eq_true rfl⟩) hS (fun q _ h => False.elim h) (fun q h => False.elim h) (fun r1 u2 t H1 locs ht hvm hw3 hB hz1 hk1 hS => ?_)
  have hP := hP.kept (fun k q hk => hk1 q.1 (hP k q hk).lt (fun h => h))
  clear hz1 hk1 hPc
  generalize H1 = H at hP hS ht ⊢
  try dsimp only at hw3
  subst hw3
  refine lv_idiv hx hb dX11_wears_14 (hd_ne (hci j hj)) ?_
  refine lv_istore_n (lv' := [(3, .int ((12 * (fm8 k)) / (hdF (fm4 j) (fm5 j)))), (0, .ref h0), (1, .int (nI j)), (2, .int (nI k))]) hx hb dX11_wears_15 rfl hl (by decide) rfl (fun ls hl => ?_)
  refine lv_iload_n hx hb dX11_wears_16 rfl (lv_at hl 0 rfl) ?_
  refine lv_iconst (v := 1) hx hb dX11_wears_17 (by decide) ?_
  refine lv_icmp_le (tgt := 25) hx hb dX11_wears_18 (by decide) (fun c4 => ?_) (fun c4 => ?_)
  ·
    refine lv_iconst (v := 1) hx hb dX11_wears_25 (by decide) ?_
    refine lv_istore_n (lv' := [(3, .int 1), (0, .ref h0), (1, .int (nI j)), (2, .int (nI k))]) hx hb dX11_wears_26 rfl hl (by decide) rfl (fun ls hl => ?_)
    refine lv_aload_n hx hb dX11_wears_27 rfl (lv_at hl 1 rfl) ?_
    refine va_get (D := (dC, dI)) (ci := 11) (v := .ref m3) (C := RX11) (T := TX11) (N := 46) hx hb hts hi_X11 hown hK hP 0 rfl rfl 3 (by decide) (hts (.fieldLink RX11 7 "LeftQuillsModel" "wing" "[I") (wmx 2 rfl)) (fun _ h9 => h9) e_h0_3 dX11_wears_28 ?_
    refine lv_iload_n hx hb dX11_wears_31 rfl (lv_at hl 2 rfl) ?_
    refine va_iald hx hb hK hP 1 0 rfl rfl (vp_in_nI (n := j) (N := 8) (by omega) (by decide)) dX11_wears_32 ?_
    refine W.eq (g2 := F0 m 33 ls [.int (fm3 j)]) (congrArg (fun y9 => F0 m 33 ls (.int (fm3 y9) :: [])) ((nI_clamp (n := j) (by omega)))) ?_
    refine lv_aload_n hx hb dX11_wears_33 rfl (lv_at hl 1 rfl) ?_
    refine va_get (D := (dC, dI)) (ci := 11) (v := .ref m7) (C := RX11) (T := TX11) (N := 46) hx hb hts hi_X11 hown hK hP 0 rfl rfl 7 (by decide) (hts (.fieldLink RX11 19 "LeftQuillsModel" "side" "[I") (wmx 3 rfl)) (fun _ h9 => h9) e_h0_7 dX11_wears_34 ?_
    refine lv_iload_n hx hb dX11_wears_37 rfl (lv_at hl 3 rfl) ?_
    refine va_iald hx hb hK hP 4 0 rfl rfl (vp_in_nI (n := k) (N := 4) (by omega) (by decide)) dX11_wears_38 ?_
    refine W.eq (g2 := F0 m 39 ls [.int (fm7 k), .int (fm3 j)]) (congrArg (fun y9 => F0 m 39 ls (.int (fm7 y9) :: [.int (fm3 j)])) ((nI_clamp (n := k) (by omega)))) ?_
    refine lv_icmp_ne (tgt := 46) hx hb dX11_wears_39 (by decide) (fun c5 => ?_) (fun c5 => ?_)
    ·
      refine lv_iload_n hx hb dX11_wears_46 rfl (lv_at hl 0 rfl) ?_
      refine lv_iconst (v := 4) hx hb dX11_wears_47 (by decide) ?_
      refine lv_iadd hx hb dX11_wears_48 ?_
      refine lv_topi (fun z6 ez6 => ?_)
      obtain rfl : z6 = 5 := ez6.trans (by decide)
      exact W.iret (v := 5) hx hb hr (fun t ht hW => ⟨⟨5, (fun _ => 0), rfl, (by have e := wr_m (w := fm3 j) (p := fm4 j) (s := fm7 k) (r := fm8 k) (hci j hj); rw [if_neg c5, mx_0 (fa_len c4)] at e; exact ((by decide : (5 : Int32) = 1 + 4).trans e.symm)), trivial⟩, hS.F ht⟩) hS.2.2 dX11_wears_49
    ·
      refine lv_iload_n hx hb dX11_wears_42 rfl (lv_at hl 0 rfl) ?_
      refine lv_goto (tgt := 49) hx hb dX11_wears_43 (by decide) ?_
      exact W.iret (v := 1) hx hb hr (fun t ht hW => ⟨⟨1, (fun _ => 0), rfl, (by have e := wr_m (w := fm3 j) (p := fm4 j) (s := fm7 k) (r := fm8 k) (hci j hj); rw [if_pos c5, mx_0 (fa_len c4)] at e; exact e.symm), trivial⟩, hS.F ht⟩) hS.2.2 dX11_wears_49
  ·
    refine lv_iload_n hx hb dX11_wears_21 rfl (lv_at hl 0 rfl) ?_
    refine lv_goto (tgt := 26) hx hb dX11_wears_22 (by decide) ?_
    refine lv_istore_n (lv' := [(3, .int ((12 * (fm8 k)) / (hdF (fm4 j) (fm5 j)))), (0, .ref h0), (1, .int (nI j)), (2, .int (nI k))]) hx hb dX11_wears_26 rfl hl (by decide) rfl (fun ls hl => ?_)
    refine lv_aload_n hx hb dX11_wears_27 rfl (lv_at hl 1 rfl) ?_
    refine va_get (D := (dC, dI)) (ci := 11) (v := .ref m3) (C := RX11) (T := TX11) (N := 46) hx hb hts hi_X11 hown hK hP 0 rfl rfl 3 (by decide) (hts (.fieldLink RX11 7 "LeftQuillsModel" "wing" "[I") (wmx 2 rfl)) (fun _ h9 => h9) e_h0_3 dX11_wears_28 ?_
    refine lv_iload_n hx hb dX11_wears_31 rfl (lv_at hl 2 rfl) ?_
    refine va_iald hx hb hK hP 1 0 rfl rfl (vp_in_nI (n := j) (N := 8) (by omega) (by decide)) dX11_wears_32 ?_
    refine W.eq (g2 := F0 m 33 ls [.int (fm3 j)]) (congrArg (fun y9 => F0 m 33 ls (.int (fm3 y9) :: [])) ((nI_clamp (n := j) (by omega)))) ?_
    refine lv_aload_n hx hb dX11_wears_33 rfl (lv_at hl 1 rfl) ?_
    refine va_get (D := (dC, dI)) (ci := 11) (v := .ref m7) (C := RX11) (T := TX11) (N := 46) hx hb hts hi_X11 hown hK hP 0 rfl rfl 7 (by decide) (hts (.fieldLink RX11 19 "LeftQuillsModel" "side" "[I") (wmx 3 rfl)) (fun _ h9 => h9) e_h0_7 dX11_wears_34 ?_
    refine lv_iload_n hx hb dX11_wears_37 rfl (lv_at hl 3 rfl) ?_
    refine va_iald hx hb hK hP 4 0 rfl rfl (vp_in_nI (n := k) (N := 4) (by omega) (by decide)) dX11_wears_38 ?_
    refine W.eq (g2 := F0 m 39 ls [.int (fm7 k), .int (fm3 j)]) (congrArg (fun y9 => F0 m 39 ls (.int (fm7 y9) :: [.int (fm3 j)])) ((nI_clamp (n := k) (by omega)))) ?_
    refine lv_icmp_ne (tgt := 46) hx hb dX11_wears_39 (by decide) (fun c7 => ?_) (fun c7 => ?_)
    ·
      refine lv_iload_n hx hb dX11_wears_46 rfl (lv_at hl 0 rfl) ?_
      refine lv_iconst (v := 4) hx hb dX11_wears_47 (by decide) ?_
      refine lv_iadd hx hb dX11_wears_48 ?_
      exact W.iret (v := ((12 * (fm8 k)) / (hdF (fm4 j) (fm5 j))) + 4) hx hb hr (fun t ht hW => ⟨⟨((12 * (fm8 k)) / (hdF (fm4 j) (fm5 j))) + 4, (fun _ => 0), rfl, (by have e := wr_m (w := fm3 j) (p := fm4 j) (s := fm7 k) (r := fm8 k) (hci j hj); rw [if_neg c7, mx_1 (fa_nle c4)] at e; exact e.symm), trivial⟩, hS.F ht⟩) hS.2.2 dX11_wears_49
    ·
      refine lv_iload_n hx hb dX11_wears_42 rfl (lv_at hl 0 rfl) ?_
      refine lv_goto (tgt := 49) hx hb dX11_wears_43 (by decide) ?_
      exact W.iret (v := (12 * (fm8 k)) / (hdF (fm4 j) (fm5 j))) hx hb hr (fun t ht hW => ⟨⟨(12 * (fm8 k)) / (hdF (fm4 j) (fm5 j)), (fun _ => 0), rfl, (by have e := wr_m (w := fm3 j) (p := fm4 j) (s := fm7 k) (r := fm8 k) (hci j hj); rw [if_pos c7, mx_1 (fa_nle c4)] at e; exact e.symm), trivial⟩, hS.F ht⟩) hS.2.2 dX11_wears_49
set_option maxHeartbeats 4000000 in
set_option maxRecDepth 100000 in
theorem c_X11_softBehindD (l : Launch) (dC : Nat → ClassId) (dI : Nat → Nat → Nat) (cI cZ cQ : ClassId) (h0 : Nat) (m3 : Nat) (m4 : Nat) (m5 : Nat) (m7 : Nat) (m8 : Nat) (f_h0 : List Value) (fm3 : Nat → Int32) (fm4 : Nat → Int32) (fm5 : Nat → Int32) (fm7 : Nat → Int32) (fm8 : Nat → Int32) (a0 : Int32) (j : Nat) (k : Nat) (nq : Nat) (sz : Nat) (e_h0_3 : fAt f_h0 3 = some (.ref m3)) (e_h0_4 : fAt f_h0 4 = some (.ref m4)) (e_h0_5 : fAt f_h0 5 = some (.ref m5)) (e_h0_7 : fAt f_h0 7 = some (.ref m7)) (e_h0_8 : fAt f_h0 8 = some (.ref m8)) (hnq : nq ≤ 8) (hci : cIn fm5 nq) (hj : j < nq) (hk : k < 4) : Met l yX11_softBehind wsX11_softBehind ({ frames := 2, cells := 0, slots := 0, locals := 85 }) (va_Pc [.ref h0, .int a0, .int (nI j), .int (nI k)] (fun U => U.heap.size = sz ∧ va_P (dC, dI) vwCl [(h0, .inr (11, f_h0)), (m3, .inl (cI, 8, .inl fm3)), (m4, .inl (cI, 8, .inl fm4)), (m5, .inl (cI, 8, .inl fm5)), (m7, .inl (cI, 4, .inl fm7)), (m8, .inl (cI, 4, .inl fm8))] U.heap ∧ va_K (dC, dI) vwCl (tys0 cI cZ cQ) U)) (va_Qi (fun (r : Int32) (u : Nat → Nat) => r = sbF a0 (wrF (fm3 j) (fm4 j) (fm5 j) (fm7 k) (fm8 k))) (fun (_ : Nat → Nat) (_ : State) => True) (fun _ : Nat => False)) 0 0 (fun _ : Nat => False) := by
  refine Met.ofW (cc := cX11_softBehind) (maxL := 5) (ret := (some .int)) (by decide) rfl ?_
  intro p e s m args below meth c s₁ B hml hv
  obtain ⟨rfl, hsz, hP, hK⟩ := hv
  have hx := B.exec
  have hb := B.bytes
  have hr := B.returns
  have hts := atoms_spec (ws := wsX11_softBehind) B.pre
  have hown : s.vm.findClass RX11 = some m.cls := findClass_of_methodNamed B.named
  have hlocks := B.notSynchronized
  subst hsz
  have hS : va_S (fun _ : Nat => False) s.heap s.heap [] := va_S.rf
  have hl := lv_entry ([.ref h0, .int a0, .int (nI j), .int (nI k)]) (n := 5) (Nat.le_of_ble_eq_true rfl)
  rw [lg_entry_eq]
  generalize (lg_sl ([.ref h0, .int a0, .int (nI j), .int (nI k)]) ++ List.replicate (5 - (lg_sl ([.ref h0, .int a0, .int (nI j), .int (nI k)])).length) Slot.unset).toArray = ls at hl ⊢
  have hl : lv_has ls 5 [(0, .ref h0), (1, .int a0), (2, .int (nI j)), (3, .int (nI k))] := hl
  refine lv_iload_n hx hb dX11_softBehind_0 rfl (lv_at hl 1 rfl) ?_
  refine lv_aload_n hx hb dX11_softBehind_1 rfl (lv_at hl 0 rfl) ?_
  refine lv_iload_n hx hb dX11_softBehind_2 rfl (lv_at hl 2 rfl) ?_
  refine lv_iload_n hx hb dX11_softBehind_3 rfl (lv_at hl 3 rfl) ?_
  have hPc := hP.sub (ws' := [(h0, .inr (11, f_h0)), (m3, .inl (cI, 8, .inl fm3)), (m4, .inl (cI, 8, .inl fm4)), (m5, .inl (cI, 8, .inl fm5)), (m7, .inl (cI, 4, .inl fm7)), (m8, .inl (cI, 4, .inl fm8))]) [0, 1, 2, 3, 4, 5] rfl
  refine va_calli (va_runV (As := [.int (nI j), .int (nI k)]) (rest := [.int a0]) ⟨hx, hb, hml, hown, hts⟩ (c_X11_wearsD l dC dI cI cZ cQ h0 m3 m4 m5 m7 m8 f_h0 fm3 fm4 fm5 fm7 fm8 j k nq s.heap.size e_h0_3 e_h0_4 e_h0_5 e_h0_7 e_h0_8 (by omega) (by first | assumption | decide) (by omega) (by omega)) (cwV 2 hts gX11_softBehind_X11_wears rfl rfl rfl hd_X11_wears_RX11 ⟨Nat.le_of_ble_eq_true rfl, Nat.le_of_ble_eq_true rfl⟩) (pv_R (va_recv hK hP (ci := 11) (q0 := 0) rfl rfl) hK hPc) rfl rfl hl.1 rfl (lv_room (Nat.le_of_ble_eq_true rfl)) dX11_softBehind_4 ⟨Nat.le_of_ble_eq_true rfl, Nat.le_of_ble_eq_true rfl⟩) hS (fun q _ h => False.elim h) (fun q h => False.elim h) (fun r1 u2 t H1 locs ht hvm hw3 hB hz1 hk1 hS => ?_)
  have hP := hP.kept (fun k q hk => hk1 q.1 (hP k q hk).lt (fun h => h))
  clear hz1 hk1 hPc
  generalize H1 = H at hP hS ht ⊢
  try dsimp only at hw3
  subst hw3
  refine lv_iadd hx hb dX11_softBehind_7 ?_
  refine lv_istore (lv' := [(4, .int (a0 + (wrF (fm3 j) (fm4 j) (fm5 j) (fm7 k) (fm8 k)))), (0, .ref h0), (1, .int a0), (2, .int (nI j)), (3, .int (nI k))]) hx hb dX11_softBehind_8 hl (by decide) rfl (fun ls hl => ?_)
  refine lv_iload hx hb dX11_softBehind_10 (lv_at hl 0 rfl) ?_
  refine lv_bipush (v := 99) hx hb dX11_softBehind_12 (by decide) ?_
  refine lv_icmp_ge (tgt := 22) hx hb dX11_softBehind_14 (by decide) (fun c4 => ?_) (fun c4 => ?_)
  ·
    refine lv_bipush (v := 99) hx hb dX11_softBehind_22 (by decide) ?_
    exact W.iret (v := 99) hx hb hr (fun t ht hW => ⟨⟨99, (fun _ => 0), rfl, ((if_neg (fa_len c4)).symm), trivial⟩, hS.F ht⟩) hS.2.2 dX11_softBehind_24
  ·
    refine lv_iload hx hb dX11_softBehind_17 (lv_at hl 0 rfl) ?_
    refine lv_goto (tgt := 24) hx hb dX11_softBehind_19 (by decide) ?_
    exact W.iret (v := a0 + (wrF (fm3 j) (fm4 j) (fm5 j) (fm7 k) (fm8 k))) hx hb hr (fun t ht hW => ⟨⟨a0 + (wrF (fm3 j) (fm4 j) (fm5 j) (fm7 k) (fm8 k)), (fun _ => 0), rfl, ((if_pos (fa_nle c4)).symm), trivial⟩, hS.F ht⟩) hS.2.2 dX11_softBehind_24
set_option maxHeartbeats 4000000 in
set_option maxRecDepth 100000 in
theorem c_X11_suitsD (l : Launch) (dC : Nat → ClassId) (dI : Nat → Nat → Nat) (cI cZ cQ : ClassId) (h0 : Nat) (m9 : Nat) (f_h0 : List Value) (fm9 : Nat → Int32) (a0 : Int32) (k : Nat) (sz : Nat) (e_h0_9 : fAt f_h0 9 = some (.ref m9)) (hk : k < 4) : Met l yX11_suits wsX11_suits ({ frames := 1, cells := 0, slots := 0, locals := 65 }) (va_Pc [.ref h0, .int a0, .int (nI k)] (fun U => U.heap.size = sz ∧ va_P (dC, dI) vwCl [(h0, .inr (11, f_h0)), (m9, .inl (cI, 4, .inl fm9))] U.heap ∧ va_K (dC, dI) vwCl (tys0 cI cZ cQ) U)) (va_Qi (fun (r : Int32) (u : Nat → Nat) => (r = 1 ∧ lmB a0 (fm9 k) = true) ∨ (r = 0 ∧ ¬ lmB a0 (fm9 k) = true)) (fun (_ : Nat → Nat) (_ : State) => True) (fun _ : Nat => False)) 0 0 (fun _ : Nat => False) := by
  refine Met.ofW (cc := cX11_suits) (maxL := 3) (ret := (some .boolean)) (by decide) rfl ?_
  intro p e s m args below meth c s₁ B hml hv
  obtain ⟨rfl, hsz, hP, hK⟩ := hv
  have hx := B.exec
  have hb := B.bytes
  have hr := B.returns
  have hts := atoms_spec (ws := wsX11_suits) B.pre
  have hown : s.vm.findClass RX11 = some m.cls := findClass_of_methodNamed B.named
  have hlocks := B.notSynchronized
  have hi_X11 : ∀ w ∈ u_ws RX11 TX11 46, w ∈ wsX11_suits := fun _ h => List.mem_cons_of_mem _ (List.mem_append_right _ (h))
  subst hsz
  have hS : va_S (fun _ : Nat => False) s.heap s.heap [] := va_S.rf
  have hl := lv_entry ([.ref h0, .int a0, .int (nI k)]) (n := 3) (Nat.le_of_ble_eq_true rfl)
  rw [lg_entry_eq]
  generalize (lg_sl ([.ref h0, .int a0, .int (nI k)]) ++ List.replicate (3 - (lg_sl ([.ref h0, .int a0, .int (nI k)])).length) Slot.unset).toArray = ls at hl ⊢
  have hl : lv_has ls 3 [(0, .ref h0), (1, .int a0), (2, .int (nI k))] := hl
  refine lv_iload_n hx hb dX11_suits_0 rfl (lv_at hl 1 rfl) ?_
  refine lv_aload_n hx hb dX11_suits_1 rfl (lv_at hl 0 rfl) ?_
  refine va_get (D := (dC, dI)) (ci := 11) (v := .ref m9) (C := RX11) (T := TX11) (N := 46) hx hb hts hi_X11 hown hK hP 0 rfl rfl 9 (by decide) (hts (.fieldLink RX11 25 "LeftQuillsModel" "wants" "[I") (wmx 1 rfl)) (fun _ h9 => h9) e_h0_9 dX11_suits_2 ?_
  refine lv_iload_n hx hb dX11_suits_5 rfl (lv_at hl 2 rfl) ?_
  refine va_iald hx hb hK hP 1 0 rfl rfl (vp_in_nI (n := k) (N := 4) (by omega) (by decide)) dX11_suits_6 ?_
  refine W.eq (g2 := F0 m 7 ls [.int (fm9 k), .int a0]) (congrArg (fun y9 => F0 m 7 ls (.int (fm9 y9) :: [.int a0])) ((nI_clamp (n := k) (by omega)))) ?_
  refine lv_isub hx hb dX11_suits_7 ?_
  refine lv_i2l hx hb dX11_suits_8 rfl ?_
  refine lv_ldc2 (v := (-1)) hx hb hown (hts (.constantLong RX11 198 (-1)) (wmx 2 rfl)) dX11_suits_9 ?_
  refine lv_topl (fun z1 ez1 => ?_)
  obtain rfl : z1 = ((-1) : Int32).toInt64 := ez1.trans (by decide)
  refine lv_lconst (v := 1) hx hb dX11_suits_12 (by decide) ?_
  refine lv_topl (fun z2 ez2 => ?_)
  obtain rfl : z2 = (1 : Int32).toInt64 := ez2.trans (by decide)
  have hPc := hP.sub (ws' := []) [] rfl
  refine va_calli (va_runS (As := [.long ((a0 - (fm9 k)).toInt64), .long (((-1) : Int32).toInt64), .long ((1 : Int32).toInt64)]) (rest := []) ⟨hx, hb, hml, hown, hts⟩ (c_X11_in l dC dI cI cZ cQ (a0 - (fm9 k)) (-1) 1 s.heap.size ) (va_cwS 3 hts gX11_suits_X11_in rfl rfl rfl (by decide +kernel) ⟨Nat.le_of_ble_eq_true rfl, Nat.le_of_ble_eq_true rfl⟩) (ps_R hK hPc) rfl rfl hl.1 rfl (lv_room (Nat.le_of_ble_eq_true rfl)) dX11_suits_13 ⟨Nat.le_of_ble_eq_true rfl, Nat.le_of_ble_eq_true rfl⟩) hS (fun q _ h => False.elim h) (fun q h => False.elim h) (fun r3 u4 t H1 locs ht hvm hw5 hB hz1 hk1 hS => ?_)
  have hP := hP.kept (fun k q hk => hk1 q.1 (hP k q hk).lt (fun h => h))
  clear hz1 hk1 hPc
  generalize H1 = H at hP hS ht ⊢
  try dsimp only at hw5
  rcases hw5 with ⟨rfl, hw5⟩ | ⟨rfl, hw5⟩
  ·
    exact W.zret (v := 1) hx hb hr (rfl) (fun t ht hW => ⟨⟨1, (fun _ => 0), rfl, Or.inl ⟨rfl, decide_eq_true hw5⟩, trivial⟩, hS.F ht⟩) hS.2.2 dX11_suits_16
  ·
    exact W.zret (v := 0) hx hb hr (rfl) (fun t ht hW => ⟨⟨0, (fun _ => 0), rfl, Or.inr ⟨rfl, fun h9 => hw5 (of_decide_eq_true h9)⟩, trivial⟩, hS.F ht⟩) hS.2.2 dX11_suits_16
set_option maxHeartbeats 4000000 in
set_option maxRecDepth 100000 in
theorem c_X11_pageD (l : Launch) (dC : Nat → ClassId) (dI : Nat → Nat → Nat) (cI cZ cQ : ClassId) (h0 : Nat) (m3 : Nat) (m4 : Nat) (m5 : Nat) (m7 : Nat) (m8 : Nat) (m9 : Nat) (m10 : Nat) (f_h0 : List Value) (fm3 : Nat → Int32) (fm4 : Nat → Int32) (fm5 : Nat → Int32) (fm7 : Nat → Int32) (fm8 : Nat → Int32) (fm9 : Nat → Int32) (fm10 : Nat → Int32) (j : Nat) (k : Nat) (nq : Nat) (sz : Nat) (e_h0_3 : fAt f_h0 3 = some (.ref m3)) (e_h0_4 : fAt f_h0 4 = some (.ref m4)) (e_h0_5 : fAt f_h0 5 = some (.ref m5)) (e_h0_7 : fAt f_h0 7 = some (.ref m7)) (e_h0_8 : fAt f_h0 8 = some (.ref m8)) (e_h0_9 : fAt f_h0 9 = some (.ref m9)) (e_h0_10 : fAt f_h0 10 = some (.ref m10)) (hnq : nq ≤ 8) (hci : cIn fm5 nq) (hj : j < nq) (hk : k < 4) : Met l yX11_page wsX11_page ({ frames := 3, cells := 0, slots := 0, locals := 109 }) (va_Pc [.ref h0, .int (nI j), .int (nI k)] (fun U => U.heap.size = sz ∧ va_P (dC, dI) vwCl [(h0, .inr (11, f_h0)), (m3, .inl (cI, 8, .inl fm3)), (m4, .inl (cI, 8, .inl fm4)), (m5, .inl (cI, 8, .inl fm5)), (m7, .inl (cI, 4, .inl fm7)), (m8, .inl (cI, 4, .inl fm8)), (m9, .inl (cI, 4, .inl fm9)), (m10, .inl (cI, 34, .inl fm10))] U.heap ∧ va_K (dC, dI) vwCl (tys0 cI cZ cQ) U ∧ va_D (fun _ => True) [(h0, .inr (11, f_h0)), (m3, .inl (cI, 8, .inl fm3)), (m4, .inl (cI, 8, .inl fm4)), (m5, .inl (cI, 8, .inl fm5)), (m7, .inl (cI, 4, .inl fm7)), (m8, .inl (cI, 4, .inl fm8)), (m9, .inl (cI, 4, .inl fm9)), (m10, .inl (cI, 34, .inl fm10))])) (va_Qi (fun (r : Int32) (u : Nat → Nat) => r = gdX lmB (wrF (fm3 j) (fm4 j) (fm5 j) (fm7 k) (fm8 k)) (fm9 k) j fm10) (fun (_ : Nat → Nat) (t : State) => ∃ (gg0 : Nat → Int32) , (gg0 = upd (upd fm10 (16 + j) (sbF (fm10 (16 + j)) (wrF (fm3 j) (fm4 j) (fm5 j) (fm7 k) (fm8 k)))) 32 ((upd fm10 (16 + j) (sbF (fm10 (16 + j)) (wrF (fm3 j) (fm4 j) (fm5 j) (fm7 k) (fm8 k)))) 32 + 2)) ∧ va_P (dC, dI) vwCl [(h0, .inr (11, f_h0)), (m3, .inl (cI, 8, .inl fm3)), (m4, .inl (cI, 8, .inl fm4)), (m5, .inl (cI, 8, .inl fm5)), (m7, .inl (cI, 4, .inl fm7)), (m8, .inl (cI, 4, .inl fm8)), (m9, .inl (cI, 4, .inl fm9)), (m10, .inl (cI, 34, .inl gg0))] t.heap ∧ va_D (va_A [(h0, .inr (11, f_h0)), (m3, .inl (cI, 8, .inl fm3)), (m4, .inl (cI, 8, .inl fm4)), (m5, .inl (cI, 8, .inl fm5)), (m7, .inl (cI, 4, .inl fm7)), (m8, .inl (cI, 4, .inl fm8)), (m9, .inl (cI, 4, .inl fm9)), (m10, .inl (cI, 34, .inl fm10))] sz) [(h0, .inr (11, f_h0)), (m3, .inl (cI, 8, .inl fm3)), (m4, .inl (cI, 8, .inl fm4)), (m5, .inl (cI, 8, .inl fm5)), (m7, .inl (cI, 4, .inl fm7)), (m8, .inl (cI, 4, .inl fm8)), (m9, .inl (cI, 4, .inl fm9)), (m10, .inl (cI, 34, .inl gg0))]) (va_A [(h0, .inr (11, f_h0)), (m3, .inl (cI, 8, .inl fm3)), (m4, .inl (cI, 8, .inl fm4)), (m5, .inl (cI, 8, .inl fm5)), (m7, .inl (cI, 4, .inl fm7)), (m8, .inl (cI, 4, .inl fm8)), (m9, .inl (cI, 4, .inl fm9)), (m10, .inl (cI, 34, .inl fm10))] sz)) 0 0 (va_A [(h0, .inr (11, f_h0)), (m3, .inl (cI, 8, .inl fm3)), (m4, .inl (cI, 8, .inl fm4)), (m5, .inl (cI, 8, .inl fm5)), (m7, .inl (cI, 4, .inl fm7)), (m8, .inl (cI, 4, .inl fm8)), (m9, .inl (cI, 4, .inl fm9)), (m10, .inl (cI, 34, .inl fm10))] sz) := by
  refine Met.ofW (cc := cX11_page) (maxL := 3) (ret := (some .boolean)) (by decide) rfl ?_
  intro p e s m args below meth c s₁ B hml hv
  obtain ⟨rfl, hsz, hP, hK, hD0⟩ := hv
  have hx := B.exec
  have hb := B.bytes
  have hr := B.returns
  have hts := atoms_spec (ws := wsX11_page) B.pre
  have hown : s.vm.findClass RX11 = some m.cls := findClass_of_methodNamed B.named
  have hlocks := B.notSynchronized
  have hi_X11 : ∀ w ∈ u_ws RX11 TX11 46, w ∈ wsX11_page := fun _ h => List.mem_cons_of_mem _ (List.mem_append_right _ (h))
  subst hsz
  have hD := hD0.self (sz := s.heap.size)
  generalize hAe : va_A [(h0, .inr (11, f_h0)), (m3, .inl (cI, 8, .inl fm3)), (m4, .inl (cI, 8, .inl fm4)), (m5, .inl (cI, 8, .inl fm5)), (m7, .inl (cI, 4, .inl fm7)), (m8, .inl (cI, 4, .inl fm8)), (m9, .inl (cI, 4, .inl fm9)), (m10, .inl (cI, 34, .inl fm10))] s.heap.size = A at hD ⊢
  have hA : ∀ q : Nat, s.heap.size ≤ q → A q := fun q h => by rw [← hAe]; exact Or.inr h
  have hS : va_S A s.heap s.heap [] := va_S.rf
  have hl := lv_entry ([.ref h0, .int (nI j), .int (nI k)]) (n := 3) (Nat.le_of_ble_eq_true rfl)
  rw [lg_entry_eq]
  generalize (lg_sl ([.ref h0, .int (nI j), .int (nI k)]) ++ List.replicate (3 - (lg_sl ([.ref h0, .int (nI j), .int (nI k)])).length) Slot.unset).toArray = ls at hl ⊢
  have hl : lv_has ls 3 [(0, .ref h0), (1, .int (nI j)), (2, .int (nI k))] := hl
  refine lv_aload_n hx hb dX11_page_0 rfl (lv_at hl 0 rfl) ?_
  refine va_get (D := (dC, dI)) (ci := 11) (v := .ref m10) (C := RX11) (T := TX11) (N := 46) hx hb hts hi_X11 hown hK hP 0 rfl rfl 10 (by decide) (hts (.fieldLink RX11 28 "LeftQuillsModel" "now" "[I") (wmx 1 rfl)) (fun _ h9 => h9) e_h0_10 dX11_page_1 ?_
  refine lv_bipush (v := 16) hx hb dX11_page_4 (by decide) ?_
  refine lv_iload_n hx hb dX11_page_6 rfl (lv_at hl 1 rfl) ?_
  refine lv_iadd hx hb dX11_page_7 ?_
  refine lv_topi (fun z1 ez1 => ?_)
  obtain rfl : z1 = nI (16 + j) := ez1.trans (nI_add 16 j)
  refine lv_aload_n hx hb dX11_page_8 rfl (lv_at hl 0 rfl) ?_
  refine lv_aload_n hx hb dX11_page_9 rfl (lv_at hl 0 rfl) ?_
  refine va_get (D := (dC, dI)) (ci := 11) (v := .ref m10) (C := RX11) (T := TX11) (N := 46) hx hb hts hi_X11 hown hK hP 0 rfl rfl 10 (by decide) (hts (.fieldLink RX11 28 "LeftQuillsModel" "now" "[I") (wmx 1 rfl)) (fun _ h9 => h9) e_h0_10 dX11_page_10 ?_
  refine lv_bipush (v := 16) hx hb dX11_page_13 (by decide) ?_
  refine lv_iload_n hx hb dX11_page_15 rfl (lv_at hl 1 rfl) ?_
  refine lv_iadd hx hb dX11_page_16 ?_
  refine lv_topi (fun z2 ez2 => ?_)
  obtain rfl : z2 = nI (16 + j) := ez2.trans (nI_add 16 j)
  refine va_iald hx hb hK hP 7 0 rfl rfl (vp_in_nI (n := 16 + j) (N := 34) (by omega) (by decide)) dX11_page_17 ?_
  refine W.eq (g2 := F0 m 18 ls [.int (fm10 (16 + j)), .ref h0, .int (nI (16 + j)), .ref m10]) (congrArg (fun y9 => F0 m 18 ls (.int (fm10 y9) :: [.ref h0, .int (nI (16 + j)), .ref m10])) ((nI_clamp (n := 16 + j) (by omega)))) ?_
  refine lv_iload_n hx hb dX11_page_18 rfl (lv_at hl 1 rfl) ?_
  refine lv_iload_n hx hb dX11_page_19 rfl (lv_at hl 2 rfl) ?_
  have hPc := hP.sub (ws' := [(h0, .inr (11, f_h0)), (m3, .inl (cI, 8, .inl fm3)), (m4, .inl (cI, 8, .inl fm4)), (m5, .inl (cI, 8, .inl fm5)), (m7, .inl (cI, 4, .inl fm7)), (m8, .inl (cI, 4, .inl fm8))]) [0, 1, 2, 3, 4, 5] rfl
  refine va_calli (va_runV (As := [.int (fm10 (16 + j)), .int (nI j), .int (nI k)]) (rest := [.int (nI (16 + j)), .ref m10]) ⟨hx, hb, hml, hown, hts⟩ (c_X11_softBehindD l dC dI cI cZ cQ h0 m3 m4 m5 m7 m8 f_h0 fm3 fm4 fm5 fm7 fm8 (fm10 (16 + j)) j k nq s.heap.size e_h0_3 e_h0_4 e_h0_5 e_h0_7 e_h0_8 (by omega) (by first | assumption | decide) (by omega) (by omega)) (cwV 3 hts gX11_page_X11_softBehind rfl rfl rfl hd_X11_softBehind_RX11 ⟨Nat.le_of_ble_eq_true rfl, Nat.le_of_ble_eq_true rfl⟩) (pv_R (va_recv hK hP (ci := 11) (q0 := 0) rfl rfl) hK hPc) rfl rfl hl.1 rfl (lv_room (Nat.le_of_ble_eq_true rfl)) dX11_page_20 ⟨Nat.le_of_ble_eq_true rfl, Nat.le_of_ble_eq_true rfl⟩) hS (fun q _ h => False.elim h) (fun q h => False.elim h) (fun r3 u4 t H1 locs ht hvm hw5 hB hz1 hk1 hS => ?_)
  have hP := hP.kept (fun k q hk => hk1 q.1 (hP k q hk).lt (fun h => h))
  clear hz1 hk1 hPc
  generalize H1 = H at hP hS ht ⊢
  try dsimp only at hw5
  subst hw5
  refine va_iast hx hb hK hP hD hS 7 0 rfl rfl (vp_in_nI (n := 16 + j) (N := 34) (by omega) (by decide)) dX11_page_23 (fun H locs hP hD hS => ?_)
  have hcl := (nI_clamp (n := 16 + j) (by omega))
  rw [hcl] at hP hD
  clear hcl
  have hPD : pdW (dC, dI) vwCl A [(h0, .inr (11, f_h0)), (m3, .inl (cI, 8, .inl fm3)), (m4, .inl (cI, 8, .inl fm4)), (m5, .inl (cI, 8, .inl fm5)), (m7, .inl (cI, 4, .inl fm7)), (m8, .inl (cI, 4, .inl fm8)), (m9, .inl (cI, 4, .inl fm9)), (m10, .inl (cI, 34, .inl (upd fm10 (16 + j) (sbF (fm10 (16 + j)) (wrF (fm3 j) (fm4 j) (fm5 j) (fm7 k) (fm8 k))))))] H := ⟨hP, hD⟩
  have hP := hPD.1
  have hD := hPD.2
  clear hPD
  refine lv_aload_n hx hb dX11_page_24 rfl (lv_at hl 0 rfl) ?_
  refine va_get (D := (dC, dI)) (ci := 11) (v := .ref m10) (C := RX11) (T := TX11) (N := 46) hx hb hts hi_X11 hown hK hP 0 rfl rfl 10 (by decide) (hts (.fieldLink RX11 28 "LeftQuillsModel" "now" "[I") (wmx 1 rfl)) (fun _ h9 => h9) e_h0_10 dX11_page_25 ?_
  refine lv_bipush (v := 32) hx hb dX11_page_28 (by decide) ?_
  refine lv_dup2_11 hx hb dX11_page_30 rfl rfl ?_
  refine va_iald hx hb hK hP 7 0 rfl rfl (vp_in_iff.mpr ⟨by decide, by decide⟩) dX11_page_31 ?_
  refine W.eq (g2 := F0 m 32 ls [.int ((upd fm10 (16 + j) (sbF (fm10 (16 + j)) (wrF (fm3 j) (fm4 j) (fm5 j) (fm7 k) (fm8 k)))) 32), .int 32, .ref m10]) (congrArg (fun y9 => F0 m 32 ls (.int ((upd fm10 (16 + j) (sbF (fm10 (16 + j)) (wrF (fm3 j) (fm4 j) (fm5 j) (fm7 k) (fm8 k)))) y9) :: [.int 32, .ref m10])) ((show ((32 : Int32)).toNatClampNeg = 32 from by decide))) ?_
  refine lv_iconst (v := 2) hx hb dX11_page_32 (by decide) ?_
  refine lv_iadd hx hb dX11_page_33 ?_
  refine va_iast hx hb hK hP hD hS 7 0 rfl rfl (vp_in_iff.mpr ⟨by decide, by decide⟩) dX11_page_34 (fun H locs hP hD hS => ?_)
  have hcl := (show ((32 : Int32)).toNatClampNeg = 32 from by decide)
  rw [hcl] at hP hD
  clear hcl
  have hPD : pdW (dC, dI) vwCl A [(h0, .inr (11, f_h0)), (m3, .inl (cI, 8, .inl fm3)), (m4, .inl (cI, 8, .inl fm4)), (m5, .inl (cI, 8, .inl fm5)), (m7, .inl (cI, 4, .inl fm7)), (m8, .inl (cI, 4, .inl fm8)), (m9, .inl (cI, 4, .inl fm9)), (m10, .inl (cI, 34, .inl (upd (upd fm10 (16 + j) (sbF (fm10 (16 + j)) (wrF (fm3 j) (fm4 j) (fm5 j) (fm7 k) (fm8 k)))) 32 (((upd fm10 (16 + j) (sbF (fm10 (16 + j)) (wrF (fm3 j) (fm4 j) (fm5 j) (fm7 k) (fm8 k)))) 32) + 2))))] H := ⟨hP, hD⟩
  have hP := hPD.1
  have hD := hPD.2
  clear hPD
  refine lv_aload_n hx hb dX11_page_35 rfl (lv_at hl 0 rfl) ?_
  refine va_get (D := (dC, dI)) (ci := 11) (v := .ref m10) (C := RX11) (T := TX11) (N := 46) hx hb hts hi_X11 hown hK hP 0 rfl rfl 10 (by decide) (hts (.fieldLink RX11 28 "LeftQuillsModel" "now" "[I") (wmx 1 rfl)) (fun _ h9 => h9) e_h0_10 dX11_page_36 ?_
  refine lv_bipush (v := 16) hx hb dX11_page_39 (by decide) ?_
  refine lv_iload_n hx hb dX11_page_41 rfl (lv_at hl 1 rfl) ?_
  refine lv_iadd hx hb dX11_page_42 ?_
  refine lv_topi (fun z8 ez8 => ?_)
  obtain rfl : z8 = nI (16 + j) := ez8.trans (nI_add 16 j)
  refine va_iald hx hb hK hP 7 0 rfl rfl (vp_in_nI (n := 16 + j) (N := 34) (by omega) (by decide)) dX11_page_43 ?_
  refine W.eq (g2 := F0 m 44 ls [.int ((upd (upd fm10 (16 + j) (sbF (fm10 (16 + j)) (wrF (fm3 j) (fm4 j) (fm5 j) (fm7 k) (fm8 k)))) 32 (((upd fm10 (16 + j) (sbF (fm10 (16 + j)) (wrF (fm3 j) (fm4 j) (fm5 j) (fm7 k) (fm8 k)))) 32) + 2)) (16 + j))]) (congrArg (fun y9 => F0 m 44 ls (.int ((upd (upd fm10 (16 + j) (sbF (fm10 (16 + j)) (wrF (fm3 j) (fm4 j) (fm5 j) (fm7 k) (fm8 k)))) 32 (((upd fm10 (16 + j) (sbF (fm10 (16 + j)) (wrF (fm3 j) (fm4 j) (fm5 j) (fm7 k) (fm8 k)))) 32) + 2)) y9) :: [])) ((nI_clamp (n := 16 + j) (by omega)))) ?_
  refine lv_topi (fun z9 ez9 => ?_)
  obtain rfl : z9 = sbF (fm10 (16 + j)) (wrF (fm3 j) (fm4 j) (fm5 j) (fm7 k) (fm8 k)) := ez9.trans ((pk_un (by omega)).trans pk_us)
  refine lv_bipush (v := 50) hx hb dX11_page_44 (by decide) ?_
  refine lv_icmp_gt (tgt := 70) hx hb dX11_page_46 (by decide) (fun c10 => ?_) (fun c10 => ?_)
  ·
    refine lv_iconst (v := 0) hx hb dX11_page_70 (by decide) ?_
    have hP9 := hP.sub (ws' := [(h0, .inr (11, f_h0)), (m3, .inl (cI, 8, .inl fm3)), (m4, .inl (cI, 8, .inl fm4)), (m5, .inl (cI, 8, .inl fm5)), (m7, .inl (cI, 4, .inl fm7)), (m8, .inl (cI, 4, .inl fm8)), (m9, .inl (cI, 4, .inl fm9)), (m10, .inl (cI, 34, .inl (upd (upd fm10 (16 + j) (sbF (fm10 (16 + j)) (wrF (fm3 j) (fm4 j) (fm5 j) (fm7 k) (fm8 k)))) 32 (((upd fm10 (16 + j) (sbF (fm10 (16 + j)) (wrF (fm3 j) (fm4 j) (fm5 j) (fm7 k) (fm8 k)))) 32) + 2))))]) [0, 1, 2, 3, 4, 5, 6, 7] rfl
    have hD9 := hD.sub (ws' := [(h0, .inr (11, f_h0)), (m3, .inl (cI, 8, .inl fm3)), (m4, .inl (cI, 8, .inl fm4)), (m5, .inl (cI, 8, .inl fm5)), (m7, .inl (cI, 4, .inl fm7)), (m8, .inl (cI, 4, .inl fm8)), (m9, .inl (cI, 4, .inl fm9)), (m10, .inl (cI, 34, .inl (upd (upd fm10 (16 + j) (sbF (fm10 (16 + j)) (wrF (fm3 j) (fm4 j) (fm5 j) (fm7 k) (fm8 k)))) 32 (((upd fm10 (16 + j) (sbF (fm10 (16 + j)) (wrF (fm3 j) (fm4 j) (fm5 j) (fm7 k) (fm8 k)))) 32) + 2))))]) [0, 1, 2, 3, 4, 5, 6, 7] (by decide +kernel) rfl
    exact W.zret (v := 0) hx hb hr (rfl) (fun t ht hW => ⟨⟨0, (fun _ => 0), rfl, ((if_neg (fun h9 => absurd h9.1 (fa_ltn c10))).symm), ⟨(upd (upd fm10 (16 + j) (sbF (fm10 (16 + j)) (wrF (fm3 j) (fm4 j) (fm5 j) (fm7 k) (fm8 k)))) 32 (((upd fm10 (16 + j) (sbF (fm10 (16 + j)) (wrF (fm3 j) (fm4 j) (fm5 j) (fm7 k) (fm8 k)))) 32) + 2)), rfl, va_hq ht hP9, hD9⟩⟩, hS.F ht⟩) hS.2.2 dX11_page_71
  ·
    refine lv_aload_n hx hb dX11_page_49 rfl (lv_at hl 0 rfl) ?_
    refine lv_aload_n hx hb dX11_page_50 rfl (lv_at hl 0 rfl) ?_
    refine va_get (D := (dC, dI)) (ci := 11) (v := .ref m10) (C := RX11) (T := TX11) (N := 46) hx hb hts hi_X11 hown hK hP 0 rfl rfl 10 (by decide) (hts (.fieldLink RX11 28 "LeftQuillsModel" "now" "[I") (wmx 1 rfl)) (fun _ h9 => h9) e_h0_10 dX11_page_51 ?_
    refine lv_bipush (v := 8) hx hb dX11_page_54 (by decide) ?_
    refine lv_iload_n hx hb dX11_page_56 rfl (lv_at hl 1 rfl) ?_
    refine lv_iadd hx hb dX11_page_57 ?_
    refine lv_topi (fun z11 ez11 => ?_)
    obtain rfl : z11 = nI (8 + j) := ez11.trans (nI_add 8 j)
    refine va_iald hx hb hK hP 7 0 rfl rfl (vp_in_nI (n := 8 + j) (N := 34) (by omega) (by decide)) dX11_page_58 ?_
    refine W.eq (g2 := F0 m 59 ls [.int ((upd (upd fm10 (16 + j) (sbF (fm10 (16 + j)) (wrF (fm3 j) (fm4 j) (fm5 j) (fm7 k) (fm8 k)))) 32 (((upd fm10 (16 + j) (sbF (fm10 (16 + j)) (wrF (fm3 j) (fm4 j) (fm5 j) (fm7 k) (fm8 k)))) 32) + 2)) (8 + j)), .ref h0]) (congrArg (fun y9 => F0 m 59 ls (.int ((upd (upd fm10 (16 + j) (sbF (fm10 (16 + j)) (wrF (fm3 j) (fm4 j) (fm5 j) (fm7 k) (fm8 k)))) 32 (((upd fm10 (16 + j) (sbF (fm10 (16 + j)) (wrF (fm3 j) (fm4 j) (fm5 j) (fm7 k) (fm8 k)))) 32) + 2)) y9) :: [.ref h0])) ((nI_clamp (n := 8 + j) (by omega)))) ?_
    refine lv_topi (fun z12 ez12 => ?_)
    obtain rfl : z12 = fm10 (8 + j) := ez12.trans ((pk_un (by omega)).trans (pk_un (by omega)))
    refine lv_iload_n hx hb dX11_page_59 rfl (lv_at hl 2 rfl) ?_
    have hPc := hP.sub (ws' := [(h0, .inr (11, f_h0)), (m9, .inl (cI, 4, .inl fm9))]) [0, 6] rfl
    refine va_calli (va_runV (As := [.int (fm10 (8 + j)), .int (nI k)]) (rest := []) ⟨hx, hb, hml, hown, hts⟩ (c_X11_suitsD l dC dI cI cZ cQ h0 m9 f_h0 fm9 (fm10 (8 + j)) k H.size e_h0_9 (by omega)) (cwV 2 hts gX11_page_X11_suits rfl rfl rfl hd_X11_suits_RX11 ⟨Nat.le_of_ble_eq_true rfl, Nat.le_of_ble_eq_true rfl⟩) (pv_R (va_recv hK hP (ci := 11) (q0 := 0) rfl rfl) hK hPc) rfl rfl hl.1 rfl (lv_room (Nat.le_of_ble_eq_true rfl)) dX11_page_60 ⟨Nat.le_of_ble_eq_true rfl, Nat.le_of_ble_eq_true rfl⟩) hS (fun q _ h => False.elim h) (fun q h => False.elim h) (fun r13 u14 t H1 locs ht hvm hw15 hB hz1 hk1 hS => ?_)
    have hP := hP.kept (fun k q hk => hk1 q.1 (hP k q hk).lt (fun h => h))
    clear hz1 hk1 hPc
    generalize H1 = H at hP hS ht ⊢
    try dsimp only at hw15
    rcases hw15 with ⟨rfl, hw15⟩ | ⟨rfl, hw15⟩
    ·
      refine lv_if_eq (tgt := 70) hx hb dX11_page_63 (by decide) (fun c16 => ?_) (fun c16 => ?_)
      · exact absurd c16 (by decide)
      clear c16
      refine lv_iconst (v := 1) hx hb dX11_page_66 (by decide) ?_
      refine lv_goto (tgt := 71) hx hb dX11_page_67 (by decide) ?_
      have hP9 := hP.sub (ws' := [(h0, .inr (11, f_h0)), (m3, .inl (cI, 8, .inl fm3)), (m4, .inl (cI, 8, .inl fm4)), (m5, .inl (cI, 8, .inl fm5)), (m7, .inl (cI, 4, .inl fm7)), (m8, .inl (cI, 4, .inl fm8)), (m9, .inl (cI, 4, .inl fm9)), (m10, .inl (cI, 34, .inl (upd (upd fm10 (16 + j) (sbF (fm10 (16 + j)) (wrF (fm3 j) (fm4 j) (fm5 j) (fm7 k) (fm8 k)))) 32 (((upd fm10 (16 + j) (sbF (fm10 (16 + j)) (wrF (fm3 j) (fm4 j) (fm5 j) (fm7 k) (fm8 k)))) 32) + 2))))]) [0, 1, 2, 3, 4, 5, 6, 7] rfl
      have hD9 := hD.sub (ws' := [(h0, .inr (11, f_h0)), (m3, .inl (cI, 8, .inl fm3)), (m4, .inl (cI, 8, .inl fm4)), (m5, .inl (cI, 8, .inl fm5)), (m7, .inl (cI, 4, .inl fm7)), (m8, .inl (cI, 4, .inl fm8)), (m9, .inl (cI, 4, .inl fm9)), (m10, .inl (cI, 34, .inl (upd (upd fm10 (16 + j) (sbF (fm10 (16 + j)) (wrF (fm3 j) (fm4 j) (fm5 j) (fm7 k) (fm8 k)))) 32 (((upd fm10 (16 + j) (sbF (fm10 (16 + j)) (wrF (fm3 j) (fm4 j) (fm5 j) (fm7 k) (fm8 k)))) 32) + 2))))]) [0, 1, 2, 3, 4, 5, 6, 7] (by decide +kernel) rfl
      exact W.zret (v := 1) hx hb hr (rfl) (fun t ht hW => ⟨⟨1, (fun _ => 0), rfl, ((if_pos ⟨fa_nlt c10, hw15⟩).symm), ⟨(upd (upd fm10 (16 + j) (sbF (fm10 (16 + j)) (wrF (fm3 j) (fm4 j) (fm5 j) (fm7 k) (fm8 k)))) 32 (((upd fm10 (16 + j) (sbF (fm10 (16 + j)) (wrF (fm3 j) (fm4 j) (fm5 j) (fm7 k) (fm8 k)))) 32) + 2)), rfl, va_hq ht hP9, hD9⟩⟩, hS.F ht⟩) hS.2.2 dX11_page_71
    ·
      refine lv_if_eq (tgt := 70) hx hb dX11_page_63 (by decide) (fun c17 => ?_) (fun c17 => ?_)
      rotate_left
      · exact absurd c17 (by decide)
      clear c17
      refine lv_iconst (v := 0) hx hb dX11_page_70 (by decide) ?_
      have hP9 := hP.sub (ws' := [(h0, .inr (11, f_h0)), (m3, .inl (cI, 8, .inl fm3)), (m4, .inl (cI, 8, .inl fm4)), (m5, .inl (cI, 8, .inl fm5)), (m7, .inl (cI, 4, .inl fm7)), (m8, .inl (cI, 4, .inl fm8)), (m9, .inl (cI, 4, .inl fm9)), (m10, .inl (cI, 34, .inl (upd (upd fm10 (16 + j) (sbF (fm10 (16 + j)) (wrF (fm3 j) (fm4 j) (fm5 j) (fm7 k) (fm8 k)))) 32 (((upd fm10 (16 + j) (sbF (fm10 (16 + j)) (wrF (fm3 j) (fm4 j) (fm5 j) (fm7 k) (fm8 k)))) 32) + 2))))]) [0, 1, 2, 3, 4, 5, 6, 7] rfl
      have hD9 := hD.sub (ws' := [(h0, .inr (11, f_h0)), (m3, .inl (cI, 8, .inl fm3)), (m4, .inl (cI, 8, .inl fm4)), (m5, .inl (cI, 8, .inl fm5)), (m7, .inl (cI, 4, .inl fm7)), (m8, .inl (cI, 4, .inl fm8)), (m9, .inl (cI, 4, .inl fm9)), (m10, .inl (cI, 34, .inl (upd (upd fm10 (16 + j) (sbF (fm10 (16 + j)) (wrF (fm3 j) (fm4 j) (fm5 j) (fm7 k) (fm8 k)))) 32 (((upd fm10 (16 + j) (sbF (fm10 (16 + j)) (wrF (fm3 j) (fm4 j) (fm5 j) (fm7 k) (fm8 k)))) 32) + 2))))]) [0, 1, 2, 3, 4, 5, 6, 7] (by decide +kernel) rfl
      exact W.zret (v := 0) hx hb hr (rfl) (fun t ht hW => ⟨⟨0, (fun _ => 0), rfl, ((if_neg (fun h9 => hw15 h9.2)).symm), ⟨(upd (upd fm10 (16 + j) (sbF (fm10 (16 + j)) (wrF (fm3 j) (fm4 j) (fm5 j) (fm7 k) (fm8 k)))) 32 (((upd fm10 (16 + j) (sbF (fm10 (16 + j)) (wrF (fm3 j) (fm4 j) (fm5 j) (fm7 k) (fm8 k)))) 32) + 2)), rfl, va_hq ht hP9, hD9⟩⟩, hS.F ht⟩) hS.2.2 dX11_page_71
set_option maxHeartbeats 4000000 in
set_option maxRecDepth 100000 in
theorem c_X11_pageOfD (l : Launch) (dC : Nat → ClassId) (dI : Nat → Nat → Nat) (cI cZ cQ : ClassId) (h0 : Nat) (m3 : Nat) (m4 : Nat) (m5 : Nat) (m7 : Nat) (m8 : Nat) (m9 : Nat) (m10 : Nat) (f_h0 : List Value) (fm3 : Nat → Int32) (fm4 : Nat → Int32) (fm5 : Nat → Int32) (fm7 : Nat → Int32) (fm8 : Nat → Int32) (fm9 : Nat → Int32) (fm10 : Nat → Int32) (j : Nat) (k : Nat) (nq : Nat) (sz : Nat) (e_h0_3 : fAt f_h0 3 = some (.ref m3)) (e_h0_4 : fAt f_h0 4 = some (.ref m4)) (e_h0_5 : fAt f_h0 5 = some (.ref m5)) (e_h0_7 : fAt f_h0 7 = some (.ref m7)) (e_h0_8 : fAt f_h0 8 = some (.ref m8)) (e_h0_9 : fAt f_h0 9 = some (.ref m9)) (e_h0_10 : fAt f_h0 10 = some (.ref m10)) (hnq : nq ≤ 8) (hci : cIn fm5 nq) (hj : j < nq) (hk : k < 4) : Met l yX11_pageOf wsX11_pageOf ({ frames := 4, cells := 0, slots := 0, locals := 131 }) (va_Pc [.ref h0, .int (nI j), .int (nI k)] (fun U => U.heap.size = sz ∧ va_P (dC, dI) vwCl [(h0, .inr (11, f_h0)), (m3, .inl (cI, 8, .inl fm3)), (m4, .inl (cI, 8, .inl fm4)), (m5, .inl (cI, 8, .inl fm5)), (m7, .inl (cI, 4, .inl fm7)), (m8, .inl (cI, 4, .inl fm8)), (m9, .inl (cI, 4, .inl fm9)), (m10, .inl (cI, 34, .inl fm10))] U.heap ∧ va_K (dC, dI) vwCl (tys0 cI cZ cQ) U ∧ va_D (fun _ => True) [(h0, .inr (11, f_h0)), (m3, .inl (cI, 8, .inl fm3)), (m4, .inl (cI, 8, .inl fm4)), (m5, .inl (cI, 8, .inl fm5)), (m7, .inl (cI, 4, .inl fm7)), (m8, .inl (cI, 4, .inl fm8)), (m9, .inl (cI, 4, .inl fm9)), (m10, .inl (cI, 34, .inl fm10))])) (va_Qv (fun (u : Nat → Nat) => True) (fun (_ : Nat → Nat) (t : State) => ∃ (gg0 : Nat → Int32) , (gg0 = pgX lmB (wrF (fm3 j) (fm4 j) (fm5 j) (fm7 k) (fm8 k)) (fm9 k) j k fm10) ∧ va_P (dC, dI) vwCl [(h0, .inr (11, f_h0)), (m3, .inl (cI, 8, .inl fm3)), (m4, .inl (cI, 8, .inl fm4)), (m5, .inl (cI, 8, .inl fm5)), (m7, .inl (cI, 4, .inl fm7)), (m8, .inl (cI, 4, .inl fm8)), (m9, .inl (cI, 4, .inl fm9)), (m10, .inl (cI, 34, .inl gg0))] t.heap ∧ va_D (va_A [(h0, .inr (11, f_h0)), (m3, .inl (cI, 8, .inl fm3)), (m4, .inl (cI, 8, .inl fm4)), (m5, .inl (cI, 8, .inl fm5)), (m7, .inl (cI, 4, .inl fm7)), (m8, .inl (cI, 4, .inl fm8)), (m9, .inl (cI, 4, .inl fm9)), (m10, .inl (cI, 34, .inl fm10))] sz) [(h0, .inr (11, f_h0)), (m3, .inl (cI, 8, .inl fm3)), (m4, .inl (cI, 8, .inl fm4)), (m5, .inl (cI, 8, .inl fm5)), (m7, .inl (cI, 4, .inl fm7)), (m8, .inl (cI, 4, .inl fm8)), (m9, .inl (cI, 4, .inl fm9)), (m10, .inl (cI, 34, .inl gg0))]) (va_A [(h0, .inr (11, f_h0)), (m3, .inl (cI, 8, .inl fm3)), (m4, .inl (cI, 8, .inl fm4)), (m5, .inl (cI, 8, .inl fm5)), (m7, .inl (cI, 4, .inl fm7)), (m8, .inl (cI, 4, .inl fm8)), (m9, .inl (cI, 4, .inl fm9)), (m10, .inl (cI, 34, .inl fm10))] sz)) 0 0 (va_A [(h0, .inr (11, f_h0)), (m3, .inl (cI, 8, .inl fm3)), (m4, .inl (cI, 8, .inl fm4)), (m5, .inl (cI, 8, .inl fm5)), (m7, .inl (cI, 4, .inl fm7)), (m8, .inl (cI, 4, .inl fm8)), (m9, .inl (cI, 4, .inl fm9)), (m10, .inl (cI, 34, .inl fm10))] sz) := by
  refine Met.ofW (cc := cX11_pageOf) (maxL := 4) (ret := none) (by decide) rfl ?_
  intro p e s m args below meth c s₁ B hml hv
  obtain ⟨rfl, hsz, hP, hK, hD0⟩ := hv
  have hx := B.exec
  have hb := B.bytes
  have hr := B.returns
  have hts := atoms_spec (ws := wsX11_pageOf) B.pre
  have hown : s.vm.findClass RX11 = some m.cls := findClass_of_methodNamed B.named
  have hlocks := B.notSynchronized
  have hi_X11 : ∀ w ∈ u_ws RX11 TX11 46, w ∈ wsX11_pageOf := fun _ h => List.mem_cons_of_mem _ (List.mem_append_right _ (h))
  subst hsz
  have hD := hD0.self (sz := s.heap.size)
  generalize hAe : va_A [(h0, .inr (11, f_h0)), (m3, .inl (cI, 8, .inl fm3)), (m4, .inl (cI, 8, .inl fm4)), (m5, .inl (cI, 8, .inl fm5)), (m7, .inl (cI, 4, .inl fm7)), (m8, .inl (cI, 4, .inl fm8)), (m9, .inl (cI, 4, .inl fm9)), (m10, .inl (cI, 34, .inl fm10))] s.heap.size = A at hD ⊢
  have hA : ∀ q : Nat, s.heap.size ≤ q → A q := fun q h => by rw [← hAe]; exact Or.inr h
  have hS : va_S A s.heap s.heap [] := va_S.rf
  have hl := lv_entry ([.ref h0, .int (nI j), .int (nI k)]) (n := 4) (Nat.le_of_ble_eq_true rfl)
  rw [lg_entry_eq]
  generalize (lg_sl ([.ref h0, .int (nI j), .int (nI k)]) ++ List.replicate (4 - (lg_sl ([.ref h0, .int (nI j), .int (nI k)])).length) Slot.unset).toArray = ls at hl ⊢
  have hl : lv_has ls 4 [(0, .ref h0), (1, .int (nI j)), (2, .int (nI k))] := hl
  refine lv_aload_n hx hb dX11_pageOf_0 rfl (lv_at hl 0 rfl) ?_
  refine lv_iload_n hx hb dX11_pageOf_1 rfl (lv_at hl 1 rfl) ?_
  refine lv_iload_n hx hb dX11_pageOf_2 rfl (lv_at hl 2 rfl) ?_
  have hc9 := va_cut (W' := [(h0, .inr (11, f_h0)), (m3, .inl (cI, 8, .inl fm3)), (m4, .inl (cI, 8, .inl fm4)), (m5, .inl (cI, 8, .inl fm5)), (m7, .inl (cI, 4, .inl fm7)), (m8, .inl (cI, 4, .inl fm8)), (m9, .inl (cI, 4, .inl fm9)), (m10, .inl (cI, 34, .inl fm10))]) hP hD hS hA [0, 1, 2, 3, 4, 5, 6, 7] (by decide) rfl
  have hPc := hc9.1
  have hDc := hc9.2.1
  have hFc := hc9.2.2
  clear hc9
  refine va_calli (va_runV (As := [.int (nI j), .int (nI k)]) (rest := []) ⟨hx, hb, hml, hown, hts⟩ (c_X11_pageD l dC dI cI cZ cQ h0 m3 m4 m5 m7 m8 m9 m10 f_h0 fm3 fm4 fm5 fm7 fm8 fm9 fm10 j k nq s.heap.size e_h0_3 e_h0_4 e_h0_5 e_h0_7 e_h0_8 e_h0_9 e_h0_10 (by omega) (by first | assumption | decide) (by omega) (by omega)) (cwV 2 hts gX11_pageOf_X11_page rfl rfl rfl hd_X11_page_RX11 ⟨Nat.le_of_ble_eq_true rfl, Nat.le_of_ble_eq_true rfl⟩) (pv_D (va_recv hK hP (ci := 11) (q0 := 0) rfl rfl) hK hPc hDc) rfl rfl hl.1 rfl (lv_room (Nat.le_of_ble_eq_true rfl)) dX11_pageOf_3 ⟨Nat.le_of_ble_eq_true rfl, Nat.le_of_ble_eq_true rfl⟩) hS (fun q _ h => hFc q h) hFc (fun r1 u2 t H1 locs ht hvm hw3 hB hz1 hk1 hS => ?_)
  obtain ⟨f4, he5, hP1, hD1⟩ := hB
  replace hP1 := va_hp ht hP1
  obtain ⟨hP, hD⟩ := va_join (wr := []) (w1 := [(h0, .inr (11, f_h0)), (m3, .inl (cI, 8, .inl fm3)), (m4, .inl (cI, 8, .inl fm4)), (m5, .inl (cI, 8, .inl fm5)), (m7, .inl (cI, 4, .inl fm7)), (m8, .inl (cI, 4, .inl fm8)), (m9, .inl (cI, 4, .inl fm9)), (m10, .inl (cI, 34, .inl f4))]) hP hD [0, 1, 2, 3, 4, 5, 6, 7] [] rfl rfl (by decide +kernel) (by decide +kernel) hk1 hFc hP1 hD1
  clear hP1 hD1
  clear hz1 hk1 hPc hDc hFc
  generalize H1 = H at hP hS ht ⊢
  have hPD : pdW (dC, dI) vwCl A [(h0, .inr (11, f_h0)), (m3, .inl (cI, 8, .inl fm3)), (m4, .inl (cI, 8, .inl fm4)), (m5, .inl (cI, 8, .inl fm5)), (m7, .inl (cI, 4, .inl fm7)), (m8, .inl (cI, 4, .inl fm8)), (m9, .inl (cI, 4, .inl fm9)), (m10, .inl (cI, 34, .inl f4))] H := ⟨hP, hD⟩
  have hP := hPD.1
  have hD := hPD.2
  clear hPD
  try dsimp only at hw3
  rcases gd01 hw3 with ⟨rfl, hw3⟩ | ⟨rfl, hw3⟩
  ·
    refine lv_istore_n (lv' := [(3, .int 1), (0, .ref h0), (1, .int (nI j)), (2, .int (nI k))]) hx hb dX11_pageOf_6 rfl hl (by decide) rfl (fun ls hl => ?_)
    refine lv_aload_n hx hb dX11_pageOf_7 rfl (lv_at hl 1 rfl) ?_
    refine va_get (D := (dC, dI)) (ci := 11) (v := .ref m10) (C := RX11) (T := TX11) (N := 46) hx hb hts hi_X11 hown hK hP 0 rfl rfl 10 (by decide) (hts (.fieldLink RX11 28 "LeftQuillsModel" "now" "[I") (wmx 1 rfl)) (fun _ h9 => h9) e_h0_10 dX11_pageOf_8 ?_
    refine lv_bipush (v := 24) hx hb dX11_pageOf_11 (by decide) ?_
    refine lv_iload_n hx hb dX11_pageOf_13 rfl (lv_at hl 3 rfl) ?_
    refine lv_iadd hx hb dX11_pageOf_14 ?_
    refine lv_topi (fun z6 ez6 => ?_)
    obtain rfl : z6 = nI (24 + k) := ez6.trans (nI_add 24 k)
    refine lv_dup2_11 hx hb dX11_pageOf_15 rfl rfl ?_
    refine va_iald hx hb hK hP 7 0 rfl rfl (vp_in_nI (n := 24 + k) (N := 34) (by omega) (by decide)) dX11_pageOf_16 ?_
    refine W.eq (g2 := F0 m 17 ls [.int (f4 (24 + k)), .int (nI (24 + k)), .ref m10]) (congrArg (fun y9 => F0 m 17 ls (.int (f4 y9) :: [.int (nI (24 + k)), .ref m10])) ((nI_clamp (n := 24 + k) (by omega)))) ?_
    refine lv_iconst (v := 1) hx hb dX11_pageOf_17 (by decide) ?_
    refine lv_iadd hx hb dX11_pageOf_18 ?_
    refine va_iast hx hb hK hP hD hS 7 0 rfl rfl (vp_in_nI (n := 24 + k) (N := 34) (by omega) (by decide)) dX11_pageOf_19 (fun H locs hP hD hS => ?_)
    have hcl := (nI_clamp (n := 24 + k) (by omega))
    rw [hcl] at hP hD
    clear hcl
    have hPD : pdW (dC, dI) vwCl A [(h0, .inr (11, f_h0)), (m3, .inl (cI, 8, .inl fm3)), (m4, .inl (cI, 8, .inl fm4)), (m5, .inl (cI, 8, .inl fm5)), (m7, .inl (cI, 4, .inl fm7)), (m8, .inl (cI, 4, .inl fm8)), (m9, .inl (cI, 4, .inl fm9)), (m10, .inl (cI, 34, .inl (upd f4 (24 + k) ((f4 (24 + k)) + 1))))] H := ⟨hP, hD⟩
    have hP := hPD.1
    have hD := hPD.2
    clear hPD
    refine lv_aload_n hx hb dX11_pageOf_20 rfl (lv_at hl 1 rfl) ?_
    refine va_get (D := (dC, dI)) (ci := 11) (v := .ref m10) (C := RX11) (T := TX11) (N := 46) hx hb hts hi_X11 hown hK hP 0 rfl rfl 10 (by decide) (hts (.fieldLink RX11 28 "LeftQuillsModel" "now" "[I") (wmx 1 rfl)) (fun _ h9 => h9) e_h0_10 dX11_pageOf_21 ?_
    refine lv_bipush (v := 28) hx hb dX11_pageOf_24 (by decide) ?_
    refine lv_iload_n hx hb dX11_pageOf_26 rfl (lv_at hl 3 rfl) ?_
    refine lv_iadd hx hb dX11_pageOf_27 ?_
    refine lv_topi (fun z8 ez8 => ?_)
    obtain rfl : z8 = nI (28 + k) := ez8.trans (nI_add 28 k)
    refine lv_dup2_11 hx hb dX11_pageOf_28 rfl rfl ?_
    refine va_iald hx hb hK hP 7 0 rfl rfl (vp_in_nI (n := 28 + k) (N := 34) (by omega) (by decide)) dX11_pageOf_29 ?_
    refine W.eq (g2 := F0 m 30 ls [.int ((upd f4 (24 + k) ((f4 (24 + k)) + 1)) (28 + k)), .int (nI (28 + k)), .ref m10]) (congrArg (fun y9 => F0 m 30 ls (.int ((upd f4 (24 + k) ((f4 (24 + k)) + 1)) y9) :: [.int (nI (28 + k)), .ref m10])) ((nI_clamp (n := 28 + k) (by omega)))) ?_
    refine lv_iload_n hx hb dX11_pageOf_30 rfl (lv_at hl 0 rfl) ?_
    refine lv_if_eq (tgt := 38) hx hb dX11_pageOf_31 (by decide) (fun c9 => ?_) (fun c9 => ?_)
    · exact absurd c9 (by decide)
    clear c9
    refine lv_iconst (v := 1) hx hb dX11_pageOf_34 (by decide) ?_
    refine lv_goto (tgt := 39) hx hb dX11_pageOf_35 (by decide) ?_
    refine lv_iadd hx hb dX11_pageOf_39 ?_
    refine va_iast hx hb hK hP hD hS 7 0 rfl rfl (vp_in_nI (n := 28 + k) (N := 34) (by omega) (by decide)) dX11_pageOf_40 (fun H locs hP hD hS => ?_)
    have hcl := (nI_clamp (n := 28 + k) (by omega))
    rw [hcl] at hP hD
    clear hcl
    have hPD : pdW (dC, dI) vwCl A [(h0, .inr (11, f_h0)), (m3, .inl (cI, 8, .inl fm3)), (m4, .inl (cI, 8, .inl fm4)), (m5, .inl (cI, 8, .inl fm5)), (m7, .inl (cI, 4, .inl fm7)), (m8, .inl (cI, 4, .inl fm8)), (m9, .inl (cI, 4, .inl fm9)), (m10, .inl (cI, 34, .inl (upd (upd f4 (24 + k) ((f4 (24 + k)) + 1)) (28 + k) (((upd f4 (24 + k) ((f4 (24 + k)) + 1)) (28 + k)) + 1))))] H := ⟨hP, hD⟩
    have hP := hPD.1
    have hD := hPD.2
    clear hPD
    have hP9 := hP.sub (ws' := [(h0, .inr (11, f_h0)), (m3, .inl (cI, 8, .inl fm3)), (m4, .inl (cI, 8, .inl fm4)), (m5, .inl (cI, 8, .inl fm5)), (m7, .inl (cI, 4, .inl fm7)), (m8, .inl (cI, 4, .inl fm8)), (m9, .inl (cI, 4, .inl fm9)), (m10, .inl (cI, 34, .inl (upd (upd f4 (24 + k) ((f4 (24 + k)) + 1)) (28 + k) (((upd f4 (24 + k) ((f4 (24 + k)) + 1)) (28 + k)) + 1))))]) [0, 1, 2, 3, 4, 5, 6, 7] rfl
    have hD9 := hD.sub (ws' := [(h0, .inr (11, f_h0)), (m3, .inl (cI, 8, .inl fm3)), (m4, .inl (cI, 8, .inl fm4)), (m5, .inl (cI, 8, .inl fm5)), (m7, .inl (cI, 4, .inl fm7)), (m8, .inl (cI, 4, .inl fm8)), (m9, .inl (cI, 4, .inl fm9)), (m10, .inl (cI, 34, .inl (upd (upd f4 (24 + k) ((f4 (24 + k)) + 1)) (28 + k) (((upd f4 (24 + k) ((f4 (24 + k)) + 1)) (28 + k)) + 1))))]) [0, 1, 2, 3, 4, 5, 6, 7] (by decide +kernel) rfl
    exact W.vret hx hb hr (fun t ht hW => ⟨⟨(fun _ => 0), rfl, trivial, ⟨(upd (upd f4 (24 + k) ((f4 (24 + k)) + 1)) (28 + k) (((upd f4 (24 + k) ((f4 (24 + k)) + 1)) (28 + k)) + 1)), (mpg_page (by omega) hk hw3 he5), va_hq ht hP9, hD9⟩⟩, hS.F ht⟩) hS.2.2 dX11_pageOf_41
  ·
    refine lv_istore_n (lv' := [(3, .int 0), (0, .ref h0), (1, .int (nI j)), (2, .int (nI k))]) hx hb dX11_pageOf_6 rfl hl (by decide) rfl (fun ls hl => ?_)
    refine lv_aload_n hx hb dX11_pageOf_7 rfl (lv_at hl 1 rfl) ?_
    refine va_get (D := (dC, dI)) (ci := 11) (v := .ref m10) (C := RX11) (T := TX11) (N := 46) hx hb hts hi_X11 hown hK hP 0 rfl rfl 10 (by decide) (hts (.fieldLink RX11 28 "LeftQuillsModel" "now" "[I") (wmx 1 rfl)) (fun _ h9 => h9) e_h0_10 dX11_pageOf_8 ?_
    refine lv_bipush (v := 24) hx hb dX11_pageOf_11 (by decide) ?_
    refine lv_iload_n hx hb dX11_pageOf_13 rfl (lv_at hl 3 rfl) ?_
    refine lv_iadd hx hb dX11_pageOf_14 ?_
    refine lv_topi (fun z11 ez11 => ?_)
    obtain rfl : z11 = nI (24 + k) := ez11.trans (nI_add 24 k)
    refine lv_dup2_11 hx hb dX11_pageOf_15 rfl rfl ?_
    refine va_iald hx hb hK hP 7 0 rfl rfl (vp_in_nI (n := 24 + k) (N := 34) (by omega) (by decide)) dX11_pageOf_16 ?_
    refine W.eq (g2 := F0 m 17 ls [.int (f4 (24 + k)), .int (nI (24 + k)), .ref m10]) (congrArg (fun y9 => F0 m 17 ls (.int (f4 y9) :: [.int (nI (24 + k)), .ref m10])) ((nI_clamp (n := 24 + k) (by omega)))) ?_
    refine lv_iconst (v := 1) hx hb dX11_pageOf_17 (by decide) ?_
    refine lv_iadd hx hb dX11_pageOf_18 ?_
    refine va_iast hx hb hK hP hD hS 7 0 rfl rfl (vp_in_nI (n := 24 + k) (N := 34) (by omega) (by decide)) dX11_pageOf_19 (fun H locs hP hD hS => ?_)
    have hcl := (nI_clamp (n := 24 + k) (by omega))
    rw [hcl] at hP hD
    clear hcl
    have hPD : pdW (dC, dI) vwCl A [(h0, .inr (11, f_h0)), (m3, .inl (cI, 8, .inl fm3)), (m4, .inl (cI, 8, .inl fm4)), (m5, .inl (cI, 8, .inl fm5)), (m7, .inl (cI, 4, .inl fm7)), (m8, .inl (cI, 4, .inl fm8)), (m9, .inl (cI, 4, .inl fm9)), (m10, .inl (cI, 34, .inl (upd f4 (24 + k) ((f4 (24 + k)) + 1))))] H := ⟨hP, hD⟩
    have hP := hPD.1
    have hD := hPD.2
    clear hPD
    refine lv_aload_n hx hb dX11_pageOf_20 rfl (lv_at hl 1 rfl) ?_
    refine va_get (D := (dC, dI)) (ci := 11) (v := .ref m10) (C := RX11) (T := TX11) (N := 46) hx hb hts hi_X11 hown hK hP 0 rfl rfl 10 (by decide) (hts (.fieldLink RX11 28 "LeftQuillsModel" "now" "[I") (wmx 1 rfl)) (fun _ h9 => h9) e_h0_10 dX11_pageOf_21 ?_
    refine lv_bipush (v := 28) hx hb dX11_pageOf_24 (by decide) ?_
    refine lv_iload_n hx hb dX11_pageOf_26 rfl (lv_at hl 3 rfl) ?_
    refine lv_iadd hx hb dX11_pageOf_27 ?_
    refine lv_topi (fun z13 ez13 => ?_)
    obtain rfl : z13 = nI (28 + k) := ez13.trans (nI_add 28 k)
    refine lv_dup2_11 hx hb dX11_pageOf_28 rfl rfl ?_
    refine va_iald hx hb hK hP 7 0 rfl rfl (vp_in_nI (n := 28 + k) (N := 34) (by omega) (by decide)) dX11_pageOf_29 ?_
    refine W.eq (g2 := F0 m 30 ls [.int ((upd f4 (24 + k) ((f4 (24 + k)) + 1)) (28 + k)), .int (nI (28 + k)), .ref m10]) (congrArg (fun y9 => F0 m 30 ls (.int ((upd f4 (24 + k) ((f4 (24 + k)) + 1)) y9) :: [.int (nI (28 + k)), .ref m10])) ((nI_clamp (n := 28 + k) (by omega)))) ?_
    refine lv_iload_n hx hb dX11_pageOf_30 rfl (lv_at hl 0 rfl) ?_
    refine lv_if_eq (tgt := 38) hx hb dX11_pageOf_31 (by decide) (fun c14 => ?_) (fun c14 => ?_)
    rotate_left
    · exact absurd c14 (by decide)
    clear c14
    refine lv_iconst (v := 0) hx hb dX11_pageOf_38 (by decide) ?_
    refine lv_iadd hx hb dX11_pageOf_39 ?_
    refine va_iast hx hb hK hP hD hS 7 0 rfl rfl (vp_in_nI (n := 28 + k) (N := 34) (by omega) (by decide)) dX11_pageOf_40 (fun H locs hP hD hS => ?_)
    have hcl := (nI_clamp (n := 28 + k) (by omega))
    rw [hcl] at hP hD
    clear hcl
    have hPD : pdW (dC, dI) vwCl A [(h0, .inr (11, f_h0)), (m3, .inl (cI, 8, .inl fm3)), (m4, .inl (cI, 8, .inl fm4)), (m5, .inl (cI, 8, .inl fm5)), (m7, .inl (cI, 4, .inl fm7)), (m8, .inl (cI, 4, .inl fm8)), (m9, .inl (cI, 4, .inl fm9)), (m10, .inl (cI, 34, .inl (upd (upd f4 (24 + k) ((f4 (24 + k)) + 1)) (28 + k) (((upd f4 (24 + k) ((f4 (24 + k)) + 1)) (28 + k)) + 0))))] H := ⟨hP, hD⟩
    have hP := hPD.1
    have hD := hPD.2
    clear hPD
    have hP9 := hP.sub (ws' := [(h0, .inr (11, f_h0)), (m3, .inl (cI, 8, .inl fm3)), (m4, .inl (cI, 8, .inl fm4)), (m5, .inl (cI, 8, .inl fm5)), (m7, .inl (cI, 4, .inl fm7)), (m8, .inl (cI, 4, .inl fm8)), (m9, .inl (cI, 4, .inl fm9)), (m10, .inl (cI, 34, .inl (upd (upd f4 (24 + k) ((f4 (24 + k)) + 1)) (28 + k) (((upd f4 (24 + k) ((f4 (24 + k)) + 1)) (28 + k)) + 0))))]) [0, 1, 2, 3, 4, 5, 6, 7] rfl
    have hD9 := hD.sub (ws' := [(h0, .inr (11, f_h0)), (m3, .inl (cI, 8, .inl fm3)), (m4, .inl (cI, 8, .inl fm4)), (m5, .inl (cI, 8, .inl fm5)), (m7, .inl (cI, 4, .inl fm7)), (m8, .inl (cI, 4, .inl fm8)), (m9, .inl (cI, 4, .inl fm9)), (m10, .inl (cI, 34, .inl (upd (upd f4 (24 + k) ((f4 (24 + k)) + 1)) (28 + k) (((upd f4 (24 + k) ((f4 (24 + k)) + 1)) (28 + k)) + 0))))]) [0, 1, 2, 3, 4, 5, 6, 7] (by decide +kernel) rfl
    exact W.vret hx hb hr (fun t ht hW => ⟨⟨(fun _ => 0), rfl, trivial, ⟨(upd (upd f4 (24 + k) ((f4 (24 + k)) + 1)) (28 + k) (((upd f4 (24 + k) ((f4 (24 + k)) + 1)) (28 + k)) + 0)), (mpg_page (by omega) hk hw3 he5), va_hq ht hP9, hD9⟩⟩, hS.F ht⟩) hS.2.2 dX11_pageOf_41
set_option maxHeartbeats 4000000 in
set_option maxRecDepth 100000 in
theorem c_X11_isBluntD (l : Launch) (dC : Nat → ClassId) (dI : Nat → Nat → Nat) (cI cZ cQ : ClassId) (h0 : Nat) (n0 : Int32) (m10 : Nat) (f_h0 : List Value) (fm10 : Nat → Int32) (sz : Nat) (e_h0_0 : fAt f_h0 0 = some (.int n0)) (e_h0_10 : fAt f_h0 10 = some (.ref m10)) : Met l yX11_isBlunt wsX11_isBlunt ({ frames := 0, cells := 0, slots := 0, locals := 40 }) (va_Pc [.ref h0] (fun U => U.heap.size = sz ∧ va_P (dC, dI) vwCl [(h0, .inr (11, f_h0)), (m10, .inl (cI, 34, .inl fm10))] U.heap ∧ va_K (dC, dI) vwCl (tys0 cI cZ cQ) U)) (va_Qi (fun (r : Int32) (u : Nat → Nat) => (r = 1 ∧ n0 ≤ fm10 33) ∨ (r = 0 ∧ ¬ n0 ≤ fm10 33)) (fun (_ : Nat → Nat) (_ : State) => True) (fun _ : Nat => False)) 0 0 (fun _ : Nat => False) := by
  refine Met.ofW (cc := cX11_isBlunt) (maxL := 1) (ret := (some .boolean)) (by decide) rfl ?_
  intro p e s m args below meth c s₁ B hml hv
  obtain ⟨rfl, hsz, hP, hK⟩ := hv
  have hx := B.exec
  have hb := B.bytes
  have hr := B.returns
  have hts := atoms_spec (ws := wsX11_isBlunt) B.pre
  have hown : s.vm.findClass RX11 = some m.cls := findClass_of_methodNamed B.named
  have hlocks := B.notSynchronized
  have hi_X11 : ∀ w ∈ u_ws RX11 TX11 46, w ∈ wsX11_isBlunt := fun _ h => List.mem_cons_of_mem _ (List.mem_append_right _ (h))
  subst hsz
  have hS : va_S (fun _ : Nat => False) s.heap s.heap [] := va_S.rf
  have hl := lv_entry ([.ref h0]) (n := 1) (Nat.le_of_ble_eq_true rfl)
  rw [lg_entry_eq]
  generalize (lg_sl ([.ref h0]) ++ List.replicate (1 - (lg_sl ([.ref h0])).length) Slot.unset).toArray = ls at hl ⊢
  have hl : lv_has ls 1 [(0, .ref h0)] := hl
  refine lv_aload_n hx hb dX11_isBlunt_0 rfl (lv_at hl 0 rfl) ?_
  refine va_get (D := (dC, dI)) (ci := 11) (v := .ref m10) (C := RX11) (T := TX11) (N := 46) hx hb hts hi_X11 hown hK hP 0 rfl rfl 10 (by decide) (hts (.fieldLink RX11 28 "LeftQuillsModel" "now" "[I") (wmx 1 rfl)) (fun _ h9 => h9) e_h0_10 dX11_isBlunt_1 ?_
  refine lv_bipush (v := 33) hx hb dX11_isBlunt_4 (by decide) ?_
  refine va_iald hx hb hK hP 1 0 rfl rfl (vp_in_iff.mpr ⟨by decide, by decide⟩) dX11_isBlunt_6 ?_
  refine W.eq (g2 := F0 m 7 ls [.int (fm10 33)]) (congrArg (fun y9 => F0 m 7 ls (.int (fm10 y9) :: [])) ((show ((33 : Int32)).toNatClampNeg = 33 from by decide))) ?_
  refine lv_aload_n hx hb dX11_isBlunt_7 rfl (lv_at hl 0 rfl) ?_
  refine va_get (D := (dC, dI)) (ci := 11) (v := .int n0) (C := RX11) (T := TX11) (N := 46) hx hb hts hi_X11 hown hK hP 0 rfl rfl 0 (by decide) (hts (.fieldLink RX11 96 "LeftQuillsModel" "blunt" "I") (wmx 2 rfl)) (fun _ h9 => h9) e_h0_0 dX11_isBlunt_8 ?_
  refine lv_icmp_lt (tgt := 18) hx hb dX11_isBlunt_11 (by decide) (fun c1 => ?_) (fun c1 => ?_)
  ·
    refine lv_iconst (v := 0) hx hb dX11_isBlunt_18 (by decide) ?_
    exact W.zret (v := 0) hx hb hr (rfl) (fun t ht hW => ⟨⟨0, (fun _ => 0), rfl, Or.inr ⟨rfl, fa_ltn c1⟩, trivial⟩, hS.F ht⟩) hS.2.2 dX11_isBlunt_19
  ·
    refine lv_iconst (v := 1) hx hb dX11_isBlunt_14 (by decide) ?_
    refine lv_goto (tgt := 19) hx hb dX11_isBlunt_15 (by decide) ?_
    exact W.zret (v := 1) hx hb hr (rfl) (fun t ht hW => ⟨⟨1, (fun _ => 0), rfl, Or.inl ⟨rfl, fa_nlt c1⟩, trivial⟩, hS.F ht⟩) hS.2.2 dX11_isBlunt_19
set_option maxHeartbeats 4000000 in
set_option maxRecDepth 100000 in
theorem c_X11_mayMendD (l : Launch) (dC : Nat → ClassId) (dI : Nat → Nat → Nat) (cI cZ cQ : ClassId) (h0 : Nat) (n0 : Int32) (m10 : Nat) (f_h0 : List Value) (fm10 : Nat → Int32) (j : Nat) (sz : Nat) (e_h0_0 : fAt f_h0 0 = some (.int n0)) (e_h0_10 : fAt f_h0 10 = some (.ref m10)) (hj : j < 8) : Met l yX11_mayMend wsX11_mayMend ({ frames := 1, cells := 0, slots := 0, locals := 60 }) (va_Pc [.ref h0, .int (nI j)] (fun U => U.heap.size = sz ∧ va_P (dC, dI) vwCl [(h0, .inr (11, f_h0)), (m10, .inl (cI, 34, .inl fm10))] U.heap ∧ va_K (dC, dI) vwCl (tys0 cI cZ cQ) U)) (va_Qi (fun (r : Int32) (u : Nat → Nat) => (r = 1 ∧ cmP n0 j fm10) ∨ (r = 0 ∧ ¬ cmP n0 j fm10)) (fun (_ : Nat → Nat) (_ : State) => True) (fun _ : Nat => False)) 0 0 (fun _ : Nat => False) := by
  refine Met.ofW (cc := cX11_mayMend) (maxL := 2) (ret := (some .boolean)) (by decide) rfl ?_
  intro p e s m args below meth c s₁ B hml hv
  obtain ⟨rfl, hsz, hP, hK⟩ := hv
  have hx := B.exec
  have hb := B.bytes
  have hr := B.returns
  have hts := atoms_spec (ws := wsX11_mayMend) B.pre
  have hown : s.vm.findClass RX11 = some m.cls := findClass_of_methodNamed B.named
  have hlocks := B.notSynchronized
  have hi_X11 : ∀ w ∈ u_ws RX11 TX11 46, w ∈ wsX11_mayMend := fun _ h => List.mem_cons_of_mem _ (List.mem_append_right _ (h))
  subst hsz
  have hS : va_S (fun _ : Nat => False) s.heap s.heap [] := va_S.rf
  have hl := lv_entry ([.ref h0, .int (nI j)]) (n := 2) (Nat.le_of_ble_eq_true rfl)
  rw [lg_entry_eq]
  generalize (lg_sl ([.ref h0, .int (nI j)]) ++ List.replicate (2 - (lg_sl ([.ref h0, .int (nI j)])).length) Slot.unset).toArray = ls at hl ⊢
  have hl : lv_has ls 2 [(0, .ref h0), (1, .int (nI j))] := hl
  refine lv_aload_n hx hb dX11_mayMend_0 rfl (lv_at hl 0 rfl) ?_
  refine va_get (D := (dC, dI)) (ci := 11) (v := .ref m10) (C := RX11) (T := TX11) (N := 46) hx hb hts hi_X11 hown hK hP 0 rfl rfl 10 (by decide) (hts (.fieldLink RX11 28 "LeftQuillsModel" "now" "[I") (wmx 1 rfl)) (fun _ h9 => h9) e_h0_10 dX11_mayMend_1 ?_
  refine lv_iload_n hx hb dX11_mayMend_4 rfl (lv_at hl 1 rfl) ?_
  refine va_iald hx hb hK hP 1 0 rfl rfl (vp_in_nI (n := j) (N := 34) (by omega) (by decide)) dX11_mayMend_5 ?_
  refine W.eq (g2 := F0 m 6 ls [.int (fm10 j)]) (congrArg (fun y9 => F0 m 6 ls (.int (fm10 y9) :: [])) ((nI_clamp (n := j) (by omega)))) ?_
  refine lv_aload_n hx hb dX11_mayMend_6 rfl (lv_at hl 0 rfl) ?_
  have hPc := hP.sub (ws' := [(h0, .inr (11, f_h0)), (m10, .inl (cI, 34, .inl fm10))]) [0, 1] rfl
  refine va_calli (va_runV (As := []) (rest := [.int (fm10 j)]) ⟨hx, hb, hml, hown, hts⟩ (c_X11_isBluntD l dC dI cI cZ cQ h0 n0 m10 f_h0 fm10 s.heap.size e_h0_0 e_h0_10) (cwV 0 hts gX11_mayMend_X11_isBlunt rfl rfl rfl hd_X11_isBlunt_RX11 ⟨Nat.le_of_ble_eq_true rfl, Nat.le_of_ble_eq_true rfl⟩) (pv_R (va_recv hK hP (ci := 11) (q0 := 0) rfl rfl) hK hPc) rfl rfl hl.1 rfl (lv_room (Nat.le_of_ble_eq_true rfl)) dX11_mayMend_7 ⟨Nat.le_of_ble_eq_true rfl, Nat.le_of_ble_eq_true rfl⟩) hS (fun q _ h => False.elim h) (fun q h => False.elim h) (fun r1 u2 t H1 locs ht hvm hw3 hB hz1 hk1 hS => ?_)
  have hP := hP.kept (fun k q hk => hk1 q.1 (hP k q hk).lt (fun h => h))
  clear hz1 hk1 hPc
  generalize H1 = H at hP hS ht ⊢
  try dsimp only at hw3
  rcases hw3 with ⟨rfl, hw3⟩ | ⟨rfl, hw3⟩
  ·
    refine lv_if_eq (tgt := 18) hx hb dX11_mayMend_10 (by decide) (fun c4 => ?_) (fun c4 => ?_)
    · exact absurd c4 (by decide)
    clear c4
    refine lv_bipush (v := 9) hx hb dX11_mayMend_13 (by decide) ?_
    refine lv_goto (tgt := 19) hx hb dX11_mayMend_15 (by decide) ?_
    refine lv_icmp_lt (tgt := 26) hx hb dX11_mayMend_19 (by decide) (fun c5 => ?_) (fun c5 => ?_)
    ·
      refine lv_iconst (v := 0) hx hb dX11_mayMend_26 (by decide) ?_
      exact W.zret (v := 0) hx hb hr (rfl) (fun t ht hW => ⟨⟨0, (fun _ => 0), rfl, Or.inr ⟨rfl, by unfold cmP; rw [if_pos hw3]; exact fa_ltn c5⟩, trivial⟩, hS.F ht⟩) hS.2.2 dX11_mayMend_27
    ·
      refine lv_iconst (v := 1) hx hb dX11_mayMend_22 (by decide) ?_
      refine lv_goto (tgt := 27) hx hb dX11_mayMend_23 (by decide) ?_
      exact W.zret (v := 1) hx hb hr (rfl) (fun t ht hW => ⟨⟨1, (fun _ => 0), rfl, Or.inl ⟨rfl, by unfold cmP; rw [if_pos hw3]; exact fa_nlt c5⟩, trivial⟩, hS.F ht⟩) hS.2.2 dX11_mayMend_27
  ·
    refine lv_if_eq (tgt := 18) hx hb dX11_mayMend_10 (by decide) (fun c6 => ?_) (fun c6 => ?_)
    rotate_left
    · exact absurd c6 (by decide)
    clear c6
    refine lv_iconst (v := 5) hx hb dX11_mayMend_18 (by decide) ?_
    refine lv_icmp_lt (tgt := 26) hx hb dX11_mayMend_19 (by decide) (fun c7 => ?_) (fun c7 => ?_)
    ·
      refine lv_iconst (v := 0) hx hb dX11_mayMend_26 (by decide) ?_
      exact W.zret (v := 0) hx hb hr (rfl) (fun t ht hW => ⟨⟨0, (fun _ => 0), rfl, Or.inr ⟨rfl, by unfold cmP; rw [if_neg hw3]; exact fa_ltn c7⟩, trivial⟩, hS.F ht⟩) hS.2.2 dX11_mayMend_27
    ·
      refine lv_iconst (v := 1) hx hb dX11_mayMend_22 (by decide) ?_
      refine lv_goto (tgt := 27) hx hb dX11_mayMend_23 (by decide) ?_
      exact W.zret (v := 1) hx hb hr (rfl) (fun t ht hW => ⟨⟨1, (fun _ => 0), rfl, Or.inl ⟨rfl, by unfold cmP; rw [if_neg hw3]; exact fa_nlt c7⟩, trivial⟩, hS.F ht⟩) hS.2.2 dX11_mayMend_27
set_option maxHeartbeats 4000000 in
set_option maxRecDepth 100000 in
theorem c_X11_broadenNowD (l : Launch) (dC : Nat → ClassId) (dI : Nat → Nat → Nat) (cI cZ cQ : ClassId) (h0 : Nat) (m10 : Nat) (f_h0 : List Value) (fm10 : Nat → Int32) (j : Nat) (sz : Nat) (e_h0_10 : fAt f_h0 10 = some (.ref m10)) (hj : j < 8) : Met l yX11_broadenNow wsX11_broadenNow ({ frames := 0, cells := 0, slots := 0, locals := 40 }) (va_Pc [.ref h0, .int (nI j)] (fun U => U.heap.size = sz ∧ va_P (dC, dI) vwCl [(h0, .inr (11, f_h0)), (m10, .inl (cI, 34, .inl fm10))] U.heap ∧ va_K (dC, dI) vwCl (tys0 cI cZ cQ) U ∧ va_D (fun _ => True) [(h0, .inr (11, f_h0)), (m10, .inl (cI, 34, .inl fm10))])) (va_Qv (fun (u : Nat → Nat) => True) (fun (_ : Nat → Nat) (t : State) => ∃ (gg0 : Nat → Int32) , (gg0 = upd fm10 (8 + j) (bmF (fm10 (8 + j)))) ∧ va_P (dC, dI) vwCl [(h0, .inr (11, f_h0)), (m10, .inl (cI, 34, .inl gg0))] t.heap ∧ va_D (va_A [(h0, .inr (11, f_h0)), (m10, .inl (cI, 34, .inl fm10))] sz) [(h0, .inr (11, f_h0)), (m10, .inl (cI, 34, .inl gg0))]) (va_A [(h0, .inr (11, f_h0)), (m10, .inl (cI, 34, .inl fm10))] sz)) 0 0 (va_A [(h0, .inr (11, f_h0)), (m10, .inl (cI, 34, .inl fm10))] sz) := by
  refine Met.ofW (cc := cX11_broadenNow) (maxL := 2) (ret := none) (by decide) rfl ?_
  intro p e s m args below meth c s₁ B hml hv
  obtain ⟨rfl, hsz, hP, hK, hD0⟩ := hv
  have hx := B.exec
  have hb := B.bytes
  have hr := B.returns
  have hts := atoms_spec (ws := wsX11_broadenNow) B.pre
  have hown : s.vm.findClass RX11 = some m.cls := findClass_of_methodNamed B.named
  have hlocks := B.notSynchronized
  have hi_X11 : ∀ w ∈ u_ws RX11 TX11 46, w ∈ wsX11_broadenNow := fun _ h => List.mem_cons_of_mem _ (List.mem_append_right _ (h))
  subst hsz
  have hD := hD0.self (sz := s.heap.size)
  generalize hAe : va_A [(h0, .inr (11, f_h0)), (m10, .inl (cI, 34, .inl fm10))] s.heap.size = A at hD ⊢
  have hA : ∀ q : Nat, s.heap.size ≤ q → A q := fun q h => by rw [← hAe]; exact Or.inr h
  have hS : va_S A s.heap s.heap [] := va_S.rf
  have hl := lv_entry ([.ref h0, .int (nI j)]) (n := 2) (Nat.le_of_ble_eq_true rfl)
  rw [lg_entry_eq]
  generalize (lg_sl ([.ref h0, .int (nI j)]) ++ List.replicate (2 - (lg_sl ([.ref h0, .int (nI j)])).length) Slot.unset).toArray = ls at hl ⊢
  have hl : lv_has ls 2 [(0, .ref h0), (1, .int (nI j))] := hl
  refine lv_aload_n hx hb dX11_broadenNow_0 rfl (lv_at hl 0 rfl) ?_
  refine va_get (D := (dC, dI)) (ci := 11) (v := .ref m10) (C := RX11) (T := TX11) (N := 46) hx hb hts hi_X11 hown hK hP 0 rfl rfl 10 (by decide) (hts (.fieldLink RX11 28 "LeftQuillsModel" "now" "[I") (wmx 1 rfl)) (fun _ h9 => h9) e_h0_10 dX11_broadenNow_1 ?_
  refine lv_bipush (v := 8) hx hb dX11_broadenNow_4 (by decide) ?_
  refine lv_iload_n hx hb dX11_broadenNow_6 rfl (lv_at hl 1 rfl) ?_
  refine lv_iadd hx hb dX11_broadenNow_7 ?_
  refine lv_topi (fun z1 ez1 => ?_)
  obtain rfl : z1 = nI (8 + j) := ez1.trans (nI_add 8 j)
  refine lv_aload_n hx hb dX11_broadenNow_8 rfl (lv_at hl 0 rfl) ?_
  refine va_get (D := (dC, dI)) (ci := 11) (v := .ref m10) (C := RX11) (T := TX11) (N := 46) hx hb hts hi_X11 hown hK hP 0 rfl rfl 10 (by decide) (hts (.fieldLink RX11 28 "LeftQuillsModel" "now" "[I") (wmx 1 rfl)) (fun _ h9 => h9) e_h0_10 dX11_broadenNow_9 ?_
  refine lv_bipush (v := 8) hx hb dX11_broadenNow_12 (by decide) ?_
  refine lv_iload_n hx hb dX11_broadenNow_14 rfl (lv_at hl 1 rfl) ?_
  refine lv_iadd hx hb dX11_broadenNow_15 ?_
  refine lv_topi (fun z2 ez2 => ?_)
  obtain rfl : z2 = nI (8 + j) := ez2.trans (nI_add 8 j)
  refine va_iald hx hb hK hP 1 0 rfl rfl (vp_in_nI (n := 8 + j) (N := 34) (by omega) (by decide)) dX11_broadenNow_16 ?_
  refine W.eq (g2 := F0 m 17 ls [.int (fm10 (8 + j)), .int (nI (8 + j)), .ref m10]) (congrArg (fun y9 => F0 m 17 ls (.int (fm10 y9) :: [.int (nI (8 + j)), .ref m10])) ((nI_clamp (n := 8 + j) (by omega)))) ?_
  refine lv_bipush (v := 9) hx hb dX11_broadenNow_17 (by decide) ?_
  refine lv_icmp_ge (tgt := 36) hx hb dX11_broadenNow_19 (by decide) (fun c3 => ?_) (fun c3 => ?_)
  ·
    refine lv_bipush (v := 9) hx hb dX11_broadenNow_36 (by decide) ?_
    refine va_iast hx hb hK hP hD hS 1 0 rfl rfl (vp_in_nI (n := 8 + j) (N := 34) (by omega) (by decide)) dX11_broadenNow_38 (fun H locs hP hD hS => ?_)
    have hcl := (nI_clamp (n := 8 + j) (by omega))
    rw [hcl] at hP hD
    clear hcl
    have hPD : pdW (dC, dI) vwCl A [(h0, .inr (11, f_h0)), (m10, .inl (cI, 34, .inl (upd fm10 (8 + j) 9)))] H := ⟨hP, hD⟩
    have hP := hPD.1
    have hD := hPD.2
    clear hPD
    have hP9 := hP.sub (ws' := [(h0, .inr (11, f_h0)), (m10, .inl (cI, 34, .inl (upd fm10 (8 + j) 9)))]) [0, 1] rfl
    have hD9 := hD.sub (ws' := [(h0, .inr (11, f_h0)), (m10, .inl (cI, 34, .inl (upd fm10 (8 + j) 9)))]) [0, 1] (by decide +kernel) rfl
    exact W.vret hx hb hr (fun t ht hW => ⟨⟨(fun _ => 0), rfl, trivial, ⟨(upd fm10 (8 + j) 9), (congrArg (upd fm10 (8 + j)) (if_neg (fa_len c3)).symm), va_hq ht hP9, hD9⟩⟩, hS.F ht⟩) hS.2.2 dX11_broadenNow_39
  ·
    refine lv_aload_n hx hb dX11_broadenNow_22 rfl (lv_at hl 0 rfl) ?_
    refine va_get (D := (dC, dI)) (ci := 11) (v := .ref m10) (C := RX11) (T := TX11) (N := 46) hx hb hts hi_X11 hown hK hP 0 rfl rfl 10 (by decide) (hts (.fieldLink RX11 28 "LeftQuillsModel" "now" "[I") (wmx 1 rfl)) (fun _ h9 => h9) e_h0_10 dX11_broadenNow_23 ?_
    refine lv_bipush (v := 8) hx hb dX11_broadenNow_26 (by decide) ?_
    refine lv_iload_n hx hb dX11_broadenNow_28 rfl (lv_at hl 1 rfl) ?_
    refine lv_iadd hx hb dX11_broadenNow_29 ?_
    refine lv_topi (fun z5 ez5 => ?_)
    obtain rfl : z5 = nI (8 + j) := ez5.trans (nI_add 8 j)
    refine va_iald hx hb hK hP 1 0 rfl rfl (vp_in_nI (n := 8 + j) (N := 34) (by omega) (by decide)) dX11_broadenNow_30 ?_
    refine W.eq (g2 := F0 m 31 ls [.int (fm10 (8 + j)), .int (nI (8 + j)), .ref m10]) (congrArg (fun y9 => F0 m 31 ls (.int (fm10 y9) :: [.int (nI (8 + j)), .ref m10])) ((nI_clamp (n := 8 + j) (by omega)))) ?_
    refine lv_iconst (v := 1) hx hb dX11_broadenNow_31 (by decide) ?_
    refine lv_iadd hx hb dX11_broadenNow_32 ?_
    refine lv_goto (tgt := 38) hx hb dX11_broadenNow_33 (by decide) ?_
    refine va_iast hx hb hK hP hD hS 1 0 rfl rfl (vp_in_nI (n := 8 + j) (N := 34) (by omega) (by decide)) dX11_broadenNow_38 (fun H locs hP hD hS => ?_)
    have hcl := (nI_clamp (n := 8 + j) (by omega))
    rw [hcl] at hP hD
    clear hcl
    have hPD : pdW (dC, dI) vwCl A [(h0, .inr (11, f_h0)), (m10, .inl (cI, 34, .inl (upd fm10 (8 + j) ((fm10 (8 + j)) + 1))))] H := ⟨hP, hD⟩
    have hP := hPD.1
    have hD := hPD.2
    clear hPD
    have hP9 := hP.sub (ws' := [(h0, .inr (11, f_h0)), (m10, .inl (cI, 34, .inl (upd fm10 (8 + j) ((fm10 (8 + j)) + 1))))]) [0, 1] rfl
    have hD9 := hD.sub (ws' := [(h0, .inr (11, f_h0)), (m10, .inl (cI, 34, .inl (upd fm10 (8 + j) ((fm10 (8 + j)) + 1))))]) [0, 1] (by decide +kernel) rfl
    exact W.vret hx hb hr (fun t ht hW => ⟨⟨(fun _ => 0), rfl, trivial, ⟨(upd fm10 (8 + j) ((fm10 (8 + j)) + 1)), (congrArg (upd fm10 (8 + j)) (if_pos (fa_nle c3)).symm), va_hq ht hP9, hD9⟩⟩, hS.F ht⟩) hS.2.2 dX11_broadenNow_39
set_option maxHeartbeats 4000000 in
set_option maxRecDepth 100000 in
theorem c_X11_mendNowD (l : Launch) (dC : Nat → ClassId) (dI : Nat → Nat → Nat) (cI cZ cQ : ClassId) (h0 : Nat) (n0 : Int32) (n1 : Int32) (m10 : Nat) (f_h0 : List Value) (fm10 : Nat → Int32) (j : Nat) (sz : Nat) (e_h0_0 : fAt f_h0 0 = some (.int n0)) (e_h0_1 : fAt f_h0 1 = some (.int n1)) (e_h0_10 : fAt f_h0 10 = some (.ref m10)) (hj : j < 8) : Met l yX11_mendNow wsX11_mendNow ({ frames := 1, cells := 0, slots := 0, locals := 61 }) (va_Pc [.ref h0, .int (nI j)] (fun U => U.heap.size = sz ∧ va_P (dC, dI) vwCl [(h0, .inr (11, f_h0)), (m10, .inl (cI, 34, .inl fm10))] U.heap ∧ va_K (dC, dI) vwCl (tys0 cI cZ cQ) U ∧ va_D (fun _ => True) [(h0, .inr (11, f_h0)), (m10, .inl (cI, 34, .inl fm10))])) (va_Qv (fun (u : Nat → Nat) => True) (fun (_ : Nat → Nat) (t : State) => ∃ (gg0 : Nat → Int32) , (gg0 = mdX bmF n0 n1 j fm10) ∧ va_P (dC, dI) vwCl [(h0, .inr (11, f_h0)), (m10, .inl (cI, 34, .inl gg0))] t.heap ∧ va_D (va_A [(h0, .inr (11, f_h0)), (m10, .inl (cI, 34, .inl fm10))] sz) [(h0, .inr (11, f_h0)), (m10, .inl (cI, 34, .inl gg0))]) (va_A [(h0, .inr (11, f_h0)), (m10, .inl (cI, 34, .inl fm10))] sz)) 0 0 (va_A [(h0, .inr (11, f_h0)), (m10, .inl (cI, 34, .inl fm10))] sz) := by
  refine Met.ofW (cc := cX11_mendNow) (maxL := 3) (ret := none) (by decide) rfl ?_
  intro p e s m args below meth c s₁ B hml hv
  obtain ⟨rfl, hsz, hP, hK, hD0⟩ := hv
  have hx := B.exec
  have hb := B.bytes
  have hr := B.returns
  have hts := atoms_spec (ws := wsX11_mendNow) B.pre
  have hown : s.vm.findClass RX11 = some m.cls := findClass_of_methodNamed B.named
  have hlocks := B.notSynchronized
  have hi_X11 : ∀ w ∈ u_ws RX11 TX11 46, w ∈ wsX11_mendNow := fun _ h => List.mem_cons_of_mem _ (List.mem_append_right _ (h))
  subst hsz
  have hD := hD0.self (sz := s.heap.size)
  generalize hAe : va_A [(h0, .inr (11, f_h0)), (m10, .inl (cI, 34, .inl fm10))] s.heap.size = A at hD ⊢
  have hA : ∀ q : Nat, s.heap.size ≤ q → A q := fun q h => by rw [← hAe]; exact Or.inr h
  have hS : va_S A s.heap s.heap [] := va_S.rf
  have hl := lv_entry ([.ref h0, .int (nI j)]) (n := 3) (Nat.le_of_ble_eq_true rfl)
  rw [lg_entry_eq]
  generalize (lg_sl ([.ref h0, .int (nI j)]) ++ List.replicate (3 - (lg_sl ([.ref h0, .int (nI j)])).length) Slot.unset).toArray = ls at hl ⊢
  have hl : lv_has ls 3 [(0, .ref h0), (1, .int (nI j))] := hl
  refine lv_aload_n hx hb dX11_mendNow_0 rfl (lv_at hl 0 rfl) ?_
  have hPc := hP.sub (ws' := [(h0, .inr (11, f_h0)), (m10, .inl (cI, 34, .inl fm10))]) [0, 1] rfl
  refine va_calli (va_runV (As := []) (rest := []) ⟨hx, hb, hml, hown, hts⟩ (c_X11_isBluntD l dC dI cI cZ cQ h0 n0 m10 f_h0 fm10 s.heap.size e_h0_0 e_h0_10) (cwV 0 hts gX11_mendNow_X11_isBlunt rfl rfl rfl hd_X11_isBlunt_RX11 ⟨Nat.le_of_ble_eq_true rfl, Nat.le_of_ble_eq_true rfl⟩) (pv_R (va_recv hK hP (ci := 11) (q0 := 0) rfl rfl) hK hPc) rfl rfl hl.1 rfl (lv_room (Nat.le_of_ble_eq_true rfl)) dX11_mendNow_1 ⟨Nat.le_of_ble_eq_true rfl, Nat.le_of_ble_eq_true rfl⟩) hS (fun q _ h => False.elim h) (fun q h => False.elim h) (fun r1 u2 t H1 locs ht hvm hw3 hB hz1 hk1 hS => ?_)
  have hP := hP.kept (fun k q hk => hk1 q.1 (hP k q hk).lt (fun h => h))
  clear hz1 hk1 hPc
  generalize H1 = H at hP hS ht ⊢
  try dsimp only at hw3
  rcases hw3 with ⟨rfl, hw3⟩ | ⟨rfl, hw3⟩
  ·
    refine lv_istore_n (lv' := [(2, .int 1), (0, .ref h0), (1, .int (nI j))]) hx hb dX11_mendNow_4 rfl hl (by decide) rfl (fun ls hl => ?_)
    refine lv_aload_n hx hb dX11_mendNow_5 rfl (lv_at hl 1 rfl) ?_
    refine va_get (D := (dC, dI)) (ci := 11) (v := .ref m10) (C := RX11) (T := TX11) (N := 46) hx hb hts hi_X11 hown hK hP 0 rfl rfl 10 (by decide) (hts (.fieldLink RX11 28 "LeftQuillsModel" "now" "[I") (wmx 1 rfl)) (fun _ h9 => h9) e_h0_10 dX11_mendNow_6 ?_
    refine lv_iload_n hx hb dX11_mendNow_9 rfl (lv_at hl 2 rfl) ?_
    refine lv_dup2_11 hx hb dX11_mendNow_10 rfl rfl ?_
    refine va_iald hx hb hK hP 1 0 rfl rfl (vp_in_nI (n := j) (N := 34) (by omega) (by decide)) dX11_mendNow_11 ?_
    refine W.eq (g2 := F0 m 12 ls [.int (fm10 j), .int (nI j), .ref m10]) (congrArg (fun y9 => F0 m 12 ls (.int (fm10 y9) :: [.int (nI j), .ref m10])) ((nI_clamp (n := j) (by omega)))) ?_
    refine lv_iload_n hx hb dX11_mendNow_12 rfl (lv_at hl 0 rfl) ?_
    refine lv_if_eq (tgt := 21) hx hb dX11_mendNow_13 (by decide) (fun c4 => ?_) (fun c4 => ?_)
    · exact absurd c4 (by decide)
    clear c4
    refine lv_bipush (v := 9) hx hb dX11_mendNow_16 (by decide) ?_
    refine lv_goto (tgt := 22) hx hb dX11_mendNow_18 (by decide) ?_
    refine lv_isub hx hb dX11_mendNow_22 ?_
    refine va_iast hx hb hK hP hD hS 1 0 rfl rfl (vp_in_nI (n := j) (N := 34) (by omega) (by decide)) dX11_mendNow_23 (fun H locs hP hD hS => ?_)
    have hcl := (nI_clamp (n := j) (by omega))
    rw [hcl] at hP hD
    clear hcl
    have hPD : pdW (dC, dI) vwCl A [(h0, .inr (11, f_h0)), (m10, .inl (cI, 34, .inl (upd fm10 j ((fm10 j) - 9))))] H := ⟨hP, hD⟩
    have hP := hPD.1
    have hD := hPD.2
    clear hPD
    refine lv_iload_n hx hb dX11_mendNow_24 rfl (lv_at hl 0 rfl) ?_
    refine lv_if_eq (tgt := 33) hx hb dX11_mendNow_25 (by decide) (fun c6 => ?_) (fun c6 => ?_)
    · exact absurd c6 (by decide)
    clear c6
    refine lv_aload_n hx hb dX11_mendNow_28 rfl (lv_at hl 1 rfl) ?_
    refine lv_iload_n hx hb dX11_mendNow_29 rfl (lv_at hl 2 rfl) ?_
    have hc9 := va_cut (W' := [(h0, .inr (11, f_h0)), (m10, .inl (cI, 34, .inl (upd fm10 j ((fm10 j) - 9))))]) hP hD hS hA [0, 1] (by decide) rfl
    have hPc := hc9.1
    have hDc := hc9.2.1
    have hFc := hc9.2.2
    clear hc9
    refine va_callv (va_runV (As := [.int (nI j)]) (rest := []) ⟨hx, hb, hml, hown, hts⟩ (c_X11_broadenNowD l dC dI cI cZ cQ h0 m10 f_h0 (upd fm10 j ((fm10 j) - 9)) j H.size e_h0_10 (by omega)) (cwV 1 hts gX11_mendNow_X11_broadenNow rfl rfl rfl hd_X11_broadenNow_RX11 ⟨Nat.le_of_ble_eq_true rfl, Nat.le_of_ble_eq_true rfl⟩) (pv_D (va_recv hK hP (ci := 11) (q0 := 0) rfl rfl) hK hPc hDc) rfl rfl hl.1 rfl (lv_room (Nat.le_of_ble_eq_true rfl)) dX11_mendNow_30 ⟨Nat.le_of_ble_eq_true rfl, Nat.le_of_ble_eq_true rfl⟩) hS (fun q _ h => hFc q h) hFc (fun u8 t H1 locs ht hvm hw9 hB hz1 hk1 hS => ?_)
    obtain ⟨f10, he11, hP1, hD1⟩ := hB
    replace hP1 := va_hp ht hP1
    obtain ⟨hP, hD⟩ := va_join (wr := []) (w1 := [(h0, .inr (11, f_h0)), (m10, .inl (cI, 34, .inl f10))]) hP hD [0, 1] [] rfl rfl (by decide +kernel) (by decide +kernel) hk1 hFc hP1 hD1
    clear hP1 hD1
    clear hz1 hk1 hPc hDc hFc
    generalize H1 = H at hP hS ht ⊢
    have hPD : pdW (dC, dI) vwCl A [(h0, .inr (11, f_h0)), (m10, .inl (cI, 34, .inl f10))] H := ⟨hP, hD⟩
    have hP := hPD.1
    have hD := hPD.2
    clear hPD
    try dsimp only at hw9
    subst he11
    have hPD : pdW (dC, dI) vwCl A [(h0, .inr (11, f_h0)), (m10, .inl (cI, 34, .inl (upd (upd fm10 j ((fm10 j) - 9)) (8 + j) (bmF ((upd fm10 j ((fm10 j) - 9)) (8 + j))))))] H := ⟨hP, hD⟩
    have hP := hPD.1
    have hD := hPD.2
    clear hPD
    refine lv_aload_n hx hb dX11_mendNow_33 rfl (lv_at hl 1 rfl) ?_
    refine va_get (D := (dC, dI)) (ci := 11) (v := .ref m10) (C := RX11) (T := TX11) (N := 46) hx hb hts hi_X11 hown hK hP 0 rfl rfl 10 (by decide) (hts (.fieldLink RX11 28 "LeftQuillsModel" "now" "[I") (wmx 1 rfl)) (fun _ h9 => h9) e_h0_10 dX11_mendNow_34 ?_
    refine lv_bipush (v := 16) hx hb dX11_mendNow_37 (by decide) ?_
    refine lv_iload_n hx hb dX11_mendNow_39 rfl (lv_at hl 2 rfl) ?_
    refine lv_iadd hx hb dX11_mendNow_40 ?_
    refine lv_topi (fun z12 ez12 => ?_)
    obtain rfl : z12 = nI (16 + j) := ez12.trans (nI_add 16 j)
    refine lv_iconst (v := 0) hx hb dX11_mendNow_41 (by decide) ?_
    refine va_iast hx hb hK hP hD hS 1 0 rfl rfl (vp_in_nI (n := 16 + j) (N := 34) (by omega) (by decide)) dX11_mendNow_42 (fun H locs hP hD hS => ?_)
    have hcl := (nI_clamp (n := 16 + j) (by omega))
    rw [hcl] at hP hD
    clear hcl
    have hPD : pdW (dC, dI) vwCl A [(h0, .inr (11, f_h0)), (m10, .inl (cI, 34, .inl (upd (upd (upd fm10 j ((fm10 j) - 9)) (8 + j) (bmF ((upd fm10 j ((fm10 j) - 9)) (8 + j)))) (16 + j) 0)))] H := ⟨hP, hD⟩
    have hP := hPD.1
    have hD := hPD.2
    clear hPD
    refine lv_aload_n hx hb dX11_mendNow_43 rfl (lv_at hl 1 rfl) ?_
    refine va_get (D := (dC, dI)) (ci := 11) (v := .ref m10) (C := RX11) (T := TX11) (N := 46) hx hb hts hi_X11 hown hK hP 0 rfl rfl 10 (by decide) (hts (.fieldLink RX11 28 "LeftQuillsModel" "now" "[I") (wmx 1 rfl)) (fun _ h9 => h9) e_h0_10 dX11_mendNow_44 ?_
    refine lv_bipush (v := 33) hx hb dX11_mendNow_47 (by decide) ?_
    refine lv_dup2_11 hx hb dX11_mendNow_49 rfl rfl ?_
    refine va_iald hx hb hK hP 1 0 rfl rfl (vp_in_iff.mpr ⟨by decide, by decide⟩) dX11_mendNow_50 ?_
    refine W.eq (g2 := F0 m 51 ls [.int ((upd (upd (upd fm10 j ((fm10 j) - 9)) (8 + j) (bmF ((upd fm10 j ((fm10 j) - 9)) (8 + j)))) (16 + j) 0) 33), .int 33, .ref m10]) (congrArg (fun y9 => F0 m 51 ls (.int ((upd (upd (upd fm10 j ((fm10 j) - 9)) (8 + j) (bmF ((upd fm10 j ((fm10 j) - 9)) (8 + j)))) (16 + j) 0) y9) :: [.int 33, .ref m10])) ((show ((33 : Int32)).toNatClampNeg = 33 from by decide))) ?_
    refine lv_iconst (v := 1) hx hb dX11_mendNow_51 (by decide) ?_
    refine lv_iadd hx hb dX11_mendNow_52 ?_
    refine va_iast hx hb hK hP hD hS 1 0 rfl rfl (vp_in_iff.mpr ⟨by decide, by decide⟩) dX11_mendNow_53 (fun H locs hP hD hS => ?_)
    have hcl := (show ((33 : Int32)).toNatClampNeg = 33 from by decide)
    rw [hcl] at hP hD
    clear hcl
    have hPD : pdW (dC, dI) vwCl A [(h0, .inr (11, f_h0)), (m10, .inl (cI, 34, .inl (upd (upd (upd (upd fm10 j ((fm10 j) - 9)) (8 + j) (bmF ((upd fm10 j ((fm10 j) - 9)) (8 + j)))) (16 + j) 0) 33 (((upd (upd (upd fm10 j ((fm10 j) - 9)) (8 + j) (bmF ((upd fm10 j ((fm10 j) - 9)) (8 + j)))) (16 + j) 0) 33) + 1))))] H := ⟨hP, hD⟩
    have hP := hPD.1
    have hD := hPD.2
    clear hPD
    refine lv_aload_n hx hb dX11_mendNow_54 rfl (lv_at hl 1 rfl) ?_
    refine va_get (D := (dC, dI)) (ci := 11) (v := .ref m10) (C := RX11) (T := TX11) (N := 46) hx hb hts hi_X11 hown hK hP 0 rfl rfl 10 (by decide) (hts (.fieldLink RX11 28 "LeftQuillsModel" "now" "[I") (wmx 1 rfl)) (fun _ h9 => h9) e_h0_10 dX11_mendNow_55 ?_
    refine lv_bipush (v := 32) hx hb dX11_mendNow_58 (by decide) ?_
    refine lv_dup2_11 hx hb dX11_mendNow_60 rfl rfl ?_
    refine va_iald hx hb hK hP 1 0 rfl rfl (vp_in_iff.mpr ⟨by decide, by decide⟩) dX11_mendNow_61 ?_
    refine W.eq (g2 := F0 m 62 ls [.int ((upd (upd (upd (upd fm10 j ((fm10 j) - 9)) (8 + j) (bmF ((upd fm10 j ((fm10 j) - 9)) (8 + j)))) (16 + j) 0) 33 (((upd (upd (upd fm10 j ((fm10 j) - 9)) (8 + j) (bmF ((upd fm10 j ((fm10 j) - 9)) (8 + j)))) (16 + j) 0) 33) + 1)) 32), .int 32, .ref m10]) (congrArg (fun y9 => F0 m 62 ls (.int ((upd (upd (upd (upd fm10 j ((fm10 j) - 9)) (8 + j) (bmF ((upd fm10 j ((fm10 j) - 9)) (8 + j)))) (16 + j) 0) 33 (((upd (upd (upd fm10 j ((fm10 j) - 9)) (8 + j) (bmF ((upd fm10 j ((fm10 j) - 9)) (8 + j)))) (16 + j) 0) 33) + 1)) y9) :: [.int 32, .ref m10])) ((show ((32 : Int32)).toNatClampNeg = 32 from by decide))) ?_
    refine lv_aload_n hx hb dX11_mendNow_62 rfl (lv_at hl 1 rfl) ?_
    refine va_get (D := (dC, dI)) (ci := 11) (v := .int n1) (C := RX11) (T := TX11) (N := 46) hx hb hts hi_X11 hown hK hP 0 rfl rfl 1 (by decide) (hts (.fieldLink RX11 159 "LeftQuillsModel" "mendTakes" "I") (wmx 2 rfl)) (fun _ h9 => h9) e_h0_1 dX11_mendNow_63 ?_
    refine lv_iadd hx hb dX11_mendNow_66 ?_
    refine va_iast hx hb hK hP hD hS 1 0 rfl rfl (vp_in_iff.mpr ⟨by decide, by decide⟩) dX11_mendNow_67 (fun H locs hP hD hS => ?_)
    have hcl := (show ((32 : Int32)).toNatClampNeg = 32 from by decide)
    rw [hcl] at hP hD
    clear hcl
    have hPD : pdW (dC, dI) vwCl A [(h0, .inr (11, f_h0)), (m10, .inl (cI, 34, .inl (upd (upd (upd (upd (upd fm10 j ((fm10 j) - 9)) (8 + j) (bmF ((upd fm10 j ((fm10 j) - 9)) (8 + j)))) (16 + j) 0) 33 (((upd (upd (upd fm10 j ((fm10 j) - 9)) (8 + j) (bmF ((upd fm10 j ((fm10 j) - 9)) (8 + j)))) (16 + j) 0) 33) + 1)) 32 (((upd (upd (upd (upd fm10 j ((fm10 j) - 9)) (8 + j) (bmF ((upd fm10 j ((fm10 j) - 9)) (8 + j)))) (16 + j) 0) 33 (((upd (upd (upd fm10 j ((fm10 j) - 9)) (8 + j) (bmF ((upd fm10 j ((fm10 j) - 9)) (8 + j)))) (16 + j) 0) 33) + 1)) 32) + n1))))] H := ⟨hP, hD⟩
    have hP := hPD.1
    have hD := hPD.2
    clear hPD
    have hP9 := hP.sub (ws' := [(h0, .inr (11, f_h0)), (m10, .inl (cI, 34, .inl (upd (upd (upd (upd (upd fm10 j ((fm10 j) - 9)) (8 + j) (bmF ((upd fm10 j ((fm10 j) - 9)) (8 + j)))) (16 + j) 0) 33 (((upd (upd (upd fm10 j ((fm10 j) - 9)) (8 + j) (bmF ((upd fm10 j ((fm10 j) - 9)) (8 + j)))) (16 + j) 0) 33) + 1)) 32 (((upd (upd (upd (upd fm10 j ((fm10 j) - 9)) (8 + j) (bmF ((upd fm10 j ((fm10 j) - 9)) (8 + j)))) (16 + j) 0) 33 (((upd (upd (upd fm10 j ((fm10 j) - 9)) (8 + j) (bmF ((upd fm10 j ((fm10 j) - 9)) (8 + j)))) (16 + j) 0) 33) + 1)) 32) + n1))))]) [0, 1] rfl
    have hD9 := hD.sub (ws' := [(h0, .inr (11, f_h0)), (m10, .inl (cI, 34, .inl (upd (upd (upd (upd (upd fm10 j ((fm10 j) - 9)) (8 + j) (bmF ((upd fm10 j ((fm10 j) - 9)) (8 + j)))) (16 + j) 0) 33 (((upd (upd (upd fm10 j ((fm10 j) - 9)) (8 + j) (bmF ((upd fm10 j ((fm10 j) - 9)) (8 + j)))) (16 + j) 0) 33) + 1)) 32 (((upd (upd (upd (upd fm10 j ((fm10 j) - 9)) (8 + j) (bmF ((upd fm10 j ((fm10 j) - 9)) (8 + j)))) (16 + j) 0) 33 (((upd (upd (upd fm10 j ((fm10 j) - 9)) (8 + j) (bmF ((upd fm10 j ((fm10 j) - 9)) (8 + j)))) (16 + j) 0) 33) + 1)) 32) + n1))))]) [0, 1] (by decide +kernel) rfl
    exact W.vret hx hb hr (fun t ht hW => ⟨⟨(fun _ => 0), rfl, trivial, ⟨(upd (upd (upd (upd (upd fm10 j ((fm10 j) - 9)) (8 + j) (bmF ((upd fm10 j ((fm10 j) - 9)) (8 + j)))) (16 + j) 0) 33 (((upd (upd (upd fm10 j ((fm10 j) - 9)) (8 + j) (bmF ((upd fm10 j ((fm10 j) - 9)) (8 + j)))) (16 + j) 0) 33) + 1)) 32 (((upd (upd (upd (upd fm10 j ((fm10 j) - 9)) (8 + j) (bmF ((upd fm10 j ((fm10 j) - 9)) (8 + j)))) (16 + j) 0) 33 (((upd (upd (upd fm10 j ((fm10 j) - 9)) (8 + j) (bmF ((upd fm10 j ((fm10 j) - 9)) (8 + j)))) (16 + j) 0) 33) + 1)) 32) + n1)), (mmd_b hj hw3), va_hq ht hP9, hD9⟩⟩, hS.F ht⟩) hS.2.2 dX11_mendNow_68
  ·
    refine lv_istore_n (lv' := [(2, .int 0), (0, .ref h0), (1, .int (nI j))]) hx hb dX11_mendNow_4 rfl hl (by decide) rfl (fun ls hl => ?_)
    refine lv_aload_n hx hb dX11_mendNow_5 rfl (lv_at hl 1 rfl) ?_
    refine va_get (D := (dC, dI)) (ci := 11) (v := .ref m10) (C := RX11) (T := TX11) (N := 46) hx hb hts hi_X11 hown hK hP 0 rfl rfl 10 (by decide) (hts (.fieldLink RX11 28 "LeftQuillsModel" "now" "[I") (wmx 1 rfl)) (fun _ h9 => h9) e_h0_10 dX11_mendNow_6 ?_
    refine lv_iload_n hx hb dX11_mendNow_9 rfl (lv_at hl 2 rfl) ?_
    refine lv_dup2_11 hx hb dX11_mendNow_10 rfl rfl ?_
    refine va_iald hx hb hK hP 1 0 rfl rfl (vp_in_nI (n := j) (N := 34) (by omega) (by decide)) dX11_mendNow_11 ?_
    refine W.eq (g2 := F0 m 12 ls [.int (fm10 j), .int (nI j), .ref m10]) (congrArg (fun y9 => F0 m 12 ls (.int (fm10 y9) :: [.int (nI j), .ref m10])) ((nI_clamp (n := j) (by omega)))) ?_
    refine lv_iload_n hx hb dX11_mendNow_12 rfl (lv_at hl 0 rfl) ?_
    refine lv_if_eq (tgt := 21) hx hb dX11_mendNow_13 (by decide) (fun c16 => ?_) (fun c16 => ?_)
    rotate_left
    · exact absurd c16 (by decide)
    clear c16
    refine lv_iconst (v := 5) hx hb dX11_mendNow_21 (by decide) ?_
    refine lv_isub hx hb dX11_mendNow_22 ?_
    refine va_iast hx hb hK hP hD hS 1 0 rfl rfl (vp_in_nI (n := j) (N := 34) (by omega) (by decide)) dX11_mendNow_23 (fun H locs hP hD hS => ?_)
    have hcl := (nI_clamp (n := j) (by omega))
    rw [hcl] at hP hD
    clear hcl
    have hPD : pdW (dC, dI) vwCl A [(h0, .inr (11, f_h0)), (m10, .inl (cI, 34, .inl (upd fm10 j ((fm10 j) - 5))))] H := ⟨hP, hD⟩
    have hP := hPD.1
    have hD := hPD.2
    clear hPD
    refine lv_iload_n hx hb dX11_mendNow_24 rfl (lv_at hl 0 rfl) ?_
    refine lv_if_eq (tgt := 33) hx hb dX11_mendNow_25 (by decide) (fun c18 => ?_) (fun c18 => ?_)
    rotate_left
    · exact absurd c18 (by decide)
    clear c18
    refine lv_aload_n hx hb dX11_mendNow_33 rfl (lv_at hl 1 rfl) ?_
    refine va_get (D := (dC, dI)) (ci := 11) (v := .ref m10) (C := RX11) (T := TX11) (N := 46) hx hb hts hi_X11 hown hK hP 0 rfl rfl 10 (by decide) (hts (.fieldLink RX11 28 "LeftQuillsModel" "now" "[I") (wmx 1 rfl)) (fun _ h9 => h9) e_h0_10 dX11_mendNow_34 ?_
    refine lv_bipush (v := 16) hx hb dX11_mendNow_37 (by decide) ?_
    refine lv_iload_n hx hb dX11_mendNow_39 rfl (lv_at hl 2 rfl) ?_
    refine lv_iadd hx hb dX11_mendNow_40 ?_
    refine lv_topi (fun z19 ez19 => ?_)
    obtain rfl : z19 = nI (16 + j) := ez19.trans (nI_add 16 j)
    refine lv_iconst (v := 0) hx hb dX11_mendNow_41 (by decide) ?_
    refine va_iast hx hb hK hP hD hS 1 0 rfl rfl (vp_in_nI (n := 16 + j) (N := 34) (by omega) (by decide)) dX11_mendNow_42 (fun H locs hP hD hS => ?_)
    have hcl := (nI_clamp (n := 16 + j) (by omega))
    rw [hcl] at hP hD
    clear hcl
    have hPD : pdW (dC, dI) vwCl A [(h0, .inr (11, f_h0)), (m10, .inl (cI, 34, .inl (upd (upd fm10 j ((fm10 j) - 5)) (16 + j) 0)))] H := ⟨hP, hD⟩
    have hP := hPD.1
    have hD := hPD.2
    clear hPD
    refine lv_aload_n hx hb dX11_mendNow_43 rfl (lv_at hl 1 rfl) ?_
    refine va_get (D := (dC, dI)) (ci := 11) (v := .ref m10) (C := RX11) (T := TX11) (N := 46) hx hb hts hi_X11 hown hK hP 0 rfl rfl 10 (by decide) (hts (.fieldLink RX11 28 "LeftQuillsModel" "now" "[I") (wmx 1 rfl)) (fun _ h9 => h9) e_h0_10 dX11_mendNow_44 ?_
    refine lv_bipush (v := 33) hx hb dX11_mendNow_47 (by decide) ?_
    refine lv_dup2_11 hx hb dX11_mendNow_49 rfl rfl ?_
    refine va_iald hx hb hK hP 1 0 rfl rfl (vp_in_iff.mpr ⟨by decide, by decide⟩) dX11_mendNow_50 ?_
    refine W.eq (g2 := F0 m 51 ls [.int ((upd (upd fm10 j ((fm10 j) - 5)) (16 + j) 0) 33), .int 33, .ref m10]) (congrArg (fun y9 => F0 m 51 ls (.int ((upd (upd fm10 j ((fm10 j) - 5)) (16 + j) 0) y9) :: [.int 33, .ref m10])) ((show ((33 : Int32)).toNatClampNeg = 33 from by decide))) ?_
    refine lv_iconst (v := 1) hx hb dX11_mendNow_51 (by decide) ?_
    refine lv_iadd hx hb dX11_mendNow_52 ?_
    refine va_iast hx hb hK hP hD hS 1 0 rfl rfl (vp_in_iff.mpr ⟨by decide, by decide⟩) dX11_mendNow_53 (fun H locs hP hD hS => ?_)
    have hcl := (show ((33 : Int32)).toNatClampNeg = 33 from by decide)
    rw [hcl] at hP hD
    clear hcl
    have hPD : pdW (dC, dI) vwCl A [(h0, .inr (11, f_h0)), (m10, .inl (cI, 34, .inl (upd (upd (upd fm10 j ((fm10 j) - 5)) (16 + j) 0) 33 (((upd (upd fm10 j ((fm10 j) - 5)) (16 + j) 0) 33) + 1))))] H := ⟨hP, hD⟩
    have hP := hPD.1
    have hD := hPD.2
    clear hPD
    refine lv_aload_n hx hb dX11_mendNow_54 rfl (lv_at hl 1 rfl) ?_
    refine va_get (D := (dC, dI)) (ci := 11) (v := .ref m10) (C := RX11) (T := TX11) (N := 46) hx hb hts hi_X11 hown hK hP 0 rfl rfl 10 (by decide) (hts (.fieldLink RX11 28 "LeftQuillsModel" "now" "[I") (wmx 1 rfl)) (fun _ h9 => h9) e_h0_10 dX11_mendNow_55 ?_
    refine lv_bipush (v := 32) hx hb dX11_mendNow_58 (by decide) ?_
    refine lv_dup2_11 hx hb dX11_mendNow_60 rfl rfl ?_
    refine va_iald hx hb hK hP 1 0 rfl rfl (vp_in_iff.mpr ⟨by decide, by decide⟩) dX11_mendNow_61 ?_
    refine W.eq (g2 := F0 m 62 ls [.int ((upd (upd (upd fm10 j ((fm10 j) - 5)) (16 + j) 0) 33 (((upd (upd fm10 j ((fm10 j) - 5)) (16 + j) 0) 33) + 1)) 32), .int 32, .ref m10]) (congrArg (fun y9 => F0 m 62 ls (.int ((upd (upd (upd fm10 j ((fm10 j) - 5)) (16 + j) 0) 33 (((upd (upd fm10 j ((fm10 j) - 5)) (16 + j) 0) 33) + 1)) y9) :: [.int 32, .ref m10])) ((show ((32 : Int32)).toNatClampNeg = 32 from by decide))) ?_
    refine lv_aload_n hx hb dX11_mendNow_62 rfl (lv_at hl 1 rfl) ?_
    refine va_get (D := (dC, dI)) (ci := 11) (v := .int n1) (C := RX11) (T := TX11) (N := 46) hx hb hts hi_X11 hown hK hP 0 rfl rfl 1 (by decide) (hts (.fieldLink RX11 159 "LeftQuillsModel" "mendTakes" "I") (wmx 2 rfl)) (fun _ h9 => h9) e_h0_1 dX11_mendNow_63 ?_
    refine lv_iadd hx hb dX11_mendNow_66 ?_
    refine va_iast hx hb hK hP hD hS 1 0 rfl rfl (vp_in_iff.mpr ⟨by decide, by decide⟩) dX11_mendNow_67 (fun H locs hP hD hS => ?_)
    have hcl := (show ((32 : Int32)).toNatClampNeg = 32 from by decide)
    rw [hcl] at hP hD
    clear hcl
    have hPD : pdW (dC, dI) vwCl A [(h0, .inr (11, f_h0)), (m10, .inl (cI, 34, .inl (upd (upd (upd (upd fm10 j ((fm10 j) - 5)) (16 + j) 0) 33 (((upd (upd fm10 j ((fm10 j) - 5)) (16 + j) 0) 33) + 1)) 32 (((upd (upd (upd fm10 j ((fm10 j) - 5)) (16 + j) 0) 33 (((upd (upd fm10 j ((fm10 j) - 5)) (16 + j) 0) 33) + 1)) 32) + n1))))] H := ⟨hP, hD⟩
    have hP := hPD.1
    have hD := hPD.2
    clear hPD
    have hP9 := hP.sub (ws' := [(h0, .inr (11, f_h0)), (m10, .inl (cI, 34, .inl (upd (upd (upd (upd fm10 j ((fm10 j) - 5)) (16 + j) 0) 33 (((upd (upd fm10 j ((fm10 j) - 5)) (16 + j) 0) 33) + 1)) 32 (((upd (upd (upd fm10 j ((fm10 j) - 5)) (16 + j) 0) 33 (((upd (upd fm10 j ((fm10 j) - 5)) (16 + j) 0) 33) + 1)) 32) + n1))))]) [0, 1] rfl
    have hD9 := hD.sub (ws' := [(h0, .inr (11, f_h0)), (m10, .inl (cI, 34, .inl (upd (upd (upd (upd fm10 j ((fm10 j) - 5)) (16 + j) 0) 33 (((upd (upd fm10 j ((fm10 j) - 5)) (16 + j) 0) 33) + 1)) 32 (((upd (upd (upd fm10 j ((fm10 j) - 5)) (16 + j) 0) 33 (((upd (upd fm10 j ((fm10 j) - 5)) (16 + j) 0) 33) + 1)) 32) + n1))))]) [0, 1] (by decide +kernel) rfl
    exact W.vret hx hb hr (fun t ht hW => ⟨⟨(fun _ => 0), rfl, trivial, ⟨(upd (upd (upd (upd fm10 j ((fm10 j) - 5)) (16 + j) 0) 33 (((upd (upd fm10 j ((fm10 j) - 5)) (16 + j) 0) 33) + 1)) 32 (((upd (upd (upd fm10 j ((fm10 j) - 5)) (16 + j) 0) 33 (((upd (upd fm10 j ((fm10 j) - 5)) (16 + j) 0) 33) + 1)) 32) + n1)), (mmd_n hj hw3), va_hq ht hP9, hD9⟩⟩, hS.F ht⟩) hS.2.2 dX11_mendNow_68
set_option maxHeartbeats 4000000 in
set_option maxRecDepth 100000 in
theorem c_X11_rememberD (l : Launch) (dC : Nat → ClassId) (dI : Nat → Nat → Nat) (cI cZ cQ : ClassId) (h0 : Nat) (n0 : Int32) (n1 : Int32) (nq : Nat) (m3 : Nat) (m4 : Nat) (m5 : Nat) (nh : Nat) (m7 : Nat) (m8 : Nat) (m9 : Nat) (m10 : Nat) (sd : Nat) (m12 : Nat) (tx : Nat) (n14 : Int32) (at9 : Nat) (n16 : Int32) (n17 : Int32) (m18 : Nat) (rq : Nat) (m20 : Nat) (m21 : Nat) (m22 : Nat) (m23 : Nat) (m24 : Nat) (rh : Nat) (m26 : Nat) (m27 : Nat) (m28 : Nat) (un : Nat) (m30 : Nat) (n31 : Int32) (n32 : Int32) (m33 : Nat) (n34 : Int32) (n35 : Int32) (m36 : Nat) (wm : Nat) (m38 : Nat) (m39 : Nat) (m40 : Nat) (bk : Nat) (m42 : Nat) (m43 : Nat) (m44 : Nat) (m45 : Nat) (fm10 : Nat → Int32) (fm30 : Nat → Int32) (sz : Nat) (hun : un ≤ 20) : Met l yX11_remember wsX11_remember ({ frames := 0, cells := 0, slots := 0, locals := 40 }) (va_Pc [.ref h0] (fun U => U.heap.size = sz ∧ va_P (dC, dI) vwCl [(h0, .inr (11, (.int n0 :: .int n1 :: .int (nI nq) :: .ref m3 :: .ref m4 :: .ref m5 :: .int (nI nh) :: .ref m7 :: .ref m8 :: .ref m9 :: .ref m10 :: .int (nI sd) :: .ref m12 :: .int (nI tx) :: .int n14 :: .int (nI at9) :: .int n16 :: .int n17 :: .ref m18 :: .int (nI rq) :: .ref m20 :: .ref m21 :: .ref m22 :: .ref m23 :: .ref m24 :: .int (nI rh) :: .ref m26 :: .ref m27 :: .ref m28 :: .int (nI un) :: .ref m30 :: .int n31 :: .int n32 :: .ref m33 :: .int n34 :: .int n35 :: .ref m36 :: .int (nI wm) :: .ref m38 :: .ref m39 :: .ref m40 :: .int (nI bk) :: .ref m42 :: .ref m43 :: .ref m44 :: .ref m45 :: []))), (m10, .inl (cI, 34, .inl fm10)), (m30, .inl (cI, 680, .inl fm30))] U.heap ∧ va_K (dC, dI) vwCl (tys0 cI cZ cQ) U ∧ va_D (fun _ => True) [(h0, .inr (11, (.int n0 :: .int n1 :: .int (nI nq) :: .ref m3 :: .ref m4 :: .ref m5 :: .int (nI nh) :: .ref m7 :: .ref m8 :: .ref m9 :: .ref m10 :: .int (nI sd) :: .ref m12 :: .int (nI tx) :: .int n14 :: .int (nI at9) :: .int n16 :: .int n17 :: .ref m18 :: .int (nI rq) :: .ref m20 :: .ref m21 :: .ref m22 :: .ref m23 :: .ref m24 :: .int (nI rh) :: .ref m26 :: .ref m27 :: .ref m28 :: .int (nI un) :: .ref m30 :: .int n31 :: .int n32 :: .ref m33 :: .int n34 :: .int n35 :: .ref m36 :: .int (nI wm) :: .ref m38 :: .ref m39 :: .ref m40 :: .int (nI bk) :: .ref m42 :: .ref m43 :: .ref m44 :: .ref m45 :: []))), (m10, .inl (cI, 34, .inl fm10)), (m30, .inl (cI, 680, .inl fm30))])) (va_Qv (fun (u : Nat → Nat) => True) (fun (_ : Nat → Nat) (t : State) => ∃ (gg0 : Nat → Int32) (kk0 : Nat), kk0 ≤ 20 ∧ (∀ i, gg0 i = rmF un fm10 fm30 i) ∧ (kk0 = if un < 20 then un + 1 else un) ∧ va_P (dC, dI) vwCl [(h0, .inr (11, (.int n0 :: .int n1 :: .int (nI nq) :: .ref m3 :: .ref m4 :: .ref m5 :: .int (nI nh) :: .ref m7 :: .ref m8 :: .ref m9 :: .ref m10 :: .int (nI sd) :: .ref m12 :: .int (nI tx) :: .int n14 :: .int (nI at9) :: .int n16 :: .int n17 :: .ref m18 :: .int (nI rq) :: .ref m20 :: .ref m21 :: .ref m22 :: .ref m23 :: .ref m24 :: .int (nI rh) :: .ref m26 :: .ref m27 :: .ref m28 :: .int (nI kk0) :: .ref m30 :: .int n31 :: .int n32 :: .ref m33 :: .int n34 :: .int n35 :: .ref m36 :: .int (nI wm) :: .ref m38 :: .ref m39 :: .ref m40 :: .int (nI bk) :: .ref m42 :: .ref m43 :: .ref m44 :: .ref m45 :: []))), (m10, .inl (cI, 34, .inl fm10)), (m30, .inl (cI, 680, .inl gg0))] t.heap ∧ va_D (va_A [(h0, .inr (11, (.int n0 :: .int n1 :: .int (nI nq) :: .ref m3 :: .ref m4 :: .ref m5 :: .int (nI nh) :: .ref m7 :: .ref m8 :: .ref m9 :: .ref m10 :: .int (nI sd) :: .ref m12 :: .int (nI tx) :: .int n14 :: .int (nI at9) :: .int n16 :: .int n17 :: .ref m18 :: .int (nI rq) :: .ref m20 :: .ref m21 :: .ref m22 :: .ref m23 :: .ref m24 :: .int (nI rh) :: .ref m26 :: .ref m27 :: .ref m28 :: .int (nI un) :: .ref m30 :: .int n31 :: .int n32 :: .ref m33 :: .int n34 :: .int n35 :: .ref m36 :: .int (nI wm) :: .ref m38 :: .ref m39 :: .ref m40 :: .int (nI bk) :: .ref m42 :: .ref m43 :: .ref m44 :: .ref m45 :: []))), (m10, .inl (cI, 34, .inl fm10)), (m30, .inl (cI, 680, .inl fm30))] sz) [(h0, .inr (11, (.int n0 :: .int n1 :: .int (nI nq) :: .ref m3 :: .ref m4 :: .ref m5 :: .int (nI nh) :: .ref m7 :: .ref m8 :: .ref m9 :: .ref m10 :: .int (nI sd) :: .ref m12 :: .int (nI tx) :: .int n14 :: .int (nI at9) :: .int n16 :: .int n17 :: .ref m18 :: .int (nI rq) :: .ref m20 :: .ref m21 :: .ref m22 :: .ref m23 :: .ref m24 :: .int (nI rh) :: .ref m26 :: .ref m27 :: .ref m28 :: .int (nI kk0) :: .ref m30 :: .int n31 :: .int n32 :: .ref m33 :: .int n34 :: .int n35 :: .ref m36 :: .int (nI wm) :: .ref m38 :: .ref m39 :: .ref m40 :: .int (nI bk) :: .ref m42 :: .ref m43 :: .ref m44 :: .ref m45 :: []))), (m10, .inl (cI, 34, .inl fm10)), (m30, .inl (cI, 680, .inl gg0))]) (va_A [(h0, .inr (11, (.int n0 :: .int n1 :: .int (nI nq) :: .ref m3 :: .ref m4 :: .ref m5 :: .int (nI nh) :: .ref m7 :: .ref m8 :: .ref m9 :: .ref m10 :: .int (nI sd) :: .ref m12 :: .int (nI tx) :: .int n14 :: .int (nI at9) :: .int n16 :: .int n17 :: .ref m18 :: .int (nI rq) :: .ref m20 :: .ref m21 :: .ref m22 :: .ref m23 :: .ref m24 :: .int (nI rh) :: .ref m26 :: .ref m27 :: .ref m28 :: .int (nI un) :: .ref m30 :: .int n31 :: .int n32 :: .ref m33 :: .int n34 :: .int n35 :: .ref m36 :: .int (nI wm) :: .ref m38 :: .ref m39 :: .ref m40 :: .int (nI bk) :: .ref m42 :: .ref m43 :: .ref m44 :: .ref m45 :: []))), (m10, .inl (cI, 34, .inl fm10)), (m30, .inl (cI, 680, .inl fm30))] sz)) 0 0 (va_A [(h0, .inr (11, (.int n0 :: .int n1 :: .int (nI nq) :: .ref m3 :: .ref m4 :: .ref m5 :: .int (nI nh) :: .ref m7 :: .ref m8 :: .ref m9 :: .ref m10 :: .int (nI sd) :: .ref m12 :: .int (nI tx) :: .int n14 :: .int (nI at9) :: .int n16 :: .int n17 :: .ref m18 :: .int (nI rq) :: .ref m20 :: .ref m21 :: .ref m22 :: .ref m23 :: .ref m24 :: .int (nI rh) :: .ref m26 :: .ref m27 :: .ref m28 :: .int (nI un) :: .ref m30 :: .int n31 :: .int n32 :: .ref m33 :: .int n34 :: .int n35 :: .ref m36 :: .int (nI wm) :: .ref m38 :: .ref m39 :: .ref m40 :: .int (nI bk) :: .ref m42 :: .ref m43 :: .ref m44 :: .ref m45 :: []))), (m10, .inl (cI, 34, .inl fm10)), (m30, .inl (cI, 680, .inl fm30))] sz) := by
  refine Met.ofW (cc := cX11_remember) (maxL := 2) (ret := none) (by decide) rfl ?_
  intro p e s m args below meth c s₁ B hml hv
  obtain ⟨rfl, hsz, hP, hK, hD0⟩ := hv
  have hx := B.exec
  have hb := B.bytes
  have hr := B.returns
  have hts := atoms_spec (ws := wsX11_remember) B.pre
  have hown : s.vm.findClass RX11 = some m.cls := findClass_of_methodNamed B.named
  have hlocks := B.notSynchronized
  have hi_X11 : ∀ w ∈ u_ws RX11 TX11 46, w ∈ wsX11_remember := fun _ h => List.mem_cons_of_mem _ (List.mem_append_right _ (h))
  subst hsz
  have hD := hD0.self (sz := s.heap.size)
  generalize hAe : va_A [(h0, .inr (11, (.int n0 :: .int n1 :: .int (nI nq) :: .ref m3 :: .ref m4 :: .ref m5 :: .int (nI nh) :: .ref m7 :: .ref m8 :: .ref m9 :: .ref m10 :: .int (nI sd) :: .ref m12 :: .int (nI tx) :: .int n14 :: .int (nI at9) :: .int n16 :: .int n17 :: .ref m18 :: .int (nI rq) :: .ref m20 :: .ref m21 :: .ref m22 :: .ref m23 :: .ref m24 :: .int (nI rh) :: .ref m26 :: .ref m27 :: .ref m28 :: .int (nI un) :: .ref m30 :: .int n31 :: .int n32 :: .ref m33 :: .int n34 :: .int n35 :: .ref m36 :: .int (nI wm) :: .ref m38 :: .ref m39 :: .ref m40 :: .int (nI bk) :: .ref m42 :: .ref m43 :: .ref m44 :: .ref m45 :: []))), (m10, .inl (cI, 34, .inl fm10)), (m30, .inl (cI, 680, .inl fm30))] s.heap.size = A at hD ⊢
  have hA : ∀ q : Nat, s.heap.size ≤ q → A q := fun q h => by rw [← hAe]; exact Or.inr h
  have hS : va_S A s.heap s.heap [] := va_S.rf
  have hl := lv_entry ([.ref h0]) (n := 2) (Nat.le_of_ble_eq_true rfl)
  rw [lg_entry_eq]
  generalize (lg_sl ([.ref h0]) ++ List.replicate (2 - (lg_sl ([.ref h0])).length) Slot.unset).toArray = ls at hl ⊢
  have hl : lv_has ls 2 [(0, .ref h0)] := hl
  refine lv_aload_n hx hb dX11_remember_0 rfl (lv_at hl 0 rfl) ?_
  refine va_get (D := (dC, dI)) (ci := 11) (v := .int (nI un)) (C := RX11) (T := TX11) (N := 46) hx hb hts hi_X11 hown hK hP 0 rfl rfl 29 (by decide) (hts (.fieldLink RX11 174 "LeftQuillsModel" "undos" "I") (wmx 1 rfl)) (fun _ h9 => h9) rfl dX11_remember_1 ?_
  refine lv_bipush (v := 20) hx hb dX11_remember_4 (by decide) ?_
  refine lv_icmp_ne (tgt := 50) hx hb dX11_remember_6 (by decide) (fun c1 => ?_) (fun c1 => ?_)
  ·
    have c1 : ¬ un = 20 := fun h => c1 ((nI_eq (a := un) (b := 20) (by omega) (by omega)).mpr h)
    refine lv_iconst (v := 0) hx hb dX11_remember_50 (by decide) ?_
    refine lv_istore_n (lv' := [(1, .int 0), (0, .ref h0)]) hx hb dX11_remember_51 rfl hl (by decide) rfl (fun ls hl => ?_)
    refine (fun (K : ∀ (d52 : Nat) (k52 : Nat) (f52_m30 : Nat → Int32) (H : Heap) (locs : List Loc) (ls : Array Slot), k52 + d52 = 34 → (∀ i, f52_m30 i = if 34 * un ≤ i ∧ i < 34 * un + k52 then fm10 (i - 34 * un) else fm30 i) → va_P (dC, dI) vwCl [(h0, .inr (11, (.int n0 :: .int n1 :: .int (nI nq) :: .ref m3 :: .ref m4 :: .ref m5 :: .int (nI nh) :: .ref m7 :: .ref m8 :: .ref m9 :: .ref m10 :: .int (nI sd) :: .ref m12 :: .int (nI tx) :: .int n14 :: .int (nI at9) :: .int n16 :: .int n17 :: .ref m18 :: .int (nI rq) :: .ref m20 :: .ref m21 :: .ref m22 :: .ref m23 :: .ref m24 :: .int (nI rh) :: .ref m26 :: .ref m27 :: .ref m28 :: .int (nI un) :: .ref m30 :: .int n31 :: .int n32 :: .ref m33 :: .int n34 :: .int n35 :: .ref m36 :: .int (nI wm) :: .ref m38 :: .ref m39 :: .ref m40 :: .int (nI bk) :: .ref m42 :: .ref m43 :: .ref m44 :: .ref m45 :: []))), (m10, .inl (cI, 34, .inl fm10)), (m30, .inl (cI, 680, .inl f52_m30))] H → va_D A [(h0, .inr (11, (.int n0 :: .int n1 :: .int (nI nq) :: .ref m3 :: .ref m4 :: .ref m5 :: .int (nI nh) :: .ref m7 :: .ref m8 :: .ref m9 :: .ref m10 :: .int (nI sd) :: .ref m12 :: .int (nI tx) :: .int n14 :: .int (nI at9) :: .int n16 :: .int n17 :: .ref m18 :: .int (nI rq) :: .ref m20 :: .ref m21 :: .ref m22 :: .ref m23 :: .ref m24 :: .int (nI rh) :: .ref m26 :: .ref m27 :: .ref m28 :: .int (nI un) :: .ref m30 :: .int n31 :: .int n32 :: .ref m33 :: .int n34 :: .int n35 :: .ref m36 :: .int (nI wm) :: .ref m38 :: .ref m39 :: .ref m40 :: .int (nI bk) :: .ref m42 :: .ref m43 :: .ref m44 :: .ref m45 :: []))), (m10, .inl (cI, 34, .inl fm10)), (m30, .inl (cI, 680, .inl f52_m30))] → va_S A s.heap H locs → lv_has ls 2 [(1, .int (nI k52)), (0, .ref h0)] → W p l e _ s m _ below meth c H locs _ _ _ (F0 m 52 ls [])) => K 34 0 fm30 _ _ _ (by omega) (fun i => (if_neg (by omega)).symm) hP hD hS (lv_sub hl [0, 1] rfl)) ?_
    intro d52
    induction d52 with
    | zero =>
      intro k52 f52_m30 H locs ls hk52 hv52_0 hP hD hS hl
      refine lv_iload_n hx hb dX11_remember_52 rfl (lv_at hl 0 rfl) ?_
      refine lv_bipush (v := 34) hx hb dX11_remember_53 (by decide) ?_
      refine lv_icmp_ge (tgt := 84) hx hb dX11_remember_55 (by decide) (fun c2 => ?_) (fun c2 => ?_)
      ·
        have c2 : 34 ≤ k52 := (nI_leI (a := 34) (b := k52) (by omega) (by omega)).mp c2
        have hv52x : ∀ i, f52_m30 i = if 34 * un ≤ i ∧ i < 34 * un + 34 then fm10 (i - 34 * un) else fm30 i := fun i => by rw [hv52_0 i, show k52 = 34 from by omega]
        refine lv_aload_n hx hb dX11_remember_84 rfl (lv_at hl 1 rfl) ?_
        refine lv_dup hx hb dX11_remember_85 rfl ?_
        refine va_get (D := (dC, dI)) (ci := 11) (v := .int (nI un)) (C := RX11) (T := TX11) (N := 46) hx hb hts hi_X11 hown hK hP 0 rfl rfl 29 (by decide) (hts (.fieldLink RX11 174 "LeftQuillsModel" "undos" "I") (wmx 1 rfl)) (fun _ h9 => h9) rfl dX11_remember_86 ?_
        refine lv_iconst (v := 1) hx hb dX11_remember_89 (by decide) ?_
        refine lv_iadd hx hb dX11_remember_90 ?_
        refine lv_topi (fun z3 ez3 => ?_)
        obtain rfl : z3 = nI (un + 1) := ez3.trans (nI_add un 1)
        refine va_put (D := (dC, dI)) (ci := 11) (v := .int (nI (un + 1))) (ty := .int) (C := RX11) (T := TX11) (N := 46) hx hb hts hi_X11 tyX11 tyX11_ok nmX11 hown hK hP hD hS 0 rfl rfl 29 (by decide) (hts (.fieldLink RX11 174 "LeftQuillsModel" "undos" "I") (wmx 1 rfl)) (fun _ h9 => h9) rfl (by decide +kernel) rfl rfl (Nat.le_of_ble_eq_true rfl) dX11_remember_91 (fun H locs hP hD hS => ?_)
        have hPD : pdW (dC, dI) vwCl A [(h0, .inr (11, (.int n0 :: .int n1 :: .int (nI nq) :: .ref m3 :: .ref m4 :: .ref m5 :: .int (nI nh) :: .ref m7 :: .ref m8 :: .ref m9 :: .ref m10 :: .int (nI sd) :: .ref m12 :: .int (nI tx) :: .int n14 :: .int (nI at9) :: .int n16 :: .int n17 :: .ref m18 :: .int (nI rq) :: .ref m20 :: .ref m21 :: .ref m22 :: .ref m23 :: .ref m24 :: .int (nI rh) :: .ref m26 :: .ref m27 :: .ref m28 :: .int (nI (un + 1)) :: .ref m30 :: .int n31 :: .int n32 :: .ref m33 :: .int n34 :: .int n35 :: .ref m36 :: .int (nI wm) :: .ref m38 :: .ref m39 :: .ref m40 :: .int (nI bk) :: .ref m42 :: .ref m43 :: .ref m44 :: .ref m45 :: []))), (m10, .inl (cI, 34, .inl fm10)), (m30, .inl (cI, 680, .inl f52_m30))] H := ⟨hP, hD⟩
        have hP := hPD.1
        have hD := hPD.2
        clear hPD
        have hP9 := hP.sub (ws' := [(h0, .inr (11, (.int n0 :: .int n1 :: .int (nI nq) :: .ref m3 :: .ref m4 :: .ref m5 :: .int (nI nh) :: .ref m7 :: .ref m8 :: .ref m9 :: .ref m10 :: .int (nI sd) :: .ref m12 :: .int (nI tx) :: .int n14 :: .int (nI at9) :: .int n16 :: .int n17 :: .ref m18 :: .int (nI rq) :: .ref m20 :: .ref m21 :: .ref m22 :: .ref m23 :: .ref m24 :: .int (nI rh) :: .ref m26 :: .ref m27 :: .ref m28 :: .int (nI (un + 1)) :: .ref m30 :: .int n31 :: .int n32 :: .ref m33 :: .int n34 :: .int n35 :: .ref m36 :: .int (nI wm) :: .ref m38 :: .ref m39 :: .ref m40 :: .int (nI bk) :: .ref m42 :: .ref m43 :: .ref m44 :: .ref m45 :: []))), (m10, .inl (cI, 34, .inl fm10)), (m30, .inl (cI, 680, .inl f52_m30))]) [0, 1, 2] rfl
        have hD9 := hD.sub (ws' := [(h0, .inr (11, (.int n0 :: .int n1 :: .int (nI nq) :: .ref m3 :: .ref m4 :: .ref m5 :: .int (nI nh) :: .ref m7 :: .ref m8 :: .ref m9 :: .ref m10 :: .int (nI sd) :: .ref m12 :: .int (nI tx) :: .int n14 :: .int (nI at9) :: .int n16 :: .int n17 :: .ref m18 :: .int (nI rq) :: .ref m20 :: .ref m21 :: .ref m22 :: .ref m23 :: .ref m24 :: .int (nI rh) :: .ref m26 :: .ref m27 :: .ref m28 :: .int (nI (un + 1)) :: .ref m30 :: .int n31 :: .int n32 :: .ref m33 :: .int n34 :: .int n35 :: .ref m36 :: .int (nI wm) :: .ref m38 :: .ref m39 :: .ref m40 :: .int (nI bk) :: .ref m42 :: .ref m43 :: .ref m44 :: .ref m45 :: []))), (m10, .inl (cI, 34, .inl fm10)), (m30, .inl (cI, 680, .inl f52_m30))]) [0, 1, 2] (by decide +kernel) rfl
        exact W.vret hx hb hr (fun t ht hW => ⟨⟨(fun _ => 0), rfl, trivial, ⟨f52_m30, (un + 1), by omega, (rm_n c1 hv52x), (by rw [if_pos (by omega)]), va_hq ht hP9, hD9⟩⟩, hS.F ht⟩) hS.2.2 dX11_remember_94
      ·
        have c2 : ¬ 34 ≤ k52 := fun h => c2 ((nI_leI (a := 34) (b := k52) (by omega) (by omega)).mpr h)
        omega
    | succ d52 ih52 =>
      intro k52 f52_m30 H locs ls hk52 hv52_0 hP hD hS hl
      refine lv_iload_n hx hb dX11_remember_52 rfl (lv_at hl 0 rfl) ?_
      refine lv_bipush (v := 34) hx hb dX11_remember_53 (by decide) ?_
      refine lv_icmp_ge (tgt := 84) hx hb dX11_remember_55 (by decide) (fun c4 => ?_) (fun c4 => ?_)
      ·
        have c4 : 34 ≤ k52 := (nI_leI (a := 34) (b := k52) (by omega) (by omega)).mp c4
        omega
      ·
        have c4 : ¬ 34 ≤ k52 := fun h => c4 ((nI_leI (a := 34) (b := k52) (by omega) (by omega)).mpr h)
        refine lv_aload_n hx hb dX11_remember_58 rfl (lv_at hl 1 rfl) ?_
        refine va_get (D := (dC, dI)) (ci := 11) (v := .ref m30) (C := RX11) (T := TX11) (N := 46) hx hb hts hi_X11 hown hK hP 0 rfl rfl 30 (by decide) (hts (.fieldLink RX11 65 "LeftQuillsModel" "past" "[I") (wmx 2 rfl)) (fun _ h9 => h9) rfl dX11_remember_59 ?_
        refine lv_bipush (v := 34) hx hb dX11_remember_62 (by decide) ?_
        refine lv_aload_n hx hb dX11_remember_64 rfl (lv_at hl 1 rfl) ?_
        refine va_get (D := (dC, dI)) (ci := 11) (v := .int (nI un)) (C := RX11) (T := TX11) (N := 46) hx hb hts hi_X11 hown hK hP 0 rfl rfl 29 (by decide) (hts (.fieldLink RX11 174 "LeftQuillsModel" "undos" "I") (wmx 1 rfl)) (fun _ h9 => h9) rfl dX11_remember_65 ?_
        refine lv_imul hx hb dX11_remember_68 ?_
        refine lv_topi (fun z5 ez5 => ?_)
        obtain rfl : z5 = nI (34 * un) := ez5.trans (pk_mul 34 un)
        refine lv_iload_n hx hb dX11_remember_69 rfl (lv_at hl 0 rfl) ?_
        refine lv_iadd hx hb dX11_remember_70 ?_
        refine lv_topi (fun z6 ez6 => ?_)
        obtain rfl : z6 = nI ((34 * un) + k52) := ez6.trans (nI_add (34 * un) k52)
        refine lv_aload_n hx hb dX11_remember_71 rfl (lv_at hl 1 rfl) ?_
        refine va_get (D := (dC, dI)) (ci := 11) (v := .ref m10) (C := RX11) (T := TX11) (N := 46) hx hb hts hi_X11 hown hK hP 0 rfl rfl 10 (by decide) (hts (.fieldLink RX11 28 "LeftQuillsModel" "now" "[I") (wmx 3 rfl)) (fun _ h9 => h9) rfl dX11_remember_72 ?_
        refine lv_iload_n hx hb dX11_remember_75 rfl (lv_at hl 0 rfl) ?_
        refine va_iald hx hb hK hP 1 0 rfl rfl (vp_in_nI (n := k52) (N := 34) (by omega) (by decide)) dX11_remember_76 ?_
        refine W.eq (g2 := F0 m 77 ls [.int (fm10 k52), .int (nI ((34 * un) + k52)), .ref m30]) (congrArg (fun y9 => F0 m 77 ls (.int (fm10 y9) :: [.int (nI ((34 * un) + k52)), .ref m30])) ((nI_clamp (n := k52) (by omega)))) ?_
        refine va_iast hx hb hK hP hD hS 2 0 rfl rfl (vp_in_nI (n := (34 * un) + k52) (N := 680) (by omega) (by decide)) dX11_remember_77 (fun H locs hP hD hS => ?_)
        have hcl := (nI_clamp (n := (34 * un) + k52) (by omega))
        rw [hcl] at hP hD
        clear hcl
        have hPD : pdW (dC, dI) vwCl A [(h0, .inr (11, (.int n0 :: .int n1 :: .int (nI nq) :: .ref m3 :: .ref m4 :: .ref m5 :: .int (nI nh) :: .ref m7 :: .ref m8 :: .ref m9 :: .ref m10 :: .int (nI sd) :: .ref m12 :: .int (nI tx) :: .int n14 :: .int (nI at9) :: .int n16 :: .int n17 :: .ref m18 :: .int (nI rq) :: .ref m20 :: .ref m21 :: .ref m22 :: .ref m23 :: .ref m24 :: .int (nI rh) :: .ref m26 :: .ref m27 :: .ref m28 :: .int (nI un) :: .ref m30 :: .int n31 :: .int n32 :: .ref m33 :: .int n34 :: .int n35 :: .ref m36 :: .int (nI wm) :: .ref m38 :: .ref m39 :: .ref m40 :: .int (nI bk) :: .ref m42 :: .ref m43 :: .ref m44 :: .ref m45 :: []))), (m10, .inl (cI, 34, .inl fm10)), (m30, .inl (cI, 680, .inl (upd f52_m30 ((34 * un) + k52) (fm10 k52))))] H := ⟨hP, hD⟩
        have hP := hPD.1
        have hD := hPD.2
        clear hPD
        refine lv_iinc (v := nI (k52 + 1)) (lv' := [(1, .int (nI (k52 + 1))), (0, .ref h0)]) hx hb dX11_remember_78 hl (k := 0) rfl ((rfl : nI k52 + Int32.ofInt 1 = nI k52 + 1).trans (nI_add k52 1)) (by decide) rfl (fun ls hl => ?_)
        refine lv_goto (tgt := 52) hx hb dX11_remember_81 (by decide) ?_
        exact ih52 (k52 + 1) (upd f52_m30 ((34 * un) + k52) (fm10 k52)) _ _ _ (by omega) (rm_step hv52_0) hP hD hS (lv_sub hl [0, 1] rfl)
  ·
    have c1 : un = 20 := (nI_eq (a := un) (b := 20) (by omega) (by omega)).mp c1
    refine lv_bipush (v := 34) hx hb dX11_remember_9 (by decide) ?_
    refine lv_istore_n (lv' := [(1, .int 34), (0, .ref h0)]) hx hb dX11_remember_11 rfl hl (by decide) rfl (fun ls hl => ?_)
    refine (fun (K : ∀ (d12 : Nat) (k12 : Nat) (f12_m30 : Nat → Int32) (H : Heap) (locs : List Loc) (ls : Array Slot), k12 + d12 = 680 → 34 ≤ k12 → (∀ i, f12_m30 i = if i + 34 < k12 then fm30 (i + 34) else fm30 i) → va_P (dC, dI) vwCl [(h0, .inr (11, (.int n0 :: .int n1 :: .int (nI nq) :: .ref m3 :: .ref m4 :: .ref m5 :: .int (nI nh) :: .ref m7 :: .ref m8 :: .ref m9 :: .ref m10 :: .int (nI sd) :: .ref m12 :: .int (nI tx) :: .int n14 :: .int (nI at9) :: .int n16 :: .int n17 :: .ref m18 :: .int (nI rq) :: .ref m20 :: .ref m21 :: .ref m22 :: .ref m23 :: .ref m24 :: .int (nI rh) :: .ref m26 :: .ref m27 :: .ref m28 :: .int (nI un) :: .ref m30 :: .int n31 :: .int n32 :: .ref m33 :: .int n34 :: .int n35 :: .ref m36 :: .int (nI wm) :: .ref m38 :: .ref m39 :: .ref m40 :: .int (nI bk) :: .ref m42 :: .ref m43 :: .ref m44 :: .ref m45 :: []))), (m10, .inl (cI, 34, .inl fm10)), (m30, .inl (cI, 680, .inl f12_m30))] H → va_D A [(h0, .inr (11, (.int n0 :: .int n1 :: .int (nI nq) :: .ref m3 :: .ref m4 :: .ref m5 :: .int (nI nh) :: .ref m7 :: .ref m8 :: .ref m9 :: .ref m10 :: .int (nI sd) :: .ref m12 :: .int (nI tx) :: .int n14 :: .int (nI at9) :: .int n16 :: .int n17 :: .ref m18 :: .int (nI rq) :: .ref m20 :: .ref m21 :: .ref m22 :: .ref m23 :: .ref m24 :: .int (nI rh) :: .ref m26 :: .ref m27 :: .ref m28 :: .int (nI un) :: .ref m30 :: .int n31 :: .int n32 :: .ref m33 :: .int n34 :: .int n35 :: .ref m36 :: .int (nI wm) :: .ref m38 :: .ref m39 :: .ref m40 :: .int (nI bk) :: .ref m42 :: .ref m43 :: .ref m44 :: .ref m45 :: []))), (m10, .inl (cI, 34, .inl fm10)), (m30, .inl (cI, 680, .inl f12_m30))] → va_S A s.heap H locs → lv_has ls 2 [(1, .int (nI k12)), (0, .ref h0)] → W p l e _ s m _ below meth c H locs _ _ _ (F0 m 12 ls [])) => K (680 - 34) 34 fm30 _ _ _ (by omega) (by omega) (fun i => (if_neg (by omega)).symm) hP hD hS (lv_sub hl [0, 1] rfl)) ?_
    intro d12
    induction d12 with
    | zero =>
      intro k12 f12_m30 H locs ls hk12 hlo12 hv12_0 hP hD hS hl
      refine lv_iload_n hx hb dX11_remember_12 rfl (lv_at hl 0 rfl) ?_
      refine lv_sipush (v := 680) hx hb dX11_remember_13 (by decide) ?_
      refine lv_icmp_ge (tgt := 40) hx hb dX11_remember_16 (by decide) (fun c8 => ?_) (fun c8 => ?_)
      ·
        have c8 : 680 ≤ k12 := (nI_leI (a := 680) (b := k12) (by omega) (by omega)).mp c8
        have hv12x : ∀ i, f12_m30 i = if i + 34 < 680 then fm30 (i + 34) else fm30 i := fun i => by rw [hv12_0 i, show k12 = 680 from by omega]
        refine lv_aload_n hx hb dX11_remember_40 rfl (lv_at hl 1 rfl) ?_
        refine lv_dup hx hb dX11_remember_41 rfl ?_
        refine va_get (D := (dC, dI)) (ci := 11) (v := .int (nI un)) (C := RX11) (T := TX11) (N := 46) hx hb hts hi_X11 hown hK hP 0 rfl rfl 29 (by decide) (hts (.fieldLink RX11 174 "LeftQuillsModel" "undos" "I") (wmx 1 rfl)) (fun _ h9 => h9) rfl dX11_remember_42 ?_
        refine lv_iconst (v := 1) hx hb dX11_remember_45 (by decide) ?_
        refine lv_isub hx hb dX11_remember_46 ?_
        refine lv_topi (fun z9 ez9 => ?_)
        obtain rfl : z9 = nI (un - 1) := ez9.trans (pk_sub (a := un) (b := 1) (by omega))
        refine va_put (D := (dC, dI)) (ci := 11) (v := .int (nI (un - 1))) (ty := .int) (C := RX11) (T := TX11) (N := 46) hx hb hts hi_X11 tyX11 tyX11_ok nmX11 hown hK hP hD hS 0 rfl rfl 29 (by decide) (hts (.fieldLink RX11 174 "LeftQuillsModel" "undos" "I") (wmx 1 rfl)) (fun _ h9 => h9) rfl (by decide +kernel) rfl rfl (Nat.le_of_ble_eq_true rfl) dX11_remember_47 (fun H locs hP hD hS => ?_)
        have hPD : pdW (dC, dI) vwCl A [(h0, .inr (11, (.int n0 :: .int n1 :: .int (nI nq) :: .ref m3 :: .ref m4 :: .ref m5 :: .int (nI nh) :: .ref m7 :: .ref m8 :: .ref m9 :: .ref m10 :: .int (nI sd) :: .ref m12 :: .int (nI tx) :: .int n14 :: .int (nI at9) :: .int n16 :: .int n17 :: .ref m18 :: .int (nI rq) :: .ref m20 :: .ref m21 :: .ref m22 :: .ref m23 :: .ref m24 :: .int (nI rh) :: .ref m26 :: .ref m27 :: .ref m28 :: .int (nI (un - 1)) :: .ref m30 :: .int n31 :: .int n32 :: .ref m33 :: .int n34 :: .int n35 :: .ref m36 :: .int (nI wm) :: .ref m38 :: .ref m39 :: .ref m40 :: .int (nI bk) :: .ref m42 :: .ref m43 :: .ref m44 :: .ref m45 :: []))), (m10, .inl (cI, 34, .inl fm10)), (m30, .inl (cI, 680, .inl f12_m30))] H := ⟨hP, hD⟩
        have hP := hPD.1
        have hD := hPD.2
        clear hPD
        refine lv_iconst (v := 0) hx hb dX11_remember_50 (by decide) ?_
        refine lv_istore_n (lv' := [(1, .int 0), (0, .ref h0)]) hx hb dX11_remember_51 rfl hl (by decide) rfl (fun ls hl => ?_)
        refine (fun (K : ∀ (d52 : Nat) (k52 : Nat) (f52_m30 : Nat → Int32) (H : Heap) (locs : List Loc) (ls : Array Slot), k52 + d52 = 34 → (∀ i, f52_m30 i = if 34 * (un - 1) ≤ i ∧ i < 34 * (un - 1) + k52 then fm10 (i - 34 * (un - 1)) else f12_m30 i) → va_P (dC, dI) vwCl [(h0, .inr (11, (.int n0 :: .int n1 :: .int (nI nq) :: .ref m3 :: .ref m4 :: .ref m5 :: .int (nI nh) :: .ref m7 :: .ref m8 :: .ref m9 :: .ref m10 :: .int (nI sd) :: .ref m12 :: .int (nI tx) :: .int n14 :: .int (nI at9) :: .int n16 :: .int n17 :: .ref m18 :: .int (nI rq) :: .ref m20 :: .ref m21 :: .ref m22 :: .ref m23 :: .ref m24 :: .int (nI rh) :: .ref m26 :: .ref m27 :: .ref m28 :: .int (nI (un - 1)) :: .ref m30 :: .int n31 :: .int n32 :: .ref m33 :: .int n34 :: .int n35 :: .ref m36 :: .int (nI wm) :: .ref m38 :: .ref m39 :: .ref m40 :: .int (nI bk) :: .ref m42 :: .ref m43 :: .ref m44 :: .ref m45 :: []))), (m10, .inl (cI, 34, .inl fm10)), (m30, .inl (cI, 680, .inl f52_m30))] H → va_D A [(h0, .inr (11, (.int n0 :: .int n1 :: .int (nI nq) :: .ref m3 :: .ref m4 :: .ref m5 :: .int (nI nh) :: .ref m7 :: .ref m8 :: .ref m9 :: .ref m10 :: .int (nI sd) :: .ref m12 :: .int (nI tx) :: .int n14 :: .int (nI at9) :: .int n16 :: .int n17 :: .ref m18 :: .int (nI rq) :: .ref m20 :: .ref m21 :: .ref m22 :: .ref m23 :: .ref m24 :: .int (nI rh) :: .ref m26 :: .ref m27 :: .ref m28 :: .int (nI (un - 1)) :: .ref m30 :: .int n31 :: .int n32 :: .ref m33 :: .int n34 :: .int n35 :: .ref m36 :: .int (nI wm) :: .ref m38 :: .ref m39 :: .ref m40 :: .int (nI bk) :: .ref m42 :: .ref m43 :: .ref m44 :: .ref m45 :: []))), (m10, .inl (cI, 34, .inl fm10)), (m30, .inl (cI, 680, .inl f52_m30))] → va_S A s.heap H locs → lv_has ls 2 [(1, .int (nI k52)), (0, .ref h0)] → W p l e _ s m _ below meth c H locs _ _ _ (F0 m 52 ls [])) => K 34 0 f12_m30 _ _ _ (by omega) (fun i => (if_neg (by omega)).symm) hP hD hS (lv_sub hl [0, 1] rfl)) ?_
        intro d52
        induction d52 with
        | zero =>
          intro k52 f52_m30 H locs ls hk52 hv52_0 hP hD hS hl
          refine lv_iload_n hx hb dX11_remember_52 rfl (lv_at hl 0 rfl) ?_
          refine lv_bipush (v := 34) hx hb dX11_remember_53 (by decide) ?_
          refine lv_icmp_ge (tgt := 84) hx hb dX11_remember_55 (by decide) (fun c10 => ?_) (fun c10 => ?_)
          ·
            have c10 : 34 ≤ k52 := (nI_leI (a := 34) (b := k52) (by omega) (by omega)).mp c10
            have hv52x : ∀ i, f52_m30 i = if 34 * (un - 1) ≤ i ∧ i < 34 * (un - 1) + 34 then fm10 (i - 34 * (un - 1)) else f12_m30 i := fun i => by rw [hv52_0 i, show k52 = 34 from by omega]
            refine lv_aload_n hx hb dX11_remember_84 rfl (lv_at hl 1 rfl) ?_
            refine lv_dup hx hb dX11_remember_85 rfl ?_
            refine va_get (D := (dC, dI)) (ci := 11) (v := .int (nI (un - 1))) (C := RX11) (T := TX11) (N := 46) hx hb hts hi_X11 hown hK hP 0 rfl rfl 29 (by decide) (hts (.fieldLink RX11 174 "LeftQuillsModel" "undos" "I") (wmx 1 rfl)) (fun _ h9 => h9) rfl dX11_remember_86 ?_
            refine lv_iconst (v := 1) hx hb dX11_remember_89 (by decide) ?_
            refine lv_iadd hx hb dX11_remember_90 ?_
            refine lv_topi (fun z11 ez11 => ?_)
            obtain rfl : z11 = nI ((un - 1) + 1) := ez11.trans (nI_add (un - 1) 1)
            refine va_put (D := (dC, dI)) (ci := 11) (v := .int (nI ((un - 1) + 1))) (ty := .int) (C := RX11) (T := TX11) (N := 46) hx hb hts hi_X11 tyX11 tyX11_ok nmX11 hown hK hP hD hS 0 rfl rfl 29 (by decide) (hts (.fieldLink RX11 174 "LeftQuillsModel" "undos" "I") (wmx 1 rfl)) (fun _ h9 => h9) rfl (by decide +kernel) rfl rfl (Nat.le_of_ble_eq_true rfl) dX11_remember_91 (fun H locs hP hD hS => ?_)
            have hPD : pdW (dC, dI) vwCl A [(h0, .inr (11, (.int n0 :: .int n1 :: .int (nI nq) :: .ref m3 :: .ref m4 :: .ref m5 :: .int (nI nh) :: .ref m7 :: .ref m8 :: .ref m9 :: .ref m10 :: .int (nI sd) :: .ref m12 :: .int (nI tx) :: .int n14 :: .int (nI at9) :: .int n16 :: .int n17 :: .ref m18 :: .int (nI rq) :: .ref m20 :: .ref m21 :: .ref m22 :: .ref m23 :: .ref m24 :: .int (nI rh) :: .ref m26 :: .ref m27 :: .ref m28 :: .int (nI ((un - 1) + 1)) :: .ref m30 :: .int n31 :: .int n32 :: .ref m33 :: .int n34 :: .int n35 :: .ref m36 :: .int (nI wm) :: .ref m38 :: .ref m39 :: .ref m40 :: .int (nI bk) :: .ref m42 :: .ref m43 :: .ref m44 :: .ref m45 :: []))), (m10, .inl (cI, 34, .inl fm10)), (m30, .inl (cI, 680, .inl f52_m30))] H := ⟨hP, hD⟩
            have hP := hPD.1
            have hD := hPD.2
            clear hPD
            have hP9 := hP.sub (ws' := [(h0, .inr (11, (.int n0 :: .int n1 :: .int (nI nq) :: .ref m3 :: .ref m4 :: .ref m5 :: .int (nI nh) :: .ref m7 :: .ref m8 :: .ref m9 :: .ref m10 :: .int (nI sd) :: .ref m12 :: .int (nI tx) :: .int n14 :: .int (nI at9) :: .int n16 :: .int n17 :: .ref m18 :: .int (nI rq) :: .ref m20 :: .ref m21 :: .ref m22 :: .ref m23 :: .ref m24 :: .int (nI rh) :: .ref m26 :: .ref m27 :: .ref m28 :: .int (nI ((un - 1) + 1)) :: .ref m30 :: .int n31 :: .int n32 :: .ref m33 :: .int n34 :: .int n35 :: .ref m36 :: .int (nI wm) :: .ref m38 :: .ref m39 :: .ref m40 :: .int (nI bk) :: .ref m42 :: .ref m43 :: .ref m44 :: .ref m45 :: []))), (m10, .inl (cI, 34, .inl fm10)), (m30, .inl (cI, 680, .inl f52_m30))]) [0, 1, 2] rfl
            have hD9 := hD.sub (ws' := [(h0, .inr (11, (.int n0 :: .int n1 :: .int (nI nq) :: .ref m3 :: .ref m4 :: .ref m5 :: .int (nI nh) :: .ref m7 :: .ref m8 :: .ref m9 :: .ref m10 :: .int (nI sd) :: .ref m12 :: .int (nI tx) :: .int n14 :: .int (nI at9) :: .int n16 :: .int n17 :: .ref m18 :: .int (nI rq) :: .ref m20 :: .ref m21 :: .ref m22 :: .ref m23 :: .ref m24 :: .int (nI rh) :: .ref m26 :: .ref m27 :: .ref m28 :: .int (nI ((un - 1) + 1)) :: .ref m30 :: .int n31 :: .int n32 :: .ref m33 :: .int n34 :: .int n35 :: .ref m36 :: .int (nI wm) :: .ref m38 :: .ref m39 :: .ref m40 :: .int (nI bk) :: .ref m42 :: .ref m43 :: .ref m44 :: .ref m45 :: []))), (m10, .inl (cI, 34, .inl fm10)), (m30, .inl (cI, 680, .inl f52_m30))]) [0, 1, 2] (by decide +kernel) rfl
            exact W.vret hx hb hr (fun t ht hW => ⟨⟨(fun _ => 0), rfl, trivial, ⟨f52_m30, ((un - 1) + 1), by omega, (rm_20 c1 hv12x hv52x), (by rw [if_neg (by omega)]; omega), va_hq ht hP9, hD9⟩⟩, hS.F ht⟩) hS.2.2 dX11_remember_94
          ·
            have c10 : ¬ 34 ≤ k52 := fun h => c10 ((nI_leI (a := 34) (b := k52) (by omega) (by omega)).mpr h)
            omega
        | succ d52 ih52 =>
          intro k52 f52_m30 H locs ls hk52 hv52_0 hP hD hS hl
          refine lv_iload_n hx hb dX11_remember_52 rfl (lv_at hl 0 rfl) ?_
          refine lv_bipush (v := 34) hx hb dX11_remember_53 (by decide) ?_
          refine lv_icmp_ge (tgt := 84) hx hb dX11_remember_55 (by decide) (fun c12 => ?_) (fun c12 => ?_)
          ·
            have c12 : 34 ≤ k52 := (nI_leI (a := 34) (b := k52) (by omega) (by omega)).mp c12
            omega
          ·
            have c12 : ¬ 34 ≤ k52 := fun h => c12 ((nI_leI (a := 34) (b := k52) (by omega) (by omega)).mpr h)
            refine lv_aload_n hx hb dX11_remember_58 rfl (lv_at hl 1 rfl) ?_
            refine va_get (D := (dC, dI)) (ci := 11) (v := .ref m30) (C := RX11) (T := TX11) (N := 46) hx hb hts hi_X11 hown hK hP 0 rfl rfl 30 (by decide) (hts (.fieldLink RX11 65 "LeftQuillsModel" "past" "[I") (wmx 2 rfl)) (fun _ h9 => h9) rfl dX11_remember_59 ?_
            refine lv_bipush (v := 34) hx hb dX11_remember_62 (by decide) ?_
            refine lv_aload_n hx hb dX11_remember_64 rfl (lv_at hl 1 rfl) ?_
            refine va_get (D := (dC, dI)) (ci := 11) (v := .int (nI (un - 1))) (C := RX11) (T := TX11) (N := 46) hx hb hts hi_X11 hown hK hP 0 rfl rfl 29 (by decide) (hts (.fieldLink RX11 174 "LeftQuillsModel" "undos" "I") (wmx 1 rfl)) (fun _ h9 => h9) rfl dX11_remember_65 ?_
            refine lv_imul hx hb dX11_remember_68 ?_
            refine lv_topi (fun z13 ez13 => ?_)
            obtain rfl : z13 = nI (34 * (un - 1)) := ez13.trans (pk_mul 34 (un - 1))
            refine lv_iload_n hx hb dX11_remember_69 rfl (lv_at hl 0 rfl) ?_
            refine lv_iadd hx hb dX11_remember_70 ?_
            refine lv_topi (fun z14 ez14 => ?_)
            obtain rfl : z14 = nI ((34 * (un - 1)) + k52) := ez14.trans (nI_add (34 * (un - 1)) k52)
            refine lv_aload_n hx hb dX11_remember_71 rfl (lv_at hl 1 rfl) ?_
            refine va_get (D := (dC, dI)) (ci := 11) (v := .ref m10) (C := RX11) (T := TX11) (N := 46) hx hb hts hi_X11 hown hK hP 0 rfl rfl 10 (by decide) (hts (.fieldLink RX11 28 "LeftQuillsModel" "now" "[I") (wmx 3 rfl)) (fun _ h9 => h9) rfl dX11_remember_72 ?_
            refine lv_iload_n hx hb dX11_remember_75 rfl (lv_at hl 0 rfl) ?_
            refine va_iald hx hb hK hP 1 0 rfl rfl (vp_in_nI (n := k52) (N := 34) (by omega) (by decide)) dX11_remember_76 ?_
            refine W.eq (g2 := F0 m 77 ls [.int (fm10 k52), .int (nI ((34 * (un - 1)) + k52)), .ref m30]) (congrArg (fun y9 => F0 m 77 ls (.int (fm10 y9) :: [.int (nI ((34 * (un - 1)) + k52)), .ref m30])) ((nI_clamp (n := k52) (by omega)))) ?_
            refine va_iast hx hb hK hP hD hS 2 0 rfl rfl (vp_in_nI (n := (34 * (un - 1)) + k52) (N := 680) (by omega) (by decide)) dX11_remember_77 (fun H locs hP hD hS => ?_)
            have hcl := (nI_clamp (n := (34 * (un - 1)) + k52) (by omega))
            rw [hcl] at hP hD
            clear hcl
            have hPD : pdW (dC, dI) vwCl A [(h0, .inr (11, (.int n0 :: .int n1 :: .int (nI nq) :: .ref m3 :: .ref m4 :: .ref m5 :: .int (nI nh) :: .ref m7 :: .ref m8 :: .ref m9 :: .ref m10 :: .int (nI sd) :: .ref m12 :: .int (nI tx) :: .int n14 :: .int (nI at9) :: .int n16 :: .int n17 :: .ref m18 :: .int (nI rq) :: .ref m20 :: .ref m21 :: .ref m22 :: .ref m23 :: .ref m24 :: .int (nI rh) :: .ref m26 :: .ref m27 :: .ref m28 :: .int (nI (un - 1)) :: .ref m30 :: .int n31 :: .int n32 :: .ref m33 :: .int n34 :: .int n35 :: .ref m36 :: .int (nI wm) :: .ref m38 :: .ref m39 :: .ref m40 :: .int (nI bk) :: .ref m42 :: .ref m43 :: .ref m44 :: .ref m45 :: []))), (m10, .inl (cI, 34, .inl fm10)), (m30, .inl (cI, 680, .inl (upd f52_m30 ((34 * (un - 1)) + k52) (fm10 k52))))] H := ⟨hP, hD⟩
            have hP := hPD.1
            have hD := hPD.2
            clear hPD
            refine lv_iinc (v := nI (k52 + 1)) (lv' := [(1, .int (nI (k52 + 1))), (0, .ref h0)]) hx hb dX11_remember_78 hl (k := 0) rfl ((rfl : nI k52 + Int32.ofInt 1 = nI k52 + 1).trans (nI_add k52 1)) (by decide) rfl (fun ls hl => ?_)
            refine lv_goto (tgt := 52) hx hb dX11_remember_81 (by decide) ?_
            exact ih52 (k52 + 1) (upd f52_m30 ((34 * (un - 1)) + k52) (fm10 k52)) _ _ _ (by omega) (rm_step hv52_0) hP hD hS (lv_sub hl [0, 1] rfl)
      ·
        have c8 : ¬ 680 ≤ k12 := fun h => c8 ((nI_leI (a := 680) (b := k12) (by omega) (by omega)).mpr h)
        omega
    | succ d12 ih12 =>
      intro k12 f12_m30 H locs ls hk12 hlo12 hv12_0 hP hD hS hl
      refine lv_iload_n hx hb dX11_remember_12 rfl (lv_at hl 0 rfl) ?_
      refine lv_sipush (v := 680) hx hb dX11_remember_13 (by decide) ?_
      refine lv_icmp_ge (tgt := 40) hx hb dX11_remember_16 (by decide) (fun c16 => ?_) (fun c16 => ?_)
      ·
        have c16 : 680 ≤ k12 := (nI_leI (a := 680) (b := k12) (by omega) (by omega)).mp c16
        omega
      ·
        have c16 : ¬ 680 ≤ k12 := fun h => c16 ((nI_leI (a := 680) (b := k12) (by omega) (by omega)).mpr h)
        refine lv_aload_n hx hb dX11_remember_19 rfl (lv_at hl 1 rfl) ?_
        refine va_get (D := (dC, dI)) (ci := 11) (v := .ref m30) (C := RX11) (T := TX11) (N := 46) hx hb hts hi_X11 hown hK hP 0 rfl rfl 30 (by decide) (hts (.fieldLink RX11 65 "LeftQuillsModel" "past" "[I") (wmx 2 rfl)) (fun _ h9 => h9) rfl dX11_remember_20 ?_
        refine lv_iload_n hx hb dX11_remember_23 rfl (lv_at hl 0 rfl) ?_
        refine lv_bipush (v := 34) hx hb dX11_remember_24 (by decide) ?_
        refine lv_isub hx hb dX11_remember_26 ?_
        refine lv_topi (fun z17 ez17 => ?_)
        obtain rfl : z17 = nI (k12 - 34) := ez17.trans (pk_sub (a := k12) (b := 34) (by omega))
        refine lv_aload_n hx hb dX11_remember_27 rfl (lv_at hl 1 rfl) ?_
        refine va_get (D := (dC, dI)) (ci := 11) (v := .ref m30) (C := RX11) (T := TX11) (N := 46) hx hb hts hi_X11 hown hK hP 0 rfl rfl 30 (by decide) (hts (.fieldLink RX11 65 "LeftQuillsModel" "past" "[I") (wmx 2 rfl)) (fun _ h9 => h9) rfl dX11_remember_28 ?_
        refine lv_iload_n hx hb dX11_remember_31 rfl (lv_at hl 0 rfl) ?_
        refine va_iald hx hb hK hP 2 0 rfl rfl (vp_in_nI (n := k12) (N := 680) (by omega) (by decide)) dX11_remember_32 ?_
        refine W.eq (g2 := F0 m 33 ls [.int (f12_m30 k12), .int (nI (k12 - 34)), .ref m30]) (congrArg (fun y9 => F0 m 33 ls (.int (f12_m30 y9) :: [.int (nI (k12 - 34)), .ref m30])) ((nI_clamp (n := k12) (by omega)))) ?_
        refine va_iast hx hb hK hP hD hS 2 0 rfl rfl (vp_in_nI (n := k12 - 34) (N := 680) (by omega) (by decide)) dX11_remember_33 (fun H locs hP hD hS => ?_)
        have hcl := (nI_clamp (n := k12 - 34) (by omega))
        rw [hcl] at hP hD
        clear hcl
        have hPD : pdW (dC, dI) vwCl A [(h0, .inr (11, (.int n0 :: .int n1 :: .int (nI nq) :: .ref m3 :: .ref m4 :: .ref m5 :: .int (nI nh) :: .ref m7 :: .ref m8 :: .ref m9 :: .ref m10 :: .int (nI sd) :: .ref m12 :: .int (nI tx) :: .int n14 :: .int (nI at9) :: .int n16 :: .int n17 :: .ref m18 :: .int (nI rq) :: .ref m20 :: .ref m21 :: .ref m22 :: .ref m23 :: .ref m24 :: .int (nI rh) :: .ref m26 :: .ref m27 :: .ref m28 :: .int (nI un) :: .ref m30 :: .int n31 :: .int n32 :: .ref m33 :: .int n34 :: .int n35 :: .ref m36 :: .int (nI wm) :: .ref m38 :: .ref m39 :: .ref m40 :: .int (nI bk) :: .ref m42 :: .ref m43 :: .ref m44 :: .ref m45 :: []))), (m10, .inl (cI, 34, .inl fm10)), (m30, .inl (cI, 680, .inl (upd f12_m30 (k12 - 34) (f12_m30 k12))))] H := ⟨hP, hD⟩
        have hP := hPD.1
        have hD := hPD.2
        clear hPD
        refine lv_iinc (v := nI (k12 + 1)) (lv' := [(1, .int (nI (k12 + 1))), (0, .ref h0)]) hx hb dX11_remember_34 hl (k := 0) rfl ((rfl : nI k12 + Int32.ofInt 1 = nI k12 + 1).trans (nI_add k12 1)) (by decide) rfl (fun ls hl => ?_)
        refine lv_goto (tgt := 12) hx hb dX11_remember_37 (by decide) ?_
        exact ih12 (k12 + 1) (upd f12_m30 (k12 - 34) (f12_m30 k12)) _ _ _ (by omega) (by omega) (sh_step (by omega) hv12_0) hP hD hS (lv_sub hl [0, 1] rfl)
set_option maxHeartbeats 4000000 in
set_option maxRecDepth 100000 in
theorem c_X11_drawD (l : Launch) (dC : Nat → ClassId) (dI : Nat → Nat → Nat) (cI cZ cQ : ClassId) (h0 : Nat) (n0 : Int32) (n1 : Int32) (nq : Nat) (m3 : Nat) (m4 : Nat) (m5 : Nat) (nh : Nat) (m7 : Nat) (m8 : Nat) (m9 : Nat) (m10 : Nat) (sd : Nat) (m12 : Nat) (tx : Nat) (n14 : Int32) (at9 : Nat) (n16 : Int32) (n17 : Int32) (m18 : Nat) (rq : Nat) (m20 : Nat) (m21 : Nat) (m22 : Nat) (m23 : Nat) (m24 : Nat) (rh : Nat) (m26 : Nat) (m27 : Nat) (m28 : Nat) (un : Nat) (m30 : Nat) (n31 : Int32) (n32 : Int32) (m33 : Nat) (n34 : Int32) (n35 : Int32) (m36 : Nat) (wm : Nat) (m38 : Nat) (m39 : Nat) (m40 : Nat) (bk : Nat) (m42 : Nat) (m43 : Nat) (m44 : Nat) (m45 : Nat) (k : Nat) (sz : Nat) (hk0 : 0 < k) (hk : k < 100) (hsd : sd ≤ 2147483647) : Met l yX11_draw wsX11_draw ({ frames := 0, cells := 0, slots := 0, locals := 40 }) (va_Pc [.ref h0, .int (nI k)] (fun U => U.heap.size = sz ∧ va_P (dC, dI) vwCl [(h0, .inr (11, (.int n0 :: .int n1 :: .int (nI nq) :: .ref m3 :: .ref m4 :: .ref m5 :: .int (nI nh) :: .ref m7 :: .ref m8 :: .ref m9 :: .ref m10 :: .int (nI sd) :: .ref m12 :: .int (nI tx) :: .int n14 :: .int (nI at9) :: .int n16 :: .int n17 :: .ref m18 :: .int (nI rq) :: .ref m20 :: .ref m21 :: .ref m22 :: .ref m23 :: .ref m24 :: .int (nI rh) :: .ref m26 :: .ref m27 :: .ref m28 :: .int (nI un) :: .ref m30 :: .int n31 :: .int n32 :: .ref m33 :: .int n34 :: .int n35 :: .ref m36 :: .int (nI wm) :: .ref m38 :: .ref m39 :: .ref m40 :: .int (nI bk) :: .ref m42 :: .ref m43 :: .ref m44 :: .ref m45 :: [])))] U.heap ∧ va_K (dC, dI) vwCl (tys0 cI cZ cQ) U ∧ va_D (fun _ => True) [(h0, .inr (11, (.int n0 :: .int n1 :: .int (nI nq) :: .ref m3 :: .ref m4 :: .ref m5 :: .int (nI nh) :: .ref m7 :: .ref m8 :: .ref m9 :: .ref m10 :: .int (nI sd) :: .ref m12 :: .int (nI tx) :: .int n14 :: .int (nI at9) :: .int n16 :: .int n17 :: .ref m18 :: .int (nI rq) :: .ref m20 :: .ref m21 :: .ref m22 :: .ref m23 :: .ref m24 :: .int (nI rh) :: .ref m26 :: .ref m27 :: .ref m28 :: .int (nI un) :: .ref m30 :: .int n31 :: .int n32 :: .ref m33 :: .int n34 :: .int n35 :: .ref m36 :: .int (nI wm) :: .ref m38 :: .ref m39 :: .ref m40 :: .int (nI bk) :: .ref m42 :: .ref m43 :: .ref m44 :: .ref m45 :: [])))])) (va_Qi (fun (r : Int32) (u : Nat → Nat) => r = nI (dwN sd / 65536 % k)) (fun (_ : Nat → Nat) (t : State) => ∃ (kk0 : Nat), kk0 ≤ 2147483647 ∧ (kk0 = dwN sd) ∧ va_P (dC, dI) vwCl [(h0, .inr (11, (.int n0 :: .int n1 :: .int (nI nq) :: .ref m3 :: .ref m4 :: .ref m5 :: .int (nI nh) :: .ref m7 :: .ref m8 :: .ref m9 :: .ref m10 :: .int (nI kk0) :: .ref m12 :: .int (nI tx) :: .int n14 :: .int (nI at9) :: .int n16 :: .int n17 :: .ref m18 :: .int (nI rq) :: .ref m20 :: .ref m21 :: .ref m22 :: .ref m23 :: .ref m24 :: .int (nI rh) :: .ref m26 :: .ref m27 :: .ref m28 :: .int (nI un) :: .ref m30 :: .int n31 :: .int n32 :: .ref m33 :: .int n34 :: .int n35 :: .ref m36 :: .int (nI wm) :: .ref m38 :: .ref m39 :: .ref m40 :: .int (nI bk) :: .ref m42 :: .ref m43 :: .ref m44 :: .ref m45 :: [])))] t.heap ∧ va_D (va_A [(h0, .inr (11, (.int n0 :: .int n1 :: .int (nI nq) :: .ref m3 :: .ref m4 :: .ref m5 :: .int (nI nh) :: .ref m7 :: .ref m8 :: .ref m9 :: .ref m10 :: .int (nI sd) :: .ref m12 :: .int (nI tx) :: .int n14 :: .int (nI at9) :: .int n16 :: .int n17 :: .ref m18 :: .int (nI rq) :: .ref m20 :: .ref m21 :: .ref m22 :: .ref m23 :: .ref m24 :: .int (nI rh) :: .ref m26 :: .ref m27 :: .ref m28 :: .int (nI un) :: .ref m30 :: .int n31 :: .int n32 :: .ref m33 :: .int n34 :: .int n35 :: .ref m36 :: .int (nI wm) :: .ref m38 :: .ref m39 :: .ref m40 :: .int (nI bk) :: .ref m42 :: .ref m43 :: .ref m44 :: .ref m45 :: [])))] sz) [(h0, .inr (11, (.int n0 :: .int n1 :: .int (nI nq) :: .ref m3 :: .ref m4 :: .ref m5 :: .int (nI nh) :: .ref m7 :: .ref m8 :: .ref m9 :: .ref m10 :: .int (nI kk0) :: .ref m12 :: .int (nI tx) :: .int n14 :: .int (nI at9) :: .int n16 :: .int n17 :: .ref m18 :: .int (nI rq) :: .ref m20 :: .ref m21 :: .ref m22 :: .ref m23 :: .ref m24 :: .int (nI rh) :: .ref m26 :: .ref m27 :: .ref m28 :: .int (nI un) :: .ref m30 :: .int n31 :: .int n32 :: .ref m33 :: .int n34 :: .int n35 :: .ref m36 :: .int (nI wm) :: .ref m38 :: .ref m39 :: .ref m40 :: .int (nI bk) :: .ref m42 :: .ref m43 :: .ref m44 :: .ref m45 :: [])))]) (va_A [(h0, .inr (11, (.int n0 :: .int n1 :: .int (nI nq) :: .ref m3 :: .ref m4 :: .ref m5 :: .int (nI nh) :: .ref m7 :: .ref m8 :: .ref m9 :: .ref m10 :: .int (nI sd) :: .ref m12 :: .int (nI tx) :: .int n14 :: .int (nI at9) :: .int n16 :: .int n17 :: .ref m18 :: .int (nI rq) :: .ref m20 :: .ref m21 :: .ref m22 :: .ref m23 :: .ref m24 :: .int (nI rh) :: .ref m26 :: .ref m27 :: .ref m28 :: .int (nI un) :: .ref m30 :: .int n31 :: .int n32 :: .ref m33 :: .int n34 :: .int n35 :: .ref m36 :: .int (nI wm) :: .ref m38 :: .ref m39 :: .ref m40 :: .int (nI bk) :: .ref m42 :: .ref m43 :: .ref m44 :: .ref m45 :: [])))] sz)) 0 0 (va_A [(h0, .inr (11, (.int n0 :: .int n1 :: .int (nI nq) :: .ref m3 :: .ref m4 :: .ref m5 :: .int (nI nh) :: .ref m7 :: .ref m8 :: .ref m9 :: .ref m10 :: .int (nI sd) :: .ref m12 :: .int (nI tx) :: .int n14 :: .int (nI at9) :: .int n16 :: .int n17 :: .ref m18 :: .int (nI rq) :: .ref m20 :: .ref m21 :: .ref m22 :: .ref m23 :: .ref m24 :: .int (nI rh) :: .ref m26 :: .ref m27 :: .ref m28 :: .int (nI un) :: .ref m30 :: .int n31 :: .int n32 :: .ref m33 :: .int n34 :: .int n35 :: .ref m36 :: .int (nI wm) :: .ref m38 :: .ref m39 :: .ref m40 :: .int (nI bk) :: .ref m42 :: .ref m43 :: .ref m44 :: .ref m45 :: [])))] sz) := by
  refine Met.ofW (cc := cX11_draw) (maxL := 2) (ret := (some .int)) (by decide) rfl ?_
  intro p e s m args below meth c s₁ B hml hv
  obtain ⟨rfl, hsz, hP, hK, hD0⟩ := hv
  have hx := B.exec
  have hb := B.bytes
  have hr := B.returns
  have hts := atoms_spec (ws := wsX11_draw) B.pre
  have hown : s.vm.findClass RX11 = some m.cls := findClass_of_methodNamed B.named
  have hlocks := B.notSynchronized
  have hi_X11 : ∀ w ∈ u_ws RX11 TX11 46, w ∈ wsX11_draw := fun _ h => List.mem_cons_of_mem _ (List.mem_append_right _ (h))
  subst hsz
  have hD := hD0.self (sz := s.heap.size)
  generalize hAe : va_A [(h0, .inr (11, (.int n0 :: .int n1 :: .int (nI nq) :: .ref m3 :: .ref m4 :: .ref m5 :: .int (nI nh) :: .ref m7 :: .ref m8 :: .ref m9 :: .ref m10 :: .int (nI sd) :: .ref m12 :: .int (nI tx) :: .int n14 :: .int (nI at9) :: .int n16 :: .int n17 :: .ref m18 :: .int (nI rq) :: .ref m20 :: .ref m21 :: .ref m22 :: .ref m23 :: .ref m24 :: .int (nI rh) :: .ref m26 :: .ref m27 :: .ref m28 :: .int (nI un) :: .ref m30 :: .int n31 :: .int n32 :: .ref m33 :: .int n34 :: .int n35 :: .ref m36 :: .int (nI wm) :: .ref m38 :: .ref m39 :: .ref m40 :: .int (nI bk) :: .ref m42 :: .ref m43 :: .ref m44 :: .ref m45 :: [])))] s.heap.size = A at hD ⊢
  have hA : ∀ q : Nat, s.heap.size ≤ q → A q := fun q h => by rw [← hAe]; exact Or.inr h
  have hS : va_S A s.heap s.heap [] := va_S.rf
  have hl := lv_entry ([.ref h0, .int (nI k)]) (n := 2) (Nat.le_of_ble_eq_true rfl)
  rw [lg_entry_eq]
  generalize (lg_sl ([.ref h0, .int (nI k)]) ++ List.replicate (2 - (lg_sl ([.ref h0, .int (nI k)])).length) Slot.unset).toArray = ls at hl ⊢
  have hl : lv_has ls 2 [(0, .ref h0), (1, .int (nI k))] := hl
  refine lv_aload_n hx hb dX11_draw_0 rfl (lv_at hl 0 rfl) ?_
  refine lv_aload_n hx hb dX11_draw_1 rfl (lv_at hl 0 rfl) ?_
  refine va_get (D := (dC, dI)) (ci := 11) (v := .int (nI sd)) (C := RX11) (T := TX11) (N := 46) hx hb hts hi_X11 hown hK hP 0 rfl rfl 11 (by decide) (hts (.fieldLink RX11 241 "LeftQuillsModel" "seed" "I") (wmx 1 rfl)) (fun _ h9 => h9) rfl dX11_draw_2 ?_
  refine lv_i2l hx hb dX11_draw_5 rfl ?_
  refine lv_ldc2 (v := 1103515245) hx hb hown (hts (.constantLong RX11 244 1103515245) (wmx 2 rfl)) dX11_draw_6 ?_
  refine lv_lmul hx hb dX11_draw_9 ?_
  refine lv_topl (fun z1 ez1 => ?_)
  refine lv_ldc2 (v := 12345) hx hb hown (hts (.constantLong RX11 246 12345) (wmx 3 rfl)) dX11_draw_10 ?_
  refine lv_ladd hx hb dX11_draw_13 ?_
  refine lv_topl (fun z2 ez2 => ?_)
  refine lv_ldc2 (v := 2147483648) hx hb hown (hts (.constantLong RX11 248 2147483648) (wmx 4 rfl)) dX11_draw_14 ?_
  refine lv_lrem hx hb dX11_draw_17 (by decide) ?_
  refine lv_topl (fun z3 ez3 => ?_)
  refine lv_l2i hx hb dX11_draw_18 rfl ?_
  refine lv_topi (fun z4 ez4 => ?_)
  have hdw := dwN_lt sd
  obtain rfl : z4 = nI (dwN sd) := ez4.trans (x_draw hsd ez1 ez2 ez3)
  refine va_put (D := (dC, dI)) (ci := 11) (v := .int (nI (dwN sd))) (ty := .int) (C := RX11) (T := TX11) (N := 46) hx hb hts hi_X11 tyX11 tyX11_ok nmX11 hown hK hP hD hS 0 rfl rfl 11 (by decide) (hts (.fieldLink RX11 241 "LeftQuillsModel" "seed" "I") (wmx 1 rfl)) (fun _ h9 => h9) rfl (by decide +kernel) rfl rfl (Nat.le_of_ble_eq_true rfl) dX11_draw_19 (fun H locs hP hD hS => ?_)
  have hPD : pdW (dC, dI) vwCl A [(h0, .inr (11, (.int n0 :: .int n1 :: .int (nI nq) :: .ref m3 :: .ref m4 :: .ref m5 :: .int (nI nh) :: .ref m7 :: .ref m8 :: .ref m9 :: .ref m10 :: .int (nI (dwN sd)) :: .ref m12 :: .int (nI tx) :: .int n14 :: .int (nI at9) :: .int n16 :: .int n17 :: .ref m18 :: .int (nI rq) :: .ref m20 :: .ref m21 :: .ref m22 :: .ref m23 :: .ref m24 :: .int (nI rh) :: .ref m26 :: .ref m27 :: .ref m28 :: .int (nI un) :: .ref m30 :: .int n31 :: .int n32 :: .ref m33 :: .int n34 :: .int n35 :: .ref m36 :: .int (nI wm) :: .ref m38 :: .ref m39 :: .ref m40 :: .int (nI bk) :: .ref m42 :: .ref m43 :: .ref m44 :: .ref m45 :: [])))] H := ⟨hP, hD⟩
  have hP := hPD.1
  have hD := hPD.2
  clear hPD
  refine lv_aload_n hx hb dX11_draw_22 rfl (lv_at hl 0 rfl) ?_
  refine va_get (D := (dC, dI)) (ci := 11) (v := .int (nI (dwN sd))) (C := RX11) (T := TX11) (N := 46) hx hb hts hi_X11 hown hK hP 0 rfl rfl 11 (by decide) (hts (.fieldLink RX11 241 "LeftQuillsModel" "seed" "I") (wmx 1 rfl)) (fun _ h9 => h9) rfl dX11_draw_23 ?_
  refine lv_ldc (v := 65536) hx hb hown (hts (.constant RX11 250 65536) (wmx 5 rfl)) dX11_draw_26 ?_
  refine lv_idiv hx hb dX11_draw_28 (by decide) ?_
  refine lv_topi (fun z5 ez5 => ?_)
  obtain rfl : z5 = nI ((dwN sd) / 65536) := ez5.trans (pk_div (a := dwN sd) (d := 65536) (by omega) (by omega) (by omega))
  refine lv_iload_n hx hb dX11_draw_29 rfl (lv_at hl 1 rfl) ?_
  refine lv_irem hx hb dX11_draw_30 (nI_ne0 (n := k) (by omega) (by omega)) ?_
  refine lv_topi (fun z6 ez6 => ?_)
  obtain ⟨w7, hw7, ew7⟩ : ∃ y : Nat, y < k ∧ y = ((dwN sd) / 65536) % k := ⟨_, Nat.mod_lt _ (by omega), rfl⟩
  obtain rfl : z6 = nI w7 := by rw [ew7]; exact ez6.trans (pk_rem (a := (dwN sd) / 65536) (d := k) (by omega) (by omega) (by omega))
  have hP9 := hP.sub (ws' := [(h0, .inr (11, (.int n0 :: .int n1 :: .int (nI nq) :: .ref m3 :: .ref m4 :: .ref m5 :: .int (nI nh) :: .ref m7 :: .ref m8 :: .ref m9 :: .ref m10 :: .int (nI (dwN sd)) :: .ref m12 :: .int (nI tx) :: .int n14 :: .int (nI at9) :: .int n16 :: .int n17 :: .ref m18 :: .int (nI rq) :: .ref m20 :: .ref m21 :: .ref m22 :: .ref m23 :: .ref m24 :: .int (nI rh) :: .ref m26 :: .ref m27 :: .ref m28 :: .int (nI un) :: .ref m30 :: .int n31 :: .int n32 :: .ref m33 :: .int n34 :: .int n35 :: .ref m36 :: .int (nI wm) :: .ref m38 :: .ref m39 :: .ref m40 :: .int (nI bk) :: .ref m42 :: .ref m43 :: .ref m44 :: .ref m45 :: [])))]) [0] rfl
  have hD9 := hD.sub (ws' := [(h0, .inr (11, (.int n0 :: .int n1 :: .int (nI nq) :: .ref m3 :: .ref m4 :: .ref m5 :: .int (nI nh) :: .ref m7 :: .ref m8 :: .ref m9 :: .ref m10 :: .int (nI (dwN sd)) :: .ref m12 :: .int (nI tx) :: .int n14 :: .int (nI at9) :: .int n16 :: .int n17 :: .ref m18 :: .int (nI rq) :: .ref m20 :: .ref m21 :: .ref m22 :: .ref m23 :: .ref m24 :: .int (nI rh) :: .ref m26 :: .ref m27 :: .ref m28 :: .int (nI un) :: .ref m30 :: .int n31 :: .int n32 :: .ref m33 :: .int n34 :: .int n35 :: .ref m36 :: .int (nI wm) :: .ref m38 :: .ref m39 :: .ref m40 :: .int (nI bk) :: .ref m42 :: .ref m43 :: .ref m44 :: .ref m45 :: [])))]) [0] (by decide +kernel) rfl
  exact W.iret (v := nI w7) hx hb hr (fun t ht hW => ⟨⟨nI w7, (fun _ => 0), rfl, (congrArg nI ew7), ⟨(dwN sd), by omega, rfl, va_hq ht hP9, hD9⟩⟩, hS.F ht⟩) hS.2.2 dX11_draw_31
set_option maxHeartbeats 4000000 in
set_option maxRecDepth 100000 in
theorem c_X11_drawnD (l : Launch) (dC : Nat → ClassId) (dI : Nat → Nat → Nat) (cI cZ cQ : ClassId) (h0 : Nat) (n0 : Int32) (n1 : Int32) (nq : Nat) (m3 : Nat) (m4 : Nat) (m5 : Nat) (nh : Nat) (m7 : Nat) (m8 : Nat) (m9 : Nat) (m10 : Nat) (sd : Nat) (m12 : Nat) (tx : Nat) (n14 : Int32) (at9 : Nat) (n16 : Int32) (n17 : Int32) (m18 : Nat) (rq : Nat) (m20 : Nat) (m21 : Nat) (m22 : Nat) (m23 : Nat) (m24 : Nat) (rh : Nat) (m26 : Nat) (m27 : Nat) (m28 : Nat) (un : Nat) (m30 : Nat) (n31 : Int32) (n32 : Int32) (m33 : Nat) (n34 : Int32) (n35 : Int32) (m36 : Nat) (wm : Nat) (m38 : Nat) (m39 : Nat) (m40 : Nat) (bk : Nat) (m42 : Nat) (m43 : Nat) (m44 : Nat) (m45 : Nat) (fm3 : Nat → Int32) (fm4 : Nat → Int32) (fm5 : Nat → Int32) (fm7 : Nat → Int32) (fm8 : Nat → Int32) (fm9 : Nat → Int32) (fm10 : Nat → Int32) (sz : Nat) (hnq : nq ≤ 8) (hci : cIn fm5 nq) (hq0 : 0 < nq) (hh0 : 0 < nh) (hnh : nh ≤ 4) (hsd : sd ≤ 2147483647) : Met l yX11_drawn wsX11_drawn ({ frames := 5, cells := 0, slots := 0, locals := 154 }) (va_Pc [.ref h0] (fun U => U.heap.size = sz ∧ va_P (dC, dI) vwCl [(h0, .inr (11, (.int n0 :: .int n1 :: .int (nI nq) :: .ref m3 :: .ref m4 :: .ref m5 :: .int (nI nh) :: .ref m7 :: .ref m8 :: .ref m9 :: .ref m10 :: .int (nI sd) :: .ref m12 :: .int (nI tx) :: .int n14 :: .int (nI at9) :: .int n16 :: .int n17 :: .ref m18 :: .int (nI rq) :: .ref m20 :: .ref m21 :: .ref m22 :: .ref m23 :: .ref m24 :: .int (nI rh) :: .ref m26 :: .ref m27 :: .ref m28 :: .int (nI un) :: .ref m30 :: .int n31 :: .int n32 :: .ref m33 :: .int n34 :: .int n35 :: .ref m36 :: .int (nI wm) :: .ref m38 :: .ref m39 :: .ref m40 :: .int (nI bk) :: .ref m42 :: .ref m43 :: .ref m44 :: .ref m45 :: []))), (m3, .inl (cI, 8, .inl fm3)), (m4, .inl (cI, 8, .inl fm4)), (m5, .inl (cI, 8, .inl fm5)), (m7, .inl (cI, 4, .inl fm7)), (m8, .inl (cI, 4, .inl fm8)), (m9, .inl (cI, 4, .inl fm9)), (m10, .inl (cI, 34, .inl fm10))] U.heap ∧ va_K (dC, dI) vwCl (tys0 cI cZ cQ) U ∧ va_D (fun _ => True) [(h0, .inr (11, (.int n0 :: .int n1 :: .int (nI nq) :: .ref m3 :: .ref m4 :: .ref m5 :: .int (nI nh) :: .ref m7 :: .ref m8 :: .ref m9 :: .ref m10 :: .int (nI sd) :: .ref m12 :: .int (nI tx) :: .int n14 :: .int (nI at9) :: .int n16 :: .int n17 :: .ref m18 :: .int (nI rq) :: .ref m20 :: .ref m21 :: .ref m22 :: .ref m23 :: .ref m24 :: .int (nI rh) :: .ref m26 :: .ref m27 :: .ref m28 :: .int (nI un) :: .ref m30 :: .int n31 :: .int n32 :: .ref m33 :: .int n34 :: .int n35 :: .ref m36 :: .int (nI wm) :: .ref m38 :: .ref m39 :: .ref m40 :: .int (nI bk) :: .ref m42 :: .ref m43 :: .ref m44 :: .ref m45 :: []))), (m3, .inl (cI, 8, .inl fm3)), (m4, .inl (cI, 8, .inl fm4)), (m5, .inl (cI, 8, .inl fm5)), (m7, .inl (cI, 4, .inl fm7)), (m8, .inl (cI, 4, .inl fm8)), (m9, .inl (cI, 4, .inl fm9)), (m10, .inl (cI, 34, .inl fm10))])) (va_Qv (fun (u : Nat → Nat) => True) (fun (_ : Nat → Nat) (t : State) => ∃ (gg0 : Nat → Int32) (kk0 : Nat), kk0 ≤ 2147483647 ∧ (kk0 = dwN (dwN (dwN sd))) ∧ (gg0 = (d1X lmB bmF nq nh n0 n1 (fun j k => wrF (fm3 j) (fm4 j) (fm5 j) (fm7 k) (fm8 k)) fm9 (sd, fm10)).2) ∧ va_P (dC, dI) vwCl [(h0, .inr (11, (.int n0 :: .int n1 :: .int (nI nq) :: .ref m3 :: .ref m4 :: .ref m5 :: .int (nI nh) :: .ref m7 :: .ref m8 :: .ref m9 :: .ref m10 :: .int (nI kk0) :: .ref m12 :: .int (nI tx) :: .int n14 :: .int (nI at9) :: .int n16 :: .int n17 :: .ref m18 :: .int (nI rq) :: .ref m20 :: .ref m21 :: .ref m22 :: .ref m23 :: .ref m24 :: .int (nI rh) :: .ref m26 :: .ref m27 :: .ref m28 :: .int (nI un) :: .ref m30 :: .int n31 :: .int n32 :: .ref m33 :: .int n34 :: .int n35 :: .ref m36 :: .int (nI wm) :: .ref m38 :: .ref m39 :: .ref m40 :: .int (nI bk) :: .ref m42 :: .ref m43 :: .ref m44 :: .ref m45 :: []))), (m3, .inl (cI, 8, .inl fm3)), (m4, .inl (cI, 8, .inl fm4)), (m5, .inl (cI, 8, .inl fm5)), (m7, .inl (cI, 4, .inl fm7)), (m8, .inl (cI, 4, .inl fm8)), (m9, .inl (cI, 4, .inl fm9)), (m10, .inl (cI, 34, .inl gg0))] t.heap ∧ va_D (va_A [(h0, .inr (11, (.int n0 :: .int n1 :: .int (nI nq) :: .ref m3 :: .ref m4 :: .ref m5 :: .int (nI nh) :: .ref m7 :: .ref m8 :: .ref m9 :: .ref m10 :: .int (nI sd) :: .ref m12 :: .int (nI tx) :: .int n14 :: .int (nI at9) :: .int n16 :: .int n17 :: .ref m18 :: .int (nI rq) :: .ref m20 :: .ref m21 :: .ref m22 :: .ref m23 :: .ref m24 :: .int (nI rh) :: .ref m26 :: .ref m27 :: .ref m28 :: .int (nI un) :: .ref m30 :: .int n31 :: .int n32 :: .ref m33 :: .int n34 :: .int n35 :: .ref m36 :: .int (nI wm) :: .ref m38 :: .ref m39 :: .ref m40 :: .int (nI bk) :: .ref m42 :: .ref m43 :: .ref m44 :: .ref m45 :: []))), (m3, .inl (cI, 8, .inl fm3)), (m4, .inl (cI, 8, .inl fm4)), (m5, .inl (cI, 8, .inl fm5)), (m7, .inl (cI, 4, .inl fm7)), (m8, .inl (cI, 4, .inl fm8)), (m9, .inl (cI, 4, .inl fm9)), (m10, .inl (cI, 34, .inl fm10))] sz) [(h0, .inr (11, (.int n0 :: .int n1 :: .int (nI nq) :: .ref m3 :: .ref m4 :: .ref m5 :: .int (nI nh) :: .ref m7 :: .ref m8 :: .ref m9 :: .ref m10 :: .int (nI kk0) :: .ref m12 :: .int (nI tx) :: .int n14 :: .int (nI at9) :: .int n16 :: .int n17 :: .ref m18 :: .int (nI rq) :: .ref m20 :: .ref m21 :: .ref m22 :: .ref m23 :: .ref m24 :: .int (nI rh) :: .ref m26 :: .ref m27 :: .ref m28 :: .int (nI un) :: .ref m30 :: .int n31 :: .int n32 :: .ref m33 :: .int n34 :: .int n35 :: .ref m36 :: .int (nI wm) :: .ref m38 :: .ref m39 :: .ref m40 :: .int (nI bk) :: .ref m42 :: .ref m43 :: .ref m44 :: .ref m45 :: []))), (m3, .inl (cI, 8, .inl fm3)), (m4, .inl (cI, 8, .inl fm4)), (m5, .inl (cI, 8, .inl fm5)), (m7, .inl (cI, 4, .inl fm7)), (m8, .inl (cI, 4, .inl fm8)), (m9, .inl (cI, 4, .inl fm9)), (m10, .inl (cI, 34, .inl gg0))]) (va_A [(h0, .inr (11, (.int n0 :: .int n1 :: .int (nI nq) :: .ref m3 :: .ref m4 :: .ref m5 :: .int (nI nh) :: .ref m7 :: .ref m8 :: .ref m9 :: .ref m10 :: .int (nI sd) :: .ref m12 :: .int (nI tx) :: .int n14 :: .int (nI at9) :: .int n16 :: .int n17 :: .ref m18 :: .int (nI rq) :: .ref m20 :: .ref m21 :: .ref m22 :: .ref m23 :: .ref m24 :: .int (nI rh) :: .ref m26 :: .ref m27 :: .ref m28 :: .int (nI un) :: .ref m30 :: .int n31 :: .int n32 :: .ref m33 :: .int n34 :: .int n35 :: .ref m36 :: .int (nI wm) :: .ref m38 :: .ref m39 :: .ref m40 :: .int (nI bk) :: .ref m42 :: .ref m43 :: .ref m44 :: .ref m45 :: []))), (m3, .inl (cI, 8, .inl fm3)), (m4, .inl (cI, 8, .inl fm4)), (m5, .inl (cI, 8, .inl fm5)), (m7, .inl (cI, 4, .inl fm7)), (m8, .inl (cI, 4, .inl fm8)), (m9, .inl (cI, 4, .inl fm9)), (m10, .inl (cI, 34, .inl fm10))] sz)) 0 0 (va_A [(h0, .inr (11, (.int n0 :: .int n1 :: .int (nI nq) :: .ref m3 :: .ref m4 :: .ref m5 :: .int (nI nh) :: .ref m7 :: .ref m8 :: .ref m9 :: .ref m10 :: .int (nI sd) :: .ref m12 :: .int (nI tx) :: .int n14 :: .int (nI at9) :: .int n16 :: .int n17 :: .ref m18 :: .int (nI rq) :: .ref m20 :: .ref m21 :: .ref m22 :: .ref m23 :: .ref m24 :: .int (nI rh) :: .ref m26 :: .ref m27 :: .ref m28 :: .int (nI un) :: .ref m30 :: .int n31 :: .int n32 :: .ref m33 :: .int n34 :: .int n35 :: .ref m36 :: .int (nI wm) :: .ref m38 :: .ref m39 :: .ref m40 :: .int (nI bk) :: .ref m42 :: .ref m43 :: .ref m44 :: .ref m45 :: []))), (m3, .inl (cI, 8, .inl fm3)), (m4, .inl (cI, 8, .inl fm4)), (m5, .inl (cI, 8, .inl fm5)), (m7, .inl (cI, 4, .inl fm7)), (m8, .inl (cI, 4, .inl fm8)), (m9, .inl (cI, 4, .inl fm9)), (m10, .inl (cI, 34, .inl fm10))] sz) := by
  refine Met.ofW (cc := cX11_drawn) (maxL := 4) (ret := none) (by decide) rfl ?_
  intro p e s m args below meth c s₁ B hml hv
  obtain ⟨rfl, hsz, hP, hK, hD0⟩ := hv
  have hx := B.exec
  have hb := B.bytes
  have hr := B.returns
  have hts := atoms_spec (ws := wsX11_drawn) B.pre
  have hown : s.vm.findClass RX11 = some m.cls := findClass_of_methodNamed B.named
  have hlocks := B.notSynchronized
  have hi_X11 : ∀ w ∈ u_ws RX11 TX11 46, w ∈ wsX11_drawn := fun _ h => List.mem_cons_of_mem _ (List.mem_append_right _ (h))
  subst hsz
  have hD := hD0.self (sz := s.heap.size)
  generalize hAe : va_A [(h0, .inr (11, (.int n0 :: .int n1 :: .int (nI nq) :: .ref m3 :: .ref m4 :: .ref m5 :: .int (nI nh) :: .ref m7 :: .ref m8 :: .ref m9 :: .ref m10 :: .int (nI sd) :: .ref m12 :: .int (nI tx) :: .int n14 :: .int (nI at9) :: .int n16 :: .int n17 :: .ref m18 :: .int (nI rq) :: .ref m20 :: .ref m21 :: .ref m22 :: .ref m23 :: .ref m24 :: .int (nI rh) :: .ref m26 :: .ref m27 :: .ref m28 :: .int (nI un) :: .ref m30 :: .int n31 :: .int n32 :: .ref m33 :: .int n34 :: .int n35 :: .ref m36 :: .int (nI wm) :: .ref m38 :: .ref m39 :: .ref m40 :: .int (nI bk) :: .ref m42 :: .ref m43 :: .ref m44 :: .ref m45 :: []))), (m3, .inl (cI, 8, .inl fm3)), (m4, .inl (cI, 8, .inl fm4)), (m5, .inl (cI, 8, .inl fm5)), (m7, .inl (cI, 4, .inl fm7)), (m8, .inl (cI, 4, .inl fm8)), (m9, .inl (cI, 4, .inl fm9)), (m10, .inl (cI, 34, .inl fm10))] s.heap.size = A at hD ⊢
  have hA : ∀ q : Nat, s.heap.size ≤ q → A q := fun q h => by rw [← hAe]; exact Or.inr h
  have hS : va_S A s.heap s.heap [] := va_S.rf
  have hl := lv_entry ([.ref h0]) (n := 4) (Nat.le_of_ble_eq_true rfl)
  rw [lg_entry_eq]
  generalize (lg_sl ([.ref h0]) ++ List.replicate (4 - (lg_sl ([.ref h0])).length) Slot.unset).toArray = ls at hl ⊢
  have hl : lv_has ls 4 [(0, .ref h0)] := hl
  refine lv_aload_n hx hb dX11_drawn_0 rfl (lv_at hl 0 rfl) ?_
  refine lv_aload_n hx hb dX11_drawn_1 rfl (lv_at hl 0 rfl) ?_
  refine va_get (D := (dC, dI)) (ci := 11) (v := .int (nI nq)) (C := RX11) (T := TX11) (N := 46) hx hb hts hi_X11 hown hK hP 0 rfl rfl 2 (by decide) (hts (.fieldLink RX11 99 "LeftQuillsModel" "quills" "I") (wmx 1 rfl)) (fun _ h9 => h9) rfl dX11_drawn_2 ?_
  have hc9 := va_cut (W' := [(h0, .inr (11, (.int n0 :: .int n1 :: .int (nI nq) :: .ref m3 :: .ref m4 :: .ref m5 :: .int (nI nh) :: .ref m7 :: .ref m8 :: .ref m9 :: .ref m10 :: .int (nI sd) :: .ref m12 :: .int (nI tx) :: .int n14 :: .int (nI at9) :: .int n16 :: .int n17 :: .ref m18 :: .int (nI rq) :: .ref m20 :: .ref m21 :: .ref m22 :: .ref m23 :: .ref m24 :: .int (nI rh) :: .ref m26 :: .ref m27 :: .ref m28 :: .int (nI un) :: .ref m30 :: .int n31 :: .int n32 :: .ref m33 :: .int n34 :: .int n35 :: .ref m36 :: .int (nI wm) :: .ref m38 :: .ref m39 :: .ref m40 :: .int (nI bk) :: .ref m42 :: .ref m43 :: .ref m44 :: .ref m45 :: [])))]) hP hD hS hA [0] (by decide) rfl
  have hPc := hc9.1
  have hDc := hc9.2.1
  have hFc := hc9.2.2
  clear hc9
  refine va_calli (va_runV (As := [.int (nI nq)]) (rest := []) ⟨hx, hb, hml, hown, hts⟩ (c_X11_drawD l dC dI cI cZ cQ h0 n0 n1 nq m3 m4 m5 nh m7 m8 m9 m10 sd m12 tx n14 at9 n16 n17 m18 rq m20 m21 m22 m23 m24 rh m26 m27 m28 un m30 n31 n32 m33 n34 n35 m36 wm m38 m39 m40 bk m42 m43 m44 m45 nq s.heap.size (by omega) (by omega) (by omega)) (cwV 1 hts gX11_drawn_X11_draw rfl rfl rfl hd_X11_draw_RX11 ⟨Nat.le_of_ble_eq_true rfl, Nat.le_of_ble_eq_true rfl⟩) (pv_D (va_recv hK hP (ci := 11) (q0 := 0) rfl rfl) hK hPc hDc) rfl rfl hl.1 rfl (lv_room (Nat.le_of_ble_eq_true rfl)) dX11_drawn_5 ⟨Nat.le_of_ble_eq_true rfl, Nat.le_of_ble_eq_true rfl⟩) hS (fun q _ h => hFc q h) hFc (fun r1 u2 t H1 locs ht hvm hw3 hB hz1 hk1 hS => ?_)
  obtain ⟨k4, hk4, he5, hP1, hD1⟩ := hB
  replace hP1 := va_hp ht hP1
  obtain ⟨hP, hD⟩ := va_join (wr := [(m3, .inl (cI, 8, .inl fm3)), (m4, .inl (cI, 8, .inl fm4)), (m5, .inl (cI, 8, .inl fm5)), (m7, .inl (cI, 4, .inl fm7)), (m8, .inl (cI, 4, .inl fm8)), (m9, .inl (cI, 4, .inl fm9)), (m10, .inl (cI, 34, .inl fm10))]) (w1 := [(h0, .inr (11, (.int n0 :: .int n1 :: .int (nI nq) :: .ref m3 :: .ref m4 :: .ref m5 :: .int (nI nh) :: .ref m7 :: .ref m8 :: .ref m9 :: .ref m10 :: .int (nI k4) :: .ref m12 :: .int (nI tx) :: .int n14 :: .int (nI at9) :: .int n16 :: .int n17 :: .ref m18 :: .int (nI rq) :: .ref m20 :: .ref m21 :: .ref m22 :: .ref m23 :: .ref m24 :: .int (nI rh) :: .ref m26 :: .ref m27 :: .ref m28 :: .int (nI un) :: .ref m30 :: .int n31 :: .int n32 :: .ref m33 :: .int n34 :: .int n35 :: .ref m36 :: .int (nI wm) :: .ref m38 :: .ref m39 :: .ref m40 :: .int (nI bk) :: .ref m42 :: .ref m43 :: .ref m44 :: .ref m45 :: [])))]) hP hD [0] [1, 2, 3, 4, 5, 6, 7] rfl rfl (by decide +kernel) (by decide +kernel) hk1 hFc hP1 hD1
  clear hP1 hD1
  clear hz1 hk1 hPc hDc hFc
  generalize H1 = H at hP hS ht ⊢
  have hPD : pdW (dC, dI) vwCl A [(m3, .inl (cI, 8, .inl fm3)), (m4, .inl (cI, 8, .inl fm4)), (m5, .inl (cI, 8, .inl fm5)), (m7, .inl (cI, 4, .inl fm7)), (m8, .inl (cI, 4, .inl fm8)), (m9, .inl (cI, 4, .inl fm9)), (m10, .inl (cI, 34, .inl fm10)), (h0, .inr (11, (.int n0 :: .int n1 :: .int (nI nq) :: .ref m3 :: .ref m4 :: .ref m5 :: .int (nI nh) :: .ref m7 :: .ref m8 :: .ref m9 :: .ref m10 :: .int (nI k4) :: .ref m12 :: .int (nI tx) :: .int n14 :: .int (nI at9) :: .int n16 :: .int n17 :: .ref m18 :: .int (nI rq) :: .ref m20 :: .ref m21 :: .ref m22 :: .ref m23 :: .ref m24 :: .int (nI rh) :: .ref m26 :: .ref m27 :: .ref m28 :: .int (nI un) :: .ref m30 :: .int n31 :: .int n32 :: .ref m33 :: .int n34 :: .int n35 :: .ref m36 :: .int (nI wm) :: .ref m38 :: .ref m39 :: .ref m40 :: .int (nI bk) :: .ref m42 :: .ref m43 :: .ref m44 :: .ref m45 :: [])))] H := ⟨hP, hD⟩
  have hP := hPD.1
  have hD := hPD.2
  clear hPD
  try dsimp only at hw3
  replace he5 := Hid.mk he5
  obtain ⟨w6, hw6, ew6, rfl⟩ := dr_ix (by omega) hw3
  refine lv_istore_n (lv' := [(1, .int (nI w6)), (0, .ref h0)]) hx hb dX11_drawn_8 rfl hl (by decide) rfl (fun ls hl => ?_)
  refine lv_aload_n hx hb dX11_drawn_9 rfl (lv_at hl 1 rfl) ?_
  refine lv_aload_n hx hb dX11_drawn_10 rfl (lv_at hl 1 rfl) ?_
  refine va_get (D := (dC, dI)) (ci := 11) (v := .int (nI nh)) (C := RX11) (T := TX11) (N := 46) hx hb hts hi_X11 hown hK hP 7 rfl rfl 6 (by decide) (hts (.fieldLink RX11 106 "LeftQuillsModel" "hands" "I") (wmx 2 rfl)) (fun _ h9 => h9) rfl dX11_drawn_11 ?_
  have hc9 := va_cut (W' := [(h0, .inr (11, (.int n0 :: .int n1 :: .int (nI nq) :: .ref m3 :: .ref m4 :: .ref m5 :: .int (nI nh) :: .ref m7 :: .ref m8 :: .ref m9 :: .ref m10 :: .int (nI k4) :: .ref m12 :: .int (nI tx) :: .int n14 :: .int (nI at9) :: .int n16 :: .int n17 :: .ref m18 :: .int (nI rq) :: .ref m20 :: .ref m21 :: .ref m22 :: .ref m23 :: .ref m24 :: .int (nI rh) :: .ref m26 :: .ref m27 :: .ref m28 :: .int (nI un) :: .ref m30 :: .int n31 :: .int n32 :: .ref m33 :: .int n34 :: .int n35 :: .ref m36 :: .int (nI wm) :: .ref m38 :: .ref m39 :: .ref m40 :: .int (nI bk) :: .ref m42 :: .ref m43 :: .ref m44 :: .ref m45 :: [])))]) hP hD hS hA [7] (by decide) rfl
  have hPc := hc9.1
  have hDc := hc9.2.1
  have hFc := hc9.2.2
  clear hc9
  refine va_calli (va_runV (As := [.int (nI nh)]) (rest := []) ⟨hx, hb, hml, hown, hts⟩ (c_X11_drawD l dC dI cI cZ cQ h0 n0 n1 nq m3 m4 m5 nh m7 m8 m9 m10 k4 m12 tx n14 at9 n16 n17 m18 rq m20 m21 m22 m23 m24 rh m26 m27 m28 un m30 n31 n32 m33 n34 n35 m36 wm m38 m39 m40 bk m42 m43 m44 m45 nh H.size (by omega) (by omega) (by omega)) (cwV 1 hts gX11_drawn_X11_draw rfl rfl rfl hd_X11_draw_RX11 ⟨Nat.le_of_ble_eq_true rfl, Nat.le_of_ble_eq_true rfl⟩) (pv_D (va_recv hK hP (ci := 11) (q0 := 7) rfl rfl) hK hPc hDc) rfl rfl hl.1 rfl (lv_room (Nat.le_of_ble_eq_true rfl)) dX11_drawn_14 ⟨Nat.le_of_ble_eq_true rfl, Nat.le_of_ble_eq_true rfl⟩) hS (fun q _ h => hFc q h) hFc (fun r7 u8 t H1 locs ht hvm hw9 hB hz1 hk1 hS => ?_)
  obtain ⟨k10, hk10, he11, hP1, hD1⟩ := hB
  replace hP1 := va_hp ht hP1
  obtain ⟨hP, hD⟩ := va_join (wr := [(m3, .inl (cI, 8, .inl fm3)), (m4, .inl (cI, 8, .inl fm4)), (m5, .inl (cI, 8, .inl fm5)), (m7, .inl (cI, 4, .inl fm7)), (m8, .inl (cI, 4, .inl fm8)), (m9, .inl (cI, 4, .inl fm9)), (m10, .inl (cI, 34, .inl fm10))]) (w1 := [(h0, .inr (11, (.int n0 :: .int n1 :: .int (nI nq) :: .ref m3 :: .ref m4 :: .ref m5 :: .int (nI nh) :: .ref m7 :: .ref m8 :: .ref m9 :: .ref m10 :: .int (nI k10) :: .ref m12 :: .int (nI tx) :: .int n14 :: .int (nI at9) :: .int n16 :: .int n17 :: .ref m18 :: .int (nI rq) :: .ref m20 :: .ref m21 :: .ref m22 :: .ref m23 :: .ref m24 :: .int (nI rh) :: .ref m26 :: .ref m27 :: .ref m28 :: .int (nI un) :: .ref m30 :: .int n31 :: .int n32 :: .ref m33 :: .int n34 :: .int n35 :: .ref m36 :: .int (nI wm) :: .ref m38 :: .ref m39 :: .ref m40 :: .int (nI bk) :: .ref m42 :: .ref m43 :: .ref m44 :: .ref m45 :: [])))]) hP hD [7] [0, 1, 2, 3, 4, 5, 6] rfl rfl (by decide +kernel) (by decide +kernel) hk1 hFc hP1 hD1
  clear hP1 hD1
  clear hz1 hk1 hPc hDc hFc
  generalize H1 = H at hP hS ht ⊢
  have hPD : pdW (dC, dI) vwCl A [(m3, .inl (cI, 8, .inl fm3)), (m4, .inl (cI, 8, .inl fm4)), (m5, .inl (cI, 8, .inl fm5)), (m7, .inl (cI, 4, .inl fm7)), (m8, .inl (cI, 4, .inl fm8)), (m9, .inl (cI, 4, .inl fm9)), (m10, .inl (cI, 34, .inl fm10)), (h0, .inr (11, (.int n0 :: .int n1 :: .int (nI nq) :: .ref m3 :: .ref m4 :: .ref m5 :: .int (nI nh) :: .ref m7 :: .ref m8 :: .ref m9 :: .ref m10 :: .int (nI k10) :: .ref m12 :: .int (nI tx) :: .int n14 :: .int (nI at9) :: .int n16 :: .int n17 :: .ref m18 :: .int (nI rq) :: .ref m20 :: .ref m21 :: .ref m22 :: .ref m23 :: .ref m24 :: .int (nI rh) :: .ref m26 :: .ref m27 :: .ref m28 :: .int (nI un) :: .ref m30 :: .int n31 :: .int n32 :: .ref m33 :: .int n34 :: .int n35 :: .ref m36 :: .int (nI wm) :: .ref m38 :: .ref m39 :: .ref m40 :: .int (nI bk) :: .ref m42 :: .ref m43 :: .ref m44 :: .ref m45 :: [])))] H := ⟨hP, hD⟩
  have hP := hPD.1
  have hD := hPD.2
  clear hPD
  try dsimp only at hw9
  replace he11 := Hid.mk he11
  obtain ⟨w12, hw12, ew12, rfl⟩ := dr_ix (by omega) hw9
  replace ew12 := dw_2 he5 ew12
  refine lv_istore_n (lv' := [(2, .int (nI w12)), (1, .int (nI w6)), (0, .ref h0)]) hx hb dX11_drawn_17 rfl hl (by decide) rfl (fun ls hl => ?_)
  refine lv_aload_n hx hb dX11_drawn_18 rfl (lv_at hl 2 rfl) ?_
  refine lv_iconst (v := 3) hx hb dX11_drawn_19 (by decide) ?_
  have hc9 := va_cut (W' := [(h0, .inr (11, (.int n0 :: .int n1 :: .int (nI nq) :: .ref m3 :: .ref m4 :: .ref m5 :: .int (nI nh) :: .ref m7 :: .ref m8 :: .ref m9 :: .ref m10 :: .int (nI k10) :: .ref m12 :: .int (nI tx) :: .int n14 :: .int (nI at9) :: .int n16 :: .int n17 :: .ref m18 :: .int (nI rq) :: .ref m20 :: .ref m21 :: .ref m22 :: .ref m23 :: .ref m24 :: .int (nI rh) :: .ref m26 :: .ref m27 :: .ref m28 :: .int (nI un) :: .ref m30 :: .int n31 :: .int n32 :: .ref m33 :: .int n34 :: .int n35 :: .ref m36 :: .int (nI wm) :: .ref m38 :: .ref m39 :: .ref m40 :: .int (nI bk) :: .ref m42 :: .ref m43 :: .ref m44 :: .ref m45 :: [])))]) hP hD hS hA [7] (by decide) rfl
  have hPc := hc9.1
  have hDc := hc9.2.1
  have hFc := hc9.2.2
  clear hc9
  refine va_calli (va_runV (As := [.int 3]) (rest := []) ⟨hx, hb, hml, hown, hts⟩ (c_X11_drawD l dC dI cI cZ cQ h0 n0 n1 nq m3 m4 m5 nh m7 m8 m9 m10 k10 m12 tx n14 at9 n16 n17 m18 rq m20 m21 m22 m23 m24 rh m26 m27 m28 un m30 n31 n32 m33 n34 n35 m36 wm m38 m39 m40 bk m42 m43 m44 m45 3 H.size (by omega) (by omega) (by omega)) (cwV 1 hts gX11_drawn_X11_draw rfl rfl rfl hd_X11_draw_RX11 ⟨Nat.le_of_ble_eq_true rfl, Nat.le_of_ble_eq_true rfl⟩) (pv_D (va_recv hK hP (ci := 11) (q0 := 7) rfl rfl) hK hPc hDc) rfl rfl hl.1 rfl (lv_room (Nat.le_of_ble_eq_true rfl)) dX11_drawn_20 ⟨Nat.le_of_ble_eq_true rfl, Nat.le_of_ble_eq_true rfl⟩) hS (fun q _ h => hFc q h) hFc (fun r13 u14 t H1 locs ht hvm hw15 hB hz1 hk1 hS => ?_)
  obtain ⟨k16, hk16, he17, hP1, hD1⟩ := hB
  replace hP1 := va_hp ht hP1
  obtain ⟨hP, hD⟩ := va_join (wr := [(m3, .inl (cI, 8, .inl fm3)), (m4, .inl (cI, 8, .inl fm4)), (m5, .inl (cI, 8, .inl fm5)), (m7, .inl (cI, 4, .inl fm7)), (m8, .inl (cI, 4, .inl fm8)), (m9, .inl (cI, 4, .inl fm9)), (m10, .inl (cI, 34, .inl fm10))]) (w1 := [(h0, .inr (11, (.int n0 :: .int n1 :: .int (nI nq) :: .ref m3 :: .ref m4 :: .ref m5 :: .int (nI nh) :: .ref m7 :: .ref m8 :: .ref m9 :: .ref m10 :: .int (nI k16) :: .ref m12 :: .int (nI tx) :: .int n14 :: .int (nI at9) :: .int n16 :: .int n17 :: .ref m18 :: .int (nI rq) :: .ref m20 :: .ref m21 :: .ref m22 :: .ref m23 :: .ref m24 :: .int (nI rh) :: .ref m26 :: .ref m27 :: .ref m28 :: .int (nI un) :: .ref m30 :: .int n31 :: .int n32 :: .ref m33 :: .int n34 :: .int n35 :: .ref m36 :: .int (nI wm) :: .ref m38 :: .ref m39 :: .ref m40 :: .int (nI bk) :: .ref m42 :: .ref m43 :: .ref m44 :: .ref m45 :: [])))]) hP hD [7] [0, 1, 2, 3, 4, 5, 6] rfl rfl (by decide +kernel) (by decide +kernel) hk1 hFc hP1 hD1
  clear hP1 hD1
  clear hz1 hk1 hPc hDc hFc
  generalize H1 = H at hP hS ht ⊢
  have hPD : pdW (dC, dI) vwCl A [(m3, .inl (cI, 8, .inl fm3)), (m4, .inl (cI, 8, .inl fm4)), (m5, .inl (cI, 8, .inl fm5)), (m7, .inl (cI, 4, .inl fm7)), (m8, .inl (cI, 4, .inl fm8)), (m9, .inl (cI, 4, .inl fm9)), (m10, .inl (cI, 34, .inl fm10)), (h0, .inr (11, (.int n0 :: .int n1 :: .int (nI nq) :: .ref m3 :: .ref m4 :: .ref m5 :: .int (nI nh) :: .ref m7 :: .ref m8 :: .ref m9 :: .ref m10 :: .int (nI k16) :: .ref m12 :: .int (nI tx) :: .int n14 :: .int (nI at9) :: .int n16 :: .int n17 :: .ref m18 :: .int (nI rq) :: .ref m20 :: .ref m21 :: .ref m22 :: .ref m23 :: .ref m24 :: .int (nI rh) :: .ref m26 :: .ref m27 :: .ref m28 :: .int (nI un) :: .ref m30 :: .int n31 :: .int n32 :: .ref m33 :: .int n34 :: .int n35 :: .ref m36 :: .int (nI wm) :: .ref m38 :: .ref m39 :: .ref m40 :: .int (nI bk) :: .ref m42 :: .ref m43 :: .ref m44 :: .ref m45 :: [])))] H := ⟨hP, hD⟩
  have hP := hPD.1
  have hD := hPD.2
  clear hPD
  try dsimp only at hw15
  replace he17 := Hid.mk he17
  obtain ⟨w18, hw18, ew18, rfl⟩ := dr_ix (by omega) hw15
  replace ew18 := dw_3 he5 he11 ew18
  refine lv_istore_n (lv' := [(3, .int (nI w18)), (2, .int (nI w12)), (1, .int (nI w6)), (0, .ref h0)]) hx hb dX11_drawn_23 rfl hl (by decide) rfl (fun ls hl => ?_)
  refine lv_iload_n hx hb dX11_drawn_24 rfl (lv_at hl 0 rfl) ?_
  refine lv_if_ne (tgt := 44) hx hb dX11_drawn_25 (by decide) (fun c19 => ?_) (fun c19 => ?_)
  ·
    have c19 : ¬ w18 = 0 := fun h => c19 ((nI_eq (a := w18) (b := 0) (by omega) (by omega)).mpr h)
    refine lv_iload_n hx hb dX11_drawn_44 rfl (lv_at hl 0 rfl) ?_
    refine lv_iconst (v := 1) hx hb dX11_drawn_45 (by decide) ?_
    refine lv_icmp_ne (tgt := 74) hx hb dX11_drawn_46 (by decide) (fun c20 => ?_) (fun c20 => ?_)
    ·
      have c20 : ¬ w18 = 1 := fun h => c20 ((nI_eq (a := w18) (b := 1) (by omega) (by omega)).mpr h)
      refine lv_iload_n hx hb dX11_drawn_74 rfl (lv_at hl 0 rfl) ?_
      refine lv_iconst (v := 2) hx hb dX11_drawn_75 (by decide) ?_
      refine lv_icmp_ne (tgt := 85) hx hb dX11_drawn_76 (by decide) (fun c21 => ?_) (fun c21 => ?_)
      ·
        have c21 : ¬ w18 = 2 := fun h => c21 ((nI_eq (a := w18) (b := 2) (by omega) (by omega)).mpr h)
        omega
      ·
        have c21 : w18 = 2 := (nI_eq (a := w18) (b := 2) (by omega) (by omega)).mp c21
        refine lv_aload_n hx hb dX11_drawn_79 rfl (lv_at hl 3 rfl) ?_
        refine lv_iload_n hx hb dX11_drawn_80 rfl (lv_at hl 2 rfl) ?_
        refine lv_iload_n hx hb dX11_drawn_81 rfl (lv_at hl 1 rfl) ?_
        have hc9 := va_cut (W' := [(h0, .inr (11, (.int n0 :: .int n1 :: .int (nI nq) :: .ref m3 :: .ref m4 :: .ref m5 :: .int (nI nh) :: .ref m7 :: .ref m8 :: .ref m9 :: .ref m10 :: .int (nI k16) :: .ref m12 :: .int (nI tx) :: .int n14 :: .int (nI at9) :: .int n16 :: .int n17 :: .ref m18 :: .int (nI rq) :: .ref m20 :: .ref m21 :: .ref m22 :: .ref m23 :: .ref m24 :: .int (nI rh) :: .ref m26 :: .ref m27 :: .ref m28 :: .int (nI un) :: .ref m30 :: .int n31 :: .int n32 :: .ref m33 :: .int n34 :: .int n35 :: .ref m36 :: .int (nI wm) :: .ref m38 :: .ref m39 :: .ref m40 :: .int (nI bk) :: .ref m42 :: .ref m43 :: .ref m44 :: .ref m45 :: []))), (m3, .inl (cI, 8, .inl fm3)), (m4, .inl (cI, 8, .inl fm4)), (m5, .inl (cI, 8, .inl fm5)), (m7, .inl (cI, 4, .inl fm7)), (m8, .inl (cI, 4, .inl fm8)), (m9, .inl (cI, 4, .inl fm9)), (m10, .inl (cI, 34, .inl fm10))]) hP hD hS hA [7, 0, 1, 2, 3, 4, 5, 6] (by decide) rfl
        have hPc := hc9.1
        have hDc := hc9.2.1
        have hFc := hc9.2.2
        clear hc9
        refine va_callv (va_runV (As := [.int (nI w6), .int (nI w12)]) (rest := []) ⟨hx, hb, hml, hown, hts⟩ (c_X11_pageOfD l dC dI cI cZ cQ h0 m3 m4 m5 m7 m8 m9 m10 ((.int n0 :: .int n1 :: .int (nI nq) :: .ref m3 :: .ref m4 :: .ref m5 :: .int (nI nh) :: .ref m7 :: .ref m8 :: .ref m9 :: .ref m10 :: .int (nI k16) :: .ref m12 :: .int (nI tx) :: .int n14 :: .int (nI at9) :: .int n16 :: .int n17 :: .ref m18 :: .int (nI rq) :: .ref m20 :: .ref m21 :: .ref m22 :: .ref m23 :: .ref m24 :: .int (nI rh) :: .ref m26 :: .ref m27 :: .ref m28 :: .int (nI un) :: .ref m30 :: .int n31 :: .int n32 :: .ref m33 :: .int n34 :: .int n35 :: .ref m36 :: .int (nI wm) :: .ref m38 :: .ref m39 :: .ref m40 :: .int (nI bk) :: .ref m42 :: .ref m43 :: .ref m44 :: .ref m45 :: [])) fm3 fm4 fm5 fm7 fm8 fm9 fm10 w6 w12 nq H.size rfl rfl rfl rfl rfl rfl rfl (by omega) (by first | assumption | decide) (by omega) (by omega)) (cwV 2 hts gX11_drawn_X11_pageOf rfl rfl rfl hd_X11_pageOf_RX11 ⟨Nat.le_of_ble_eq_true rfl, Nat.le_of_ble_eq_true rfl⟩) (pv_D (va_recv hK hP (ci := 11) (q0 := 7) rfl rfl) hK hPc hDc) rfl rfl hl.1 rfl (lv_room (Nat.le_of_ble_eq_true rfl)) dX11_drawn_82 ⟨Nat.le_of_ble_eq_true rfl, Nat.le_of_ble_eq_true rfl⟩) hS (fun q _ h => hFc q h) hFc (fun u23 t H1 locs ht hvm hw24 hB hz1 hk1 hS => ?_)
        obtain ⟨f25, he26, hP1, hD1⟩ := hB
        replace hP1 := va_hp ht hP1
        obtain ⟨hP, hD⟩ := va_join (wr := []) (w1 := [(h0, .inr (11, (.int n0 :: .int n1 :: .int (nI nq) :: .ref m3 :: .ref m4 :: .ref m5 :: .int (nI nh) :: .ref m7 :: .ref m8 :: .ref m9 :: .ref m10 :: .int (nI k16) :: .ref m12 :: .int (nI tx) :: .int n14 :: .int (nI at9) :: .int n16 :: .int n17 :: .ref m18 :: .int (nI rq) :: .ref m20 :: .ref m21 :: .ref m22 :: .ref m23 :: .ref m24 :: .int (nI rh) :: .ref m26 :: .ref m27 :: .ref m28 :: .int (nI un) :: .ref m30 :: .int n31 :: .int n32 :: .ref m33 :: .int n34 :: .int n35 :: .ref m36 :: .int (nI wm) :: .ref m38 :: .ref m39 :: .ref m40 :: .int (nI bk) :: .ref m42 :: .ref m43 :: .ref m44 :: .ref m45 :: []))), (m3, .inl (cI, 8, .inl fm3)), (m4, .inl (cI, 8, .inl fm4)), (m5, .inl (cI, 8, .inl fm5)), (m7, .inl (cI, 4, .inl fm7)), (m8, .inl (cI, 4, .inl fm8)), (m9, .inl (cI, 4, .inl fm9)), (m10, .inl (cI, 34, .inl f25))]) hP hD [7, 0, 1, 2, 3, 4, 5, 6] [] rfl rfl (by decide +kernel) (by decide +kernel) hk1 hFc hP1 hD1
        clear hP1 hD1
        clear hz1 hk1 hPc hDc hFc
        generalize H1 = H at hP hS ht ⊢
        have hPD : pdW (dC, dI) vwCl A [(h0, .inr (11, (.int n0 :: .int n1 :: .int (nI nq) :: .ref m3 :: .ref m4 :: .ref m5 :: .int (nI nh) :: .ref m7 :: .ref m8 :: .ref m9 :: .ref m10 :: .int (nI k16) :: .ref m12 :: .int (nI tx) :: .int n14 :: .int (nI at9) :: .int n16 :: .int n17 :: .ref m18 :: .int (nI rq) :: .ref m20 :: .ref m21 :: .ref m22 :: .ref m23 :: .ref m24 :: .int (nI rh) :: .ref m26 :: .ref m27 :: .ref m28 :: .int (nI un) :: .ref m30 :: .int n31 :: .int n32 :: .ref m33 :: .int n34 :: .int n35 :: .ref m36 :: .int (nI wm) :: .ref m38 :: .ref m39 :: .ref m40 :: .int (nI bk) :: .ref m42 :: .ref m43 :: .ref m44 :: .ref m45 :: []))), (m3, .inl (cI, 8, .inl fm3)), (m4, .inl (cI, 8, .inl fm4)), (m5, .inl (cI, 8, .inl fm5)), (m7, .inl (cI, 4, .inl fm7)), (m8, .inl (cI, 4, .inl fm8)), (m9, .inl (cI, 4, .inl fm9)), (m10, .inl (cI, 34, .inl f25))] H := ⟨hP, hD⟩
        have hP := hPD.1
        have hD := hPD.2
        clear hPD
        try dsimp only at hw24
        have hP9 := hP.sub (ws' := [(h0, .inr (11, (.int n0 :: .int n1 :: .int (nI nq) :: .ref m3 :: .ref m4 :: .ref m5 :: .int (nI nh) :: .ref m7 :: .ref m8 :: .ref m9 :: .ref m10 :: .int (nI k16) :: .ref m12 :: .int (nI tx) :: .int n14 :: .int (nI at9) :: .int n16 :: .int n17 :: .ref m18 :: .int (nI rq) :: .ref m20 :: .ref m21 :: .ref m22 :: .ref m23 :: .ref m24 :: .int (nI rh) :: .ref m26 :: .ref m27 :: .ref m28 :: .int (nI un) :: .ref m30 :: .int n31 :: .int n32 :: .ref m33 :: .int n34 :: .int n35 :: .ref m36 :: .int (nI wm) :: .ref m38 :: .ref m39 :: .ref m40 :: .int (nI bk) :: .ref m42 :: .ref m43 :: .ref m44 :: .ref m45 :: []))), (m3, .inl (cI, 8, .inl fm3)), (m4, .inl (cI, 8, .inl fm4)), (m5, .inl (cI, 8, .inl fm5)), (m7, .inl (cI, 4, .inl fm7)), (m8, .inl (cI, 4, .inl fm8)), (m9, .inl (cI, 4, .inl fm9)), (m10, .inl (cI, 34, .inl f25))]) [0, 1, 2, 3, 4, 5, 6, 7] rfl
        have hD9 := hD.sub (ws' := [(h0, .inr (11, (.int n0 :: .int n1 :: .int (nI nq) :: .ref m3 :: .ref m4 :: .ref m5 :: .int (nI nh) :: .ref m7 :: .ref m8 :: .ref m9 :: .ref m10 :: .int (nI k16) :: .ref m12 :: .int (nI tx) :: .int n14 :: .int (nI at9) :: .int n16 :: .int n17 :: .ref m18 :: .int (nI rq) :: .ref m20 :: .ref m21 :: .ref m22 :: .ref m23 :: .ref m24 :: .int (nI rh) :: .ref m26 :: .ref m27 :: .ref m28 :: .int (nI un) :: .ref m30 :: .int n31 :: .int n32 :: .ref m33 :: .int n34 :: .int n35 :: .ref m36 :: .int (nI wm) :: .ref m38 :: .ref m39 :: .ref m40 :: .int (nI bk) :: .ref m42 :: .ref m43 :: .ref m44 :: .ref m45 :: []))), (m3, .inl (cI, 8, .inl fm3)), (m4, .inl (cI, 8, .inl fm4)), (m5, .inl (cI, 8, .inl fm5)), (m7, .inl (cI, 4, .inl fm7)), (m8, .inl (cI, 4, .inl fm8)), (m9, .inl (cI, 4, .inl fm9)), (m10, .inl (cI, 34, .inl f25))]) [0, 1, 2, 3, 4, 5, 6, 7] (by decide +kernel) rfl
        exact W.vret hx hb hr (fun t ht hW => ⟨⟨(fun _ => 0), rfl, trivial, ⟨f25, k16, by omega, (dw_f he5 he11 he17), (he26.trans (d1_pg (W := (fun j k => wrF (fm3 j) (fm4 j) (fm5 j) (fm7 k) (fm8 k))) ew6 ew12 ew18 (by omega) (by omega))), va_hq ht hP9, hD9⟩⟩, hS.F ht⟩) hS.2.2 dX11_drawn_85
    ·
      have c20 : w18 = 1 := (nI_eq (a := w18) (b := 1) (by omega) (by omega)).mp c20
      refine lv_aload_n hx hb dX11_drawn_49 rfl (lv_at hl 3 rfl) ?_
      refine va_get (D := (dC, dI)) (ci := 11) (v := .ref m10) (C := RX11) (T := TX11) (N := 46) hx hb hts hi_X11 hown hK hP 7 rfl rfl 10 (by decide) (hts (.fieldLink RX11 28 "LeftQuillsModel" "now" "[I") (wmx 3 rfl)) (fun _ h9 => h9) rfl dX11_drawn_50 ?_
      refine lv_bipush (v := 16) hx hb dX11_drawn_53 (by decide) ?_
      refine lv_iload_n hx hb dX11_drawn_55 rfl (lv_at hl 2 rfl) ?_
      refine lv_iadd hx hb dX11_drawn_56 ?_
      refine lv_topi (fun z27 ez27 => ?_)
      obtain rfl : z27 = nI (16 + w6) := ez27.trans (nI_add 16 w6)
      refine lv_aload_n hx hb dX11_drawn_57 rfl (lv_at hl 3 rfl) ?_
      refine va_get (D := (dC, dI)) (ci := 11) (v := .ref m10) (C := RX11) (T := TX11) (N := 46) hx hb hts hi_X11 hown hK hP 7 rfl rfl 10 (by decide) (hts (.fieldLink RX11 28 "LeftQuillsModel" "now" "[I") (wmx 3 rfl)) (fun _ h9 => h9) rfl dX11_drawn_58 ?_
      refine lv_bipush (v := 16) hx hb dX11_drawn_61 (by decide) ?_
      refine lv_iload_n hx hb dX11_drawn_63 rfl (lv_at hl 2 rfl) ?_
      refine lv_iadd hx hb dX11_drawn_64 ?_
      refine lv_topi (fun z28 ez28 => ?_)
      obtain rfl : z28 = nI (16 + w6) := ez28.trans (nI_add 16 w6)
      refine va_iald hx hb hK hP 6 0 rfl rfl (vp_in_nI (n := 16 + w6) (N := 34) (by omega) (by decide)) dX11_drawn_65 ?_
      refine W.eq (g2 := F0 m 66 ls [.int (fm10 (16 + w6)), .int (nI (16 + w6)), .ref m10]) (congrArg (fun y9 => F0 m 66 ls (.int (fm10 y9) :: [.int (nI (16 + w6)), .ref m10])) ((nI_clamp (n := 16 + w6) (by omega)))) ?_
      refine lv_iconst (v := 1) hx hb dX11_drawn_66 (by decide) ?_
      have hPc := hP.sub (ws' := []) [] rfl
      refine va_calli (va_runS (As := [.int (fm10 (16 + w6)), .int 1]) (rest := [.int (nI (16 + w6)), .ref m10]) ⟨hx, hb, hml, hown, hts⟩ (c_X11_driedByD l dC dI cI cZ cQ (fm10 (16 + w6)) 1 H.size ) (va_cwS 2 hts gX11_drawn_X11_driedBy rfl rfl rfl (by decide +kernel) ⟨Nat.le_of_ble_eq_true rfl, Nat.le_of_ble_eq_true rfl⟩) (ps_R hK hPc) rfl rfl hl.1 rfl (lv_room (Nat.le_of_ble_eq_true rfl)) dX11_drawn_67 ⟨Nat.le_of_ble_eq_true rfl, Nat.le_of_ble_eq_true rfl⟩) hS (fun q _ h => False.elim h) (fun q h => False.elim h) (fun r29 u30 t H1 locs ht hvm hw31 hB hz1 hk1 hS => ?_)
      have hP := hP.kept (fun k q hk => hk1 q.1 (hP k q hk).lt (fun h => h))
      clear hz1 hk1 hPc
      generalize H1 = H at hP hS ht ⊢
      try dsimp only at hw31
      subst hw31
      refine va_iast hx hb hK hP hD hS 6 0 rfl rfl (vp_in_nI (n := 16 + w6) (N := 34) (by omega) (by decide)) dX11_drawn_70 (fun H locs hP hD hS => ?_)
      have hcl := (nI_clamp (n := 16 + w6) (by omega))
      rw [hcl] at hP hD
      clear hcl
      have hPD : pdW (dC, dI) vwCl A [(m3, .inl (cI, 8, .inl fm3)), (m4, .inl (cI, 8, .inl fm4)), (m5, .inl (cI, 8, .inl fm5)), (m7, .inl (cI, 4, .inl fm7)), (m8, .inl (cI, 4, .inl fm8)), (m9, .inl (cI, 4, .inl fm9)), (m10, .inl (cI, 34, .inl (upd fm10 (16 + w6) (dsF (fm10 (16 + w6)) 1)))), (h0, .inr (11, (.int n0 :: .int n1 :: .int (nI nq) :: .ref m3 :: .ref m4 :: .ref m5 :: .int (nI nh) :: .ref m7 :: .ref m8 :: .ref m9 :: .ref m10 :: .int (nI k16) :: .ref m12 :: .int (nI tx) :: .int n14 :: .int (nI at9) :: .int n16 :: .int n17 :: .ref m18 :: .int (nI rq) :: .ref m20 :: .ref m21 :: .ref m22 :: .ref m23 :: .ref m24 :: .int (nI rh) :: .ref m26 :: .ref m27 :: .ref m28 :: .int (nI un) :: .ref m30 :: .int n31 :: .int n32 :: .ref m33 :: .int n34 :: .int n35 :: .ref m36 :: .int (nI wm) :: .ref m38 :: .ref m39 :: .ref m40 :: .int (nI bk) :: .ref m42 :: .ref m43 :: .ref m44 :: .ref m45 :: [])))] H := ⟨hP, hD⟩
      have hP := hPD.1
      have hD := hPD.2
      clear hPD
      refine lv_goto (tgt := 85) hx hb dX11_drawn_71 (by decide) ?_
      have hP9 := hP.sub (ws' := [(h0, .inr (11, (.int n0 :: .int n1 :: .int (nI nq) :: .ref m3 :: .ref m4 :: .ref m5 :: .int (nI nh) :: .ref m7 :: .ref m8 :: .ref m9 :: .ref m10 :: .int (nI k16) :: .ref m12 :: .int (nI tx) :: .int n14 :: .int (nI at9) :: .int n16 :: .int n17 :: .ref m18 :: .int (nI rq) :: .ref m20 :: .ref m21 :: .ref m22 :: .ref m23 :: .ref m24 :: .int (nI rh) :: .ref m26 :: .ref m27 :: .ref m28 :: .int (nI un) :: .ref m30 :: .int n31 :: .int n32 :: .ref m33 :: .int n34 :: .int n35 :: .ref m36 :: .int (nI wm) :: .ref m38 :: .ref m39 :: .ref m40 :: .int (nI bk) :: .ref m42 :: .ref m43 :: .ref m44 :: .ref m45 :: []))), (m3, .inl (cI, 8, .inl fm3)), (m4, .inl (cI, 8, .inl fm4)), (m5, .inl (cI, 8, .inl fm5)), (m7, .inl (cI, 4, .inl fm7)), (m8, .inl (cI, 4, .inl fm8)), (m9, .inl (cI, 4, .inl fm9)), (m10, .inl (cI, 34, .inl (upd fm10 (16 + w6) (dsF (fm10 (16 + w6)) 1))))]) [7, 0, 1, 2, 3, 4, 5, 6] rfl
      have hD9 := hD.sub (ws' := [(h0, .inr (11, (.int n0 :: .int n1 :: .int (nI nq) :: .ref m3 :: .ref m4 :: .ref m5 :: .int (nI nh) :: .ref m7 :: .ref m8 :: .ref m9 :: .ref m10 :: .int (nI k16) :: .ref m12 :: .int (nI tx) :: .int n14 :: .int (nI at9) :: .int n16 :: .int n17 :: .ref m18 :: .int (nI rq) :: .ref m20 :: .ref m21 :: .ref m22 :: .ref m23 :: .ref m24 :: .int (nI rh) :: .ref m26 :: .ref m27 :: .ref m28 :: .int (nI un) :: .ref m30 :: .int n31 :: .int n32 :: .ref m33 :: .int n34 :: .int n35 :: .ref m36 :: .int (nI wm) :: .ref m38 :: .ref m39 :: .ref m40 :: .int (nI bk) :: .ref m42 :: .ref m43 :: .ref m44 :: .ref m45 :: []))), (m3, .inl (cI, 8, .inl fm3)), (m4, .inl (cI, 8, .inl fm4)), (m5, .inl (cI, 8, .inl fm5)), (m7, .inl (cI, 4, .inl fm7)), (m8, .inl (cI, 4, .inl fm8)), (m9, .inl (cI, 4, .inl fm9)), (m10, .inl (cI, 34, .inl (upd fm10 (16 + w6) (dsF (fm10 (16 + w6)) 1))))]) [7, 0, 1, 2, 3, 4, 5, 6] (by decide +kernel) rfl
      exact W.vret hx hb hr (fun t ht hW => ⟨⟨(fun _ => 0), rfl, trivial, ⟨(upd fm10 (16 + w6) (dsF (fm10 (16 + w6)) 1)), k16, by omega, (dw_f he5 he11 he17), (d1_dy ew6 ew18 (by omega)), va_hq ht hP9, hD9⟩⟩, hS.F ht⟩) hS.2.2 dX11_drawn_85
  ·
    have c19 : w18 = 0 := (nI_eq (a := w18) (b := 0) (by omega) (by omega)).mp c19
    refine lv_aload_n hx hb dX11_drawn_28 rfl (lv_at hl 3 rfl) ?_
    refine lv_iload_n hx hb dX11_drawn_29 rfl (lv_at hl 2 rfl) ?_
    have hPc := hP.sub (ws' := [(h0, .inr (11, (.int n0 :: .int n1 :: .int (nI nq) :: .ref m3 :: .ref m4 :: .ref m5 :: .int (nI nh) :: .ref m7 :: .ref m8 :: .ref m9 :: .ref m10 :: .int (nI k16) :: .ref m12 :: .int (nI tx) :: .int n14 :: .int (nI at9) :: .int n16 :: .int n17 :: .ref m18 :: .int (nI rq) :: .ref m20 :: .ref m21 :: .ref m22 :: .ref m23 :: .ref m24 :: .int (nI rh) :: .ref m26 :: .ref m27 :: .ref m28 :: .int (nI un) :: .ref m30 :: .int n31 :: .int n32 :: .ref m33 :: .int n34 :: .int n35 :: .ref m36 :: .int (nI wm) :: .ref m38 :: .ref m39 :: .ref m40 :: .int (nI bk) :: .ref m42 :: .ref m43 :: .ref m44 :: .ref m45 :: []))), (m10, .inl (cI, 34, .inl fm10))]) [7, 6] rfl
    refine va_calli (va_runV (As := [.int (nI w6)]) (rest := []) ⟨hx, hb, hml, hown, hts⟩ (c_X11_mayMendD l dC dI cI cZ cQ h0 n0 m10 ((.int n0 :: .int n1 :: .int (nI nq) :: .ref m3 :: .ref m4 :: .ref m5 :: .int (nI nh) :: .ref m7 :: .ref m8 :: .ref m9 :: .ref m10 :: .int (nI k16) :: .ref m12 :: .int (nI tx) :: .int n14 :: .int (nI at9) :: .int n16 :: .int n17 :: .ref m18 :: .int (nI rq) :: .ref m20 :: .ref m21 :: .ref m22 :: .ref m23 :: .ref m24 :: .int (nI rh) :: .ref m26 :: .ref m27 :: .ref m28 :: .int (nI un) :: .ref m30 :: .int n31 :: .int n32 :: .ref m33 :: .int n34 :: .int n35 :: .ref m36 :: .int (nI wm) :: .ref m38 :: .ref m39 :: .ref m40 :: .int (nI bk) :: .ref m42 :: .ref m43 :: .ref m44 :: .ref m45 :: [])) fm10 w6 H.size rfl rfl (by omega)) (cwV 1 hts gX11_drawn_X11_mayMend rfl rfl rfl hd_X11_mayMend_RX11 ⟨Nat.le_of_ble_eq_true rfl, Nat.le_of_ble_eq_true rfl⟩) (pv_R (va_recv hK hP (ci := 11) (q0 := 7) rfl rfl) hK hPc) rfl rfl hl.1 rfl (lv_room (Nat.le_of_ble_eq_true rfl)) dX11_drawn_30 ⟨Nat.le_of_ble_eq_true rfl, Nat.le_of_ble_eq_true rfl⟩) hS (fun q _ h => False.elim h) (fun q h => False.elim h) (fun r33 u34 t H1 locs ht hvm hw35 hB hz1 hk1 hS => ?_)
    have hP := hP.kept (fun k q hk => hk1 q.1 (hP k q hk).lt (fun h => h))
    clear hz1 hk1 hPc
    generalize H1 = H at hP hS ht ⊢
    try dsimp only at hw35
    rcases hw35 with ⟨rfl, hw35⟩ | ⟨rfl, hw35⟩
    ·
      refine lv_if_eq (tgt := 44) hx hb dX11_drawn_33 (by decide) (fun c36 => ?_) (fun c36 => ?_)
      · exact absurd c36 (by decide)
      clear c36
      refine lv_aload_n hx hb dX11_drawn_36 rfl (lv_at hl 3 rfl) ?_
      refine lv_iload_n hx hb dX11_drawn_37 rfl (lv_at hl 2 rfl) ?_
      have hc9 := va_cut (W' := [(h0, .inr (11, (.int n0 :: .int n1 :: .int (nI nq) :: .ref m3 :: .ref m4 :: .ref m5 :: .int (nI nh) :: .ref m7 :: .ref m8 :: .ref m9 :: .ref m10 :: .int (nI k16) :: .ref m12 :: .int (nI tx) :: .int n14 :: .int (nI at9) :: .int n16 :: .int n17 :: .ref m18 :: .int (nI rq) :: .ref m20 :: .ref m21 :: .ref m22 :: .ref m23 :: .ref m24 :: .int (nI rh) :: .ref m26 :: .ref m27 :: .ref m28 :: .int (nI un) :: .ref m30 :: .int n31 :: .int n32 :: .ref m33 :: .int n34 :: .int n35 :: .ref m36 :: .int (nI wm) :: .ref m38 :: .ref m39 :: .ref m40 :: .int (nI bk) :: .ref m42 :: .ref m43 :: .ref m44 :: .ref m45 :: []))), (m10, .inl (cI, 34, .inl fm10))]) hP hD hS hA [7, 6] (by decide) rfl
      have hPc := hc9.1
      have hDc := hc9.2.1
      have hFc := hc9.2.2
      clear hc9
      refine va_callv (va_runV (As := [.int (nI w6)]) (rest := []) ⟨hx, hb, hml, hown, hts⟩ (c_X11_mendNowD l dC dI cI cZ cQ h0 n0 n1 m10 ((.int n0 :: .int n1 :: .int (nI nq) :: .ref m3 :: .ref m4 :: .ref m5 :: .int (nI nh) :: .ref m7 :: .ref m8 :: .ref m9 :: .ref m10 :: .int (nI k16) :: .ref m12 :: .int (nI tx) :: .int n14 :: .int (nI at9) :: .int n16 :: .int n17 :: .ref m18 :: .int (nI rq) :: .ref m20 :: .ref m21 :: .ref m22 :: .ref m23 :: .ref m24 :: .int (nI rh) :: .ref m26 :: .ref m27 :: .ref m28 :: .int (nI un) :: .ref m30 :: .int n31 :: .int n32 :: .ref m33 :: .int n34 :: .int n35 :: .ref m36 :: .int (nI wm) :: .ref m38 :: .ref m39 :: .ref m40 :: .int (nI bk) :: .ref m42 :: .ref m43 :: .ref m44 :: .ref m45 :: [])) fm10 w6 H.size rfl rfl rfl (by omega)) (cwV 1 hts gX11_drawn_X11_mendNow rfl rfl rfl hd_X11_mendNow_RX11 ⟨Nat.le_of_ble_eq_true rfl, Nat.le_of_ble_eq_true rfl⟩) (pv_D (va_recv hK hP (ci := 11) (q0 := 7) rfl rfl) hK hPc hDc) rfl rfl hl.1 rfl (lv_room (Nat.le_of_ble_eq_true rfl)) dX11_drawn_38 ⟨Nat.le_of_ble_eq_true rfl, Nat.le_of_ble_eq_true rfl⟩) hS (fun q _ h => hFc q h) hFc (fun u38 t H1 locs ht hvm hw39 hB hz1 hk1 hS => ?_)
      obtain ⟨f40, he41, hP1, hD1⟩ := hB
      replace hP1 := va_hp ht hP1
      obtain ⟨hP, hD⟩ := va_join (wr := [(m3, .inl (cI, 8, .inl fm3)), (m4, .inl (cI, 8, .inl fm4)), (m5, .inl (cI, 8, .inl fm5)), (m7, .inl (cI, 4, .inl fm7)), (m8, .inl (cI, 4, .inl fm8)), (m9, .inl (cI, 4, .inl fm9))]) (w1 := [(h0, .inr (11, (.int n0 :: .int n1 :: .int (nI nq) :: .ref m3 :: .ref m4 :: .ref m5 :: .int (nI nh) :: .ref m7 :: .ref m8 :: .ref m9 :: .ref m10 :: .int (nI k16) :: .ref m12 :: .int (nI tx) :: .int n14 :: .int (nI at9) :: .int n16 :: .int n17 :: .ref m18 :: .int (nI rq) :: .ref m20 :: .ref m21 :: .ref m22 :: .ref m23 :: .ref m24 :: .int (nI rh) :: .ref m26 :: .ref m27 :: .ref m28 :: .int (nI un) :: .ref m30 :: .int n31 :: .int n32 :: .ref m33 :: .int n34 :: .int n35 :: .ref m36 :: .int (nI wm) :: .ref m38 :: .ref m39 :: .ref m40 :: .int (nI bk) :: .ref m42 :: .ref m43 :: .ref m44 :: .ref m45 :: []))), (m10, .inl (cI, 34, .inl f40))]) hP hD [7, 6] [0, 1, 2, 3, 4, 5] rfl rfl (by decide +kernel) (by decide +kernel) hk1 hFc hP1 hD1
      clear hP1 hD1
      clear hz1 hk1 hPc hDc hFc
      generalize H1 = H at hP hS ht ⊢
      have hPD : pdW (dC, dI) vwCl A [(m3, .inl (cI, 8, .inl fm3)), (m4, .inl (cI, 8, .inl fm4)), (m5, .inl (cI, 8, .inl fm5)), (m7, .inl (cI, 4, .inl fm7)), (m8, .inl (cI, 4, .inl fm8)), (m9, .inl (cI, 4, .inl fm9)), (h0, .inr (11, (.int n0 :: .int n1 :: .int (nI nq) :: .ref m3 :: .ref m4 :: .ref m5 :: .int (nI nh) :: .ref m7 :: .ref m8 :: .ref m9 :: .ref m10 :: .int (nI k16) :: .ref m12 :: .int (nI tx) :: .int n14 :: .int (nI at9) :: .int n16 :: .int n17 :: .ref m18 :: .int (nI rq) :: .ref m20 :: .ref m21 :: .ref m22 :: .ref m23 :: .ref m24 :: .int (nI rh) :: .ref m26 :: .ref m27 :: .ref m28 :: .int (nI un) :: .ref m30 :: .int n31 :: .int n32 :: .ref m33 :: .int n34 :: .int n35 :: .ref m36 :: .int (nI wm) :: .ref m38 :: .ref m39 :: .ref m40 :: .int (nI bk) :: .ref m42 :: .ref m43 :: .ref m44 :: .ref m45 :: []))), (m10, .inl (cI, 34, .inl f40))] H := ⟨hP, hD⟩
      have hP := hPD.1
      have hD := hPD.2
      clear hPD
      try dsimp only at hw39
      refine lv_goto (tgt := 85) hx hb dX11_drawn_41 (by decide) ?_
      have hP9 := hP.sub (ws' := [(h0, .inr (11, (.int n0 :: .int n1 :: .int (nI nq) :: .ref m3 :: .ref m4 :: .ref m5 :: .int (nI nh) :: .ref m7 :: .ref m8 :: .ref m9 :: .ref m10 :: .int (nI k16) :: .ref m12 :: .int (nI tx) :: .int n14 :: .int (nI at9) :: .int n16 :: .int n17 :: .ref m18 :: .int (nI rq) :: .ref m20 :: .ref m21 :: .ref m22 :: .ref m23 :: .ref m24 :: .int (nI rh) :: .ref m26 :: .ref m27 :: .ref m28 :: .int (nI un) :: .ref m30 :: .int n31 :: .int n32 :: .ref m33 :: .int n34 :: .int n35 :: .ref m36 :: .int (nI wm) :: .ref m38 :: .ref m39 :: .ref m40 :: .int (nI bk) :: .ref m42 :: .ref m43 :: .ref m44 :: .ref m45 :: []))), (m3, .inl (cI, 8, .inl fm3)), (m4, .inl (cI, 8, .inl fm4)), (m5, .inl (cI, 8, .inl fm5)), (m7, .inl (cI, 4, .inl fm7)), (m8, .inl (cI, 4, .inl fm8)), (m9, .inl (cI, 4, .inl fm9)), (m10, .inl (cI, 34, .inl f40))]) [6, 0, 1, 2, 3, 4, 5, 7] rfl
      have hD9 := hD.sub (ws' := [(h0, .inr (11, (.int n0 :: .int n1 :: .int (nI nq) :: .ref m3 :: .ref m4 :: .ref m5 :: .int (nI nh) :: .ref m7 :: .ref m8 :: .ref m9 :: .ref m10 :: .int (nI k16) :: .ref m12 :: .int (nI tx) :: .int n14 :: .int (nI at9) :: .int n16 :: .int n17 :: .ref m18 :: .int (nI rq) :: .ref m20 :: .ref m21 :: .ref m22 :: .ref m23 :: .ref m24 :: .int (nI rh) :: .ref m26 :: .ref m27 :: .ref m28 :: .int (nI un) :: .ref m30 :: .int n31 :: .int n32 :: .ref m33 :: .int n34 :: .int n35 :: .ref m36 :: .int (nI wm) :: .ref m38 :: .ref m39 :: .ref m40 :: .int (nI bk) :: .ref m42 :: .ref m43 :: .ref m44 :: .ref m45 :: []))), (m3, .inl (cI, 8, .inl fm3)), (m4, .inl (cI, 8, .inl fm4)), (m5, .inl (cI, 8, .inl fm5)), (m7, .inl (cI, 4, .inl fm7)), (m8, .inl (cI, 4, .inl fm8)), (m9, .inl (cI, 4, .inl fm9)), (m10, .inl (cI, 34, .inl f40))]) [6, 0, 1, 2, 3, 4, 5, 7] (by decide +kernel) rfl
      exact W.vret hx hb hr (fun t ht hW => ⟨⟨(fun _ => 0), rfl, trivial, ⟨f40, k16, by omega, (dw_f he5 he11 he17), (he41.trans (d1_md ew6 ew18 (by omega) hw35)), va_hq ht hP9, hD9⟩⟩, hS.F ht⟩) hS.2.2 dX11_drawn_85
    ·
      refine lv_if_eq (tgt := 44) hx hb dX11_drawn_33 (by decide) (fun c42 => ?_) (fun c42 => ?_)
      rotate_left
      · exact absurd c42 (by decide)
      clear c42
      refine lv_iload_n hx hb dX11_drawn_44 rfl (lv_at hl 0 rfl) ?_
      refine lv_iconst (v := 1) hx hb dX11_drawn_45 (by decide) ?_
      refine lv_icmp_ne (tgt := 74) hx hb dX11_drawn_46 (by decide) (fun c43 => ?_) (fun c43 => ?_)
      ·
        have c43 : ¬ w18 = 1 := fun h => c43 ((nI_eq (a := w18) (b := 1) (by omega) (by omega)).mpr h)
        refine lv_iload_n hx hb dX11_drawn_74 rfl (lv_at hl 0 rfl) ?_
        refine lv_iconst (v := 2) hx hb dX11_drawn_75 (by decide) ?_
        refine lv_icmp_ne (tgt := 85) hx hb dX11_drawn_76 (by decide) (fun c44 => ?_) (fun c44 => ?_)
        ·
          have c44 : ¬ w18 = 2 := fun h => c44 ((nI_eq (a := w18) (b := 2) (by omega) (by omega)).mpr h)
          have hP9 := hP.sub (ws' := [(h0, .inr (11, (.int n0 :: .int n1 :: .int (nI nq) :: .ref m3 :: .ref m4 :: .ref m5 :: .int (nI nh) :: .ref m7 :: .ref m8 :: .ref m9 :: .ref m10 :: .int (nI k16) :: .ref m12 :: .int (nI tx) :: .int n14 :: .int (nI at9) :: .int n16 :: .int n17 :: .ref m18 :: .int (nI rq) :: .ref m20 :: .ref m21 :: .ref m22 :: .ref m23 :: .ref m24 :: .int (nI rh) :: .ref m26 :: .ref m27 :: .ref m28 :: .int (nI un) :: .ref m30 :: .int n31 :: .int n32 :: .ref m33 :: .int n34 :: .int n35 :: .ref m36 :: .int (nI wm) :: .ref m38 :: .ref m39 :: .ref m40 :: .int (nI bk) :: .ref m42 :: .ref m43 :: .ref m44 :: .ref m45 :: []))), (m3, .inl (cI, 8, .inl fm3)), (m4, .inl (cI, 8, .inl fm4)), (m5, .inl (cI, 8, .inl fm5)), (m7, .inl (cI, 4, .inl fm7)), (m8, .inl (cI, 4, .inl fm8)), (m9, .inl (cI, 4, .inl fm9)), (m10, .inl (cI, 34, .inl fm10))]) [7, 0, 1, 2, 3, 4, 5, 6] rfl
          have hD9 := hD.sub (ws' := [(h0, .inr (11, (.int n0 :: .int n1 :: .int (nI nq) :: .ref m3 :: .ref m4 :: .ref m5 :: .int (nI nh) :: .ref m7 :: .ref m8 :: .ref m9 :: .ref m10 :: .int (nI k16) :: .ref m12 :: .int (nI tx) :: .int n14 :: .int (nI at9) :: .int n16 :: .int n17 :: .ref m18 :: .int (nI rq) :: .ref m20 :: .ref m21 :: .ref m22 :: .ref m23 :: .ref m24 :: .int (nI rh) :: .ref m26 :: .ref m27 :: .ref m28 :: .int (nI un) :: .ref m30 :: .int n31 :: .int n32 :: .ref m33 :: .int n34 :: .int n35 :: .ref m36 :: .int (nI wm) :: .ref m38 :: .ref m39 :: .ref m40 :: .int (nI bk) :: .ref m42 :: .ref m43 :: .ref m44 :: .ref m45 :: []))), (m3, .inl (cI, 8, .inl fm3)), (m4, .inl (cI, 8, .inl fm4)), (m5, .inl (cI, 8, .inl fm5)), (m7, .inl (cI, 4, .inl fm7)), (m8, .inl (cI, 4, .inl fm8)), (m9, .inl (cI, 4, .inl fm9)), (m10, .inl (cI, 34, .inl fm10))]) [7, 0, 1, 2, 3, 4, 5, 6] (by decide +kernel) rfl
          exact W.vret hx hb hr (fun t ht hW => ⟨⟨(fun _ => 0), rfl, trivial, ⟨fm10, k16, by omega, (dw_f he5 he11 he17), (d1_no ew6 ew18 (by omega) hw35), va_hq ht hP9, hD9⟩⟩, hS.F ht⟩) hS.2.2 dX11_drawn_85
        ·
          have c44 : w18 = 2 := (nI_eq (a := w18) (b := 2) (by omega) (by omega)).mp c44
          omega
      ·
        have c43 : w18 = 1 := (nI_eq (a := w18) (b := 1) (by omega) (by omega)).mp c43
        omega
