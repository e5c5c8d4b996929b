set_option maxHeartbeats 4000000 in
set_option maxRecDepth 100000 in
theorem c_X11_wearsD (l : Launch) (dC : Nat → ClassId) (dI : Nat → Nat → Nat) (cI cZ cQ : ClassId) (h0 : Nat) (m3 : Nat) (m4 : Nat) (m5 : Nat) (m7 : Nat) (m8 : Nat) (f_h0 : List Value) (fm3 : Nat → Int32) (fm4 : Nat → Int32) (fm5 : Nat → Int32) (fm7 : Nat → Int32) (fm8 : Nat → Int32) (j : Nat) (k : Nat) (nq : Nat) (sz : Nat) (e_h0_3 : f_h0[3]? = some (.ref m3)) (e_h0_4 : f_h0[4]? = some (.ref m4)) (e_h0_5 : f_h0[5]? = some (.ref m5)) (e_h0_7 : f_h0[7]? = some (.ref m7)) (e_h0_8 : f_h0[8]? = some (.ref m8)) (hnq : nq ≤ 8) (hci : cIn fm5 nq) (hj : j < nq) (hk : k < 4) : Met l yX11_wears wsX11_wears ({ frames := 1, cells := 0, slots := 0, locals := 62 }) (va_Pc [.ref h0, .int (nI j), .int (nI k)] (fun U => U.heap.size = sz ∧ va_P (dC, dI) vwCl [(h0, .inr (11, f_h0)), (m3, .inl (cI, 8, .inl fm3)), (m4, .inl (cI, 8, .inl fm4)), (m5, .inl (cI, 8, .inl fm5)), (m7, .inl (cI, 4, .inl fm7)), (m8, .inl (cI, 4, .inl fm8))] U.heap ∧ va_K (dC, dI) vwCl (tys0 cI cZ cQ) U)) (va_Qi (fun (r : Int32) (u : Nat → Nat) => r = wrF (fm3 j) (fm4 j) (fm5 j) (fm7 k) (fm8 k)) (fun (_ : Nat → Nat) (_ : State) => True) (fun _ : Nat => False)) 0 0 (fun _ : Nat => False) := by
  refine Met.ofW (cc := cX11_wears) (maxL := 4) (ret := (some .int)) (by decide) rfl ?_
  intro p e s m args below meth c s₁ B hml hv
  obtain ⟨rfl, hsz, hP, hK⟩ := hv
  have hx := B.exec
  have hb := B.bytes
  have hr := B.returns
  have hts := atoms_spec (ws := wsX11_wears) B.pre
  have hown : s.vm.findClass RX11 = some m.cls := findClass_of_methodNamed B.named
  have hlocks := B.notSynchronized
  have hi_X11 : ∀ w ∈ u_ws RX11 TX11 46, w ∈ wsX11_wears := fun _ h => List.mem_cons_of_mem _ (List.mem_append_right _ (h))
  subst hsz
  have hS : va_S (fun _ : Nat => False) s.heap s.heap [] := va_S.rf
  have hl := lv_entry ([.ref h0, .int (nI j), .int (nI k)]) (n := 4) (Nat.le_of_ble_eq_true rfl)
  rw [lg_entry_eq]
  generalize (lg_sl ([.ref h0, .int (nI j), .int (nI k)]) ++ List.replicate (4 - (lg_sl ([.ref h0, .int (nI j), .int (nI k)])).length) Slot.unset).toArray = ls at hl ⊢
  have hl : lv_has ls 4 [(0, .ref h0), (1, .int (nI j)), (2, .int (nI k))] := hl
  refine lv_bipush (v := 12) hx hb dX11_wears_0 (by decide) ?_
  refine lv_aload_n hx hb dX11_wears_2 rfl (lv_at hl 0 rfl) ?_
  refine va_get (D := (dC, dI)) (ci := 11) (v := .ref m8) (C := RX11) (T := TX11) (N := 46) hx hb hts hi_X11 hown hK hP 0 rfl rfl 8 (by decide) (hts (.fieldLink RX11 22 "LeftQuillsModel" "presses" "[I") (wmx 1 rfl)) (fun _ h9 => h9) e_h0_8 dX11_wears_3 ?_
  refine lv_iload_n hx hb dX11_wears_6 rfl (lv_at hl 2 rfl) ?_
  refine va_iald hx hb hK hP 5 0 rfl rfl (vp_in_nI (n := k) (N := 4) (by omega) (by decide)) dX11_wears_7 ?_
  refine W.eq (g2 := F0 m 8 ls [.int (fm8 k), .int 12]) (congrArg (fun y9 => F0 m 8 ls (.int (fm8 y9) :: [.int 12])) ((nI_clamp (n := k) (by omega)))) ?_
  refine lv_imul hx hb dX11_wears_8 ?_
  refine lv_aload_n hx hb dX11_wears_9 rfl (lv_at hl 0 rfl) ?_
  refine lv_iload_n hx hb dX11_wears_10 rfl (lv_at hl 1 rfl) ?_
  have hPc := hP.sub (ws' := [(h0, .inr (11, f_h0)), (m4, .inl (cI, 8, .inl fm4)), (m5, .inl (cI, 8, .inl fm5))]) [0, 2, 3] rfl
  refine va_calli (va_runV (As := [.int (nI j)]) (rest := [.int (12 * (fm8 k))]) ⟨hx, hb, hml, hown, hts⟩ (c_X11_hardD l dC dI cI cZ cQ h0 m4 m5 f_h0 fm4 fm5 j nq s.heap.size e_h0_4 e_h0_5 (by omega) (by first | assumption | decide) (by omega)) (cwV 1 hts gX11_wears_X11_hard rfl rfl rfl (by decide +kernel) ⟨Nat.le_of_ble_eq_true rfl, Nat.le_of_ble_eq_true rfl⟩) ⟨fun a U g mk q => by obtain ⟨q0, q1, qP, qK⟩ := q; exact ⟨q0, q1, qP, va_K.moved (u := U) (U := U.calling g mk a) (Vm.Alike.refl U.vm) qK⟩, va_recv hK hP (ci := 11) (q0 := 0) rfl rfl, fun U hU hW => ⟨rfl, by rw [hU], by rw [hU]; exact hPc, va_K.moved hW.alike hK⟩⟩ rfl rfl hl.1 rfl (lv_room (Nat.le_of_ble_eq_true rfl)) dX11_wears_11 ⟨Nat.le_of_ble_eq_true rfl, Nat.le_of_ble_eq_true rfl⟩) hS (fun q _ h => False.elim h) (fun q h => False.elim h) (fun r1 u2 t H1 locs ht hvm hw3 hB hz1 hk1 hS => ?_)
  have hP := hP.kept (fun k q hk => hk1 q.1 (hP k q hk).lt (fun h => h))
  clear hz1 hk1 hPc
  generalize H1 = H at hP hS ht ⊢
  try dsimp only at hw3
  subst hw3
  refine lv_idiv hx hb dX11_wears_14 (hd_ne (hci j hj)) ?_
  refine lv_istore_n (lv' := [(3, .int ((12 * (fm8 k)) / (hdF (fm4 j) (fm5 j)))), (0, .ref h0), (1, .int (nI j)), (2, .int (nI k))]) hx hb dX11_wears_15 rfl hl (by decide) rfl (fun ls hl => ?_)
  refine lv_iload_n hx hb dX11_wears_16 rfl (lv_at hl 0 rfl) ?_
  refine lv_iconst (v := 1) hx hb dX11_wears_17 (by decide) ?_
  refine lv_icmp_le (tgt := 25) hx hb dX11_wears_18 (by decide) (fun c4 => ?_) (fun c4 => ?_)
  ·
    refine lv_iconst (v := 1) hx hb dX11_wears_25 (by decide) ?_
    refine lv_istore_n (lv' := [(3, .int 1), (0, .ref h0), (1, .int (nI j)), (2, .int (nI k))]) hx hb dX11_wears_26 rfl hl (by decide) rfl (fun ls hl => ?_)
    refine lv_aload_n hx hb dX11_wears_27 rfl (lv_at hl 1 rfl) ?_
    refine va_get (D := (dC, dI)) (ci := 11) (v := .ref m3) (C := RX11) (T := TX11) (N := 46) hx hb hts hi_X11 hown hK hP 0 rfl rfl 3 (by decide) (hts (.fieldLink RX11 7 "LeftQuillsModel" "wing" "[I") (wmx 2 rfl)) (fun _ h9 => h9) e_h0_3 dX11_wears_28 ?_
    refine lv_iload_n hx hb dX11_wears_31 rfl (lv_at hl 2 rfl) ?_
    refine va_iald hx hb hK hP 1 0 rfl rfl (vp_in_nI (n := j) (N := 8) (by omega) (by decide)) dX11_wears_32 ?_
    refine W.eq (g2 := F0 m 33 ls [.int (fm3 j)]) (congrArg (fun y9 => F0 m 33 ls (.int (fm3 y9) :: [])) ((nI_clamp (n := j) (by omega)))) ?_
    refine lv_aload_n hx hb dX11_wears_33 rfl (lv_at hl 1 rfl) ?_
    refine va_get (D := (dC, dI)) (ci := 11) (v := .ref m7) (C := RX11) (T := TX11) (N := 46) hx hb hts hi_X11 hown hK hP 0 rfl rfl 7 (by decide) (hts (.fieldLink RX11 19 "LeftQuillsModel" "side" "[I") (wmx 3 rfl)) (fun _ h9 => h9) e_h0_7 dX11_wears_34 ?_
    refine lv_iload_n hx hb dX11_wears_37 rfl (lv_at hl 3 rfl) ?_
    refine va_iald hx hb hK hP 4 0 rfl rfl (vp_in_nI (n := k) (N := 4) (by omega) (by decide)) dX11_wears_38 ?_
    refine W.eq (g2 := F0 m 39 ls [.int (fm7 k), .int (fm3 j)]) (congrArg (fun y9 => F0 m 39 ls (.int (fm7 y9) :: [.int (fm3 j)])) ((nI_clamp (n := k) (by omega)))) ?_
    refine lv_icmp_ne (tgt := 46) hx hb dX11_wears_39 (by decide) (fun c5 => ?_) (fun c5 => ?_)
    ·
      refine lv_iload_n hx hb dX11_wears_46 rfl (lv_at hl 0 rfl) ?_
      refine lv_iconst (v := 4) hx hb dX11_wears_47 (by decide) ?_
      refine lv_iadd hx hb dX11_wears_48 ?_
      refine lv_topi (fun z6 ez6 => ?_)
      obtain rfl : z6 = 5 := ez6.trans (by decide)
      exact W.iret (v := 5) hx hb hr (fun t ht hW => ⟨⟨5, (fun _ => 0), rfl, (by have e := wr_m (w := fm3 j) (p := fm4 j) (s := fm7 k) (r := fm8 k) (hci j hj); rw [if_neg c5, mx_0 (fa_len c4)] at e; exact ((by decide : (5 : Int32) = 1 + 4).trans e.symm)), trivial⟩, hS.F ht⟩) hS.2.2 dX11_wears_49
    ·
      refine lv_iload_n hx hb dX11_wears_42 rfl (lv_at hl 0 rfl) ?_
      refine lv_goto (tgt := 49) hx hb dX11_wears_43 (by decide) ?_
      exact W.iret (v := 1) hx hb hr (fun t ht hW => ⟨⟨1, (fun _ => 0), rfl, (by have e := wr_m (w := fm3 j) (p := fm4 j) (s := fm7 k) (r := fm8 k) (hci j hj); rw [if_pos c5, mx_0 (fa_len c4)] at e; exact e.symm), trivial⟩, hS.F ht⟩) hS.2.2 dX11_wears_49
  ·
    refine lv_iload_n hx hb dX11_wears_21 rfl (lv_at hl 0 rfl) ?_
    refine lv_goto (tgt := 26) hx hb dX11_wears_22 (by decide) ?_
    refine lv_istore_n (lv' := [(3, .int ((12 * (fm8 k)) / (hdF (fm4 j) (fm5 j)))), (0, .ref h0), (1, .int (nI j)), (2, .int (nI k))]) hx hb dX11_wears_26 rfl hl (by decide) rfl (fun ls hl => ?_)
    refine lv_aload_n hx hb dX11_wears_27 rfl (lv_at hl 1 rfl) ?_
    refine va_get (D := (dC, dI)) (ci := 11) (v := .ref m3) (C := RX11) (T := TX11) (N := 46) hx hb hts hi_X11 hown hK hP 0 rfl rfl 3 (by decide) (hts (.fieldLink RX11 7 "LeftQuillsModel" "wing" "[I") (wmx 2 rfl)) (fun _ h9 => h9) e_h0_3 dX11_wears_28 ?_
    refine lv_iload_n hx hb dX11_wears_31 rfl (lv_at hl 2 rfl) ?_
    refine va_iald hx hb hK hP 1 0 rfl rfl (vp_in_nI (n := j) (N := 8) (by omega) (by decide)) dX11_wears_32 ?_
    refine W.eq (g2 := F0 m 33 ls [.int (fm3 j)]) (congrArg (fun y9 => F0 m 33 ls (.int (fm3 y9) :: [])) ((nI_clamp (n := j) (by omega)))) ?_
    refine lv_aload_n hx hb dX11_wears_33 rfl (lv_at hl 1 rfl) ?_
    refine va_get (D := (dC, dI)) (ci := 11) (v := .ref m7) (C := RX11) (T := TX11) (N := 46) hx hb hts hi_X11 hown hK hP 0 rfl rfl 7 (by decide) (hts (.fieldLink RX11 19 "LeftQuillsModel" "side" "[I") (wmx 3 rfl)) (fun _ h9 => h9) e_h0_7 dX11_wears_34 ?_
    refine lv_iload_n hx hb dX11_wears_37 rfl (lv_at hl 3 rfl) ?_
    refine va_iald hx hb hK hP 4 0 rfl rfl (vp_in_nI (n := k) (N := 4) (by omega) (by decide)) dX11_wears_38 ?_
    refine W.eq (g2 := F0 m 39 ls [.int (fm7 k), .int (fm3 j)]) (congrArg (fun y9 => F0 m 39 ls (.int (fm7 y9) :: [.int (fm3 j)])) ((nI_clamp (n := k) (by omega)))) ?_
    refine lv_icmp_ne (tgt := 46) hx hb dX11_wears_39 (by decide) (fun c7 => ?_) (fun c7 => ?_)
    ·
      refine lv_iload_n hx hb dX11_wears_46 rfl (lv_at hl 0 rfl) ?_
      refine lv_iconst (v := 4) hx hb dX11_wears_47 (by decide) ?_
      refine lv_iadd hx hb dX11_wears_48 ?_
      exact W.iret (v := ((12 * (fm8 k)) / (hdF (fm4 j) (fm5 j))) + 4) hx hb hr (fun t ht hW => ⟨⟨((12 * (fm8 k)) / (hdF (fm4 j) (fm5 j))) + 4, (fun _ => 0), rfl, (by have e := wr_m (w := fm3 j) (p := fm4 j) (s := fm7 k) (r := fm8 k) (hci j hj); rw [if_neg c7, mx_1 (fa_nle c4)] at e; exact e.symm), trivial⟩, hS.F ht⟩) hS.2.2 dX11_wears_49
    ·
      refine lv_iload_n hx hb dX11_wears_42 rfl (lv_at hl 0 rfl) ?_
      refine lv_goto (tgt := 49) hx hb dX11_wears_43 (by decide) ?_
      exact W.iret (v := (12 * (fm8 k)) / (hdF (fm4 j) (fm5 j))) hx hb hr (fun t ht hW => ⟨⟨(12 * (fm8 k)) / (hdF (fm4 j) (fm5 j)), (fun _ => 0), rfl, (by have e := wr_m (w := fm3 j) (p := fm4 j) (s := fm7 k) (r := fm8 k) (hci j hj); rw [if_pos c7, mx_1 (fa_nle c4)] at e; exact e.symm), trivial⟩, hS.F ht⟩) hS.2.2 dX11_wears_49
