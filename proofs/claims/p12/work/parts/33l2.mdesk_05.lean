set_option maxHeartbeats 4000000 in
set_option maxRecDepth 100000 in
theorem c_X11_pageD (l : Launch) (dC : Nat → ClassId) (dI : Nat → Nat → Nat) (cI cZ cQ : ClassId) (h0 : Nat) (m3 : Nat) (m4 : Nat) (m5 : Nat) (m7 : Nat) (m8 : Nat) (m9 : Nat) (m10 : Nat) (f_h0 : List Value) (fm3 : Nat → Int32) (fm4 : Nat → Int32) (fm5 : Nat → Int32) (fm7 : Nat → Int32) (fm8 : Nat → Int32) (fm9 : Nat → Int32) (fm10 : Nat → Int32) (j : Nat) (k : Nat) (nq : Nat) (sz : Nat) (e_h0_3 : f_h0[3]? = some (.ref m3)) (e_h0_4 : f_h0[4]? = some (.ref m4)) (e_h0_5 : f_h0[5]? = some (.ref m5)) (e_h0_7 : f_h0[7]? = some (.ref m7)) (e_h0_8 : f_h0[8]? = some (.ref m8)) (e_h0_9 : f_h0[9]? = some (.ref m9)) (e_h0_10 : f_h0[10]? = some (.ref m10)) (hnq : nq ≤ 8) (hci : cIn fm5 nq) (hj : j < nq) (hk : k < 4) : Met l yX11_page wsX11_page ({ frames := 3, cells := 0, slots := 0, locals := 109 }) (va_Pc [.ref h0, .int (nI j), .int (nI k)] (fun U => U.heap.size = sz ∧ va_P (dC, dI) vwCl [(h0, .inr (11, f_h0)), (m3, .inl (cI, 8, .inl fm3)), (m4, .inl (cI, 8, .inl fm4)), (m5, .inl (cI, 8, .inl fm5)), (m7, .inl (cI, 4, .inl fm7)), (m8, .inl (cI, 4, .inl fm8)), (m9, .inl (cI, 4, .inl fm9)), (m10, .inl (cI, 34, .inl fm10))] U.heap ∧ va_K (dC, dI) vwCl (tys0 cI cZ cQ) U ∧ va_D (fun _ => True) [(h0, .inr (11, f_h0)), (m3, .inl (cI, 8, .inl fm3)), (m4, .inl (cI, 8, .inl fm4)), (m5, .inl (cI, 8, .inl fm5)), (m7, .inl (cI, 4, .inl fm7)), (m8, .inl (cI, 4, .inl fm8)), (m9, .inl (cI, 4, .inl fm9)), (m10, .inl (cI, 34, .inl fm10))])) (va_Qi (fun (r : Int32) (u : Nat → Nat) => r = gdX lmB (wrF (fm3 j) (fm4 j) (fm5 j) (fm7 k) (fm8 k)) (fm9 k) j fm10) (fun (_ : Nat → Nat) (t : State) => ∃ (gg0 : Nat → Int32) , (gg0 = upd (upd fm10 (16 + j) (sbF (fm10 (16 + j)) (wrF (fm3 j) (fm4 j) (fm5 j) (fm7 k) (fm8 k)))) 32 ((upd fm10 (16 + j) (sbF (fm10 (16 + j)) (wrF (fm3 j) (fm4 j) (fm5 j) (fm7 k) (fm8 k)))) 32 + 2)) ∧ va_P (dC, dI) vwCl [(h0, .inr (11, f_h0)), (m3, .inl (cI, 8, .inl fm3)), (m4, .inl (cI, 8, .inl fm4)), (m5, .inl (cI, 8, .inl fm5)), (m7, .inl (cI, 4, .inl fm7)), (m8, .inl (cI, 4, .inl fm8)), (m9, .inl (cI, 4, .inl fm9)), (m10, .inl (cI, 34, .inl gg0))] t.heap ∧ va_D (va_A [(h0, .inr (11, f_h0)), (m3, .inl (cI, 8, .inl fm3)), (m4, .inl (cI, 8, .inl fm4)), (m5, .inl (cI, 8, .inl fm5)), (m7, .inl (cI, 4, .inl fm7)), (m8, .inl (cI, 4, .inl fm8)), (m9, .inl (cI, 4, .inl fm9)), (m10, .inl (cI, 34, .inl fm10))] sz) [(h0, .inr (11, f_h0)), (m3, .inl (cI, 8, .inl fm3)), (m4, .inl (cI, 8, .inl fm4)), (m5, .inl (cI, 8, .inl fm5)), (m7, .inl (cI, 4, .inl fm7)), (m8, .inl (cI, 4, .inl fm8)), (m9, .inl (cI, 4, .inl fm9)), (m10, .inl (cI, 34, .inl gg0))]) (va_A [(h0, .inr (11, f_h0)), (m3, .inl (cI, 8, .inl fm3)), (m4, .inl (cI, 8, .inl fm4)), (m5, .inl (cI, 8, .inl fm5)), (m7, .inl (cI, 4, .inl fm7)), (m8, .inl (cI, 4, .inl fm8)), (m9, .inl (cI, 4, .inl fm9)), (m10, .inl (cI, 34, .inl fm10))] sz)) 0 0 (va_A [(h0, .inr (11, f_h0)), (m3, .inl (cI, 8, .inl fm3)), (m4, .inl (cI, 8, .inl fm4)), (m5, .inl (cI, 8, .inl fm5)), (m7, .inl (cI, 4, .inl fm7)), (m8, .inl (cI, 4, .inl fm8)), (m9, .inl (cI, 4, .inl fm9)), (m10, .inl (cI, 34, .inl fm10))] sz) := by
  refine Met.ofW (cc := cX11_page) (maxL := 3) (ret := (some .boolean)) (by decide) rfl ?_
  intro p e s m args below meth c s₁ B hml hv
  obtain ⟨rfl, hsz, hP, hK, hD0⟩ := hv
  have hx := B.exec
  have hb := B.bytes
  have hr := B.returns
  have hts := atoms_spec (ws := wsX11_page) B.pre
  have hown : s.vm.findClass RX11 = some m.cls := findClass_of_methodNamed B.named
  have hlocks := B.notSynchronized
  have hi_X11 : ∀ w ∈ u_ws RX11 TX11 46, w ∈ wsX11_page := fun _ h => List.mem_cons_of_mem _ (List.mem_append_right _ (h))
  subst hsz
  have hD := hD0.self (sz := s.heap.size)
  generalize hAe : va_A [(h0, .inr (11, f_h0)), (m3, .inl (cI, 8, .inl fm3)), (m4, .inl (cI, 8, .inl fm4)), (m5, .inl (cI, 8, .inl fm5)), (m7, .inl (cI, 4, .inl fm7)), (m8, .inl (cI, 4, .inl fm8)), (m9, .inl (cI, 4, .inl fm9)), (m10, .inl (cI, 34, .inl fm10))] s.heap.size = A at hD ⊢
  have hA : ∀ q : Nat, s.heap.size ≤ q → A q := fun q h => by rw [← hAe]; exact Or.inr h
  have hS : va_S A s.heap s.heap [] := va_S.rf
  have hl := lv_entry ([.ref h0, .int (nI j), .int (nI k)]) (n := 3) (Nat.le_of_ble_eq_true rfl)
  rw [lg_entry_eq]
  generalize (lg_sl ([.ref h0, .int (nI j), .int (nI k)]) ++ List.replicate (3 - (lg_sl ([.ref h0, .int (nI j), .int (nI k)])).length) Slot.unset).toArray = ls at hl ⊢
  have hl : lv_has ls 3 [(0, .ref h0), (1, .int (nI j)), (2, .int (nI k))] := hl
  refine lv_aload_n hx hb dX11_page_0 rfl (lv_at hl 0 rfl) ?_
  refine va_get (D := (dC, dI)) (ci := 11) (v := .ref m10) (C := RX11) (T := TX11) (N := 46) hx hb hts hi_X11 hown hK hP 0 rfl rfl 10 (by decide) (hts (.fieldLink RX11 28 "LeftQuillsModel" "now" "[I") (wmx 1 rfl)) (fun _ h9 => h9) e_h0_10 dX11_page_1 ?_
  refine lv_bipush (v := 16) hx hb dX11_page_4 (by decide) ?_
  refine lv_iload_n hx hb dX11_page_6 rfl (lv_at hl 1 rfl) ?_
  refine lv_iadd hx hb dX11_page_7 ?_
  refine lv_topi (fun z1 ez1 => ?_)
  obtain rfl : z1 = nI (16 + j) := ez1.trans (nI_add 16 j)
  refine lv_aload_n hx hb dX11_page_8 rfl (lv_at hl 0 rfl) ?_
  refine lv_aload_n hx hb dX11_page_9 rfl (lv_at hl 0 rfl) ?_
  refine va_get (D := (dC, dI)) (ci := 11) (v := .ref m10) (C := RX11) (T := TX11) (N := 46) hx hb hts hi_X11 hown hK hP 0 rfl rfl 10 (by decide) (hts (.fieldLink RX11 28 "LeftQuillsModel" "now" "[I") (wmx 1 rfl)) (fun _ h9 => h9) e_h0_10 dX11_page_10 ?_
  refine lv_bipush (v := 16) hx hb dX11_page_13 (by decide) ?_
  refine lv_iload_n hx hb dX11_page_15 rfl (lv_at hl 1 rfl) ?_
  refine lv_iadd hx hb dX11_page_16 ?_
  refine lv_topi (fun z2 ez2 => ?_)
  obtain rfl : z2 = nI (16 + j) := ez2.trans (nI_add 16 j)
  refine va_iald hx hb hK hP 7 0 rfl rfl (vp_in_nI (n := 16 + j) (N := 34) (by omega) (by decide)) dX11_page_17 ?_
  refine W.eq (g2 := F0 m 18 ls [.int (fm10 (16 + j)), .ref h0, .int (nI (16 + j)), .ref m10]) (congrArg (fun y9 => F0 m 18 ls (.int (fm10 y9) :: [.ref h0, .int (nI (16 + j)), .ref m10])) ((nI_clamp (n := 16 + j) (by omega)))) ?_
  refine lv_iload_n hx hb dX11_page_18 rfl (lv_at hl 1 rfl) ?_
  refine lv_iload_n hx hb dX11_page_19 rfl (lv_at hl 2 rfl) ?_
  have hPc := hP.sub (ws' := [(h0, .inr (11, f_h0)), (m3, .inl (cI, 8, .inl fm3)), (m4, .inl (cI, 8, .inl fm4)), (m5, .inl (cI, 8, .inl fm5)), (m7, .inl (cI, 4, .inl fm7)), (m8, .inl (cI, 4, .inl fm8))]) [0, 1, 2, 3, 4, 5] rfl
  refine va_calli (va_runV (As := [.int (fm10 (16 + j)), .int (nI j), .int (nI k)]) (rest := [.int (nI (16 + j)), .ref m10]) ⟨hx, hb, hml, hown, hts⟩ (c_X11_softBehindD l dC dI cI cZ cQ h0 m3 m4 m5 m7 m8 f_h0 fm3 fm4 fm5 fm7 fm8 (fm10 (16 + j)) j k nq s.heap.size e_h0_3 e_h0_4 e_h0_5 e_h0_7 e_h0_8 (by omega) (by first | assumption | decide) (by omega) (by omega)) (cwV 3 hts gX11_page_X11_softBehind rfl rfl rfl (by decide +kernel) ⟨Nat.le_of_ble_eq_true rfl, Nat.le_of_ble_eq_true rfl⟩) ⟨fun a U g mk q => by obtain ⟨q0, q1, qP, qK⟩ := q; exact ⟨q0, q1, qP, va_K.moved (u := U) (U := U.calling g mk a) (Vm.Alike.refl U.vm) qK⟩, va_recv hK hP (ci := 11) (q0 := 0) rfl rfl, fun U hU hW => ⟨rfl, by rw [hU], by rw [hU]; exact hPc, va_K.moved hW.alike hK⟩⟩ rfl rfl hl.1 rfl (lv_room (Nat.le_of_ble_eq_true rfl)) dX11_page_20 ⟨Nat.le_of_ble_eq_true rfl, Nat.le_of_ble_eq_true rfl⟩) hS (fun q _ h => False.elim h) (fun q h => False.elim h) (fun r3 u4 t H1 locs ht hvm hw5 hB hz1 hk1 hS => ?_)
  have hP := hP.kept (fun k q hk => hk1 q.1 (hP k q hk).lt (fun h => h))
  clear hz1 hk1 hPc
  generalize H1 = H at hP hS ht ⊢
  try dsimp only at hw5
  subst hw5
  refine va_iast hx hb hK hP hD hS 7 0 rfl rfl (vp_in_nI (n := 16 + j) (N := 34) (by omega) (by decide)) dX11_page_23 (fun H locs hP hD hS => ?_)
  have hcl := (nI_clamp (n := 16 + j) (by omega))
  rw [hcl] at hP hD
  clear hcl
  have hP : va_P (dC, dI) vwCl [(h0, .inr (11, f_h0)), (m3, .inl (cI, 8, .inl fm3)), (m4, .inl (cI, 8, .inl fm4)), (m5, .inl (cI, 8, .inl fm5)), (m7, .inl (cI, 4, .inl fm7)), (m8, .inl (cI, 4, .inl fm8)), (m9, .inl (cI, 4, .inl fm9)), (m10, .inl (cI, 34, .inl (upd fm10 (16 + j) (sbF (fm10 (16 + j)) (wrF (fm3 j) (fm4 j) (fm5 j) (fm7 k) (fm8 k))))))] H := hP
  have hD : va_D A [(h0, .inr (11, f_h0)), (m3, .inl (cI, 8, .inl fm3)), (m4, .inl (cI, 8, .inl fm4)), (m5, .inl (cI, 8, .inl fm5)), (m7, .inl (cI, 4, .inl fm7)), (m8, .inl (cI, 4, .inl fm8)), (m9, .inl (cI, 4, .inl fm9)), (m10, .inl (cI, 34, .inl (upd fm10 (16 + j) (sbF (fm10 (16 + j)) (wrF (fm3 j) (fm4 j) (fm5 j) (fm7 k) (fm8 k))))))] := hD
  refine lv_aload_n hx hb dX11_page_24 rfl (lv_at hl 0 rfl) ?_
  refine va_get (D := (dC, dI)) (ci := 11) (v := .ref m10) (C := RX11) (T := TX11) (N := 46) hx hb hts hi_X11 hown hK hP 0 rfl rfl 10 (by decide) (hts (.fieldLink RX11 28 "LeftQuillsModel" "now" "[I") (wmx 1 rfl)) (fun _ h9 => h9) e_h0_10 dX11_page_25 ?_
  refine lv_bipush (v := 32) hx hb dX11_page_28 (by decide) ?_
  refine lv_dup2_11 hx hb dX11_page_30 rfl rfl ?_
  refine va_iald hx hb hK hP 7 0 rfl rfl (vp_in_iff.mpr ⟨by decide, by decide⟩) dX11_page_31 ?_
  refine W.eq (g2 := F0 m 32 ls [.int ((upd fm10 (16 + j) (sbF (fm10 (16 + j)) (wrF (fm3 j) (fm4 j) (fm5 j) (fm7 k) (fm8 k)))) 32), .int 32, .ref m10]) (congrArg (fun y9 => F0 m 32 ls (.int ((upd fm10 (16 + j) (sbF (fm10 (16 + j)) (wrF (fm3 j) (fm4 j) (fm5 j) (fm7 k) (fm8 k)))) y9) :: [.int 32, .ref m10])) ((show ((32 : Int32)).toNatClampNeg = 32 from by decide))) ?_
  refine lv_iconst (v := 2) hx hb dX11_page_32 (by decide) ?_
  refine lv_iadd hx hb dX11_page_33 ?_
  refine va_iast hx hb hK hP hD hS 7 0 rfl rfl (vp_in_iff.mpr ⟨by decide, by decide⟩) dX11_page_34 (fun H locs hP hD hS => ?_)
  have hcl := (show ((32 : Int32)).toNatClampNeg = 32 from by decide)
  rw [hcl] at hP hD
  clear hcl
  have hP : va_P (dC, dI) vwCl [(h0, .inr (11, f_h0)), (m3, .inl (cI, 8, .inl fm3)), (m4, .inl (cI, 8, .inl fm4)), (m5, .inl (cI, 8, .inl fm5)), (m7, .inl (cI, 4, .inl fm7)), (m8, .inl (cI, 4, .inl fm8)), (m9, .inl (cI, 4, .inl fm9)), (m10, .inl (cI, 34, .inl (upd (upd fm10 (16 + j) (sbF (fm10 (16 + j)) (wrF (fm3 j) (fm4 j) (fm5 j) (fm7 k) (fm8 k)))) 32 (((upd fm10 (16 + j) (sbF (fm10 (16 + j)) (wrF (fm3 j) (fm4 j) (fm5 j) (fm7 k) (fm8 k)))) 32) + 2))))] H := hP
  have hD : va_D A [(h0, .inr (11, f_h0)), (m3, .inl (cI, 8, .inl fm3)), (m4, .inl (cI, 8, .inl fm4)), (m5, .inl (cI, 8, .inl fm5)), (m7, .inl (cI, 4, .inl fm7)), (m8, .inl (cI, 4, .inl fm8)), (m9, .inl (cI, 4, .inl fm9)), (m10, .inl (cI, 34, .inl (upd (upd fm10 (16 + j) (sbF (fm10 (16 + j)) (wrF (fm3 j) (fm4 j) (fm5 j) (fm7 k) (fm8 k)))) 32 (((upd fm10 (16 + j) (sbF (fm10 (16 + j)) (wrF (fm3 j) (fm4 j) (fm5 j) (fm7 k) (fm8 k)))) 32) + 2))))] := hD
  refine lv_aload_n hx hb dX11_page_35 rfl (lv_at hl 0 rfl) ?_
  refine va_get (D := (dC, dI)) (ci := 11) (v := .ref m10) (C := RX11) (T := TX11) (N := 46) hx hb hts hi_X11 hown hK hP 0 rfl rfl 10 (by decide) (hts (.fieldLink RX11 28 "LeftQuillsModel" "now" "[I") (wmx 1 rfl)) (fun _ h9 => h9) e_h0_10 dX11_page_36 ?_
  refine lv_bipush (v := 16) hx hb dX11_page_39 (by decide) ?_
  refine lv_iload_n hx hb dX11_page_41 rfl (lv_at hl 1 rfl) ?_
  refine lv_iadd hx hb dX11_page_42 ?_
  refine lv_topi (fun z8 ez8 => ?_)
  obtain rfl : z8 = nI (16 + j) := ez8.trans (nI_add 16 j)
  refine va_iald hx hb hK hP 7 0 rfl rfl (vp_in_nI (n := 16 + j) (N := 34) (by omega) (by decide)) dX11_page_43 ?_
  refine W.eq (g2 := F0 m 44 ls [.int ((upd (upd fm10 (16 + j) (sbF (fm10 (16 + j)) (wrF (fm3 j) (fm4 j) (fm5 j) (fm7 k) (fm8 k)))) 32 (((upd fm10 (16 + j) (sbF (fm10 (16 + j)) (wrF (fm3 j) (fm4 j) (fm5 j) (fm7 k) (fm8 k)))) 32) + 2)) (16 + j))]) (congrArg (fun y9 => F0 m 44 ls (.int ((upd (upd fm10 (16 + j) (sbF (fm10 (16 + j)) (wrF (fm3 j) (fm4 j) (fm5 j) (fm7 k) (fm8 k)))) 32 (((upd fm10 (16 + j) (sbF (fm10 (16 + j)) (wrF (fm3 j) (fm4 j) (fm5 j) (fm7 k) (fm8 k)))) 32) + 2)) y9) :: [])) ((nI_clamp (n := 16 + j) (by omega)))) ?_
  refine lv_topi (fun z9 ez9 => ?_)
  obtain rfl : z9 = sbF (fm10 (16 + j)) (wrF (fm3 j) (fm4 j) (fm5 j) (fm7 k) (fm8 k)) := ez9.trans ((pk_un (by omega)).trans pk_us)
  refine lv_bipush (v := 50) hx hb dX11_page_44 (by decide) ?_
  refine lv_icmp_gt (tgt := 70) hx hb dX11_page_46 (by decide) (fun c10 => ?_) (fun c10 => ?_)
  ·
    refine lv_iconst (v := 0) hx hb dX11_page_70 (by decide) ?_
    have hP9 := hP.sub (ws' := [(h0, .inr (11, f_h0)), (m3, .inl (cI, 8, .inl fm3)), (m4, .inl (cI, 8, .inl fm4)), (m5, .inl (cI, 8, .inl fm5)), (m7, .inl (cI, 4, .inl fm7)), (m8, .inl (cI, 4, .inl fm8)), (m9, .inl (cI, 4, .inl fm9)), (m10, .inl (cI, 34, .inl (upd (upd fm10 (16 + j) (sbF (fm10 (16 + j)) (wrF (fm3 j) (fm4 j) (fm5 j) (fm7 k) (fm8 k)))) 32 (((upd fm10 (16 + j) (sbF (fm10 (16 + j)) (wrF (fm3 j) (fm4 j) (fm5 j) (fm7 k) (fm8 k)))) 32) + 2))))]) [0, 1, 2, 3, 4, 5, 6, 7] rfl
    have hD9 := hD.sub (ws' := [(h0, .inr (11, f_h0)), (m3, .inl (cI, 8, .inl fm3)), (m4, .inl (cI, 8, .inl fm4)), (m5, .inl (cI, 8, .inl fm5)), (m7, .inl (cI, 4, .inl fm7)), (m8, .inl (cI, 4, .inl fm8)), (m9, .inl (cI, 4, .inl fm9)), (m10, .inl (cI, 34, .inl (upd (upd fm10 (16 + j) (sbF (fm10 (16 + j)) (wrF (fm3 j) (fm4 j) (fm5 j) (fm7 k) (fm8 k)))) 32 (((upd fm10 (16 + j) (sbF (fm10 (16 + j)) (wrF (fm3 j) (fm4 j) (fm5 j) (fm7 k) (fm8 k)))) 32) + 2))))]) [0, 1, 2, 3, 4, 5, 6, 7] (by decide +kernel) rfl
    exact W.zret (v := 0) hx hb hr (rfl) (fun t ht hW => ⟨⟨0, (fun _ => 0), rfl, ((if_neg (fun h9 => absurd h9.1 (fa_ltn c10))).symm), ⟨(upd (upd fm10 (16 + j) (sbF (fm10 (16 + j)) (wrF (fm3 j) (fm4 j) (fm5 j) (fm7 k) (fm8 k)))) 32 (((upd fm10 (16 + j) (sbF (fm10 (16 + j)) (wrF (fm3 j) (fm4 j) (fm5 j) (fm7 k) (fm8 k)))) 32) + 2)), rfl, by rw [ht]; exact hP9, hD9⟩⟩, hS.F ht⟩) hS.2.2 dX11_page_71
  ·
    refine lv_aload_n hx hb dX11_page_49 rfl (lv_at hl 0 rfl) ?_
    refine lv_aload_n hx hb dX11_page_50 rfl (lv_at hl 0 rfl) ?_
    refine va_get (D := (dC, dI)) (ci := 11) (v := .ref m10) (C := RX11) (T := TX11) (N := 46) hx hb hts hi_X11 hown hK hP 0 rfl rfl 10 (by decide) (hts (.fieldLink RX11 28 "LeftQuillsModel" "now" "[I") (wmx 1 rfl)) (fun _ h9 => h9) e_h0_10 dX11_page_51 ?_
    refine lv_bipush (v := 8) hx hb dX11_page_54 (by decide) ?_
    refine lv_iload_n hx hb dX11_page_56 rfl (lv_at hl 1 rfl) ?_
    refine lv_iadd hx hb dX11_page_57 ?_
    refine lv_topi (fun z11 ez11 => ?_)
    obtain rfl : z11 = nI (8 + j) := ez11.trans (nI_add 8 j)
    refine va_iald hx hb hK hP 7 0 rfl rfl (vp_in_nI (n := 8 + j) (N := 34) (by omega) (by decide)) dX11_page_58 ?_
    refine W.eq (g2 := F0 m 59 ls [.int ((upd (upd fm10 (16 + j) (sbF (fm10 (16 + j)) (wrF (fm3 j) (fm4 j) (fm5 j) (fm7 k) (fm8 k)))) 32 (((upd fm10 (16 + j) (sbF (fm10 (16 + j)) (wrF (fm3 j) (fm4 j) (fm5 j) (fm7 k) (fm8 k)))) 32) + 2)) (8 + j)), .ref h0]) (congrArg (fun y9 => F0 m 59 ls (.int ((upd (upd fm10 (16 + j) (sbF (fm10 (16 + j)) (wrF (fm3 j) (fm4 j) (fm5 j) (fm7 k) (fm8 k)))) 32 (((upd fm10 (16 + j) (sbF (fm10 (16 + j)) (wrF (fm3 j) (fm4 j) (fm5 j) (fm7 k) (fm8 k)))) 32) + 2)) y9) :: [.ref h0])) ((nI_clamp (n := 8 + j) (by omega)))) ?_
    refine lv_topi (fun z12 ez12 => ?_)
    obtain rfl : z12 = fm10 (8 + j) := ez12.trans ((pk_un (by omega)).trans (pk_un (by omega)))
    refine lv_iload_n hx hb dX11_page_59 rfl (lv_at hl 2 rfl) ?_
    have hPc := hP.sub (ws' := [(h0, .inr (11, f_h0)), (m9, .inl (cI, 4, .inl fm9))]) [0, 6] rfl
    refine va_calli (va_runV (As := [.int (fm10 (8 + j)), .int (nI k)]) (rest := []) ⟨hx, hb, hml, hown, hts⟩ (c_X11_suitsD l dC dI cI cZ cQ h0 m9 f_h0 fm9 (fm10 (8 + j)) k H.size e_h0_9 (by omega)) (cwV 2 hts gX11_page_X11_suits rfl rfl rfl (by decide +kernel) ⟨Nat.le_of_ble_eq_true rfl, Nat.le_of_ble_eq_true rfl⟩) ⟨fun a U g mk q => by obtain ⟨q0, q1, qP, qK⟩ := q; exact ⟨q0, q1, qP, va_K.moved (u := U) (U := U.calling g mk a) (Vm.Alike.refl U.vm) qK⟩, va_recv hK hP (ci := 11) (q0 := 0) rfl rfl, fun U hU hW => ⟨rfl, by rw [hU], by rw [hU]; exact hPc, va_K.moved hW.alike hK⟩⟩ rfl rfl hl.1 rfl (lv_room (Nat.le_of_ble_eq_true rfl)) dX11_page_60 ⟨Nat.le_of_ble_eq_true rfl, Nat.le_of_ble_eq_true rfl⟩) hS (fun q _ h => False.elim h) (fun q h => False.elim h) (fun r13 u14 t H1 locs ht hvm hw15 hB hz1 hk1 hS => ?_)
    have hP := hP.kept (fun k q hk => hk1 q.1 (hP k q hk).lt (fun h => h))
    clear hz1 hk1 hPc
    generalize H1 = H at hP hS ht ⊢
    try dsimp only at hw15
    rcases hw15 with ⟨rfl, hw15⟩ | ⟨rfl, hw15⟩
    ·
      refine lv_if_eq (tgt := 70) hx hb dX11_page_63 (by decide) (fun c16 => ?_) (fun c16 => ?_)
      · exact absurd c16 (by decide)
      clear c16
      refine lv_iconst (v := 1) hx hb dX11_page_66 (by decide) ?_
      refine lv_goto (tgt := 71) hx hb dX11_page_67 (by decide) ?_
      have hP9 := hP.sub (ws' := [(h0, .inr (11, f_h0)), (m3, .inl (cI, 8, .inl fm3)), (m4, .inl (cI, 8, .inl fm4)), (m5, .inl (cI, 8, .inl fm5)), (m7, .inl (cI, 4, .inl fm7)), (m8, .inl (cI, 4, .inl fm8)), (m9, .inl (cI, 4, .inl fm9)), (m10, .inl (cI, 34, .inl (upd (upd fm10 (16 + j) (sbF (fm10 (16 + j)) (wrF (fm3 j) (fm4 j) (fm5 j) (fm7 k) (fm8 k)))) 32 (((upd fm10 (16 + j) (sbF (fm10 (16 + j)) (wrF (fm3 j) (fm4 j) (fm5 j) (fm7 k) (fm8 k)))) 32) + 2))))]) [0, 1, 2, 3, 4, 5, 6, 7] rfl
      have hD9 := hD.sub (ws' := [(h0, .inr (11, f_h0)), (m3, .inl (cI, 8, .inl fm3)), (m4, .inl (cI, 8, .inl fm4)), (m5, .inl (cI, 8, .inl fm5)), (m7, .inl (cI, 4, .inl fm7)), (m8, .inl (cI, 4, .inl fm8)), (m9, .inl (cI, 4, .inl fm9)), (m10, .inl (cI, 34, .inl (upd (upd fm10 (16 + j) (sbF (fm10 (16 + j)) (wrF (fm3 j) (fm4 j) (fm5 j) (fm7 k) (fm8 k)))) 32 (((upd fm10 (16 + j) (sbF (fm10 (16 + j)) (wrF (fm3 j) (fm4 j) (fm5 j) (fm7 k) (fm8 k)))) 32) + 2))))]) [0, 1, 2, 3, 4, 5, 6, 7] (by decide +kernel) rfl
      exact W.zret (v := 1) hx hb hr (rfl) (fun t ht hW => ⟨⟨1, (fun _ => 0), rfl, ((if_pos ⟨fa_nlt c10, hw15⟩).symm), ⟨(upd (upd fm10 (16 + j) (sbF (fm10 (16 + j)) (wrF (fm3 j) (fm4 j) (fm5 j) (fm7 k) (fm8 k)))) 32 (((upd fm10 (16 + j) (sbF (fm10 (16 + j)) (wrF (fm3 j) (fm4 j) (fm5 j) (fm7 k) (fm8 k)))) 32) + 2)), rfl, by rw [ht]; exact hP9, hD9⟩⟩, hS.F ht⟩) hS.2.2 dX11_page_71
    ·
      refine lv_if_eq (tgt := 70) hx hb dX11_page_63 (by decide) (fun c17 => ?_) (fun c17 => ?_)
      rotate_left
      · exact absurd c17 (by decide)
      clear c17
      refine lv_iconst (v := 0) hx hb dX11_page_70 (by decide) ?_
      have hP9 := hP.sub (ws' := [(h0, .inr (11, f_h0)), (m3, .inl (cI, 8, .inl fm3)), (m4, .inl (cI, 8, .inl fm4)), (m5, .inl (cI, 8, .inl fm5)), (m7, .inl (cI, 4, .inl fm7)), (m8, .inl (cI, 4, .inl fm8)), (m9, .inl (cI, 4, .inl fm9)), (m10, .inl (cI, 34, .inl (upd (upd fm10 (16 + j) (sbF (fm10 (16 + j)) (wrF (fm3 j) (fm4 j) (fm5 j) (fm7 k) (fm8 k)))) 32 (((upd fm10 (16 + j) (sbF (fm10 (16 + j)) (wrF (fm3 j) (fm4 j) (fm5 j) (fm7 k) (fm8 k)))) 32) + 2))))]) [0, 1, 2, 3, 4, 5, 6, 7] rfl
      have hD9 := hD.sub (ws' := [(h0, .inr (11, f_h0)), (m3, .inl (cI, 8, .inl fm3)), (m4, .inl (cI, 8, .inl fm4)), (m5, .inl (cI, 8, .inl fm5)), (m7, .inl (cI, 4, .inl fm7)), (m8, .inl (cI, 4, .inl fm8)), (m9, .inl (cI, 4, .inl fm9)), (m10, .inl (cI, 34, .inl (upd (upd fm10 (16 + j) (sbF (fm10 (16 + j)) (wrF (fm3 j) (fm4 j) (fm5 j) (fm7 k) (fm8 k)))) 32 (((upd fm10 (16 + j) (sbF (fm10 (16 + j)) (wrF (fm3 j) (fm4 j) (fm5 j) (fm7 k) (fm8 k)))) 32) + 2))))]) [0, 1, 2, 3, 4, 5, 6, 7] (by decide +kernel) rfl
      exact W.zret (v := 0) hx hb hr (rfl) (fun t ht hW => ⟨⟨0, (fun _ => 0), rfl, ((if_neg (fun h9 => hw15 h9.2)).symm), ⟨(upd (upd fm10 (16 + j) (sbF (fm10 (16 + j)) (wrF (fm3 j) (fm4 j) (fm5 j) (fm7 k) (fm8 k)))) 32 (((upd fm10 (16 + j) (sbF (fm10 (16 + j)) (wrF (fm3 j) (fm4 j) (fm5 j) (fm7 k) (fm8 k)))) 32) + 2)), rfl, by rw [ht]; exact hP9, hD9⟩⟩, hS.F ht⟩) hS.2.2 dX11_page_71
