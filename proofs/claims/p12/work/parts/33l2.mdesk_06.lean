set_option maxHeartbeats 4000000 in
set_option maxRecDepth 100000 in
theorem c_X11_pageOfD (l : Launch) (dC : Nat → ClassId) (dI : Nat → Nat → Nat) (cI cZ cQ : ClassId) (h0 : Nat) (m3 : Nat) (m4 : Nat) (m5 : Nat) (m7 : Nat) (m8 : Nat) (m9 : Nat) (m10 : Nat) (f_h0 : List Value) (fm3 : Nat → Int32) (fm4 : Nat → Int32) (fm5 : Nat → Int32) (fm7 : Nat → Int32) (fm8 : Nat → Int32) (fm9 : Nat → Int32) (fm10 : Nat → Int32) (j : Nat) (k : Nat) (nq : Nat) (sz : Nat) (e_h0_3 : f_h0[3]? = some (.ref m3)) (e_h0_4 : f_h0[4]? = some (.ref m4)) (e_h0_5 : f_h0[5]? = some (.ref m5)) (e_h0_7 : f_h0[7]? = some (.ref m7)) (e_h0_8 : f_h0[8]? = some (.ref m8)) (e_h0_9 : f_h0[9]? = some (.ref m9)) (e_h0_10 : f_h0[10]? = some (.ref m10)) (hnq : nq ≤ 8) (hci : cIn fm5 nq) (hj : j < nq) (hk : k < 4) : Met l yX11_pageOf wsX11_pageOf ({ frames := 4, cells := 0, slots := 0, locals := 131 }) (va_Pc [.ref h0, .int (nI j), .int (nI k)] (fun U => U.heap.size = sz ∧ va_P (dC, dI) vwCl [(h0, .inr (11, f_h0)), (m3, .inl (cI, 8, .inl fm3)), (m4, .inl (cI, 8, .inl fm4)), (m5, .inl (cI, 8, .inl fm5)), (m7, .inl (cI, 4, .inl fm7)), (m8, .inl (cI, 4, .inl fm8)), (m9, .inl (cI, 4, .inl fm9)), (m10, .inl (cI, 34, .inl fm10))] U.heap ∧ va_K (dC, dI) vwCl (tys0 cI cZ cQ) U ∧ va_D (fun _ => True) [(h0, .inr (11, f_h0)), (m3, .inl (cI, 8, .inl fm3)), (m4, .inl (cI, 8, .inl fm4)), (m5, .inl (cI, 8, .inl fm5)), (m7, .inl (cI, 4, .inl fm7)), (m8, .inl (cI, 4, .inl fm8)), (m9, .inl (cI, 4, .inl fm9)), (m10, .inl (cI, 34, .inl fm10))])) (va_Qv (fun (u : Nat → Nat) => True) (fun (_ : Nat → Nat) (t : State) => ∃ (gg0 : Nat → Int32) , (gg0 = pgX lmB (wrF (fm3 j) (fm4 j) (fm5 j) (fm7 k) (fm8 k)) (fm9 k) j k fm10) ∧ va_P (dC, dI) vwCl [(h0, .inr (11, f_h0)), (m3, .inl (cI, 8, .inl fm3)), (m4, .inl (cI, 8, .inl fm4)), (m5, .inl (cI, 8, .inl fm5)), (m7, .inl (cI, 4, .inl fm7)), (m8, .inl (cI, 4, .inl fm8)), (m9, .inl (cI, 4, .inl fm9)), (m10, .inl (cI, 34, .inl gg0))] t.heap ∧ va_D (va_A [(h0, .inr (11, f_h0)), (m3, .inl (cI, 8, .inl fm3)), (m4, .inl (cI, 8, .inl fm4)), (m5, .inl (cI, 8, .inl fm5)), (m7, .inl (cI, 4, .inl fm7)), (m8, .inl (cI, 4, .inl fm8)), (m9, .inl (cI, 4, .inl fm9)), (m10, .inl (cI, 34, .inl fm10))] sz) [(h0, .inr (11, f_h0)), (m3, .inl (cI, 8, .inl fm3)), (m4, .inl (cI, 8, .inl fm4)), (m5, .inl (cI, 8, .inl fm5)), (m7, .inl (cI, 4, .inl fm7)), (m8, .inl (cI, 4, .inl fm8)), (m9, .inl (cI, 4, .inl fm9)), (m10, .inl (cI, 34, .inl gg0))]) (va_A [(h0, .inr (11, f_h0)), (m3, .inl (cI, 8, .inl fm3)), (m4, .inl (cI, 8, .inl fm4)), (m5, .inl (cI, 8, .inl fm5)), (m7, .inl (cI, 4, .inl fm7)), (m8, .inl (cI, 4, .inl fm8)), (m9, .inl (cI, 4, .inl fm9)), (m10, .inl (cI, 34, .inl fm10))] sz)) 0 0 (va_A [(h0, .inr (11, f_h0)), (m3, .inl (cI, 8, .inl fm3)), (m4, .inl (cI, 8, .inl fm4)), (m5, .inl (cI, 8, .inl fm5)), (m7, .inl (cI, 4, .inl fm7)), (m8, .inl (cI, 4, .inl fm8)), (m9, .inl (cI, 4, .inl fm9)), (m10, .inl (cI, 34, .inl fm10))] sz) := by
  refine Met.ofW (cc := cX11_pageOf) (maxL := 4) (ret := none) (by decide) rfl ?_
  intro p e s m args below meth c s₁ B hml hv
  obtain ⟨rfl, hsz, hP, hK, hD0⟩ := hv
  have hx := B.exec
  have hb := B.bytes
  have hr := B.returns
  have hts := atoms_spec (ws := wsX11_pageOf) B.pre
  have hown : s.vm.findClass RX11 = some m.cls := findClass_of_methodNamed B.named
  have hlocks := B.notSynchronized
  have hi_X11 : ∀ w ∈ u_ws RX11 TX11 46, w ∈ wsX11_pageOf := fun _ h => List.mem_cons_of_mem _ (List.mem_append_right _ (h))
  subst hsz
  have hD := hD0.self (sz := s.heap.size)
  generalize hAe : va_A [(h0, .inr (11, f_h0)), (m3, .inl (cI, 8, .inl fm3)), (m4, .inl (cI, 8, .inl fm4)), (m5, .inl (cI, 8, .inl fm5)), (m7, .inl (cI, 4, .inl fm7)), (m8, .inl (cI, 4, .inl fm8)), (m9, .inl (cI, 4, .inl fm9)), (m10, .inl (cI, 34, .inl fm10))] s.heap.size = A at hD ⊢
  have hA : ∀ q : Nat, s.heap.size ≤ q → A q := fun q h => by rw [← hAe]; exact Or.inr h
  have hS : va_S A s.heap s.heap [] := va_S.rf
  have hl := lv_entry ([.ref h0, .int (nI j), .int (nI k)]) (n := 4) (Nat.le_of_ble_eq_true rfl)
  rw [lg_entry_eq]
  generalize (lg_sl ([.ref h0, .int (nI j), .int (nI k)]) ++ List.replicate (4 - (lg_sl ([.ref h0, .int (nI j), .int (nI k)])).length) Slot.unset).toArray = ls at hl ⊢
  have hl : lv_has ls 4 [(0, .ref h0), (1, .int (nI j)), (2, .int (nI k))] := hl
  refine lv_aload_n hx hb dX11_pageOf_0 rfl (lv_at hl 0 rfl) ?_
  refine lv_iload_n hx hb dX11_pageOf_1 rfl (lv_at hl 1 rfl) ?_
  refine lv_iload_n hx hb dX11_pageOf_2 rfl (lv_at hl 2 rfl) ?_
  have hPc := hP.sub (ws' := [(h0, .inr (11, f_h0)), (m3, .inl (cI, 8, .inl fm3)), (m4, .inl (cI, 8, .inl fm4)), (m5, .inl (cI, 8, .inl fm5)), (m7, .inl (cI, 4, .inl fm7)), (m8, .inl (cI, 4, .inl fm8)), (m9, .inl (cI, 4, .inl fm9)), (m10, .inl (cI, 34, .inl fm10))]) [0, 1, 2, 3, 4, 5, 6, 7] rfl
  have hDc := hD.sub (ws' := [(h0, .inr (11, f_h0)), (m3, .inl (cI, 8, .inl fm3)), (m4, .inl (cI, 8, .inl fm4)), (m5, .inl (cI, 8, .inl fm5)), (m7, .inl (cI, 4, .inl fm7)), (m8, .inl (cI, 4, .inl fm8)), (m9, .inl (cI, 4, .inl fm9)), (m10, .inl (cI, 34, .inl fm10))]) [0, 1, 2, 3, 4, 5, 6, 7] (by decide) rfl
  have hFc := va_free (wc := [(h0, .inr (11, f_h0)), (m3, .inl (cI, 8, .inl fm3)), (m4, .inl (cI, 8, .inl fm4)), (m5, .inl (cI, 8, .inl fm5)), (m7, .inl (cI, 4, .inl fm7)), (m8, .inl (cI, 4, .inl fm8)), (m9, .inl (cI, 4, .inl fm9)), (m10, .inl (cI, 34, .inl fm10))]) hD hS hA [0, 1, 2, 3, 4, 5, 6, 7] rfl
  refine va_calli (va_runV (As := [.int (nI j), .int (nI k)]) (rest := []) ⟨hx, hb, hml, hown, hts⟩ (c_X11_pageD l dC dI cI cZ cQ h0 m3 m4 m5 m7 m8 m9 m10 f_h0 fm3 fm4 fm5 fm7 fm8 fm9 fm10 j k nq s.heap.size e_h0_3 e_h0_4 e_h0_5 e_h0_7 e_h0_8 e_h0_9 e_h0_10 (by omega) (by first | assumption | decide) (by omega) (by omega)) (cwV 2 hts gX11_pageOf_X11_page rfl rfl rfl (by decide +kernel) ⟨Nat.le_of_ble_eq_true rfl, Nat.le_of_ble_eq_true rfl⟩) ⟨fun a U g mk q => by obtain ⟨q0, q1, qP, qK, qD⟩ := q; exact ⟨q0, q1, qP, va_K.moved (u := U) (U := U.calling g mk a) (Vm.Alike.refl U.vm) qK, qD⟩, va_recv hK hP (ci := 11) (q0 := 0) rfl rfl, fun U hU hW => ⟨rfl, by rw [hU], by rw [hU]; exact hPc, va_K.moved hW.alike hK, hDc.weaken (fun _ _ _ _ => trivial)⟩⟩ rfl rfl hl.1 rfl (lv_room (Nat.le_of_ble_eq_true rfl)) dX11_pageOf_3 ⟨Nat.le_of_ble_eq_true rfl, Nat.le_of_ble_eq_true rfl⟩) hS (fun q _ h => hFc q h) hFc (fun r1 u2 t H1 locs ht hvm hw3 hB hz1 hk1 hS => ?_)
  obtain ⟨f4, he5, hP1, hD1⟩ := hB
  rw [ht] at hP1
  obtain ⟨hP, hD⟩ := va_join (wr := []) (w1 := [(h0, .inr (11, f_h0)), (m3, .inl (cI, 8, .inl fm3)), (m4, .inl (cI, 8, .inl fm4)), (m5, .inl (cI, 8, .inl fm5)), (m7, .inl (cI, 4, .inl fm7)), (m8, .inl (cI, 4, .inl fm8)), (m9, .inl (cI, 4, .inl fm9)), (m10, .inl (cI, 34, .inl f4))]) hP hD [0, 1, 2, 3, 4, 5, 6, 7] [] rfl rfl (by decide +kernel) (by decide +kernel) hk1 hFc hP1 hD1
  clear hP1 hD1
  clear hz1 hk1 hPc hDc hFc
  generalize H1 = H at hP hS ht ⊢
  have hP : va_P (dC, dI) vwCl [(h0, .inr (11, f_h0)), (m3, .inl (cI, 8, .inl fm3)), (m4, .inl (cI, 8, .inl fm4)), (m5, .inl (cI, 8, .inl fm5)), (m7, .inl (cI, 4, .inl fm7)), (m8, .inl (cI, 4, .inl fm8)), (m9, .inl (cI, 4, .inl fm9)), (m10, .inl (cI, 34, .inl f4))] H := hP
  have hD : va_D A [(h0, .inr (11, f_h0)), (m3, .inl (cI, 8, .inl fm3)), (m4, .inl (cI, 8, .inl fm4)), (m5, .inl (cI, 8, .inl fm5)), (m7, .inl (cI, 4, .inl fm7)), (m8, .inl (cI, 4, .inl fm8)), (m9, .inl (cI, 4, .inl fm9)), (m10, .inl (cI, 34, .inl f4))] := hD
  try dsimp only at hw3
  rcases gd01 hw3 with ⟨rfl, hw3⟩ | ⟨rfl, hw3⟩
  ·
    refine lv_istore_n (lv' := [(3, .int 1), (0, .ref h0), (1, .int (nI j)), (2, .int (nI k))]) hx hb dX11_pageOf_6 rfl hl (by decide) rfl (fun ls hl => ?_)
    refine lv_aload_n hx hb dX11_pageOf_7 rfl (lv_at hl 1 rfl) ?_
    refine va_get (D := (dC, dI)) (ci := 11) (v := .ref m10) (C := RX11) (T := TX11) (N := 46) hx hb hts hi_X11 hown hK hP 0 rfl rfl 10 (by decide) (hts (.fieldLink RX11 28 "LeftQuillsModel" "now" "[I") (wmx 1 rfl)) (fun _ h9 => h9) e_h0_10 dX11_pageOf_8 ?_
    refine lv_bipush (v := 24) hx hb dX11_pageOf_11 (by decide) ?_
    refine lv_iload_n hx hb dX11_pageOf_13 rfl (lv_at hl 3 rfl) ?_
    refine lv_iadd hx hb dX11_pageOf_14 ?_
    refine lv_topi (fun z6 ez6 => ?_)
    obtain rfl : z6 = nI (24 + k) := ez6.trans (nI_add 24 k)
    refine lv_dup2_11 hx hb dX11_pageOf_15 rfl rfl ?_
    refine va_iald hx hb hK hP 7 0 rfl rfl (vp_in_nI (n := 24 + k) (N := 34) (by omega) (by decide)) dX11_pageOf_16 ?_
    refine W.eq (g2 := F0 m 17 ls [.int (f4 (24 + k)), .int (nI (24 + k)), .ref m10]) (congrArg (fun y9 => F0 m 17 ls (.int (f4 y9) :: [.int (nI (24 + k)), .ref m10])) ((nI_clamp (n := 24 + k) (by omega)))) ?_
    refine lv_iconst (v := 1) hx hb dX11_pageOf_17 (by decide) ?_
    refine lv_iadd hx hb dX11_pageOf_18 ?_
    refine va_iast hx hb hK hP hD hS 7 0 rfl rfl (vp_in_nI (n := 24 + k) (N := 34) (by omega) (by decide)) dX11_pageOf_19 (fun H locs hP hD hS => ?_)
    have hcl := (nI_clamp (n := 24 + k) (by omega))
    rw [hcl] at hP hD
    clear hcl
    have hP : va_P (dC, dI) vwCl [(h0, .inr (11, f_h0)), (m3, .inl (cI, 8, .inl fm3)), (m4, .inl (cI, 8, .inl fm4)), (m5, .inl (cI, 8, .inl fm5)), (m7, .inl (cI, 4, .inl fm7)), (m8, .inl (cI, 4, .inl fm8)), (m9, .inl (cI, 4, .inl fm9)), (m10, .inl (cI, 34, .inl (upd f4 (24 + k) ((f4 (24 + k)) + 1))))] H := hP
    have hD : va_D A [(h0, .inr (11, f_h0)), (m3, .inl (cI, 8, .inl fm3)), (m4, .inl (cI, 8, .inl fm4)), (m5, .inl (cI, 8, .inl fm5)), (m7, .inl (cI, 4, .inl fm7)), (m8, .inl (cI, 4, .inl fm8)), (m9, .inl (cI, 4, .inl fm9)), (m10, .inl (cI, 34, .inl (upd f4 (24 + k) ((f4 (24 + k)) + 1))))] := hD
    refine lv_aload_n hx hb dX11_pageOf_20 rfl (lv_at hl 1 rfl) ?_
    refine va_get (D := (dC, dI)) (ci := 11) (v := .ref m10) (C := RX11) (T := TX11) (N := 46) hx hb hts hi_X11 hown hK hP 0 rfl rfl 10 (by decide) (hts (.fieldLink RX11 28 "LeftQuillsModel" "now" "[I") (wmx 1 rfl)) (fun _ h9 => h9) e_h0_10 dX11_pageOf_21 ?_
    refine lv_bipush (v := 28) hx hb dX11_pageOf_24 (by decide) ?_
    refine lv_iload_n hx hb dX11_pageOf_26 rfl (lv_at hl 3 rfl) ?_
    refine lv_iadd hx hb dX11_pageOf_27 ?_
    refine lv_topi (fun z8 ez8 => ?_)
    obtain rfl : z8 = nI (28 + k) := ez8.trans (nI_add 28 k)
    refine lv_dup2_11 hx hb dX11_pageOf_28 rfl rfl ?_
    refine va_iald hx hb hK hP 7 0 rfl rfl (vp_in_nI (n := 28 + k) (N := 34) (by omega) (by decide)) dX11_pageOf_29 ?_
    refine W.eq (g2 := F0 m 30 ls [.int ((upd f4 (24 + k) ((f4 (24 + k)) + 1)) (28 + k)), .int (nI (28 + k)), .ref m10]) (congrArg (fun y9 => F0 m 30 ls (.int ((upd f4 (24 + k) ((f4 (24 + k)) + 1)) y9) :: [.int (nI (28 + k)), .ref m10])) ((nI_clamp (n := 28 + k) (by omega)))) ?_
    refine lv_iload_n hx hb dX11_pageOf_30 rfl (lv_at hl 0 rfl) ?_
    refine lv_if_eq (tgt := 38) hx hb dX11_pageOf_31 (by decide) (fun c9 => ?_) (fun c9 => ?_)
    · exact absurd c9 (by decide)
    clear c9
    refine lv_iconst (v := 1) hx hb dX11_pageOf_34 (by decide) ?_
    refine lv_goto (tgt := 39) hx hb dX11_pageOf_35 (by decide) ?_
    refine lv_iadd hx hb dX11_pageOf_39 ?_
    refine va_iast hx hb hK hP hD hS 7 0 rfl rfl (vp_in_nI (n := 28 + k) (N := 34) (by omega) (by decide)) dX11_pageOf_40 (fun H locs hP hD hS => ?_)
    have hcl := (nI_clamp (n := 28 + k) (by omega))
    rw [hcl] at hP hD
    clear hcl
    have hP : va_P (dC, dI) vwCl [(h0, .inr (11, f_h0)), (m3, .inl (cI, 8, .inl fm3)), (m4, .inl (cI, 8, .inl fm4)), (m5, .inl (cI, 8, .inl fm5)), (m7, .inl (cI, 4, .inl fm7)), (m8, .inl (cI, 4, .inl fm8)), (m9, .inl (cI, 4, .inl fm9)), (m10, .inl (cI, 34, .inl (upd (upd f4 (24 + k) ((f4 (24 + k)) + 1)) (28 + k) (((upd f4 (24 + k) ((f4 (24 + k)) + 1)) (28 + k)) + 1))))] H := hP
    have hD : va_D A [(h0, .inr (11, f_h0)), (m3, .inl (cI, 8, .inl fm3)), (m4, .inl (cI, 8, .inl fm4)), (m5, .inl (cI, 8, .inl fm5)), (m7, .inl (cI, 4, .inl fm7)), (m8, .inl (cI, 4, .inl fm8)), (m9, .inl (cI, 4, .inl fm9)), (m10, .inl (cI, 34, .inl (upd (upd f4 (24 + k) ((f4 (24 + k)) + 1)) (28 + k) (((upd f4 (24 + k) ((f4 (24 + k)) + 1)) (28 + k)) + 1))))] := hD
    have hP9 := hP.sub (ws' := [(h0, .inr (11, f_h0)), (m3, .inl (cI, 8, .inl fm3)), (m4, .inl (cI, 8, .inl fm4)), (m5, .inl (cI, 8, .inl fm5)), (m7, .inl (cI, 4, .inl fm7)), (m8, .inl (cI, 4, .inl fm8)), (m9, .inl (cI, 4, .inl fm9)), (m10, .inl (cI, 34, .inl (upd (upd f4 (24 + k) ((f4 (24 + k)) + 1)) (28 + k) (((upd f4 (24 + k) ((f4 (24 + k)) + 1)) (28 + k)) + 1))))]) [0, 1, 2, 3, 4, 5, 6, 7] rfl
    have hD9 := hD.sub (ws' := [(h0, .inr (11, f_h0)), (m3, .inl (cI, 8, .inl fm3)), (m4, .inl (cI, 8, .inl fm4)), (m5, .inl (cI, 8, .inl fm5)), (m7, .inl (cI, 4, .inl fm7)), (m8, .inl (cI, 4, .inl fm8)), (m9, .inl (cI, 4, .inl fm9)), (m10, .inl (cI, 34, .inl (upd (upd f4 (24 + k) ((f4 (24 + k)) + 1)) (28 + k) (((upd f4 (24 + k) ((f4 (24 + k)) + 1)) (28 + k)) + 1))))]) [0, 1, 2, 3, 4, 5, 6, 7] (by decide +kernel) rfl
    exact W.vret hx hb hr (fun t ht hW => ⟨⟨(fun _ => 0), rfl, trivial, ⟨(upd (upd f4 (24 + k) ((f4 (24 + k)) + 1)) (28 + k) (((upd f4 (24 + k) ((f4 (24 + k)) + 1)) (28 + k)) + 1)), (mpg_page (by omega) hk hw3 he5), by rw [ht]; exact hP9, hD9⟩⟩, hS.F ht⟩) hS.2.2 dX11_pageOf_41
  ·
    refine lv_istore_n (lv' := [(3, .int 0), (0, .ref h0), (1, .int (nI j)), (2, .int (nI k))]) hx hb dX11_pageOf_6 rfl hl (by decide) rfl (fun ls hl => ?_)
    refine lv_aload_n hx hb dX11_pageOf_7 rfl (lv_at hl 1 rfl) ?_
    refine va_get (D := (dC, dI)) (ci := 11) (v := .ref m10) (C := RX11) (T := TX11) (N := 46) hx hb hts hi_X11 hown hK hP 0 rfl rfl 10 (by decide) (hts (.fieldLink RX11 28 "LeftQuillsModel" "now" "[I") (wmx 1 rfl)) (fun _ h9 => h9) e_h0_10 dX11_pageOf_8 ?_
    refine lv_bipush (v := 24) hx hb dX11_pageOf_11 (by decide) ?_
    refine lv_iload_n hx hb dX11_pageOf_13 rfl (lv_at hl 3 rfl) ?_
    refine lv_iadd hx hb dX11_pageOf_14 ?_
    refine lv_topi (fun z11 ez11 => ?_)
    obtain rfl : z11 = nI (24 + k) := ez11.trans (nI_add 24 k)
    refine lv_dup2_11 hx hb dX11_pageOf_15 rfl rfl ?_
    refine va_iald hx hb hK hP 7 0 rfl rfl (vp_in_nI (n := 24 + k) (N := 34) (by omega) (by decide)) dX11_pageOf_16 ?_
    refine W.eq (g2 := F0 m 17 ls [.int (f4 (24 + k)), .int (nI (24 + k)), .ref m10]) (congrArg (fun y9 => F0 m 17 ls (.int (f4 y9) :: [.int (nI (24 + k)), .ref m10])) ((nI_clamp (n := 24 + k) (by omega)))) ?_
    refine lv_iconst (v := 1) hx hb dX11_pageOf_17 (by decide) ?_
    refine lv_iadd hx hb dX11_pageOf_18 ?_
    refine va_iast hx hb hK hP hD hS 7 0 rfl rfl (vp_in_nI (n := 24 + k) (N := 34) (by omega) (by decide)) dX11_pageOf_19 (fun H locs hP hD hS => ?_)
    have hcl := (nI_clamp (n := 24 + k) (by omega))
    rw [hcl] at hP hD
    clear hcl
    have hP : va_P (dC, dI) vwCl [(h0, .inr (11, f_h0)), (m3, .inl (cI, 8, .inl fm3)), (m4, .inl (cI, 8, .inl fm4)), (m5, .inl (cI, 8, .inl fm5)), (m7, .inl (cI, 4, .inl fm7)), (m8, .inl (cI, 4, .inl fm8)), (m9, .inl (cI, 4, .inl fm9)), (m10, .inl (cI, 34, .inl (upd f4 (24 + k) ((f4 (24 + k)) + 1))))] H := hP
    have hD : va_D A [(h0, .inr (11, f_h0)), (m3, .inl (cI, 8, .inl fm3)), (m4, .inl (cI, 8, .inl fm4)), (m5, .inl (cI, 8, .inl fm5)), (m7, .inl (cI, 4, .inl fm7)), (m8, .inl (cI, 4, .inl fm8)), (m9, .inl (cI, 4, .inl fm9)), (m10, .inl (cI, 34, .inl (upd f4 (24 + k) ((f4 (24 + k)) + 1))))] := hD
    refine lv_aload_n hx hb dX11_pageOf_20 rfl (lv_at hl 1 rfl) ?_
    refine va_get (D := (dC, dI)) (ci := 11) (v := .ref m10) (C := RX11) (T := TX11) (N := 46) hx hb hts hi_X11 hown hK hP 0 rfl rfl 10 (by decide) (hts (.fieldLink RX11 28 "LeftQuillsModel" "now" "[I") (wmx 1 rfl)) (fun _ h9 => h9) e_h0_10 dX11_pageOf_21 ?_
    refine lv_bipush (v := 28) hx hb dX11_pageOf_24 (by decide) ?_
    refine lv_iload_n hx hb dX11_pageOf_26 rfl (lv_at hl 3 rfl) ?_
    refine lv_iadd hx hb dX11_pageOf_27 ?_
    refine lv_topi (fun z13 ez13 => ?_)
    obtain rfl : z13 = nI (28 + k) := ez13.trans (nI_add 28 k)
    refine lv_dup2_11 hx hb dX11_pageOf_28 rfl rfl ?_
    refine va_iald hx hb hK hP 7 0 rfl rfl (vp_in_nI (n := 28 + k) (N := 34) (by omega) (by decide)) dX11_pageOf_29 ?_
    refine W.eq (g2 := F0 m 30 ls [.int ((upd f4 (24 + k) ((f4 (24 + k)) + 1)) (28 + k)), .int (nI (28 + k)), .ref m10]) (congrArg (fun y9 => F0 m 30 ls (.int ((upd f4 (24 + k) ((f4 (24 + k)) + 1)) y9) :: [.int (nI (28 + k)), .ref m10])) ((nI_clamp (n := 28 + k) (by omega)))) ?_
    refine lv_iload_n hx hb dX11_pageOf_30 rfl (lv_at hl 0 rfl) ?_
    refine lv_if_eq (tgt := 38) hx hb dX11_pageOf_31 (by decide) (fun c14 => ?_) (fun c14 => ?_)
    rotate_left
    · exact absurd c14 (by decide)
    clear c14
    refine lv_iconst (v := 0) hx hb dX11_pageOf_38 (by decide) ?_
    refine lv_iadd hx hb dX11_pageOf_39 ?_
    refine va_iast hx hb hK hP hD hS 7 0 rfl rfl (vp_in_nI (n := 28 + k) (N := 34) (by omega) (by decide)) dX11_pageOf_40 (fun H locs hP hD hS => ?_)
    have hcl := (nI_clamp (n := 28 + k) (by omega))
    rw [hcl] at hP hD
    clear hcl
    have hP : va_P (dC, dI) vwCl [(h0, .inr (11, f_h0)), (m3, .inl (cI, 8, .inl fm3)), (m4, .inl (cI, 8, .inl fm4)), (m5, .inl (cI, 8, .inl fm5)), (m7, .inl (cI, 4, .inl fm7)), (m8, .inl (cI, 4, .inl fm8)), (m9, .inl (cI, 4, .inl fm9)), (m10, .inl (cI, 34, .inl (upd (upd f4 (24 + k) ((f4 (24 + k)) + 1)) (28 + k) (((upd f4 (24 + k) ((f4 (24 + k)) + 1)) (28 + k)) + 0))))] H := hP
    have hD : va_D A [(h0, .inr (11, f_h0)), (m3, .inl (cI, 8, .inl fm3)), (m4, .inl (cI, 8, .inl fm4)), (m5, .inl (cI, 8, .inl fm5)), (m7, .inl (cI, 4, .inl fm7)), (m8, .inl (cI, 4, .inl fm8)), (m9, .inl (cI, 4, .inl fm9)), (m10, .inl (cI, 34, .inl (upd (upd f4 (24 + k) ((f4 (24 + k)) + 1)) (28 + k) (((upd f4 (24 + k) ((f4 (24 + k)) + 1)) (28 + k)) + 0))))] := hD
    have hP9 := hP.sub (ws' := [(h0, .inr (11, f_h0)), (m3, .inl (cI, 8, .inl fm3)), (m4, .inl (cI, 8, .inl fm4)), (m5, .inl (cI, 8, .inl fm5)), (m7, .inl (cI, 4, .inl fm7)), (m8, .inl (cI, 4, .inl fm8)), (m9, .inl (cI, 4, .inl fm9)), (m10, .inl (cI, 34, .inl (upd (upd f4 (24 + k) ((f4 (24 + k)) + 1)) (28 + k) (((upd f4 (24 + k) ((f4 (24 + k)) + 1)) (28 + k)) + 0))))]) [0, 1, 2, 3, 4, 5, 6, 7] rfl
    have hD9 := hD.sub (ws' := [(h0, .inr (11, f_h0)), (m3, .inl (cI, 8, .inl fm3)), (m4, .inl (cI, 8, .inl fm4)), (m5, .inl (cI, 8, .inl fm5)), (m7, .inl (cI, 4, .inl fm7)), (m8, .inl (cI, 4, .inl fm8)), (m9, .inl (cI, 4, .inl fm9)), (m10, .inl (cI, 34, .inl (upd (upd f4 (24 + k) ((f4 (24 + k)) + 1)) (28 + k) (((upd f4 (24 + k) ((f4 (24 + k)) + 1)) (28 + k)) + 0))))]) [0, 1, 2, 3, 4, 5, 6, 7] (by decide +kernel) rfl
    exact W.vret hx hb hr (fun t ht hW => ⟨⟨(fun _ => 0), rfl, trivial, ⟨(upd (upd f4 (24 + k) ((f4 (24 + k)) + 1)) (28 + k) (((upd f4 (24 + k) ((f4 (24 + k)) + 1)) (28 + k)) + 0)), (mpg_page (by omega) hk hw3 he5), by rw [ht]; exact hP9, hD9⟩⟩, hS.F ht⟩) hS.2.2 dX11_pageOf_41
