set_option maxHeartbeats 4000000 in
set_option maxRecDepth 100000 in
theorem c_X11_figure (l : Launch) (dC : Nat → ClassId) (dI : Nat → Nat → Nat) (cI cZ cQ : ClassId) (a0 : Int32) (a1 : Int32) (a2 : Int32) (sz : Nat)  : Met l yX11_figure wsX11_figure ({ frames := 0, cells := 0, slots := 0, locals := 40 }) (va_Pc [.int a0, .int a1, .int a2] (fun U => U.heap.size = sz ∧ va_P (dC, dI) vwCl [] U.heap ∧ va_K (dC, dI) vwCl (tys0 cI cZ cQ) U)) (va_Qi (fun (r : Int32) (u : Nat → Nat) => ∃ w : Nat, w < 8 ∧ r = nI w) (fun (_ : Nat → Nat) (_ : State) => True) (fun _ : Nat => False)) 0 0 (fun _ : Nat => False) := by
  refine Met.ofW (cc := cX11_figure) (maxL := 3) (ret := (some .int)) (by decide) rfl ?_
  intro p e s m args below meth c s₁ B hml hv
  obtain ⟨rfl, hsz, hP, hK⟩ := hv
  have hx := B.exec
  have hb := B.bytes
  have hr := B.returns
  have hts := atoms_spec (ws := wsX11_figure) B.pre
  have hown : s.vm.findClass RX11 = some m.cls := findClass_of_methodNamed B.named
  have hlocks := B.notSynchronized
  subst hsz
  have hS : va_S (fun _ : Nat => False) s.heap s.heap [] := va_S.rf
  have hl := lv_entry ([.int a0, .int a1, .int a2]) (n := 3) (Nat.le_of_ble_eq_true rfl)
  rw [lg_entry_eq]
  generalize (lg_sl ([.int a0, .int a1, .int a2]) ++ List.replicate (3 - (lg_sl ([.int a0, .int a1, .int a2])).length) Slot.unset).toArray = ls at hl ⊢
  have hl : lv_has ls 3 [(0, .int a0), (1, .int a1), (2, .int a2)] := hl
  refine lv_iload_n hx hb dX11_figure_0 rfl (lv_at hl 0 rfl) ?_
  refine lv_iconst (v := 3) hx hb dX11_figure_1 (by decide) ?_
  refine lv_iload_n hx hb dX11_figure_2 rfl (lv_at hl 1 rfl) ?_
  refine lv_iconst (v := 1) hx hb dX11_figure_3 (by decide) ?_
  refine lv_isub hx hb dX11_figure_4 ?_
  refine lv_topi (fun z1 ez1 => ?_)
  refine lv_iload_n hx hb dX11_figure_5 rfl (lv_at hl 2 rfl) ?_
  refine lv_isub hx hb dX11_figure_6 ?_
  refine lv_topi (fun z2 ez2 => ?_)
  refine lv_imul hx hb dX11_figure_7 ?_
  refine lv_topi (fun z3 ez3 => ?_)
  refine lv_ishr hx hb dX11_figure_8 ?_
  refine lv_topi (fun z4 ez4 => ?_)
  refine lv_bipush (v := 7) hx hb dX11_figure_9 (by decide) ?_
  refine lv_iand hx hb dX11_figure_11 ?_
  refine lv_topi (fun z5 ez5 => ?_)
  obtain ⟨w6, hw6, ekw6⟩ := pk_andE z4 (m := 7) 3 (by decide)
  have hw6 : w6 < 8 := hw6
  obtain rfl : z5 = nI w6 := ez5.trans ekw6
  exact W.iret (v := nI w6) hx hb hr (fun t ht hW => ⟨⟨nI w6, (fun _ => 0), rfl, ⟨_, by omega, rfl⟩, trivial⟩, hS.F ht⟩) hS.2.2 dX11_figure_12
set_option maxHeartbeats 4000000 in
set_option maxRecDepth 100000 in
theorem c_X11_minutesOf (l : Launch) (dC : Nat → ClassId) (dI : Nat → Nat → Nat) (cI cZ cQ : ClassId) (h0 : Nat) (n0 : Int32) (n1 : Int32) (nq : Nat) (m3 : Nat) (m4 : Nat) (m5 : Nat) (m7 : Nat) (m8 : Nat) (m9 : Nat) (m10 : Nat) (f_h0 : List Value) (fm3 : Nat → Int32) (fm4 : Nat → Int32) (fm5 : Nat → Int32) (fm7 : Nat → Int32) (fm8 : Nat → Int32) (fm9 : Nat → Int32) (fm10 : Nat → Int32) (a0 : Int32) (k : Nat) (mo : Nat) (sz : Nat) (e_h0_0 : fAt f_h0 0 = some (.int n0)) (e_h0_1 : fAt f_h0 1 = some (.int n1)) (e_h0_2 : fAt f_h0 2 = some (.int (nI nq))) (e_h0_3 : fAt f_h0 3 = some (.ref m3)) (e_h0_4 : fAt f_h0 4 = some (.ref m4)) (e_h0_5 : fAt f_h0 5 = some (.ref m5)) (e_h0_7 : fAt f_h0 7 = some (.ref m7)) (e_h0_8 : fAt f_h0 8 = some (.ref m8)) (e_h0_9 : fAt f_h0 9 = some (.ref m9)) (e_h0_10 : fAt f_h0 10 = some (.ref m10)) (hnq : nq ≤ 8) (hci : cIn fm5 nq) (hk : k < 4) (hmo : mo ≤ 4) : Met l yX11_minutesOf wsX11_minutesOf ({ frames := 4, cells := 0, slots := 0, locals := 131 }) (va_Pc [.ref h0, .int a0, .int (nI k), .int (nI mo)] (fun U => U.heap.size = sz ∧ va_P (dC, dI) vwCl [(h0, .inr (11, f_h0)), (m3, .inl (cI, 8, .inl fm3)), (m4, .inl (cI, 8, .inl fm4)), (m5, .inl (cI, 8, .inl fm5)), (m7, .inl (cI, 4, .inl fm7)), (m8, .inl (cI, 4, .inl fm8)), (m9, .inl (cI, 4, .inl fm9)), (m10, .inl (cI, 34, .inl fm10))] U.heap ∧ va_K (dC, dI) vwCl (tys0 cI cZ cQ) U ∧ va_D (fun _ => True) [(h0, .inr (11, f_h0)), (m3, .inl (cI, 8, .inl fm3)), (m4, .inl (cI, 8, .inl fm4)), (m5, .inl (cI, 8, .inl fm5)), (m7, .inl (cI, 4, .inl fm7)), (m8, .inl (cI, 4, .inl fm8)), (m9, .inl (cI, 4, .inl fm9)), (m10, .inl (cI, 34, .inl fm10))])) (va_Qi (fun (r : Int32) (u : Nat → Nat) => True) (fun (_ : Nat → Nat) (t : State) => ∃ (gg0 : Nat → Int32) , va_P (dC, dI) vwCl [(h0, .inr (11, f_h0)), (m3, .inl (cI, 8, .inl fm3)), (m4, .inl (cI, 8, .inl fm4)), (m5, .inl (cI, 8, .inl fm5)), (m7, .inl (cI, 4, .inl fm7)), (m8, .inl (cI, 4, .inl fm8)), (m9, .inl (cI, 4, .inl fm9)), (m10, .inl (cI, 34, .inl gg0))] t.heap ∧ va_D (va_A [(h0, .inr (11, f_h0)), (m3, .inl (cI, 8, .inl fm3)), (m4, .inl (cI, 8, .inl fm4)), (m5, .inl (cI, 8, .inl fm5)), (m7, .inl (cI, 4, .inl fm7)), (m8, .inl (cI, 4, .inl fm8)), (m9, .inl (cI, 4, .inl fm9)), (m10, .inl (cI, 34, .inl fm10))] sz) [(h0, .inr (11, f_h0)), (m3, .inl (cI, 8, .inl fm3)), (m4, .inl (cI, 8, .inl fm4)), (m5, .inl (cI, 8, .inl fm5)), (m7, .inl (cI, 4, .inl fm7)), (m8, .inl (cI, 4, .inl fm8)), (m9, .inl (cI, 4, .inl fm9)), (m10, .inl (cI, 34, .inl gg0))]) (va_A [(h0, .inr (11, f_h0)), (m3, .inl (cI, 8, .inl fm3)), (m4, .inl (cI, 8, .inl fm4)), (m5, .inl (cI, 8, .inl fm5)), (m7, .inl (cI, 4, .inl fm7)), (m8, .inl (cI, 4, .inl fm8)), (m9, .inl (cI, 4, .inl fm9)), (m10, .inl (cI, 34, .inl fm10))] sz)) 0 0 (va_A [(h0, .inr (11, f_h0)), (m3, .inl (cI, 8, .inl fm3)), (m4, .inl (cI, 8, .inl fm4)), (m5, .inl (cI, 8, .inl fm5)), (m7, .inl (cI, 4, .inl fm7)), (m8, .inl (cI, 4, .inl fm8)), (m9, .inl (cI, 4, .inl fm9)), (m10, .inl (cI, 34, .inl fm10))] sz) := by
  refine Met.ofW (cc := cX11_minutesOf) (maxL := 9) (ret := (some .int)) (by decide) rfl ?_
  intro p e s m args below meth c s₁ B hml hv
  obtain ⟨rfl, hsz, hP, hK, hD0⟩ := hv
  have hx := B.exec
  have hb := B.bytes
  have hr := B.returns
  have hts := atoms_spec (ws := wsX11_minutesOf) B.pre
  have hown : s.vm.findClass RX11 = some m.cls := findClass_of_methodNamed B.named
  have hlocks := B.notSynchronized
  have hi_X11 : ∀ w ∈ u_ws RX11 TX11 46, w ∈ wsX11_minutesOf := fun _ h => List.mem_cons_of_mem _ (List.mem_append_right _ (h))
  subst hsz
  have hD := hD0.self (sz := s.heap.size)
  generalize hAe : va_A [(h0, .inr (11, f_h0)), (m3, .inl (cI, 8, .inl fm3)), (m4, .inl (cI, 8, .inl fm4)), (m5, .inl (cI, 8, .inl fm5)), (m7, .inl (cI, 4, .inl fm7)), (m8, .inl (cI, 4, .inl fm8)), (m9, .inl (cI, 4, .inl fm9)), (m10, .inl (cI, 34, .inl fm10))] s.heap.size = A at hD ⊢
  have hA : ∀ q : Nat, s.heap.size ≤ q → A q := fun q h => by rw [← hAe]; exact Or.inr h
  have hS : va_S A s.heap s.heap [] := va_S.rf
  have hl := lv_entry ([.ref h0, .int a0, .int (nI k), .int (nI mo)]) (n := 9) (Nat.le_of_ble_eq_true rfl)
  rw [lg_entry_eq]
  generalize (lg_sl ([.ref h0, .int a0, .int (nI k), .int (nI mo)]) ++ List.replicate (9 - (lg_sl ([.ref h0, .int a0, .int (nI k), .int (nI mo)])).length) Slot.unset).toArray = ls at hl ⊢
  have hl : lv_has ls 9 [(0, .ref h0), (1, .int a0), (2, .int (nI k)), (3, .int (nI mo))] := hl
  refine lv_iconst (v := (-1)) hx hb dX11_minutesOf_0 (by decide) ?_
  refine lv_istore (lv' := [(4, .int (-1)), (0, .ref h0), (1, .int a0), (2, .int (nI k)), (3, .int (nI mo))]) hx hb dX11_minutesOf_1 hl (by decide) rfl (fun ls hl => ?_)
  refine lv_aload_n hx hb dX11_minutesOf_3 rfl (lv_at hl 1 rfl) ?_
  refine va_get (D := (dC, dI)) (ci := 11) (v := .ref m10) (C := RX11) (T := TX11) (N := 46) hx hb hts hi_X11 hown hK hP 0 rfl rfl 10 (by decide) (hts (.fieldLink RX11 28 "LeftQuillsModel" "now" "[I") (wmx 1 rfl)) (fun _ h9 => h9) e_h0_10 dX11_minutesOf_4 ?_
  refine lv_bipush (v := 32) hx hb dX11_minutesOf_7 (by decide) ?_
  refine va_iald hx hb hK hP 7 0 rfl rfl (vp_in_iff.mpr ⟨by decide, by decide⟩) dX11_minutesOf_9 ?_
  refine W.eq (g2 := F0 m 10 ls [.int (fm10 32)]) (congrArg (fun y9 => F0 m 10 ls (.int (fm10 y9) :: [])) ((show ((32 : Int32)).toNatClampNeg = 32 from by decide))) ?_
  refine lv_istore (lv' := [(5, .int (fm10 32)), (4, .int (-1)), (0, .ref h0), (1, .int a0), (2, .int (nI k)), (3, .int (nI mo))]) hx hb dX11_minutesOf_10 hl (by decide) rfl (fun ls hl => ?_)
  refine lv_iconst (v := 0) hx hb dX11_minutesOf_12 (by decide) ?_
  refine lv_istore (lv' := [(6, .int 0), (5, .int (fm10 32)), (4, .int (-1)), (0, .ref h0), (1, .int a0), (2, .int (nI k)), (3, .int (nI mo))]) hx hb dX11_minutesOf_13 hl (by decide) rfl (fun ls hl => ?_)
  refine (fun (K : ∀ (d15 : Nat) (k15 : Nat) (a15_4 : Int32) (f15_m10 : Nat → Int32) (H : Heap) (locs : List Loc) (ls : Array Slot), k15 + d15 = mo → va_P (dC, dI) vwCl [(h0, .inr (11, f_h0)), (m3, .inl (cI, 8, .inl fm3)), (m4, .inl (cI, 8, .inl fm4)), (m5, .inl (cI, 8, .inl fm5)), (m7, .inl (cI, 4, .inl fm7)), (m8, .inl (cI, 4, .inl fm8)), (m9, .inl (cI, 4, .inl fm9)), (m10, .inl (cI, 34, .inl f15_m10))] H → va_D A [(h0, .inr (11, f_h0)), (m3, .inl (cI, 8, .inl fm3)), (m4, .inl (cI, 8, .inl fm4)), (m5, .inl (cI, 8, .inl fm5)), (m7, .inl (cI, 4, .inl fm7)), (m8, .inl (cI, 4, .inl fm8)), (m9, .inl (cI, 4, .inl fm9)), (m10, .inl (cI, 34, .inl f15_m10))] → va_S A s.heap H locs → lv_has ls 9 [(6, .int (nI k15)), (4, .int a15_4), (5, .int (fm10 32)), (0, .ref h0), (1, .int a0), (2, .int (nI k)), (3, .int (nI mo))] → W p l e _ s m _ below meth c H locs _ _ _ (F0 m 15 ls [])) => K mo 0 (-1) fm10 _ _ _ (by omega) hP hD hS (lv_sub hl [0, 2, 1, 3, 4, 5, 6] rfl)) ?_
  intro d15
  induction d15 with
  | zero =>
    intro k15 a15_4 f15_m10 H locs ls hk15 hP hD hS hl
    refine lv_iload hx hb dX11_minutesOf_15 (lv_at hl 0 rfl) ?_
    refine lv_iload_n hx hb dX11_minutesOf_17 rfl (lv_at hl 6 rfl) ?_
    refine lv_icmp_ge (tgt := 127) hx hb dX11_minutesOf_18 (by decide) (fun c1 => ?_) (fun c1 => ?_)
    ·
      have c1 : mo ≤ k15 := (nI_leI (a := mo) (b := k15) (by omega) (by omega)).mp c1
      refine lv_aload_n hx hb dX11_minutesOf_127 rfl (lv_at hl 3 rfl) ?_
      refine va_get (D := (dC, dI)) (ci := 11) (v := .ref m10) (C := RX11) (T := TX11) (N := 46) hx hb hts hi_X11 hown hK hP 0 rfl rfl 10 (by decide) (hts (.fieldLink RX11 28 "LeftQuillsModel" "now" "[I") (wmx 1 rfl)) (fun _ h9 => h9) e_h0_10 dX11_minutesOf_128 ?_
      refine lv_bipush (v := 32) hx hb dX11_minutesOf_131 (by decide) ?_
      refine va_iald hx hb hK hP 7 0 rfl rfl (vp_in_iff.mpr ⟨by decide, by decide⟩) dX11_minutesOf_133 ?_
      refine W.eq (g2 := F0 m 134 ls [.int (f15_m10 32)]) (congrArg (fun y9 => F0 m 134 ls (.int (f15_m10 y9) :: [])) ((show ((32 : Int32)).toNatClampNeg = 32 from by decide))) ?_
      refine lv_iload hx hb dX11_minutesOf_134 (lv_at hl 2 rfl) ?_
      refine lv_isub hx hb dX11_minutesOf_136 ?_
      refine lv_topi (fun z2 ez2 => ?_)
      have hP9 := hP.sub (ws' := [(h0, .inr (11, f_h0)), (m3, .inl (cI, 8, .inl fm3)), (m4, .inl (cI, 8, .inl fm4)), (m5, .inl (cI, 8, .inl fm5)), (m7, .inl (cI, 4, .inl fm7)), (m8, .inl (cI, 4, .inl fm8)), (m9, .inl (cI, 4, .inl fm9)), (m10, .inl (cI, 34, .inl f15_m10))]) [0, 1, 2, 3, 4, 5, 6, 7] rfl
      have hD9 := hD.sub (ws' := [(h0, .inr (11, f_h0)), (m3, .inl (cI, 8, .inl fm3)), (m4, .inl (cI, 8, .inl fm4)), (m5, .inl (cI, 8, .inl fm5)), (m7, .inl (cI, 4, .inl fm7)), (m8, .inl (cI, 4, .inl fm8)), (m9, .inl (cI, 4, .inl fm9)), (m10, .inl (cI, 34, .inl f15_m10))]) [0, 1, 2, 3, 4, 5, 6, 7] (by decide +kernel) rfl
      exact W.iret (v := z2) hx hb hr (fun t ht hW => ⟨⟨z2, (fun _ => 0), rfl, trivial, ⟨f15_m10, va_hq ht hP9, hD9⟩⟩, hS.F ht⟩) hS.2.2 dX11_minutesOf_137
    ·
      have c1 : ¬ mo ≤ k15 := fun h => c1 ((nI_leI (a := mo) (b := k15) (by omega) (by omega)).mpr h)
      omega
  | succ d15 ih15 =>
    intro k15 a15_4 f15_m10 H locs ls hk15 hP hD hS hl
    refine lv_iload hx hb dX11_minutesOf_15 (lv_at hl 0 rfl) ?_
    refine lv_iload_n hx hb dX11_minutesOf_17 rfl (lv_at hl 6 rfl) ?_
    refine lv_icmp_ge (tgt := 127) hx hb dX11_minutesOf_18 (by decide) (fun c3 => ?_) (fun c3 => ?_)
    ·
      have c3 : mo ≤ k15 := (nI_leI (a := mo) (b := k15) (by omega) (by omega)).mp c3
      omega
    ·
      have c3 : ¬ mo ≤ k15 := fun h => c3 ((nI_leI (a := mo) (b := k15) (by omega) (by omega)).mpr h)
      refine lv_iload_n hx hb dX11_minutesOf_21 rfl (lv_at hl 4 rfl) ?_
      refine lv_iconst (v := 4) hx hb dX11_minutesOf_22 (by decide) ?_
      refine lv_iload_n hx hb dX11_minutesOf_23 rfl (lv_at hl 6 rfl) ?_
      refine lv_iconst (v := 1) hx hb dX11_minutesOf_24 (by decide) ?_
      refine lv_isub hx hb dX11_minutesOf_25 ?_
      refine lv_topi (fun z4 ez4 => ?_)
      refine lv_iload hx hb dX11_minutesOf_26 (lv_at hl 0 rfl) ?_
      refine lv_isub hx hb dX11_minutesOf_28 ?_
      refine lv_topi (fun z5 ez5 => ?_)
      refine lv_imul hx hb dX11_minutesOf_29 ?_
      refine lv_topi (fun z6 ez6 => ?_)
      refine lv_ishr hx hb dX11_minutesOf_30 ?_
      refine lv_topi (fun z7 ez7 => ?_)
      refine lv_bipush (v := 15) hx hb dX11_minutesOf_31 (by decide) ?_
      refine lv_iand hx hb dX11_minutesOf_33 ?_
      refine lv_topi (fun z8 ez8 => ?_)
      obtain ⟨w9, hw9, ekw9⟩ := pk_andE z7 (m := 15) 4 (by decide)
      have hw9 : w9 < 16 := hw9
      obtain rfl : z8 = nI w9 := ez8.trans ekw9
      refine lv_istore (lv' := [(7, .int (nI w9)), (6, .int (nI k15)), (4, .int a15_4), (5, .int (fm10 32)), (0, .ref h0), (1, .int a0), (2, .int (nI k)), (3, .int (nI mo))]) hx hb dX11_minutesOf_34 hl (by decide) rfl (fun ls hl => ?_)
      refine lv_iload hx hb dX11_minutesOf_36 (lv_at hl 0 rfl) ?_
      refine lv_iconst (v := 2) hx hb dX11_minutesOf_38 (by decide) ?_
      refine lv_idiv hx hb dX11_minutesOf_39 (by decide) ?_
      refine lv_topi (fun z10 ez10 => ?_)
      obtain rfl : z10 = nI (w9 / 2) := ez10.trans (pk_div (a := w9) (d := 2) (by omega) (by omega) (by omega))
      refine lv_istore (lv' := [(8, .int (nI (w9 / 2))), (7, .int (nI w9)), (6, .int (nI k15)), (4, .int a15_4), (5, .int (fm10 32)), (0, .ref h0), (1, .int a0), (2, .int (nI k)), (3, .int (nI mo))]) hx hb dX11_minutesOf_40 hl (by decide) rfl (fun ls hl => ?_)
      refine lv_iload hx hb dX11_minutesOf_42 (lv_at hl 0 rfl) ?_
      refine lv_aload_n hx hb dX11_minutesOf_44 rfl (lv_at hl 5 rfl) ?_
      refine va_get (D := (dC, dI)) (ci := 11) (v := .int (nI nq)) (C := RX11) (T := TX11) (N := 46) hx hb hts hi_X11 hown hK hP 0 rfl rfl 2 (by decide) (hts (.fieldLink RX11 99 "LeftQuillsModel" "quills" "I") (wmx 2 rfl)) (fun _ h9 => h9) e_h0_2 dX11_minutesOf_45 ?_
      refine lv_icmp_lt (tgt := 53) hx hb dX11_minutesOf_48 (by decide) (fun c11 => ?_) (fun c11 => ?_)
      ·
        have c11 : (w9 / 2) < nq := (nI_ltI (a := w9 / 2) (b := nq) (by omega) (by omega)).mp c11
        refine lv_aload_n hx hb dX11_minutesOf_53 rfl (lv_at hl 5 rfl) ?_
        refine va_get (D := (dC, dI)) (ci := 11) (v := .ref m10) (C := RX11) (T := TX11) (N := 46) hx hb hts hi_X11 hown hK hP 0 rfl rfl 10 (by decide) (hts (.fieldLink RX11 28 "LeftQuillsModel" "now" "[I") (wmx 1 rfl)) (fun _ h9 => h9) e_h0_10 dX11_minutesOf_54 ?_
        refine lv_bipush (v := 32) hx hb dX11_minutesOf_57 (by decide) ?_
        refine lv_dup2_11 hx hb dX11_minutesOf_59 rfl rfl ?_
        refine va_iald hx hb hK hP 7 0 rfl rfl (vp_in_iff.mpr ⟨by decide, by decide⟩) dX11_minutesOf_60 ?_
        refine W.eq (g2 := F0 m 61 ls [.int (f15_m10 32), .int 32, .ref m10]) (congrArg (fun y9 => F0 m 61 ls (.int (f15_m10 y9) :: [.int 32, .ref m10])) ((show ((32 : Int32)).toNatClampNeg = 32 from by decide))) ?_
        refine lv_iload hx hb dX11_minutesOf_61 (lv_at hl 3 rfl) ?_
        refine lv_if_lt (tgt := 77) hx hb dX11_minutesOf_63 (by decide) (fun c12 => ?_) (fun c12 => ?_)
        ·
          refine lv_iconst (v := 0) hx hb dX11_minutesOf_77 (by decide) ?_
          refine lv_iadd hx hb dX11_minutesOf_78 ?_
          refine lv_topi (fun z13 ez13 => ?_)
          refine va_iast hx hb hK hP hD hS 7 0 rfl rfl (vp_in_iff.mpr ⟨by decide, by decide⟩) dX11_minutesOf_79 (fun H locs hP hD hS => ?_)
          generalize hgf14 : upd f15_m10 ((32 : Int32).toNatClampNeg) z13 = f14 at hP hD
          have hPD : pdW (dC, dI) vwCl A [(h0, .inr (11, f_h0)), (m3, .inl (cI, 8, .inl fm3)), (m4, .inl (cI, 8, .inl fm4)), (m5, .inl (cI, 8, .inl fm5)), (m7, .inl (cI, 4, .inl fm7)), (m8, .inl (cI, 4, .inl fm8)), (m9, .inl (cI, 4, .inl fm9)), (m10, .inl (cI, 34, .inl f14))] H := ⟨hP, hD⟩
          have hP := hPD.1
          have hD := hPD.2
          clear hPD
          refine lv_iload hx hb dX11_minutesOf_80 (lv_at hl 1 rfl) ?_
          refine lv_iconst (v := 2) hx hb dX11_minutesOf_82 (by decide) ?_
          refine lv_irem hx hb dX11_minutesOf_83 (by decide) ?_
          refine lv_topi (fun z15 ez15 => ?_)
          obtain rfl : z15 = nI (w9 % 2) := ez15.trans (pk_rem (a := w9) (d := 2) (by omega) (by omega) (by omega))
          refine lv_iconst (v := 1) hx hb dX11_minutesOf_84 (by decide) ?_
          refine lv_icmp_ne (tgt := 105) hx hb dX11_minutesOf_85 (by decide) (fun c16 => ?_) (fun c16 => ?_)
          ·
            have c16 : ¬ (w9 % 2) = 1 := fun h => c16 ((nI_eq (a := w9 % 2) (b := 1) (by omega) (by omega)).mpr h)
            refine lv_aload_n hx hb dX11_minutesOf_105 rfl (lv_at hl 5 rfl) ?_
            refine lv_iload hx hb dX11_minutesOf_106 (lv_at hl 0 rfl) ?_
            refine lv_iload_n hx hb dX11_minutesOf_108 rfl (lv_at hl 7 rfl) ?_
            have hc9 := va_cut (W' := [(h0, .inr (11, f_h0)), (m3, .inl (cI, 8, .inl fm3)), (m4, .inl (cI, 8, .inl fm4)), (m5, .inl (cI, 8, .inl fm5)), (m7, .inl (cI, 4, .inl fm7)), (m8, .inl (cI, 4, .inl fm8)), (m9, .inl (cI, 4, .inl fm9)), (m10, .inl (cI, 34, .inl f14))]) hP hD hS hA [0, 1, 2, 3, 4, 5, 6, 7] (by decide) rfl
            have hPc := hc9.1
            have hDc := hc9.2.1
            have hFc := hc9.2.2
            clear hc9
            refine va_calli (va_runV (As := [.int (nI (w9 / 2)), .int (nI k)]) (rest := []) ⟨hx, hb, hml, hown, hts⟩ (c_X11_page l dC dI cI cZ cQ h0 m3 m4 m5 m7 m8 m9 m10 f_h0 fm3 fm4 fm5 fm7 fm8 fm9 f14 (w9 / 2) k nq H.size e_h0_3 e_h0_4 e_h0_5 e_h0_7 e_h0_8 e_h0_9 e_h0_10 (by omega) (by first | assumption | decide) (by omega) (by omega)) (cwV 2 hts gX11_minutesOf_X11_page rfl rfl rfl hd_X11_page_RX11 ⟨Nat.le_of_ble_eq_true rfl, Nat.le_of_ble_eq_true rfl⟩) (pv_D (va_recv hK hP (ci := 11) (q0 := 0) rfl rfl) hK hPc hDc) rfl rfl hl.1 rfl (lv_room (Nat.le_of_ble_eq_true rfl)) dX11_minutesOf_109 ⟨Nat.le_of_ble_eq_true rfl, Nat.le_of_ble_eq_true rfl⟩) hS (fun q _ h => hFc q h) hFc (fun r17 u18 t H1 locs ht hvm hw19 hB hz1 hk1 hS => ?_)
            obtain ⟨f20, hP1, hD1⟩ := hB
            replace hP1 := va_hp ht hP1
            obtain ⟨hP, hD⟩ := va_join (wr := []) (w1 := [(h0, .inr (11, f_h0)), (m3, .inl (cI, 8, .inl fm3)), (m4, .inl (cI, 8, .inl fm4)), (m5, .inl (cI, 8, .inl fm5)), (m7, .inl (cI, 4, .inl fm7)), (m8, .inl (cI, 4, .inl fm8)), (m9, .inl (cI, 4, .inl fm9)), (m10, .inl (cI, 34, .inl f20))]) hP hD [0, 1, 2, 3, 4, 5, 6, 7] [] rfl rfl (by decide +kernel) (by decide +kernel) hk1 hFc hP1 hD1
            clear hP1 hD1
            clear hz1 hk1 hPc hDc hFc
            generalize H1 = H at hP hS ht ⊢
            have hPD : pdW (dC, dI) vwCl A [(h0, .inr (11, f_h0)), (m3, .inl (cI, 8, .inl fm3)), (m4, .inl (cI, 8, .inl fm4)), (m5, .inl (cI, 8, .inl fm5)), (m7, .inl (cI, 4, .inl fm7)), (m8, .inl (cI, 4, .inl fm8)), (m9, .inl (cI, 4, .inl fm9)), (m10, .inl (cI, 34, .inl f20))] H := ⟨hP, hD⟩
            have hP := hPD.1
            have hD := hPD.2
            clear hPD
            try dsimp only at hw19
            rcases hw19 with rfl | rfl
            ·
              refine lv_if_ne (tgt := 117) hx hb dX11_minutesOf_112 (by decide) (fun c21 => ?_) (fun c21 => ?_)
              rotate_left
              · exact absurd c21 (by decide)
              clear c21
              refine lv_iload hx hb dX11_minutesOf_117 (lv_at hl 0 rfl) ?_
              refine lv_istore (lv' := [(4, .int (nI (w9 / 2))), (8, .int (nI (w9 / 2))), (7, .int (nI w9)), (6, .int (nI k15)), (5, .int (fm10 32)), (0, .ref h0), (1, .int a0), (2, .int (nI k)), (3, .int (nI mo))]) hx hb dX11_minutesOf_119 hl (by decide) rfl (fun ls hl => ?_)
              refine lv_iinc (v := nI (k15 + 1)) (lv' := [(6, .int (nI (k15 + 1))), (4, .int (nI (w9 / 2))), (8, .int (nI (w9 / 2))), (7, .int (nI w9)), (5, .int (fm10 32)), (0, .ref h0), (1, .int a0), (2, .int (nI k)), (3, .int (nI mo))]) hx hb dX11_minutesOf_121 hl (k := 3) rfl ((rfl : nI k15 + Int32.ofInt 1 = nI k15 + 1).trans (nI_add k15 1)) (by decide) rfl (fun ls hl => ?_)
              refine lv_goto (tgt := 15) hx hb dX11_minutesOf_124 (by decide) ?_
              exact ih15 (k15 + 1) (nI (w9 / 2)) f20 _ _ _ (by omega) hP hD hS (lv_sub hl [0, 1, 4, 5, 6, 7, 8] rfl)
            ·
              refine lv_if_ne (tgt := 117) hx hb dX11_minutesOf_112 (by decide) (fun c22 => ?_) (fun c22 => ?_)
              · exact absurd c22 (by decide)
              clear c22
              refine lv_iconst (v := (-1)) hx hb dX11_minutesOf_115 (by decide) ?_
              have hP9 := hP.sub (ws' := [(h0, .inr (11, f_h0)), (m3, .inl (cI, 8, .inl fm3)), (m4, .inl (cI, 8, .inl fm4)), (m5, .inl (cI, 8, .inl fm5)), (m7, .inl (cI, 4, .inl fm7)), (m8, .inl (cI, 4, .inl fm8)), (m9, .inl (cI, 4, .inl fm9)), (m10, .inl (cI, 34, .inl f20))]) [0, 1, 2, 3, 4, 5, 6, 7] rfl
              have hD9 := hD.sub (ws' := [(h0, .inr (11, f_h0)), (m3, .inl (cI, 8, .inl fm3)), (m4, .inl (cI, 8, .inl fm4)), (m5, .inl (cI, 8, .inl fm5)), (m7, .inl (cI, 4, .inl fm7)), (m8, .inl (cI, 4, .inl fm8)), (m9, .inl (cI, 4, .inl fm9)), (m10, .inl (cI, 34, .inl f20))]) [0, 1, 2, 3, 4, 5, 6, 7] (by decide +kernel) rfl
              exact W.iret (v := (-1)) hx hb hr (fun t ht hW => ⟨⟨(-1), (fun _ => 0), rfl, trivial, ⟨f20, va_hq ht hP9, hD9⟩⟩, hS.F ht⟩) hS.2.2 dX11_minutesOf_116
          ·
            have c16 : (w9 % 2) = 1 := (nI_eq (a := w9 % 2) (b := 1) (by omega) (by omega)).mp c16
            refine lv_aload_n hx hb dX11_minutesOf_88 rfl (lv_at hl 5 rfl) ?_
            refine lv_iload hx hb dX11_minutesOf_89 (lv_at hl 0 rfl) ?_
            have hPc := hP.sub (ws' := [(h0, .inr (11, f_h0)), (m10, .inl (cI, 34, .inl f14))]) [0, 7] rfl
            refine va_calli (va_runV (As := [.int (nI (w9 / 2))]) (rest := []) ⟨hx, hb, hml, hown, hts⟩ (c_X11_mayMend l dC dI cI cZ cQ h0 n0 m10 f_h0 f14 (w9 / 2) H.size e_h0_0 e_h0_10 (by omega)) (cwV 1 hts gX11_minutesOf_X11_mayMend rfl rfl rfl hd_X11_mayMend_RX11 ⟨Nat.le_of_ble_eq_true rfl, Nat.le_of_ble_eq_true rfl⟩) (pv_R (va_recv hK hP (ci := 11) (q0 := 0) rfl rfl) hK hPc) rfl rfl hl.1 rfl (lv_room (Nat.le_of_ble_eq_true rfl)) dX11_minutesOf_91 ⟨Nat.le_of_ble_eq_true rfl, Nat.le_of_ble_eq_true rfl⟩) hS (fun q _ h => False.elim h) (fun q h => False.elim h) (fun r23 u24 t H1 locs ht hvm hw25 hB hz1 hk1 hS => ?_)
            have hP := hP.kept (fun k q hk => hk1 q.1 (hP k q hk).lt (fun h => h))
            clear hz1 hk1 hPc
            generalize H1 = H at hP hS ht ⊢
            try dsimp only at hw25
            rcases hw25 with rfl | rfl
            ·
              refine lv_if_ne (tgt := 99) hx hb dX11_minutesOf_94 (by decide) (fun c26 => ?_) (fun c26 => ?_)
              rotate_left
              · exact absurd c26 (by decide)
              clear c26
              refine lv_aload_n hx hb dX11_minutesOf_99 rfl (lv_at hl 5 rfl) ?_
              refine lv_iload hx hb dX11_minutesOf_100 (lv_at hl 0 rfl) ?_
              have hc9 := va_cut (W' := [(h0, .inr (11, f_h0)), (m10, .inl (cI, 34, .inl f14))]) hP hD hS hA [0, 7] (by decide) rfl
              have hPc := hc9.1
              have hDc := hc9.2.1
              have hFc := hc9.2.2
              clear hc9
              refine va_callv (va_runV (As := [.int (nI (w9 / 2))]) (rest := []) ⟨hx, hb, hml, hown, hts⟩ (c_X11_mendNow l dC dI cI cZ cQ h0 n0 n1 m10 f_h0 f14 (w9 / 2) H.size e_h0_0 e_h0_1 e_h0_10 (by omega)) (cwV 1 hts gX11_minutesOf_X11_mendNow rfl rfl rfl hd_X11_mendNow_RX11 ⟨Nat.le_of_ble_eq_true rfl, Nat.le_of_ble_eq_true rfl⟩) (pv_D (va_recv hK hP (ci := 11) (q0 := 0) rfl rfl) hK hPc hDc) rfl rfl hl.1 rfl (lv_room (Nat.le_of_ble_eq_true rfl)) dX11_minutesOf_102 ⟨Nat.le_of_ble_eq_true rfl, Nat.le_of_ble_eq_true rfl⟩) hS (fun q _ h => hFc q h) hFc (fun u28 t H1 locs ht hvm hw29 hB hz1 hk1 hS => ?_)
              obtain ⟨f30, hP1, hD1⟩ := hB
              replace hP1 := va_hp ht hP1
              obtain ⟨hP, hD⟩ := va_join (wr := [(m3, .inl (cI, 8, .inl fm3)), (m4, .inl (cI, 8, .inl fm4)), (m5, .inl (cI, 8, .inl fm5)), (m7, .inl (cI, 4, .inl fm7)), (m8, .inl (cI, 4, .inl fm8)), (m9, .inl (cI, 4, .inl fm9))]) (w1 := [(h0, .inr (11, f_h0)), (m10, .inl (cI, 34, .inl f30))]) hP hD [0, 7] [1, 2, 3, 4, 5, 6] rfl rfl (by decide +kernel) (by decide +kernel) hk1 hFc hP1 hD1
              clear hP1 hD1
              clear hz1 hk1 hPc hDc hFc
              generalize H1 = H at hP hS ht ⊢
              have hPD : pdW (dC, dI) vwCl A [(m3, .inl (cI, 8, .inl fm3)), (m4, .inl (cI, 8, .inl fm4)), (m5, .inl (cI, 8, .inl fm5)), (m7, .inl (cI, 4, .inl fm7)), (m8, .inl (cI, 4, .inl fm8)), (m9, .inl (cI, 4, .inl fm9)), (h0, .inr (11, f_h0)), (m10, .inl (cI, 34, .inl f30))] H := ⟨hP, hD⟩
              have hP := hPD.1
              have hD := hPD.2
              clear hPD
              try dsimp only at hw29
              refine lv_aload_n hx hb dX11_minutesOf_105 rfl (lv_at hl 5 rfl) ?_
              refine lv_iload hx hb dX11_minutesOf_106 (lv_at hl 0 rfl) ?_
              refine lv_iload_n hx hb dX11_minutesOf_108 rfl (lv_at hl 7 rfl) ?_
              have hc9 := va_cut (W' := [(h0, .inr (11, f_h0)), (m3, .inl (cI, 8, .inl fm3)), (m4, .inl (cI, 8, .inl fm4)), (m5, .inl (cI, 8, .inl fm5)), (m7, .inl (cI, 4, .inl fm7)), (m8, .inl (cI, 4, .inl fm8)), (m9, .inl (cI, 4, .inl fm9)), (m10, .inl (cI, 34, .inl f30))]) hP hD hS hA [6, 0, 1, 2, 3, 4, 5, 7] (by decide) rfl
              have hPc := hc9.1
              have hDc := hc9.2.1
              have hFc := hc9.2.2
              clear hc9
              refine va_calli (va_runV (As := [.int (nI (w9 / 2)), .int (nI k)]) (rest := []) ⟨hx, hb, hml, hown, hts⟩ (c_X11_page l dC dI cI cZ cQ h0 m3 m4 m5 m7 m8 m9 m10 f_h0 fm3 fm4 fm5 fm7 fm8 fm9 f30 (w9 / 2) k nq H.size e_h0_3 e_h0_4 e_h0_5 e_h0_7 e_h0_8 e_h0_9 e_h0_10 (by omega) (by first | assumption | decide) (by omega) (by omega)) (cwV 2 hts gX11_minutesOf_X11_page rfl rfl rfl hd_X11_page_RX11 ⟨Nat.le_of_ble_eq_true rfl, Nat.le_of_ble_eq_true rfl⟩) (pv_D (va_recv hK hP (ci := 11) (q0 := 6) rfl rfl) hK hPc hDc) rfl rfl hl.1 rfl (lv_room (Nat.le_of_ble_eq_true rfl)) dX11_minutesOf_109 ⟨Nat.le_of_ble_eq_true rfl, Nat.le_of_ble_eq_true rfl⟩) hS (fun q _ h => hFc q h) hFc (fun r31 u32 t H1 locs ht hvm hw33 hB hz1 hk1 hS => ?_)
              obtain ⟨f34, hP1, hD1⟩ := hB
              replace hP1 := va_hp ht hP1
              obtain ⟨hP, hD⟩ := va_join (wr := []) (w1 := [(h0, .inr (11, f_h0)), (m3, .inl (cI, 8, .inl fm3)), (m4, .inl (cI, 8, .inl fm4)), (m5, .inl (cI, 8, .inl fm5)), (m7, .inl (cI, 4, .inl fm7)), (m8, .inl (cI, 4, .inl fm8)), (m9, .inl (cI, 4, .inl fm9)), (m10, .inl (cI, 34, .inl f34))]) hP hD [6, 0, 1, 2, 3, 4, 5, 7] [] rfl rfl (by decide +kernel) (by decide +kernel) hk1 hFc hP1 hD1
              clear hP1 hD1
              clear hz1 hk1 hPc hDc hFc
              generalize H1 = H at hP hS ht ⊢
              have hPD : pdW (dC, dI) vwCl A [(h0, .inr (11, f_h0)), (m3, .inl (cI, 8, .inl fm3)), (m4, .inl (cI, 8, .inl fm4)), (m5, .inl (cI, 8, .inl fm5)), (m7, .inl (cI, 4, .inl fm7)), (m8, .inl (cI, 4, .inl fm8)), (m9, .inl (cI, 4, .inl fm9)), (m10, .inl (cI, 34, .inl f34))] H := ⟨hP, hD⟩
              have hP := hPD.1
              have hD := hPD.2
              clear hPD
              try dsimp only at hw33
              rcases hw33 with rfl | rfl
              ·
                refine lv_if_ne (tgt := 117) hx hb dX11_minutesOf_112 (by decide) (fun c35 => ?_) (fun c35 => ?_)
                rotate_left
                · exact absurd c35 (by decide)
                clear c35
                refine lv_iload hx hb dX11_minutesOf_117 (lv_at hl 0 rfl) ?_
                refine lv_istore (lv' := [(4, .int (nI (w9 / 2))), (8, .int (nI (w9 / 2))), (7, .int (nI w9)), (6, .int (nI k15)), (5, .int (fm10 32)), (0, .ref h0), (1, .int a0), (2, .int (nI k)), (3, .int (nI mo))]) hx hb dX11_minutesOf_119 hl (by decide) rfl (fun ls hl => ?_)
                refine lv_iinc (v := nI (k15 + 1)) (lv' := [(6, .int (nI (k15 + 1))), (4, .int (nI (w9 / 2))), (8, .int (nI (w9 / 2))), (7, .int (nI w9)), (5, .int (fm10 32)), (0, .ref h0), (1, .int a0), (2, .int (nI k)), (3, .int (nI mo))]) hx hb dX11_minutesOf_121 hl (k := 3) rfl ((rfl : nI k15 + Int32.ofInt 1 = nI k15 + 1).trans (nI_add k15 1)) (by decide) rfl (fun ls hl => ?_)
                refine lv_goto (tgt := 15) hx hb dX11_minutesOf_124 (by decide) ?_
                exact ih15 (k15 + 1) (nI (w9 / 2)) f34 _ _ _ (by omega) hP hD hS (lv_sub hl [0, 1, 4, 5, 6, 7, 8] rfl)
              ·
                refine lv_if_ne (tgt := 117) hx hb dX11_minutesOf_112 (by decide) (fun c36 => ?_) (fun c36 => ?_)
                · exact absurd c36 (by decide)
                clear c36
                refine lv_iconst (v := (-1)) hx hb dX11_minutesOf_115 (by decide) ?_
                have hP9 := hP.sub (ws' := [(h0, .inr (11, f_h0)), (m3, .inl (cI, 8, .inl fm3)), (m4, .inl (cI, 8, .inl fm4)), (m5, .inl (cI, 8, .inl fm5)), (m7, .inl (cI, 4, .inl fm7)), (m8, .inl (cI, 4, .inl fm8)), (m9, .inl (cI, 4, .inl fm9)), (m10, .inl (cI, 34, .inl f34))]) [0, 1, 2, 3, 4, 5, 6, 7] rfl
                have hD9 := hD.sub (ws' := [(h0, .inr (11, f_h0)), (m3, .inl (cI, 8, .inl fm3)), (m4, .inl (cI, 8, .inl fm4)), (m5, .inl (cI, 8, .inl fm5)), (m7, .inl (cI, 4, .inl fm7)), (m8, .inl (cI, 4, .inl fm8)), (m9, .inl (cI, 4, .inl fm9)), (m10, .inl (cI, 34, .inl f34))]) [0, 1, 2, 3, 4, 5, 6, 7] (by decide +kernel) rfl
                exact W.iret (v := (-1)) hx hb hr (fun t ht hW => ⟨⟨(-1), (fun _ => 0), rfl, trivial, ⟨f34, va_hq ht hP9, hD9⟩⟩, hS.F ht⟩) hS.2.2 dX11_minutesOf_116
            ·
              refine lv_if_ne (tgt := 99) hx hb dX11_minutesOf_94 (by decide) (fun c37 => ?_) (fun c37 => ?_)
              · exact absurd c37 (by decide)
              clear c37
              refine lv_iconst (v := (-1)) hx hb dX11_minutesOf_97 (by decide) ?_
              have hP9 := hP.sub (ws' := [(h0, .inr (11, f_h0)), (m3, .inl (cI, 8, .inl fm3)), (m4, .inl (cI, 8, .inl fm4)), (m5, .inl (cI, 8, .inl fm5)), (m7, .inl (cI, 4, .inl fm7)), (m8, .inl (cI, 4, .inl fm8)), (m9, .inl (cI, 4, .inl fm9)), (m10, .inl (cI, 34, .inl f14))]) [0, 1, 2, 3, 4, 5, 6, 7] rfl
              have hD9 := hD.sub (ws' := [(h0, .inr (11, f_h0)), (m3, .inl (cI, 8, .inl fm3)), (m4, .inl (cI, 8, .inl fm4)), (m5, .inl (cI, 8, .inl fm5)), (m7, .inl (cI, 4, .inl fm7)), (m8, .inl (cI, 4, .inl fm8)), (m9, .inl (cI, 4, .inl fm9)), (m10, .inl (cI, 34, .inl f14))]) [0, 1, 2, 3, 4, 5, 6, 7] (by decide +kernel) rfl
              exact W.iret (v := (-1)) hx hb hr (fun t ht hW => ⟨⟨(-1), (fun _ => 0), rfl, trivial, ⟨f14, va_hq ht hP9, hD9⟩⟩, hS.F ht⟩) hS.2.2 dX11_minutesOf_98
        ·
          refine lv_iload hx hb dX11_minutesOf_66 (lv_at hl 0 rfl) ?_
          refine lv_iload hx hb dX11_minutesOf_68 (lv_at hl 3 rfl) ?_
          refine lv_icmp_eq (tgt := 77) hx hb dX11_minutesOf_70 (by decide) (fun c38 => ?_) (fun c38 => ?_)
          ·
            refine lv_iconst (v := 0) hx hb dX11_minutesOf_77 (by decide) ?_
            refine lv_iadd hx hb dX11_minutesOf_78 ?_
            refine lv_topi (fun z39 ez39 => ?_)
            refine va_iast hx hb hK hP hD hS 7 0 rfl rfl (vp_in_iff.mpr ⟨by decide, by decide⟩) dX11_minutesOf_79 (fun H locs hP hD hS => ?_)
            generalize hgf40 : upd f15_m10 ((32 : Int32).toNatClampNeg) z39 = f40 at hP hD
            have hPD : pdW (dC, dI) vwCl A [(h0, .inr (11, f_h0)), (m3, .inl (cI, 8, .inl fm3)), (m4, .inl (cI, 8, .inl fm4)), (m5, .inl (cI, 8, .inl fm5)), (m7, .inl (cI, 4, .inl fm7)), (m8, .inl (cI, 4, .inl fm8)), (m9, .inl (cI, 4, .inl fm9)), (m10, .inl (cI, 34, .inl f40))] H := ⟨hP, hD⟩
            have hP := hPD.1
            have hD := hPD.2
            clear hPD
            refine lv_iload hx hb dX11_minutesOf_80 (lv_at hl 1 rfl) ?_
            refine lv_iconst (v := 2) hx hb dX11_minutesOf_82 (by decide) ?_
            refine lv_irem hx hb dX11_minutesOf_83 (by decide) ?_
            refine lv_topi (fun z41 ez41 => ?_)
            obtain rfl : z41 = nI (w9 % 2) := ez41.trans (pk_rem (a := w9) (d := 2) (by omega) (by omega) (by omega))
            refine lv_iconst (v := 1) hx hb dX11_minutesOf_84 (by decide) ?_
            refine lv_icmp_ne (tgt := 105) hx hb dX11_minutesOf_85 (by decide) (fun c42 => ?_) (fun c42 => ?_)
            ·
              have c42 : ¬ (w9 % 2) = 1 := fun h => c42 ((nI_eq (a := w9 % 2) (b := 1) (by omega) (by omega)).mpr h)
              refine lv_aload_n hx hb dX11_minutesOf_105 rfl (lv_at hl 5 rfl) ?_
              refine lv_iload hx hb dX11_minutesOf_106 (lv_at hl 0 rfl) ?_
              refine lv_iload_n hx hb dX11_minutesOf_108 rfl (lv_at hl 7 rfl) ?_
              have hc9 := va_cut (W' := [(h0, .inr (11, f_h0)), (m3, .inl (cI, 8, .inl fm3)), (m4, .inl (cI, 8, .inl fm4)), (m5, .inl (cI, 8, .inl fm5)), (m7, .inl (cI, 4, .inl fm7)), (m8, .inl (cI, 4, .inl fm8)), (m9, .inl (cI, 4, .inl fm9)), (m10, .inl (cI, 34, .inl f40))]) hP hD hS hA [0, 1, 2, 3, 4, 5, 6, 7] (by decide) rfl
              have hPc := hc9.1
              have hDc := hc9.2.1
              have hFc := hc9.2.2
              clear hc9
              refine va_calli (va_runV (As := [.int (nI (w9 / 2)), .int (nI k)]) (rest := []) ⟨hx, hb, hml, hown, hts⟩ (c_X11_page l dC dI cI cZ cQ h0 m3 m4 m5 m7 m8 m9 m10 f_h0 fm3 fm4 fm5 fm7 fm8 fm9 f40 (w9 / 2) k nq H.size e_h0_3 e_h0_4 e_h0_5 e_h0_7 e_h0_8 e_h0_9 e_h0_10 (by omega) (by first | assumption | decide) (by omega) (by omega)) (cwV 2 hts gX11_minutesOf_X11_page rfl rfl rfl hd_X11_page_RX11 ⟨Nat.le_of_ble_eq_true rfl, Nat.le_of_ble_eq_true rfl⟩) (pv_D (va_recv hK hP (ci := 11) (q0 := 0) rfl rfl) hK hPc hDc) rfl rfl hl.1 rfl (lv_room (Nat.le_of_ble_eq_true rfl)) dX11_minutesOf_109 ⟨Nat.le_of_ble_eq_true rfl, Nat.le_of_ble_eq_true rfl⟩) hS (fun q _ h => hFc q h) hFc (fun r43 u44 t H1 locs ht hvm hw45 hB hz1 hk1 hS => ?_)
              obtain ⟨f46, hP1, hD1⟩ := hB
              replace hP1 := va_hp ht hP1
              obtain ⟨hP, hD⟩ := va_join (wr := []) (w1 := [(h0, .inr (11, f_h0)), (m3, .inl (cI, 8, .inl fm3)), (m4, .inl (cI, 8, .inl fm4)), (m5, .inl (cI, 8, .inl fm5)), (m7, .inl (cI, 4, .inl fm7)), (m8, .inl (cI, 4, .inl fm8)), (m9, .inl (cI, 4, .inl fm9)), (m10, .inl (cI, 34, .inl f46))]) hP hD [0, 1, 2, 3, 4, 5, 6, 7] [] rfl rfl (by decide +kernel) (by decide +kernel) hk1 hFc hP1 hD1
              clear hP1 hD1
              clear hz1 hk1 hPc hDc hFc
              generalize H1 = H at hP hS ht ⊢
              have hPD : pdW (dC, dI) vwCl A [(h0, .inr (11, f_h0)), (m3, .inl (cI, 8, .inl fm3)), (m4, .inl (cI, 8, .inl fm4)), (m5, .inl (cI, 8, .inl fm5)), (m7, .inl (cI, 4, .inl fm7)), (m8, .inl (cI, 4, .inl fm8)), (m9, .inl (cI, 4, .inl fm9)), (m10, .inl (cI, 34, .inl f46))] H := ⟨hP, hD⟩
              have hP := hPD.1
              have hD := hPD.2
              clear hPD
              try dsimp only at hw45
              rcases hw45 with rfl | rfl
              ·
                refine lv_if_ne (tgt := 117) hx hb dX11_minutesOf_112 (by decide) (fun c47 => ?_) (fun c47 => ?_)
                rotate_left
                · exact absurd c47 (by decide)
                clear c47
                refine lv_iload hx hb dX11_minutesOf_117 (lv_at hl 0 rfl) ?_
                refine lv_istore (lv' := [(4, .int (nI (w9 / 2))), (8, .int (nI (w9 / 2))), (7, .int (nI w9)), (6, .int (nI k15)), (5, .int (fm10 32)), (0, .ref h0), (1, .int a0), (2, .int (nI k)), (3, .int (nI mo))]) hx hb dX11_minutesOf_119 hl (by decide) rfl (fun ls hl => ?_)
                refine lv_iinc (v := nI (k15 + 1)) (lv' := [(6, .int (nI (k15 + 1))), (4, .int (nI (w9 / 2))), (8, .int (nI (w9 / 2))), (7, .int (nI w9)), (5, .int (fm10 32)), (0, .ref h0), (1, .int a0), (2, .int (nI k)), (3, .int (nI mo))]) hx hb dX11_minutesOf_121 hl (k := 3) rfl ((rfl : nI k15 + Int32.ofInt 1 = nI k15 + 1).trans (nI_add k15 1)) (by decide) rfl (fun ls hl => ?_)
                refine lv_goto (tgt := 15) hx hb dX11_minutesOf_124 (by decide) ?_
                exact ih15 (k15 + 1) (nI (w9 / 2)) f46 _ _ _ (by omega) hP hD hS (lv_sub hl [0, 1, 4, 5, 6, 7, 8] rfl)
              ·
                refine lv_if_ne (tgt := 117) hx hb dX11_minutesOf_112 (by decide) (fun c48 => ?_) (fun c48 => ?_)
                · exact absurd c48 (by decide)
                clear c48
                refine lv_iconst (v := (-1)) hx hb dX11_minutesOf_115 (by decide) ?_
                have hP9 := hP.sub (ws' := [(h0, .inr (11, f_h0)), (m3, .inl (cI, 8, .inl fm3)), (m4, .inl (cI, 8, .inl fm4)), (m5, .inl (cI, 8, .inl fm5)), (m7, .inl (cI, 4, .inl fm7)), (m8, .inl (cI, 4, .inl fm8)), (m9, .inl (cI, 4, .inl fm9)), (m10, .inl (cI, 34, .inl f46))]) [0, 1, 2, 3, 4, 5, 6, 7] rfl
                have hD9 := hD.sub (ws' := [(h0, .inr (11, f_h0)), (m3, .inl (cI, 8, .inl fm3)), (m4, .inl (cI, 8, .inl fm4)), (m5, .inl (cI, 8, .inl fm5)), (m7, .inl (cI, 4, .inl fm7)), (m8, .inl (cI, 4, .inl fm8)), (m9, .inl (cI, 4, .inl fm9)), (m10, .inl (cI, 34, .inl f46))]) [0, 1, 2, 3, 4, 5, 6, 7] (by decide +kernel) rfl
                exact W.iret (v := (-1)) hx hb hr (fun t ht hW => ⟨⟨(-1), (fun _ => 0), rfl, trivial, ⟨f46, va_hq ht hP9, hD9⟩⟩, hS.F ht⟩) hS.2.2 dX11_minutesOf_116
            ·
              have c42 : (w9 % 2) = 1 := (nI_eq (a := w9 % 2) (b := 1) (by omega) (by omega)).mp c42
              refine lv_aload_n hx hb dX11_minutesOf_88 rfl (lv_at hl 5 rfl) ?_
              refine lv_iload hx hb dX11_minutesOf_89 (lv_at hl 0 rfl) ?_
              have hPc := hP.sub (ws' := [(h0, .inr (11, f_h0)), (m10, .inl (cI, 34, .inl f40))]) [0, 7] rfl
              refine va_calli (va_runV (As := [.int (nI (w9 / 2))]) (rest := []) ⟨hx, hb, hml, hown, hts⟩ (c_X11_mayMend l dC dI cI cZ cQ h0 n0 m10 f_h0 f40 (w9 / 2) H.size e_h0_0 e_h0_10 (by omega)) (cwV 1 hts gX11_minutesOf_X11_mayMend rfl rfl rfl hd_X11_mayMend_RX11 ⟨Nat.le_of_ble_eq_true rfl, Nat.le_of_ble_eq_true rfl⟩) (pv_R (va_recv hK hP (ci := 11) (q0 := 0) rfl rfl) hK hPc) rfl rfl hl.1 rfl (lv_room (Nat.le_of_ble_eq_true rfl)) dX11_minutesOf_91 ⟨Nat.le_of_ble_eq_true rfl, Nat.le_of_ble_eq_true rfl⟩) hS (fun q _ h => False.elim h) (fun q h => False.elim h) (fun r49 u50 t H1 locs ht hvm hw51 hB hz1 hk1 hS => ?_)
              have hP := hP.kept (fun k q hk => hk1 q.1 (hP k q hk).lt (fun h => h))
              clear hz1 hk1 hPc
              generalize H1 = H at hP hS ht ⊢
              try dsimp only at hw51
              rcases hw51 with rfl | rfl
              ·
                refine lv_if_ne (tgt := 99) hx hb dX11_minutesOf_94 (by decide) (fun c52 => ?_) (fun c52 => ?_)
                rotate_left
                · exact absurd c52 (by decide)
                clear c52
                refine lv_aload_n hx hb dX11_minutesOf_99 rfl (lv_at hl 5 rfl) ?_
                refine lv_iload hx hb dX11_minutesOf_100 (lv_at hl 0 rfl) ?_
                have hc9 := va_cut (W' := [(h0, .inr (11, f_h0)), (m10, .inl (cI, 34, .inl f40))]) hP hD hS hA [0, 7] (by decide) rfl
                have hPc := hc9.1
                have hDc := hc9.2.1
                have hFc := hc9.2.2
                clear hc9
                refine va_callv (va_runV (As := [.int (nI (w9 / 2))]) (rest := []) ⟨hx, hb, hml, hown, hts⟩ (c_X11_mendNow l dC dI cI cZ cQ h0 n0 n1 m10 f_h0 f40 (w9 / 2) H.size e_h0_0 e_h0_1 e_h0_10 (by omega)) (cwV 1 hts gX11_minutesOf_X11_mendNow rfl rfl rfl hd_X11_mendNow_RX11 ⟨Nat.le_of_ble_eq_true rfl, Nat.le_of_ble_eq_true rfl⟩) (pv_D (va_recv hK hP (ci := 11) (q0 := 0) rfl rfl) hK hPc hDc) rfl rfl hl.1 rfl (lv_room (Nat.le_of_ble_eq_true rfl)) dX11_minutesOf_102 ⟨Nat.le_of_ble_eq_true rfl, Nat.le_of_ble_eq_true rfl⟩) hS (fun q _ h => hFc q h) hFc (fun u54 t H1 locs ht hvm hw55 hB hz1 hk1 hS => ?_)
                obtain ⟨f56, hP1, hD1⟩ := hB
                replace hP1 := va_hp ht hP1
                obtain ⟨hP, hD⟩ := va_join (wr := [(m3, .inl (cI, 8, .inl fm3)), (m4, .inl (cI, 8, .inl fm4)), (m5, .inl (cI, 8, .inl fm5)), (m7, .inl (cI, 4, .inl fm7)), (m8, .inl (cI, 4, .inl fm8)), (m9, .inl (cI, 4, .inl fm9))]) (w1 := [(h0, .inr (11, f_h0)), (m10, .inl (cI, 34, .inl f56))]) hP hD [0, 7] [1, 2, 3, 4, 5, 6] rfl rfl (by decide +kernel) (by decide +kernel) hk1 hFc hP1 hD1
                clear hP1 hD1
                clear hz1 hk1 hPc hDc hFc
                generalize H1 = H at hP hS ht ⊢
                have hPD : pdW (dC, dI) vwCl A [(m3, .inl (cI, 8, .inl fm3)), (m4, .inl (cI, 8, .inl fm4)), (m5, .inl (cI, 8, .inl fm5)), (m7, .inl (cI, 4, .inl fm7)), (m8, .inl (cI, 4, .inl fm8)), (m9, .inl (cI, 4, .inl fm9)), (h0, .inr (11, f_h0)), (m10, .inl (cI, 34, .inl f56))] H := ⟨hP, hD⟩
                have hP := hPD.1
                have hD := hPD.2
                clear hPD
                try dsimp only at hw55
                refine lv_aload_n hx hb dX11_minutesOf_105 rfl (lv_at hl 5 rfl) ?_
                refine lv_iload hx hb dX11_minutesOf_106 (lv_at hl 0 rfl) ?_
                refine lv_iload_n hx hb dX11_minutesOf_108 rfl (lv_at hl 7 rfl) ?_
                have hc9 := va_cut (W' := [(h0, .inr (11, f_h0)), (m3, .inl (cI, 8, .inl fm3)), (m4, .inl (cI, 8, .inl fm4)), (m5, .inl (cI, 8, .inl fm5)), (m7, .inl (cI, 4, .inl fm7)), (m8, .inl (cI, 4, .inl fm8)), (m9, .inl (cI, 4, .inl fm9)), (m10, .inl (cI, 34, .inl f56))]) hP hD hS hA [6, 0, 1, 2, 3, 4, 5, 7] (by decide) rfl
                have hPc := hc9.1
                have hDc := hc9.2.1
                have hFc := hc9.2.2
                clear hc9
                refine va_calli (va_runV (As := [.int (nI (w9 / 2)), .int (nI k)]) (rest := []) ⟨hx, hb, hml, hown, hts⟩ (c_X11_page l dC dI cI cZ cQ h0 m3 m4 m5 m7 m8 m9 m10 f_h0 fm3 fm4 fm5 fm7 fm8 fm9 f56 (w9 / 2) k nq H.size e_h0_3 e_h0_4 e_h0_5 e_h0_7 e_h0_8 e_h0_9 e_h0_10 (by omega) (by first | assumption | decide) (by omega) (by omega)) (cwV 2 hts gX11_minutesOf_X11_page rfl rfl rfl hd_X11_page_RX11 ⟨Nat.le_of_ble_eq_true rfl, Nat.le_of_ble_eq_true rfl⟩) (pv_D (va_recv hK hP (ci := 11) (q0 := 6) rfl rfl) hK hPc hDc) rfl rfl hl.1 rfl (lv_room (Nat.le_of_ble_eq_true rfl)) dX11_minutesOf_109 ⟨Nat.le_of_ble_eq_true rfl, Nat.le_of_ble_eq_true rfl⟩) hS (fun q _ h => hFc q h) hFc (fun r57 u58 t H1 locs ht hvm hw59 hB hz1 hk1 hS => ?_)
                obtain ⟨f60, hP1, hD1⟩ := hB
                replace hP1 := va_hp ht hP1
                obtain ⟨hP, hD⟩ := va_join (wr := []) (w1 := [(h0, .inr (11, f_h0)), (m3, .inl (cI, 8, .inl fm3)), (m4, .inl (cI, 8, .inl fm4)), (m5, .inl (cI, 8, .inl fm5)), (m7, .inl (cI, 4, .inl fm7)), (m8, .inl (cI, 4, .inl fm8)), (m9, .inl (cI, 4, .inl fm9)), (m10, .inl (cI, 34, .inl f60))]) hP hD [6, 0, 1, 2, 3, 4, 5, 7] [] rfl rfl (by decide +kernel) (by decide +kernel) hk1 hFc hP1 hD1
                clear hP1 hD1
                clear hz1 hk1 hPc hDc hFc
                generalize H1 = H at hP hS ht ⊢
                have hPD : pdW (dC, dI) vwCl A [(h0, .inr (11, f_h0)), (m3, .inl (cI, 8, .inl fm3)), (m4, .inl (cI, 8, .inl fm4)), (m5, .inl (cI, 8, .inl fm5)), (m7, .inl (cI, 4, .inl fm7)), (m8, .inl (cI, 4, .inl fm8)), (m9, .inl (cI, 4, .inl fm9)), (m10, .inl (cI, 34, .inl f60))] H := ⟨hP, hD⟩
                have hP := hPD.1
                have hD := hPD.2
                clear hPD
                try dsimp only at hw59
                rcases hw59 with rfl | rfl
                ·
                  refine lv_if_ne (tgt := 117) hx hb dX11_minutesOf_112 (by decide) (fun c61 => ?_) (fun c61 => ?_)
                  rotate_left
                  · exact absurd c61 (by decide)
                  clear c61
                  refine lv_iload hx hb dX11_minutesOf_117 (lv_at hl 0 rfl) ?_
                  refine lv_istore (lv' := [(4, .int (nI (w9 / 2))), (8, .int (nI (w9 / 2))), (7, .int (nI w9)), (6, .int (nI k15)), (5, .int (fm10 32)), (0, .ref h0), (1, .int a0), (2, .int (nI k)), (3, .int (nI mo))]) hx hb dX11_minutesOf_119 hl (by decide) rfl (fun ls hl => ?_)
                  refine lv_iinc (v := nI (k15 + 1)) (lv' := [(6, .int (nI (k15 + 1))), (4, .int (nI (w9 / 2))), (8, .int (nI (w9 / 2))), (7, .int (nI w9)), (5, .int (fm10 32)), (0, .ref h0), (1, .int a0), (2, .int (nI k)), (3, .int (nI mo))]) hx hb dX11_minutesOf_121 hl (k := 3) rfl ((rfl : nI k15 + Int32.ofInt 1 = nI k15 + 1).trans (nI_add k15 1)) (by decide) rfl (fun ls hl => ?_)
                  refine lv_goto (tgt := 15) hx hb dX11_minutesOf_124 (by decide) ?_
                  exact ih15 (k15 + 1) (nI (w9 / 2)) f60 _ _ _ (by omega) hP hD hS (lv_sub hl [0, 1, 4, 5, 6, 7, 8] rfl)
                ·
                  refine lv_if_ne (tgt := 117) hx hb dX11_minutesOf_112 (by decide) (fun c62 => ?_) (fun c62 => ?_)
                  · exact absurd c62 (by decide)
                  clear c62
                  refine lv_iconst (v := (-1)) hx hb dX11_minutesOf_115 (by decide) ?_
                  have hP9 := hP.sub (ws' := [(h0, .inr (11, f_h0)), (m3, .inl (cI, 8, .inl fm3)), (m4, .inl (cI, 8, .inl fm4)), (m5, .inl (cI, 8, .inl fm5)), (m7, .inl (cI, 4, .inl fm7)), (m8, .inl (cI, 4, .inl fm8)), (m9, .inl (cI, 4, .inl fm9)), (m10, .inl (cI, 34, .inl f60))]) [0, 1, 2, 3, 4, 5, 6, 7] rfl
                  have hD9 := hD.sub (ws' := [(h0, .inr (11, f_h0)), (m3, .inl (cI, 8, .inl fm3)), (m4, .inl (cI, 8, .inl fm4)), (m5, .inl (cI, 8, .inl fm5)), (m7, .inl (cI, 4, .inl fm7)), (m8, .inl (cI, 4, .inl fm8)), (m9, .inl (cI, 4, .inl fm9)), (m10, .inl (cI, 34, .inl f60))]) [0, 1, 2, 3, 4, 5, 6, 7] (by decide +kernel) rfl
                  exact W.iret (v := (-1)) hx hb hr (fun t ht hW => ⟨⟨(-1), (fun _ => 0), rfl, trivial, ⟨f60, va_hq ht hP9, hD9⟩⟩, hS.F ht⟩) hS.2.2 dX11_minutesOf_116
              ·
                refine lv_if_ne (tgt := 99) hx hb dX11_minutesOf_94 (by decide) (fun c63 => ?_) (fun c63 => ?_)
                · exact absurd c63 (by decide)
                clear c63
                refine lv_iconst (v := (-1)) hx hb dX11_minutesOf_97 (by decide) ?_
                have hP9 := hP.sub (ws' := [(h0, .inr (11, f_h0)), (m3, .inl (cI, 8, .inl fm3)), (m4, .inl (cI, 8, .inl fm4)), (m5, .inl (cI, 8, .inl fm5)), (m7, .inl (cI, 4, .inl fm7)), (m8, .inl (cI, 4, .inl fm8)), (m9, .inl (cI, 4, .inl fm9)), (m10, .inl (cI, 34, .inl f40))]) [0, 1, 2, 3, 4, 5, 6, 7] rfl
                have hD9 := hD.sub (ws' := [(h0, .inr (11, f_h0)), (m3, .inl (cI, 8, .inl fm3)), (m4, .inl (cI, 8, .inl fm4)), (m5, .inl (cI, 8, .inl fm5)), (m7, .inl (cI, 4, .inl fm7)), (m8, .inl (cI, 4, .inl fm8)), (m9, .inl (cI, 4, .inl fm9)), (m10, .inl (cI, 34, .inl f40))]) [0, 1, 2, 3, 4, 5, 6, 7] (by decide +kernel) rfl
                exact W.iret (v := (-1)) hx hb hr (fun t ht hW => ⟨⟨(-1), (fun _ => 0), rfl, trivial, ⟨f40, va_hq ht hP9, hD9⟩⟩, hS.F ht⟩) hS.2.2 dX11_minutesOf_98
          ·
            refine lv_iconst (v := 1) hx hb dX11_minutesOf_73 (by decide) ?_
            refine lv_goto (tgt := 78) hx hb dX11_minutesOf_74 (by decide) ?_
            refine lv_iadd hx hb dX11_minutesOf_78 ?_
            refine lv_topi (fun z64 ez64 => ?_)
            refine va_iast hx hb hK hP hD hS 7 0 rfl rfl (vp_in_iff.mpr ⟨by decide, by decide⟩) dX11_minutesOf_79 (fun H locs hP hD hS => ?_)
            generalize hgf65 : upd f15_m10 ((32 : Int32).toNatClampNeg) z64 = f65 at hP hD
            have hPD : pdW (dC, dI) vwCl A [(h0, .inr (11, f_h0)), (m3, .inl (cI, 8, .inl fm3)), (m4, .inl (cI, 8, .inl fm4)), (m5, .inl (cI, 8, .inl fm5)), (m7, .inl (cI, 4, .inl fm7)), (m8, .inl (cI, 4, .inl fm8)), (m9, .inl (cI, 4, .inl fm9)), (m10, .inl (cI, 34, .inl f65))] H := ⟨hP, hD⟩
            have hP := hPD.1
            have hD := hPD.2
            clear hPD
            refine lv_iload hx hb dX11_minutesOf_80 (lv_at hl 1 rfl) ?_
            refine lv_iconst (v := 2) hx hb dX11_minutesOf_82 (by decide) ?_
            refine lv_irem hx hb dX11_minutesOf_83 (by decide) ?_
            refine lv_topi (fun z66 ez66 => ?_)
            obtain rfl : z66 = nI (w9 % 2) := ez66.trans (pk_rem (a := w9) (d := 2) (by omega) (by omega) (by omega))
            refine lv_iconst (v := 1) hx hb dX11_minutesOf_84 (by decide) ?_
            refine lv_icmp_ne (tgt := 105) hx hb dX11_minutesOf_85 (by decide) (fun c67 => ?_) (fun c67 => ?_)
            ·
              have c67 : ¬ (w9 % 2) = 1 := fun h => c67 ((nI_eq (a := w9 % 2) (b := 1) (by omega) (by omega)).mpr h)
              refine lv_aload_n hx hb dX11_minutesOf_105 rfl (lv_at hl 5 rfl) ?_
              refine lv_iload hx hb dX11_minutesOf_106 (lv_at hl 0 rfl) ?_
              refine lv_iload_n hx hb dX11_minutesOf_108 rfl (lv_at hl 7 rfl) ?_
              have hc9 := va_cut (W' := [(h0, .inr (11, f_h0)), (m3, .inl (cI, 8, .inl fm3)), (m4, .inl (cI, 8, .inl fm4)), (m5, .inl (cI, 8, .inl fm5)), (m7, .inl (cI, 4, .inl fm7)), (m8, .inl (cI, 4, .inl fm8)), (m9, .inl (cI, 4, .inl fm9)), (m10, .inl (cI, 34, .inl f65))]) hP hD hS hA [0, 1, 2, 3, 4, 5, 6, 7] (by decide) rfl
              have hPc := hc9.1
              have hDc := hc9.2.1
              have hFc := hc9.2.2
              clear hc9
              refine va_calli (va_runV (As := [.int (nI (w9 / 2)), .int (nI k)]) (rest := []) ⟨hx, hb, hml, hown, hts⟩ (c_X11_page l dC dI cI cZ cQ h0 m3 m4 m5 m7 m8 m9 m10 f_h0 fm3 fm4 fm5 fm7 fm8 fm9 f65 (w9 / 2) k nq H.size e_h0_3 e_h0_4 e_h0_5 e_h0_7 e_h0_8 e_h0_9 e_h0_10 (by omega) (by first | assumption | decide) (by omega) (by omega)) (cwV 2 hts gX11_minutesOf_X11_page rfl rfl rfl hd_X11_page_RX11 ⟨Nat.le_of_ble_eq_true rfl, Nat.le_of_ble_eq_true rfl⟩) (pv_D (va_recv hK hP (ci := 11) (q0 := 0) rfl rfl) hK hPc hDc) rfl rfl hl.1 rfl (lv_room (Nat.le_of_ble_eq_true rfl)) dX11_minutesOf_109 ⟨Nat.le_of_ble_eq_true rfl, Nat.le_of_ble_eq_true rfl⟩) hS (fun q _ h => hFc q h) hFc (fun r68 u69 t H1 locs ht hvm hw70 hB hz1 hk1 hS => ?_)
              obtain ⟨f71, hP1, hD1⟩ := hB
              replace hP1 := va_hp ht hP1
              obtain ⟨hP, hD⟩ := va_join (wr := []) (w1 := [(h0, .inr (11, f_h0)), (m3, .inl (cI, 8, .inl fm3)), (m4, .inl (cI, 8, .inl fm4)), (m5, .inl (cI, 8, .inl fm5)), (m7, .inl (cI, 4, .inl fm7)), (m8, .inl (cI, 4, .inl fm8)), (m9, .inl (cI, 4, .inl fm9)), (m10, .inl (cI, 34, .inl f71))]) hP hD [0, 1, 2, 3, 4, 5, 6, 7] [] rfl rfl (by decide +kernel) (by decide +kernel) hk1 hFc hP1 hD1
              clear hP1 hD1
              clear hz1 hk1 hPc hDc hFc
              generalize H1 = H at hP hS ht ⊢
              have hPD : pdW (dC, dI) vwCl A [(h0, .inr (11, f_h0)), (m3, .inl (cI, 8, .inl fm3)), (m4, .inl (cI, 8, .inl fm4)), (m5, .inl (cI, 8, .inl fm5)), (m7, .inl (cI, 4, .inl fm7)), (m8, .inl (cI, 4, .inl fm8)), (m9, .inl (cI, 4, .inl fm9)), (m10, .inl (cI, 34, .inl f71))] H := ⟨hP, hD⟩
              have hP := hPD.1
              have hD := hPD.2
              clear hPD
              try dsimp only at hw70
              rcases hw70 with rfl | rfl
              ·
                refine lv_if_ne (tgt := 117) hx hb dX11_minutesOf_112 (by decide) (fun c72 => ?_) (fun c72 => ?_)
                rotate_left
                · exact absurd c72 (by decide)
                clear c72
                refine lv_iload hx hb dX11_minutesOf_117 (lv_at hl 0 rfl) ?_
                refine lv_istore (lv' := [(4, .int (nI (w9 / 2))), (8, .int (nI (w9 / 2))), (7, .int (nI w9)), (6, .int (nI k15)), (5, .int (fm10 32)), (0, .ref h0), (1, .int a0), (2, .int (nI k)), (3, .int (nI mo))]) hx hb dX11_minutesOf_119 hl (by decide) rfl (fun ls hl => ?_)
                refine lv_iinc (v := nI (k15 + 1)) (lv' := [(6, .int (nI (k15 + 1))), (4, .int (nI (w9 / 2))), (8, .int (nI (w9 / 2))), (7, .int (nI w9)), (5, .int (fm10 32)), (0, .ref h0), (1, .int a0), (2, .int (nI k)), (3, .int (nI mo))]) hx hb dX11_minutesOf_121 hl (k := 3) rfl ((rfl : nI k15 + Int32.ofInt 1 = nI k15 + 1).trans (nI_add k15 1)) (by decide) rfl (fun ls hl => ?_)
                refine lv_goto (tgt := 15) hx hb dX11_minutesOf_124 (by decide) ?_
                exact ih15 (k15 + 1) (nI (w9 / 2)) f71 _ _ _ (by omega) hP hD hS (lv_sub hl [0, 1, 4, 5, 6, 7, 8] rfl)
              ·
                refine lv_if_ne (tgt := 117) hx hb dX11_minutesOf_112 (by decide) (fun c73 => ?_) (fun c73 => ?_)
                · exact absurd c73 (by decide)
                clear c73
                refine lv_iconst (v := (-1)) hx hb dX11_minutesOf_115 (by decide) ?_
                have hP9 := hP.sub (ws' := [(h0, .inr (11, f_h0)), (m3, .inl (cI, 8, .inl fm3)), (m4, .inl (cI, 8, .inl fm4)), (m5, .inl (cI, 8, .inl fm5)), (m7, .inl (cI, 4, .inl fm7)), (m8, .inl (cI, 4, .inl fm8)), (m9, .inl (cI, 4, .inl fm9)), (m10, .inl (cI, 34, .inl f71))]) [0, 1, 2, 3, 4, 5, 6, 7] rfl
                have hD9 := hD.sub (ws' := [(h0, .inr (11, f_h0)), (m3, .inl (cI, 8, .inl fm3)), (m4, .inl (cI, 8, .inl fm4)), (m5, .inl (cI, 8, .inl fm5)), (m7, .inl (cI, 4, .inl fm7)), (m8, .inl (cI, 4, .inl fm8)), (m9, .inl (cI, 4, .inl fm9)), (m10, .inl (cI, 34, .inl f71))]) [0, 1, 2, 3, 4, 5, 6, 7] (by decide +kernel) rfl
                exact W.iret (v := (-1)) hx hb hr (fun t ht hW => ⟨⟨(-1), (fun _ => 0), rfl, trivial, ⟨f71, va_hq ht hP9, hD9⟩⟩, hS.F ht⟩) hS.2.2 dX11_minutesOf_116
            ·
              have c67 : (w9 % 2) = 1 := (nI_eq (a := w9 % 2) (b := 1) (by omega) (by omega)).mp c67
              refine lv_aload_n hx hb dX11_minutesOf_88 rfl (lv_at hl 5 rfl) ?_
              refine lv_iload hx hb dX11_minutesOf_89 (lv_at hl 0 rfl) ?_
              have hPc := hP.sub (ws' := [(h0, .inr (11, f_h0)), (m10, .inl (cI, 34, .inl f65))]) [0, 7] rfl
              refine va_calli (va_runV (As := [.int (nI (w9 / 2))]) (rest := []) ⟨hx, hb, hml, hown, hts⟩ (c_X11_mayMend l dC dI cI cZ cQ h0 n0 m10 f_h0 f65 (w9 / 2) H.size e_h0_0 e_h0_10 (by omega)) (cwV 1 hts gX11_minutesOf_X11_mayMend rfl rfl rfl hd_X11_mayMend_RX11 ⟨Nat.le_of_ble_eq_true rfl, Nat.le_of_ble_eq_true rfl⟩) (pv_R (va_recv hK hP (ci := 11) (q0 := 0) rfl rfl) hK hPc) rfl rfl hl.1 rfl (lv_room (Nat.le_of_ble_eq_true rfl)) dX11_minutesOf_91 ⟨Nat.le_of_ble_eq_true rfl, Nat.le_of_ble_eq_true rfl⟩) hS (fun q _ h => False.elim h) (fun q h => False.elim h) (fun r74 u75 t H1 locs ht hvm hw76 hB hz1 hk1 hS => ?_)
              have hP := hP.kept (fun k q hk => hk1 q.1 (hP k q hk).lt (fun h => h))
              clear hz1 hk1 hPc
              generalize H1 = H at hP hS ht ⊢
              try dsimp only at hw76
              rcases hw76 with rfl | rfl
              ·
                refine lv_if_ne (tgt := 99) hx hb dX11_minutesOf_94 (by decide) (fun c77 => ?_) (fun c77 => ?_)
                rotate_left
                · exact absurd c77 (by decide)
                clear c77
                refine lv_aload_n hx hb dX11_minutesOf_99 rfl (lv_at hl 5 rfl) ?_
                refine lv_iload hx hb dX11_minutesOf_100 (lv_at hl 0 rfl) ?_
                have hc9 := va_cut (W' := [(h0, .inr (11, f_h0)), (m10, .inl (cI, 34, .inl f65))]) hP hD hS hA [0, 7] (by decide) rfl
                have hPc := hc9.1
                have hDc := hc9.2.1
                have hFc := hc9.2.2
                clear hc9
                refine va_callv (va_runV (As := [.int (nI (w9 / 2))]) (rest := []) ⟨hx, hb, hml, hown, hts⟩ (c_X11_mendNow l dC dI cI cZ cQ h0 n0 n1 m10 f_h0 f65 (w9 / 2) H.size e_h0_0 e_h0_1 e_h0_10 (by omega)) (cwV 1 hts gX11_minutesOf_X11_mendNow rfl rfl rfl hd_X11_mendNow_RX11 ⟨Nat.le_of_ble_eq_true rfl, Nat.le_of_ble_eq_true rfl⟩) (pv_D (va_recv hK hP (ci := 11) (q0 := 0) rfl rfl) hK hPc hDc) rfl rfl hl.1 rfl (lv_room (Nat.le_of_ble_eq_true rfl)) dX11_minutesOf_102 ⟨Nat.le_of_ble_eq_true rfl, Nat.le_of_ble_eq_true rfl⟩) hS (fun q _ h => hFc q h) hFc (fun u79 t H1 locs ht hvm hw80 hB hz1 hk1 hS => ?_)
                obtain ⟨f81, hP1, hD1⟩ := hB
                replace hP1 := va_hp ht hP1
                obtain ⟨hP, hD⟩ := va_join (wr := [(m3, .inl (cI, 8, .inl fm3)), (m4, .inl (cI, 8, .inl fm4)), (m5, .inl (cI, 8, .inl fm5)), (m7, .inl (cI, 4, .inl fm7)), (m8, .inl (cI, 4, .inl fm8)), (m9, .inl (cI, 4, .inl fm9))]) (w1 := [(h0, .inr (11, f_h0)), (m10, .inl (cI, 34, .inl f81))]) hP hD [0, 7] [1, 2, 3, 4, 5, 6] rfl rfl (by decide +kernel) (by decide +kernel) hk1 hFc hP1 hD1
                clear hP1 hD1
                clear hz1 hk1 hPc hDc hFc
                generalize H1 = H at hP hS ht ⊢
                have hPD : pdW (dC, dI) vwCl A [(m3, .inl (cI, 8, .inl fm3)), (m4, .inl (cI, 8, .inl fm4)), (m5, .inl (cI, 8, .inl fm5)), (m7, .inl (cI, 4, .inl fm7)), (m8, .inl (cI, 4, .inl fm8)), (m9, .inl (cI, 4, .inl fm9)), (h0, .inr (11, f_h0)), (m10, .inl (cI, 34, .inl f81))] H := ⟨hP, hD⟩
                have hP := hPD.1
                have hD := hPD.2
                clear hPD
                try dsimp only at hw80
                refine lv_aload_n hx hb dX11_minutesOf_105 rfl (lv_at hl 5 rfl) ?_
                refine lv_iload hx hb dX11_minutesOf_106 (lv_at hl 0 rfl) ?_
                refine lv_iload_n hx hb dX11_minutesOf_108 rfl (lv_at hl 7 rfl) ?_
                have hc9 := va_cut (W' := [(h0, .inr (11, f_h0)), (m3, .inl (cI, 8, .inl fm3)), (m4, .inl (cI, 8, .inl fm4)), (m5, .inl (cI, 8, .inl fm5)), (m7, .inl (cI, 4, .inl fm7)), (m8, .inl (cI, 4, .inl fm8)), (m9, .inl (cI, 4, .inl fm9)), (m10, .inl (cI, 34, .inl f81))]) hP hD hS hA [6, 0, 1, 2, 3, 4, 5, 7] (by decide) rfl
                have hPc := hc9.1
                have hDc := hc9.2.1
                have hFc := hc9.2.2
                clear hc9
                refine va_calli (va_runV (As := [.int (nI (w9 / 2)), .int (nI k)]) (rest := []) ⟨hx, hb, hml, hown, hts⟩ (c_X11_page l dC dI cI cZ cQ h0 m3 m4 m5 m7 m8 m9 m10 f_h0 fm3 fm4 fm5 fm7 fm8 fm9 f81 (w9 / 2) k nq H.size e_h0_3 e_h0_4 e_h0_5 e_h0_7 e_h0_8 e_h0_9 e_h0_10 (by omega) (by first | assumption | decide) (by omega) (by omega)) (cwV 2 hts gX11_minutesOf_X11_page rfl rfl rfl hd_X11_page_RX11 ⟨Nat.le_of_ble_eq_true rfl, Nat.le_of_ble_eq_true rfl⟩) (pv_D (va_recv hK hP (ci := 11) (q0 := 6) rfl rfl) hK hPc hDc) rfl rfl hl.1 rfl (lv_room (Nat.le_of_ble_eq_true rfl)) dX11_minutesOf_109 ⟨Nat.le_of_ble_eq_true rfl, Nat.le_of_ble_eq_true rfl⟩) hS (fun q _ h => hFc q h) hFc (fun r82 u83 t H1 locs ht hvm hw84 hB hz1 hk1 hS => ?_)
                obtain ⟨f85, hP1, hD1⟩ := hB
                replace hP1 := va_hp ht hP1
                obtain ⟨hP, hD⟩ := va_join (wr := []) (w1 := [(h0, .inr (11, f_h0)), (m3, .inl (cI, 8, .inl fm3)), (m4, .inl (cI, 8, .inl fm4)), (m5, .inl (cI, 8, .inl fm5)), (m7, .inl (cI, 4, .inl fm7)), (m8, .inl (cI, 4, .inl fm8)), (m9, .inl (cI, 4, .inl fm9)), (m10, .inl (cI, 34, .inl f85))]) hP hD [6, 0, 1, 2, 3, 4, 5, 7] [] rfl rfl (by decide +kernel) (by decide +kernel) hk1 hFc hP1 hD1
                clear hP1 hD1
                clear hz1 hk1 hPc hDc hFc
                generalize H1 = H at hP hS ht ⊢
                have hPD : pdW (dC, dI) vwCl A [(h0, .inr (11, f_h0)), (m3, .inl (cI, 8, .inl fm3)), (m4, .inl (cI, 8, .inl fm4)), (m5, .inl (cI, 8, .inl fm5)), (m7, .inl (cI, 4, .inl fm7)), (m8, .inl (cI, 4, .inl fm8)), (m9, .inl (cI, 4, .inl fm9)), (m10, .inl (cI, 34, .inl f85))] H := ⟨hP, hD⟩
                have hP := hPD.1
                have hD := hPD.2
                clear hPD
                try dsimp only at hw84
                rcases hw84 with rfl | rfl
                ·
                  refine lv_if_ne (tgt := 117) hx hb dX11_minutesOf_112 (by decide) (fun c86 => ?_) (fun c86 => ?_)
                  rotate_left
                  · exact absurd c86 (by decide)
                  clear c86
                  refine lv_iload hx hb dX11_minutesOf_117 (lv_at hl 0 rfl) ?_
                  refine lv_istore (lv' := [(4, .int (nI (w9 / 2))), (8, .int (nI (w9 / 2))), (7, .int (nI w9)), (6, .int (nI k15)), (5, .int (fm10 32)), (0, .ref h0), (1, .int a0), (2, .int (nI k)), (3, .int (nI mo))]) hx hb dX11_minutesOf_119 hl (by decide) rfl (fun ls hl => ?_)
                  refine lv_iinc (v := nI (k15 + 1)) (lv' := [(6, .int (nI (k15 + 1))), (4, .int (nI (w9 / 2))), (8, .int (nI (w9 / 2))), (7, .int (nI w9)), (5, .int (fm10 32)), (0, .ref h0), (1, .int a0), (2, .int (nI k)), (3, .int (nI mo))]) hx hb dX11_minutesOf_121 hl (k := 3) rfl ((rfl : nI k15 + Int32.ofInt 1 = nI k15 + 1).trans (nI_add k15 1)) (by decide) rfl (fun ls hl => ?_)
                  refine lv_goto (tgt := 15) hx hb dX11_minutesOf_124 (by decide) ?_
                  exact ih15 (k15 + 1) (nI (w9 / 2)) f85 _ _ _ (by omega) hP hD hS (lv_sub hl [0, 1, 4, 5, 6, 7, 8] rfl)
                ·
                  refine lv_if_ne (tgt := 117) hx hb dX11_minutesOf_112 (by decide) (fun c87 => ?_) (fun c87 => ?_)
                  · exact absurd c87 (by decide)
                  clear c87
                  refine lv_iconst (v := (-1)) hx hb dX11_minutesOf_115 (by decide) ?_
                  have hP9 := hP.sub (ws' := [(h0, .inr (11, f_h0)), (m3, .inl (cI, 8, .inl fm3)), (m4, .inl (cI, 8, .inl fm4)), (m5, .inl (cI, 8, .inl fm5)), (m7, .inl (cI, 4, .inl fm7)), (m8, .inl (cI, 4, .inl fm8)), (m9, .inl (cI, 4, .inl fm9)), (m10, .inl (cI, 34, .inl f85))]) [0, 1, 2, 3, 4, 5, 6, 7] rfl
                  have hD9 := hD.sub (ws' := [(h0, .inr (11, f_h0)), (m3, .inl (cI, 8, .inl fm3)), (m4, .inl (cI, 8, .inl fm4)), (m5, .inl (cI, 8, .inl fm5)), (m7, .inl (cI, 4, .inl fm7)), (m8, .inl (cI, 4, .inl fm8)), (m9, .inl (cI, 4, .inl fm9)), (m10, .inl (cI, 34, .inl f85))]) [0, 1, 2, 3, 4, 5, 6, 7] (by decide +kernel) rfl
                  exact W.iret (v := (-1)) hx hb hr (fun t ht hW => ⟨⟨(-1), (fun _ => 0), rfl, trivial, ⟨f85, va_hq ht hP9, hD9⟩⟩, hS.F ht⟩) hS.2.2 dX11_minutesOf_116
              ·
                refine lv_if_ne (tgt := 99) hx hb dX11_minutesOf_94 (by decide) (fun c88 => ?_) (fun c88 => ?_)
                · exact absurd c88 (by decide)
                clear c88
                refine lv_iconst (v := (-1)) hx hb dX11_minutesOf_97 (by decide) ?_
                have hP9 := hP.sub (ws' := [(h0, .inr (11, f_h0)), (m3, .inl (cI, 8, .inl fm3)), (m4, .inl (cI, 8, .inl fm4)), (m5, .inl (cI, 8, .inl fm5)), (m7, .inl (cI, 4, .inl fm7)), (m8, .inl (cI, 4, .inl fm8)), (m9, .inl (cI, 4, .inl fm9)), (m10, .inl (cI, 34, .inl f65))]) [0, 1, 2, 3, 4, 5, 6, 7] rfl
                have hD9 := hD.sub (ws' := [(h0, .inr (11, f_h0)), (m3, .inl (cI, 8, .inl fm3)), (m4, .inl (cI, 8, .inl fm4)), (m5, .inl (cI, 8, .inl fm5)), (m7, .inl (cI, 4, .inl fm7)), (m8, .inl (cI, 4, .inl fm8)), (m9, .inl (cI, 4, .inl fm9)), (m10, .inl (cI, 34, .inl f65))]) [0, 1, 2, 3, 4, 5, 6, 7] (by decide +kernel) rfl
                exact W.iret (v := (-1)) hx hb hr (fun t ht hW => ⟨⟨(-1), (fun _ => 0), rfl, trivial, ⟨f65, va_hq ht hP9, hD9⟩⟩, hS.F ht⟩) hS.2.2 dX11_minutesOf_98
      ·
        have c11 : ¬ (w9 / 2) < nq := fun h => c11 ((nI_ltI (a := w9 / 2) (b := nq) (by omega) (by omega)).mpr h)
        refine lv_iconst (v := (-1)) hx hb dX11_minutesOf_51 (by decide) ?_
        have hP9 := hP.sub (ws' := [(h0, .inr (11, f_h0)), (m3, .inl (cI, 8, .inl fm3)), (m4, .inl (cI, 8, .inl fm4)), (m5, .inl (cI, 8, .inl fm5)), (m7, .inl (cI, 4, .inl fm7)), (m8, .inl (cI, 4, .inl fm8)), (m9, .inl (cI, 4, .inl fm9)), (m10, .inl (cI, 34, .inl f15_m10))]) [0, 1, 2, 3, 4, 5, 6, 7] rfl
        have hD9 := hD.sub (ws' := [(h0, .inr (11, f_h0)), (m3, .inl (cI, 8, .inl fm3)), (m4, .inl (cI, 8, .inl fm4)), (m5, .inl (cI, 8, .inl fm5)), (m7, .inl (cI, 4, .inl fm7)), (m8, .inl (cI, 4, .inl fm8)), (m9, .inl (cI, 4, .inl fm9)), (m10, .inl (cI, 34, .inl f15_m10))]) [0, 1, 2, 3, 4, 5, 6, 7] (by decide +kernel) rfl
        exact W.iret (v := (-1)) hx hb hr (fun t ht hW => ⟨⟨(-1), (fun _ => 0), rfl, trivial, ⟨f15_m10, va_hq ht hP9, hD9⟩⟩, hS.F ht⟩) hS.2.2 dX11_minutesOf_52
