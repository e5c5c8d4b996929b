set_option maxHeartbeats 4000000 in
set_option maxRecDepth 100000 in
theorem c_X11_judge (l : Launch) (dC : Nat → ClassId) (dI : Nat → Nat → Nat) (cI cZ cQ : ClassId) (h0 : Nat) (m10 : Nat) (bk : Nat) (m42 : Nat) (m43 : Nat) (f_h0 : List Value) (fm10 : Nat → Int32) (fm42 : Nat → Int32) (fm43 : Nat → Int32) (sz : Nat) (e_h0_10 : f_h0[10]? = some (.ref m10)) (e_h0_41 : f_h0[41]? = some (.int (nI bk))) (e_h0_42 : f_h0[42]? = some (.ref m42)) (e_h0_43 : f_h0[43]? = some (.ref m43)) (hbk : bk ≤ 15) (hqi : qIn fm42 bk) : Met l yX11_judge wsX11_judge ({ frames := 0, cells := 0, slots := 0, locals := 40 }) (va_Pc [.ref h0] (fun U => U.heap.size = sz ∧ va_P (dC, dI) vwCl [(h0, .inr (11, f_h0)), (m10, .inl (cI, 34, .inl fm10)), (m42, .inl (cI, 15, .inl fm42)), (m43, .inl (cI, 15, .inl fm43))] U.heap ∧ va_K (dC, dI) vwCl (tys0 cI cZ cQ) U)) (va_Qi (fun (r : Int32) (u : Nat → Nat) => True) (fun (_ : Nat → Nat) (_ : State) => True) (fun _ : Nat => False)) 0 0 (fun _ : Nat => False) := by
  refine Met.ofW (cc := cX11_judge) (maxL := 2) (ret := (some .int)) (by decide) rfl ?_
  intro p e s m args below meth c s₁ B hml hv
  obtain ⟨rfl, hsz, hP, hK⟩ := hv
  have hx := B.exec
  have hb := B.bytes
  have hr := B.returns
  have hts := atoms_spec (ws := wsX11_judge) B.pre
  have hown : s.vm.findClass RX11 = some m.cls := findClass_of_methodNamed B.named
  have hlocks := B.notSynchronized
  have hi_X11 : ∀ w ∈ u_ws RX11 TX11 46, w ∈ wsX11_judge := fun _ h => List.mem_cons_of_mem _ (List.mem_append_right _ (h))
  subst hsz
  have hS : va_S (fun _ : Nat => False) s.heap s.heap [] := va_S.rf
  have hl := lv_entry ([.ref h0]) (n := 2) (Nat.le_of_ble_eq_true rfl)
  rw [lg_entry_eq]
  generalize (lg_sl ([.ref h0]) ++ List.replicate (2 - (lg_sl ([.ref h0])).length) Slot.unset).toArray = ls at hl ⊢
  have hl : lv_has ls 2 [(0, .ref h0)] := hl
  refine lv_iconst (v := 0) hx hb dX11_judge_0 (by decide) ?_
  refine lv_istore_n (lv' := [(1, .int 0), (0, .ref h0)]) hx hb dX11_judge_1 rfl hl (by decide) rfl (fun ls hl => ?_)
  refine (fun (K : ∀ (d2 : Nat) (k2 : Nat) (H : Heap) (locs : List Loc) (ls : Array Slot), k2 + d2 = bk → va_P (dC, dI) vwCl [(h0, .inr (11, f_h0)), (m10, .inl (cI, 34, .inl fm10)), (m42, .inl (cI, 15, .inl fm42)), (m43, .inl (cI, 15, .inl fm43))] H → va_S (fun _ : Nat => False) s.heap H locs → lv_has ls 2 [(1, .int (nI k2)), (0, .ref h0)] → W p l e _ s m _ below meth c H locs _ _ _ (F0 m 2 ls [])) => K bk 0 _ _ _ (by omega) hP hS (lv_sub hl [0, 1] rfl)) ?_
  intro d2
  induction d2 with
  | zero =>
    intro k2 H locs ls hk2 hP hS hl
    refine lv_iload_n hx hb dX11_judge_2 rfl (lv_at hl 0 rfl) ?_
    refine lv_aload_n hx hb dX11_judge_3 rfl (lv_at hl 1 rfl) ?_
    refine va_get (D := (dC, dI)) (ci := 11) (v := .int (nI bk)) (C := RX11) (T := TX11) (N := 46) hx hb hts hi_X11 hown hK hP 0 rfl rfl 41 (by decide) (hts (.fieldLink RX11 171 "LeftQuillsModel" "booked" "I") (wmx 1 rfl)) (fun _ h9 => h9) e_h0_41 dX11_judge_4 ?_
    refine lv_icmp_ge (tgt := 41) hx hb dX11_judge_7 (by decide) (fun c1 => ?_) (fun c1 => ?_)
    ·
      have c1 : bk ≤ k2 := (nI_leI (a := bk) (b := k2) (by omega) (by omega)).mp c1
      refine lv_iconst (v := (-1)) hx hb dX11_judge_41 (by decide) ?_
      exact W.iret (v := (-1)) hx hb hr (fun t ht hW => ⟨⟨(-1), (fun _ => 0), rfl, trivial, trivial⟩, hS.F ht⟩) hS.2.2 dX11_judge_42
    ·
      have c1 : ¬ bk ≤ k2 := fun h => c1 ((nI_leI (a := bk) (b := k2) (by omega) (by omega)).mpr h)
      omega
  | succ d2 ih2 =>
    intro k2 H locs ls hk2 hP hS hl
    refine lv_iload_n hx hb dX11_judge_2 rfl (lv_at hl 0 rfl) ?_
    refine lv_aload_n hx hb dX11_judge_3 rfl (lv_at hl 1 rfl) ?_
    refine va_get (D := (dC, dI)) (ci := 11) (v := .int (nI bk)) (C := RX11) (T := TX11) (N := 46) hx hb hts hi_X11 hown hK hP 0 rfl rfl 41 (by decide) (hts (.fieldLink RX11 171 "LeftQuillsModel" "booked" "I") (wmx 1 rfl)) (fun _ h9 => h9) e_h0_41 dX11_judge_4 ?_
    refine lv_icmp_ge (tgt := 41) hx hb dX11_judge_7 (by decide) (fun c2 => ?_) (fun c2 => ?_)
    ·
      have c2 : bk ≤ k2 := (nI_leI (a := bk) (b := k2) (by omega) (by omega)).mp c2
      omega
    ·
      have c2 : ¬ bk ≤ k2 := fun h => c2 ((nI_leI (a := bk) (b := k2) (by omega) (by omega)).mpr h)
      refine lv_aload_n hx hb dX11_judge_10 rfl (lv_at hl 1 rfl) ?_
      refine va_get (D := (dC, dI)) (ci := 11) (v := .ref m10) (C := RX11) (T := TX11) (N := 46) hx hb hts hi_X11 hown hK hP 0 rfl rfl 10 (by decide) (hts (.fieldLink RX11 28 "LeftQuillsModel" "now" "[I") (wmx 2 rfl)) (fun _ h9 => h9) e_h0_10 dX11_judge_11 ?_
      refine lv_bipush (v := 16) hx hb dX11_judge_14 (by decide) ?_
      refine lv_aload_n hx hb dX11_judge_16 rfl (lv_at hl 1 rfl) ?_
      refine va_get (D := (dC, dI)) (ci := 11) (v := .ref m42) (C := RX11) (T := TX11) (N := 46) hx hb hts hi_X11 hown hK hP 0 rfl rfl 42 (by decide) (hts (.fieldLink RX11 83 "LeftQuillsModel" "bookQuill" "[I") (wmx 3 rfl)) (fun _ h9 => h9) e_h0_42 dX11_judge_17 ?_
      refine lv_iload_n hx hb dX11_judge_20 rfl (lv_at hl 0 rfl) ?_
      refine va_iald hx hb hK hP 2 0 rfl rfl (vp_in_nI (n := k2) (N := 15) (by omega) (by decide)) dX11_judge_21 ?_
      refine W.eq (g2 := F0 m 22 ls [.int (fm42 k2), .int 16, .ref m10]) (congrArg (fun y9 => F0 m 22 ls (.int (fm42 y9) :: [.int 16, .ref m10])) ((nI_clamp (n := k2) (by omega)))) ?_
      refine lv_topi (fun z3 ez3 => ?_)
      obtain ⟨j4, hj4, ejj4⟩ := hqi k2 (by omega)
      obtain rfl : z3 = nI j4 := ez3.trans (ejj4)
      refine lv_iadd hx hb dX11_judge_22 ?_
      refine lv_topi (fun z5 ez5 => ?_)
      obtain rfl : z5 = nI (16 + j4) := ez5.trans (nI_add 16 j4)
      refine va_iald hx hb hK hP 1 0 rfl rfl (vp_in_nI (n := 16 + j4) (N := 34) (by omega) (by decide)) dX11_judge_23 ?_
      refine W.eq (g2 := F0 m 24 ls [.int (fm10 (16 + j4))]) (congrArg (fun y9 => F0 m 24 ls (.int (fm10 y9) :: [])) ((nI_clamp (n := 16 + j4) (by omega)))) ?_
      refine lv_aload_n hx hb dX11_judge_24 rfl (lv_at hl 1 rfl) ?_
      refine va_get (D := (dC, dI)) (ci := 11) (v := .ref m43) (C := RX11) (T := TX11) (N := 46) hx hb hts hi_X11 hown hK hP 0 rfl rfl 43 (by decide) (hts (.fieldLink RX11 86 "LeftQuillsModel" "bookSoft" "[I") (wmx 4 rfl)) (fun _ h9 => h9) e_h0_43 dX11_judge_25 ?_
      refine lv_iload_n hx hb dX11_judge_28 rfl (lv_at hl 0 rfl) ?_
      refine va_iald hx hb hK hP 3 0 rfl rfl (vp_in_nI (n := k2) (N := 15) (by omega) (by decide)) dX11_judge_29 ?_
      refine W.eq (g2 := F0 m 30 ls [.int (fm43 k2), .int (fm10 (16 + j4))]) (congrArg (fun y9 => F0 m 30 ls (.int (fm43 y9) :: [.int (fm10 (16 + j4))])) ((nI_clamp (n := k2) (by omega)))) ?_
      refine lv_icmp_eq (tgt := 35) hx hb dX11_judge_30 (by decide) (fun c6 => ?_) (fun c6 => ?_)
      ·
        refine lv_iinc (v := nI (k2 + 1)) (lv' := [(1, .int (nI (k2 + 1))), (0, .ref h0)]) hx hb dX11_judge_35 hl (k := 0) rfl ((rfl : nI k2 + Int32.ofInt 1 = nI k2 + 1).trans (nI_add k2 1)) (by decide) rfl (fun ls hl => ?_)
        refine lv_goto (tgt := 2) hx hb dX11_judge_38 (by decide) ?_
        exact ih2 (k2 + 1) _ _ _ (by omega) hP hS (lv_sub hl [0, 1] rfl)
      ·
        refine lv_iload_n hx hb dX11_judge_33 rfl (lv_at hl 0 rfl) ?_
        exact W.iret (v := nI k2) hx hb hr (fun t ht hW => ⟨⟨nI k2, (fun _ => 0), rfl, trivial, trivial⟩, hS.F ht⟩) hS.2.2 dX11_judge_34

