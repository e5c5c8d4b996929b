set_option maxHeartbeats 4000000 in
set_option maxRecDepth 100000 in
theorem c_X0_firstWrongD (l : Launch) (dC : Nat → ClassId) (dI : Nat → Nat → Nat) (cI cZ cQ : ClassId) (h0 : Nat) (n : Nat) (b1 : Nat) (b2 : Nat) (f_h0 : List Value) (fb1 : Nat → Int32) (fb2 : Nat → Int32) (hd : Nat) (a4 : Nat) (f_hd : List Value) (fa4 : Nat → Int32) (sz : Nat) (e_h0_0 : fAt f_h0 0 = some (.int (nI n))) (e_h0_1 : fAt f_h0 1 = some (.ref b1)) (e_h0_2 : fAt f_h0 2 = some (.ref b2)) (e_hd_4 : fAt f_hd 4 = some (.ref a4)) (hn : n ≤ 15) (hqi : qIn fb1 n) : Met l yX0_firstWrong wsX0_firstWrong ({ frames := 0, cells := 0, slots := 0, locals := 40 }) (va_Pc [.ref h0, .ref hd] (fun U => U.heap.size = sz ∧ va_P (dC, dI) vwCl [(h0, .inr (0, f_h0)), (b1, .inl (cI, 15, .inl fb1)), (b2, .inl (cI, 15, .inl fb2)), (hd, .inr (1, f_hd)), (a4, .inl (cI, 8, .inl fa4))] U.heap ∧ va_K (dC, dI) vwCl (tys0 cI cZ cQ) U)) (va_Qi (fun (r : Int32) (u : Nat → Nat) => fwP n (jdA fa4 fb1) fb2 r) (fun (_ : Nat → Nat) (_ : State) => True) (fun _ : Nat => False)) 0 0 (fun _ : Nat => False) := by
  refine Met.ofW (cc := cX0_firstWrong) (maxL := 3) (ret := (some .int)) (by decide) rfl ?_
  intro p e s m args below meth c s₁ B hml hv
  obtain ⟨rfl, hsz, hP, hK⟩ := hv
  have hx := B.exec
  have hb := B.bytes
  have hr := B.returns
  have hts := atoms_spec (ws := wsX0_firstWrong) B.pre
  have hown : s.vm.findClass RX0 = some m.cls := findClass_of_methodNamed B.named
  have hlocks := B.notSynchronized
  have hi_X0 : ∀ w ∈ u_ws RX0 TX0 3, w ∈ wsX0_firstWrong := fun _ h => List.mem_cons_of_mem _ (List.mem_append_left _ (List.mem_append_right _ (h)))
  have hi_X1 : ∀ w ∈ u_ws RX1 TX1 8, w ∈ wsX0_firstWrong := fun _ h => List.mem_cons_of_mem _ (List.mem_append_right _ (h))
  subst hsz
  have hS : va_S (fun _ : Nat => False) s.heap s.heap [] := va_S.rf
  have hl := lv_entry ([.ref h0, .ref hd]) (n := 3) (Nat.le_of_ble_eq_true rfl)
  rw [lg_entry_eq]
  generalize (lg_sl ([.ref h0, .ref hd]) ++ List.replicate (3 - (lg_sl ([.ref h0, .ref hd])).length) Slot.unset).toArray = ls at hl ⊢
  have hl : lv_has ls 3 [(0, .ref h0), (1, .ref hd)] := hl
  refine lv_iconst (v := 0) hx hb dX0_firstWrong_0 (by decide) ?_
  refine lv_istore_n (lv' := [(2, .int 0), (0, .ref h0), (1, .ref hd)]) hx hb dX0_firstWrong_1 rfl hl (by decide) rfl (fun ls hl => ?_)
  refine (fun (K : ∀ (d2 : Nat) (k2 : Nat) (H : Heap) (locs : List Loc) (ls : Array Slot), k2 + d2 = n → (∀ i, i < k2 → jdA fa4 fb1 i = fb2 i) → va_P (dC, dI) vwCl [(h0, .inr (0, f_h0)), (b1, .inl (cI, 15, .inl fb1)), (b2, .inl (cI, 15, .inl fb2)), (hd, .inr (1, f_hd)), (a4, .inl (cI, 8, .inl fa4))] H → va_S (fun _ : Nat => False) s.heap H locs → lv_has ls 3 [(2, .int (nI k2)), (0, .ref h0), (1, .ref hd)] → W p l e _ s m _ below meth c H locs _ _ _ (F0 m 2 ls [])) => K n 0 _ _ _ (by omega) (fun i hi => absurd hi (by omega)) hP hS (lv_sub hl [0, 1, 2] rfl)) ?_
  intro d2
  induction d2 with
  | zero =>
    intro k2 H locs ls hk2 hv2_0 hP hS hl
    refine lv_iload_n hx hb dX0_firstWrong_2 rfl (lv_at hl 0 rfl) ?_
    refine lv_aload_n hx hb dX0_firstWrong_3 rfl (lv_at hl 1 rfl) ?_
    refine va_get (D := (dC, dI)) (ci := 0) (v := .int (nI n)) (C := RX0) (T := TX0) (N := 3) hx hb hts hi_X0 hown hK hP 0 rfl rfl 0 (by decide) (hts (.fieldLink RX0 9 "LeftQuills$Book" "count" "I") (wmx 1 rfl)) (fun _ h9 => h9) e_h0_0 dX0_firstWrong_4 ?_
    refine lv_icmp_ge (tgt := 38) hx hb dX0_firstWrong_7 (by decide) (fun c1 => ?_) (fun c1 => ?_)
    ·
      have c1 : n ≤ k2 := (nI_leI (a := n) (b := k2) (by omega) (by omega)).mp c1
      refine lv_iconst (v := (-1)) hx hb dX0_firstWrong_38 (by decide) ?_
      exact W.iret (v := (-1)) hx hb hr (fun t ht hW => ⟨⟨(-1), (fun _ => 0), rfl, (Or.inl ⟨rfl, fun i hi => hv2_0 i (by omega)⟩), trivial⟩, hS.F ht⟩) hS.2.2 dX0_firstWrong_39
    ·
      have c1 : ¬ n ≤ k2 := fun h => c1 ((nI_leI (a := n) (b := k2) (by omega) (by omega)).mpr h)
      omega
  | succ d2 ih2 =>
    intro k2 H locs ls hk2 hv2_0 hP hS hl
    refine lv_iload_n hx hb dX0_firstWrong_2 rfl (lv_at hl 0 rfl) ?_
    refine lv_aload_n hx hb dX0_firstWrong_3 rfl (lv_at hl 1 rfl) ?_
    refine va_get (D := (dC, dI)) (ci := 0) (v := .int (nI n)) (C := RX0) (T := TX0) (N := 3) hx hb hts hi_X0 hown hK hP 0 rfl rfl 0 (by decide) (hts (.fieldLink RX0 9 "LeftQuills$Book" "count" "I") (wmx 1 rfl)) (fun _ h9 => h9) e_h0_0 dX0_firstWrong_4 ?_
    refine lv_icmp_ge (tgt := 38) hx hb dX0_firstWrong_7 (by decide) (fun c2 => ?_) (fun c2 => ?_)
    ·
      have c2 : n ≤ k2 := (nI_leI (a := n) (b := k2) (by omega) (by omega)).mp c2
      omega
    ·
      have c2 : ¬ n ≤ k2 := fun h => c2 ((nI_leI (a := n) (b := k2) (by omega) (by omega)).mpr h)
      refine lv_aload_n hx hb dX0_firstWrong_10 rfl (lv_at hl 2 rfl) ?_
      refine va_get (D := (dC, dI)) (ci := 1) (v := .ref a4) (C := RX1) (T := TX1) (N := 8) hx hb hts hi_X1 hown hK hP 3 rfl rfl 4 (by decide) (hts (.fieldLink RX0 22 "LeftQuills$Desk" "softness" "[I") (wmx 2 rfl)) (fun _ h9 => h9) e_hd_4 dX0_firstWrong_11 ?_
      refine lv_aload_n hx hb dX0_firstWrong_14 rfl (lv_at hl 1 rfl) ?_
      refine va_get (D := (dC, dI)) (ci := 0) (v := .ref b1) (C := RX0) (T := TX0) (N := 3) hx hb hts hi_X0 hown hK hP 0 rfl rfl 1 (by decide) (hts (.fieldLink RX0 15 "LeftQuills$Book" "quill" "[I") (wmx 3 rfl)) (fun _ h9 => h9) e_h0_1 dX0_firstWrong_15 ?_
      refine lv_iload_n hx hb dX0_firstWrong_18 rfl (lv_at hl 0 rfl) ?_
      refine va_iald hx hb hK hP 1 0 rfl rfl (vp_in_nI (n := k2) (N := 15) (by omega) (by decide)) dX0_firstWrong_19 ?_
      refine W.eq (g2 := F0 m 20 ls [.int (fb1 k2), .ref a4]) (congrArg (fun y9 => F0 m 20 ls (.int (fb1 y9) :: [.ref a4])) ((nI_clamp (n := k2) (by omega)))) ?_
      refine lv_topi (fun z3 ez3 => ?_)
      obtain ⟨j4, hj4, ejj4⟩ := hqi k2 (by omega)
      obtain rfl : z3 = nI j4 := ez3.trans (ejj4)
      refine va_iald hx hb hK hP 4 0 rfl rfl (vp_in_nI (n := j4) (N := 8) (by omega) (by decide)) dX0_firstWrong_20 ?_
      refine W.eq (g2 := F0 m 21 ls [.int (fa4 j4)]) (congrArg (fun y9 => F0 m 21 ls (.int (fa4 y9) :: [])) ((nI_clamp (n := j4) (by omega)))) ?_
      refine lv_aload_n hx hb dX0_firstWrong_21 rfl (lv_at hl 1 rfl) ?_
      refine va_get (D := (dC, dI)) (ci := 0) (v := .ref b2) (C := RX0) (T := TX0) (N := 3) hx hb hts hi_X0 hown hK hP 0 rfl rfl 2 (by decide) (hts (.fieldLink RX0 19 "LeftQuills$Book" "softness" "[I") (wmx 4 rfl)) (fun _ h9 => h9) e_h0_2 dX0_firstWrong_22 ?_
      refine lv_iload_n hx hb dX0_firstWrong_25 rfl (lv_at hl 0 rfl) ?_
      refine va_iald hx hb hK hP 2 0 rfl rfl (vp_in_nI (n := k2) (N := 15) (by omega) (by decide)) dX0_firstWrong_26 ?_
      refine W.eq (g2 := F0 m 27 ls [.int (fb2 k2), .int (fa4 j4)]) (congrArg (fun y9 => F0 m 27 ls (.int (fb2 y9) :: [.int (fa4 j4)])) ((nI_clamp (n := k2) (by omega)))) ?_
      refine lv_icmp_eq (tgt := 32) hx hb dX0_firstWrong_27 (by decide) (fun c5 => ?_) (fun c5 => ?_)
      ·
        refine lv_iinc (v := nI (k2 + 1)) (lv' := [(2, .int (nI (k2 + 1))), (0, .ref h0), (1, .ref hd)]) hx hb dX0_firstWrong_32 hl (k := 0) rfl ((rfl : nI k2 + Int32.ofInt 1 = nI k2 + 1).trans (nI_add k2 1)) (by decide) rfl (fun ls hl => ?_)
        refine lv_goto (tgt := 2) hx hb dX0_firstWrong_35 (by decide) ?_
        exact ih2 (k2 + 1) _ _ _ (by omega) (fw_step hv2_0 (jd_y ejj4 (by omega) c5)) hP hS (lv_sub hl [0, 1, 2] rfl)
      ·
        refine lv_iload_n hx hb dX0_firstWrong_30 rfl (lv_at hl 0 rfl) ?_
        exact W.iret (v := nI k2) hx hb hr (fun t ht hW => ⟨⟨nI k2, (fun _ => 0), rfl, (Or.inr ⟨_, by omega, rfl, hv2_0, jd_x ejj4 (by omega) c5⟩), trivial⟩, hS.F ht⟩) hS.2.2 dX0_firstWrong_31
set_option maxHeartbeats 4000000 in
set_option maxRecDepth 100000 in
theorem c_X10_judgeD (l : Launch) (dC : Nat → ClassId) (dI : Nat → Nat → Nat) (cI cZ cQ : ClassId) (h0 : Nat) (x6 : Nat) (x13 : Nat) (f_h0 : List Value) (n : Nat) (b1 : Nat) (b2 : Nat) (f_x13 : List Value) (fb1 : Nat → Int32) (fb2 : Nat → Int32) (a4 : Nat) (f_x6 : List Value) (fa4 : Nat → Int32) (sz : Nat) (e_h0_6 : fAt f_h0 6 = some (.ref x6)) (e_h0_13 : fAt f_h0 13 = some (.ref x13)) (e_x13_0 : fAt f_x13 0 = some (.int (nI n))) (e_x13_1 : fAt f_x13 1 = some (.ref b1)) (e_x13_2 : fAt f_x13 2 = some (.ref b2)) (e_x6_4 : fAt f_x6 4 = some (.ref a4)) (hn : n ≤ 15) (hqi : qIn fb1 n) : Met l yX10_judge wsX10_judge ({ frames := 1, cells := 0, slots := 0, locals := 62 }) (va_Pc [.ref h0] (fun U => U.heap.size = sz ∧ va_P (dC, dI) vwCl [(h0, .inr (10, f_h0)), (x13, .inr (0, f_x13)), (b1, .inl (cI, 15, .inl fb1)), (b2, .inl (cI, 15, .inl fb2)), (x6, .inr (1, f_x6)), (a4, .inl (cI, 8, .inl fa4))] U.heap ∧ va_K (dC, dI) vwCl (tys0 cI cZ cQ) U)) (va_Qi (fun (r : Int32) (u : Nat → Nat) => fwP n (jdA fa4 fb1) fb2 r) (fun (_ : Nat → Nat) (_ : State) => True) (fun _ : Nat => False)) 0 0 (fun _ : Nat => False) := by
  refine Met.ofW (cc := cX10_judge) (maxL := 1) (ret := (some .int)) (by decide) rfl ?_
  intro p e s m args below meth c s₁ B hml hv
  obtain ⟨rfl, hsz, hP, hK⟩ := hv
  have hx := B.exec
  have hb := B.bytes
  have hr := B.returns
  have hts := atoms_spec (ws := wsX10_judge) B.pre
  have hown : s.vm.findClass RX10 = some m.cls := findClass_of_methodNamed B.named
  have hlocks := B.notSynchronized
  have hi_X10 : ∀ w ∈ u_ws RX10 TX10 14, w ∈ wsX10_judge := fun _ h => List.mem_cons_of_mem _ (List.mem_append_left _ (List.mem_append_left _ (List.mem_append_right _ (h))))
  subst hsz
  have hS : va_S (fun _ : Nat => False) s.heap s.heap [] := va_S.rf
  have hl := lv_entry ([.ref h0]) (n := 1) (Nat.le_of_ble_eq_true rfl)
  rw [lg_entry_eq]
  generalize (lg_sl ([.ref h0]) ++ List.replicate (1 - (lg_sl ([.ref h0])).length) Slot.unset).toArray = ls at hl ⊢
  have hl : lv_has ls 1 [(0, .ref h0)] := hl
  refine lv_aload_n hx hb dX10_judge_0 rfl (lv_at hl 0 rfl) ?_
  refine va_get (D := (dC, dI)) (ci := 10) (v := .ref x13) (C := RX10) (T := TX10) (N := 14) hx hb hts hi_X10 hown hK hP 0 rfl rfl 13 (by decide) (hts (.fieldLink RX10 95 "LeftQuills" "book" "LLeftQuills$Book;") (wmx 1 rfl)) (fun _ h9 => h9) e_h0_13 dX10_judge_1 ?_
  refine lv_aload_n hx hb dX10_judge_4 rfl (lv_at hl 0 rfl) ?_
  refine va_get (D := (dC, dI)) (ci := 10) (v := .ref x6) (C := RX10) (T := TX10) (N := 14) hx hb hts hi_X10 hown hK hP 0 rfl rfl 6 (by decide) (hts (.fieldLink RX10 42 "LeftQuills" "desk" "LLeftQuills$Desk;") (wmx 2 rfl)) (fun _ h9 => h9) e_h0_6 dX10_judge_5 ?_
  have hPc := hP.sub (ws' := [(x13, .inr (0, f_x13)), (b1, .inl (cI, 15, .inl fb1)), (b2, .inl (cI, 15, .inl fb2)), (x6, .inr (1, f_x6)), (a4, .inl (cI, 8, .inl fa4))]) [1, 2, 3, 4, 5] rfl
  refine va_calli (va_runV (As := [.ref x6]) (rest := []) ⟨hx, hb, hml, hown, hts⟩ (c_X0_firstWrongD l dC dI cI cZ cQ x13 n b1 b2 f_x13 fb1 fb2 x6 a4 f_x6 fa4 s.heap.size e_x13_0 e_x13_1 e_x13_2 e_x6_4 (by omega) (by first | assumption | decide)) (cwV 1 hts gX10_judge_X0_firstWrong rfl rfl rfl hd_X0_firstWrong_RX0 ⟨Nat.le_of_ble_eq_true rfl, Nat.le_of_ble_eq_true rfl⟩) (pv_R (va_recv hK hP (ci := 0) (q0 := 1) rfl rfl) hK hPc) rfl rfl hl.1 rfl (lv_room (Nat.le_of_ble_eq_true rfl)) dX10_judge_8 ⟨Nat.le_of_ble_eq_true rfl, Nat.le_of_ble_eq_true rfl⟩) hS (fun q _ h => False.elim h) (fun q h => False.elim h) (fun r1 u2 t H1 locs ht hvm hw3 hB hz1 hk1 hS => ?_)
  have hP := hP.kept (fun k q hk => hk1 q.1 (hP k q hk).lt (fun h => h))
  clear hz1 hk1 hPc
  generalize H1 = H at hP hS ht ⊢
  try dsimp only at hw3
  exact W.iret (v := r1) hx hb hr (fun t ht hW => ⟨⟨r1, (fun _ => 0), rfl, hw3, trivial⟩, hS.F ht⟩) hS.2.2 dX10_judge_11
set_option maxHeartbeats 4000000 in
set_option maxRecDepth 100000 in
theorem c_X11_judgeD (l : Launch) (dC : Nat → ClassId) (dI : Nat → Nat → Nat) (cI cZ cQ : ClassId) (h0 : Nat) (m10 : Nat) (bk : Nat) (m42 : Nat) (m43 : Nat) (f_h0 : List Value) (fm10 : Nat → Int32) (fm42 : Nat → Int32) (fm43 : Nat → Int32) (sz : Nat) (e_h0_10 : fAt f_h0 10 = some (.ref m10)) (e_h0_41 : fAt f_h0 41 = some (.int (nI bk))) (e_h0_42 : fAt f_h0 42 = some (.ref m42)) (e_h0_43 : fAt f_h0 43 = some (.ref m43)) (hbk : bk ≤ 15) (hqi : qIn fm42 bk) : Met l yX11_judge wsX11_judge ({ frames := 0, cells := 0, slots := 0, locals := 40 }) (va_Pc [.ref h0] (fun U => U.heap.size = sz ∧ va_P (dC, dI) vwCl [(h0, .inr (11, f_h0)), (m10, .inl (cI, 34, .inl fm10)), (m42, .inl (cI, 15, .inl fm42)), (m43, .inl (cI, 15, .inl fm43))] U.heap ∧ va_K (dC, dI) vwCl (tys0 cI cZ cQ) U)) (va_Qi (fun (r : Int32) (u : Nat → Nat) => fwP bk (jdA (fun i => fm10 (16 + i)) fm42) fm43 r) (fun (_ : Nat → Nat) (_ : State) => True) (fun _ : Nat => False)) 0 0 (fun _ : Nat => False) := by
  refine Met.ofW (cc := cX11_judge) (maxL := 2) (ret := (some .int)) (by decide) rfl ?_
  intro p e s m args below meth c s₁ B hml hv
  obtain ⟨rfl, hsz, hP, hK⟩ := hv
  have hx := B.exec
  have hb := B.bytes
  have hr := B.returns
  have hts := atoms_spec (ws := wsX11_judge) B.pre
  have hown : s.vm.findClass RX11 = some m.cls := findClass_of_methodNamed B.named
  have hlocks := B.notSynchronized
  have hi_X11 : ∀ w ∈ u_ws RX11 TX11 46, w ∈ wsX11_judge := fun _ h => List.mem_cons_of_mem _ (List.mem_append_right _ (h))
  subst hsz
  have hS : va_S (fun _ : Nat => False) s.heap s.heap [] := va_S.rf
  have hl := lv_entry ([.ref h0]) (n := 2) (Nat.le_of_ble_eq_true rfl)
  rw [lg_entry_eq]
  generalize (lg_sl ([.ref h0]) ++ List.replicate (2 - (lg_sl ([.ref h0])).length) Slot.unset).toArray = ls at hl ⊢
  have hl : lv_has ls 2 [(0, .ref h0)] := hl
  refine lv_iconst (v := 0) hx hb dX11_judge_0 (by decide) ?_
  refine lv_istore_n (lv' := [(1, .int 0), (0, .ref h0)]) hx hb dX11_judge_1 rfl hl (by decide) rfl (fun ls hl => ?_)
  refine (fun (K : ∀ (d2 : Nat) (k2 : Nat) (H : Heap) (locs : List Loc) (ls : Array Slot), k2 + d2 = bk → (∀ i, i < k2 → jdA (fun i => fm10 (16 + i)) fm42 i = fm43 i) → va_P (dC, dI) vwCl [(h0, .inr (11, f_h0)), (m10, .inl (cI, 34, .inl fm10)), (m42, .inl (cI, 15, .inl fm42)), (m43, .inl (cI, 15, .inl fm43))] H → va_S (fun _ : Nat => False) s.heap H locs → lv_has ls 2 [(1, .int (nI k2)), (0, .ref h0)] → W p l e _ s m _ below meth c H locs _ _ _ (F0 m 2 ls [])) => K bk 0 _ _ _ (by omega) (fun i hi => absurd hi (by omega)) hP hS (lv_sub hl [0, 1] rfl)) ?_
  intro d2
  induction d2 with
  | zero =>
    intro k2 H locs ls hk2 hv2_0 hP hS hl
    refine lv_iload_n hx hb dX11_judge_2 rfl (lv_at hl 0 rfl) ?_
    refine lv_aload_n hx hb dX11_judge_3 rfl (lv_at hl 1 rfl) ?_
    refine va_get (D := (dC, dI)) (ci := 11) (v := .int (nI bk)) (C := RX11) (T := TX11) (N := 46) hx hb hts hi_X11 hown hK hP 0 rfl rfl 41 (by decide) (hts (.fieldLink RX11 171 "LeftQuillsModel" "booked" "I") (wmx 1 rfl)) (fun _ h9 => h9) e_h0_41 dX11_judge_4 ?_
    refine lv_icmp_ge (tgt := 41) hx hb dX11_judge_7 (by decide) (fun c1 => ?_) (fun c1 => ?_)
    ·
      have c1 : bk ≤ k2 := (nI_leI (a := bk) (b := k2) (by omega) (by omega)).mp c1
      refine lv_iconst (v := (-1)) hx hb dX11_judge_41 (by decide) ?_
      exact W.iret (v := (-1)) hx hb hr (fun t ht hW => ⟨⟨(-1), (fun _ => 0), rfl, (Or.inl ⟨rfl, fun i hi => hv2_0 i (by omega)⟩), trivial⟩, hS.F ht⟩) hS.2.2 dX11_judge_42
    ·
      have c1 : ¬ bk ≤ k2 := fun h => c1 ((nI_leI (a := bk) (b := k2) (by omega) (by omega)).mpr h)
      omega
  | succ d2 ih2 =>
    intro k2 H locs ls hk2 hv2_0 hP hS hl
    refine lv_iload_n hx hb dX11_judge_2 rfl (lv_at hl 0 rfl) ?_
    refine lv_aload_n hx hb dX11_judge_3 rfl (lv_at hl 1 rfl) ?_
    refine va_get (D := (dC, dI)) (ci := 11) (v := .int (nI bk)) (C := RX11) (T := TX11) (N := 46) hx hb hts hi_X11 hown hK hP 0 rfl rfl 41 (by decide) (hts (.fieldLink RX11 171 "LeftQuillsModel" "booked" "I") (wmx 1 rfl)) (fun _ h9 => h9) e_h0_41 dX11_judge_4 ?_
    refine lv_icmp_ge (tgt := 41) hx hb dX11_judge_7 (by decide) (fun c2 => ?_) (fun c2 => ?_)
    ·
      have c2 : bk ≤ k2 := (nI_leI (a := bk) (b := k2) (by omega) (by omega)).mp c2
      omega
    ·
      have c2 : ¬ bk ≤ k2 := fun h => c2 ((nI_leI (a := bk) (b := k2) (by omega) (by omega)).mpr h)
      refine lv_aload_n hx hb dX11_judge_10 rfl (lv_at hl 1 rfl) ?_
      refine va_get (D := (dC, dI)) (ci := 11) (v := .ref m10) (C := RX11) (T := TX11) (N := 46) hx hb hts hi_X11 hown hK hP 0 rfl rfl 10 (by decide) (hts (.fieldLink RX11 28 "LeftQuillsModel" "now" "[I") (wmx 2 rfl)) (fun _ h9 => h9) e_h0_10 dX11_judge_11 ?_
      refine lv_bipush (v := 16) hx hb dX11_judge_14 (by decide) ?_
      refine lv_aload_n hx hb dX11_judge_16 rfl (lv_at hl 1 rfl) ?_
      refine va_get (D := (dC, dI)) (ci := 11) (v := .ref m42) (C := RX11) (T := TX11) (N := 46) hx hb hts hi_X11 hown hK hP 0 rfl rfl 42 (by decide) (hts (.fieldLink RX11 83 "LeftQuillsModel" "bookQuill" "[I") (wmx 3 rfl)) (fun _ h9 => h9) e_h0_42 dX11_judge_17 ?_
      refine lv_iload_n hx hb dX11_judge_20 rfl (lv_at hl 0 rfl) ?_
      refine va_iald hx hb hK hP 2 0 rfl rfl (vp_in_nI (n := k2) (N := 15) (by omega) (by decide)) dX11_judge_21 ?_
      refine W.eq (g2 := F0 m 22 ls [.int (fm42 k2), .int 16, .ref m10]) (congrArg (fun y9 => F0 m 22 ls (.int (fm42 y9) :: [.int 16, .ref m10])) ((nI_clamp (n := k2) (by omega)))) ?_
      refine lv_topi (fun z3 ez3 => ?_)
      obtain ⟨j4, hj4, ejj4⟩ := hqi k2 (by omega)
      obtain rfl : z3 = nI j4 := ez3.trans (ejj4)
      refine lv_iadd hx hb dX11_judge_22 ?_
      refine lv_topi (fun z5 ez5 => ?_)
      obtain rfl : z5 = nI (16 + j4) := ez5.trans (nI_add 16 j4)
      refine va_iald hx hb hK hP 1 0 rfl rfl (vp_in_nI (n := 16 + j4) (N := 34) (by omega) (by decide)) dX11_judge_23 ?_
      refine W.eq (g2 := F0 m 24 ls [.int (fm10 (16 + j4))]) (congrArg (fun y9 => F0 m 24 ls (.int (fm10 y9) :: [])) ((nI_clamp (n := 16 + j4) (by omega)))) ?_
      refine lv_aload_n hx hb dX11_judge_24 rfl (lv_at hl 1 rfl) ?_
      refine va_get (D := (dC, dI)) (ci := 11) (v := .ref m43) (C := RX11) (T := TX11) (N := 46) hx hb hts hi_X11 hown hK hP 0 rfl rfl 43 (by decide) (hts (.fieldLink RX11 86 "LeftQuillsModel" "bookSoft" "[I") (wmx 4 rfl)) (fun _ h9 => h9) e_h0_43 dX11_judge_25 ?_
      refine lv_iload_n hx hb dX11_judge_28 rfl (lv_at hl 0 rfl) ?_
      refine va_iald hx hb hK hP 3 0 rfl rfl (vp_in_nI (n := k2) (N := 15) (by omega) (by decide)) dX11_judge_29 ?_
      refine W.eq (g2 := F0 m 30 ls [.int (fm43 k2), .int (fm10 (16 + j4))]) (congrArg (fun y9 => F0 m 30 ls (.int (fm43 y9) :: [.int (fm10 (16 + j4))])) ((nI_clamp (n := k2) (by omega)))) ?_
      refine lv_icmp_eq (tgt := 35) hx hb dX11_judge_30 (by decide) (fun c6 => ?_) (fun c6 => ?_)
      ·
        refine lv_iinc (v := nI (k2 + 1)) (lv' := [(1, .int (nI (k2 + 1))), (0, .ref h0)]) hx hb dX11_judge_35 hl (k := 0) rfl ((rfl : nI k2 + Int32.ofInt 1 = nI k2 + 1).trans (nI_add k2 1)) (by decide) rfl (fun ls hl => ?_)
        refine lv_goto (tgt := 2) hx hb dX11_judge_38 (by decide) ?_
        exact ih2 (k2 + 1) _ _ _ (by omega) (fw_step hv2_0 (jd_y ejj4 (by omega) c6)) hP hS (lv_sub hl [0, 1] rfl)
      ·
        refine lv_iload_n hx hb dX11_judge_33 rfl (lv_at hl 0 rfl) ?_
        exact W.iret (v := nI k2) hx hb hr (fun t ht hW => ⟨⟨nI k2, (fun _ => 0), rfl, (Or.inr ⟨_, by omega, rfl, hv2_0, jd_x ejj4 (by omega) c6⟩), trivial⟩, hS.F ht⟩) hS.2.2 dX11_judge_34
set_option maxHeartbeats 4000000 in
set_option maxRecDepth 100000 in
theorem c_X0_addD (l : Launch) (dC : Nat → ClassId) (dI : Nat → Nat → Nat) (cI cZ cQ : ClassId) (h0 : Nat) (n : Nat) (b1 : Nat) (b2 : Nat) (fb1 : Nat → Int32) (fb2 : Nat → Int32) (j : Nat) (a0 : Int32) (sz : Nat) (hn : n < 15) (hj : j < 8) (hqi : qIn fb1 n) : Met l yX0_add wsX0_add ({ frames := 0, cells := 0, slots := 0, locals := 40 }) (va_Pc [.ref h0, .int (nI j), .int a0] (fun U => U.heap.size = sz ∧ va_P (dC, dI) vwCl [(h0, .inr (0, [.int (nI n), .ref b1, .ref b2])), (b1, .inl (cI, 15, .inl fb1)), (b2, .inl (cI, 15, .inl fb2))] U.heap ∧ va_K (dC, dI) vwCl (tys0 cI cZ cQ) U ∧ va_D (fun _ => True) [(h0, .inr (0, [.int (nI n), .ref b1, .ref b2])), (b1, .inl (cI, 15, .inl fb1)), (b2, .inl (cI, 15, .inl fb2))])) (va_Qv (fun (u : Nat → Nat) => True) (fun (_ : Nat → Nat) (t : State) => ∃ (gg0 gg1 : Nat → Int32) (kk0 : Nat), kk0 ≤ 15 ∧ (qIn gg0 kk0) ∧ (gg0 = upd fb1 n (nI j)) ∧ (gg1 = upd fb2 n a0) ∧ (kk0 = n + 1) ∧ va_P (dC, dI) vwCl [(h0, .inr (0, [.int (nI kk0), .ref b1, .ref b2])), (b1, .inl (cI, 15, .inl gg0)), (b2, .inl (cI, 15, .inl gg1))] t.heap ∧ va_D (va_A [(h0, .inr (0, [.int (nI n), .ref b1, .ref b2])), (b1, .inl (cI, 15, .inl fb1)), (b2, .inl (cI, 15, .inl fb2))] sz) [(h0, .inr (0, [.int (nI kk0), .ref b1, .ref b2])), (b1, .inl (cI, 15, .inl gg0)), (b2, .inl (cI, 15, .inl gg1))]) (va_A [(h0, .inr (0, [.int (nI n), .ref b1, .ref b2])), (b1, .inl (cI, 15, .inl fb1)), (b2, .inl (cI, 15, .inl fb2))] sz)) 0 0 (va_A [(h0, .inr (0, [.int (nI n), .ref b1, .ref b2])), (b1, .inl (cI, 15, .inl fb1)), (b2, .inl (cI, 15, .inl fb2))] sz) := by
  refine Met.ofW (cc := cX0_add) (maxL := 3) (ret := none) (by decide) rfl ?_
  intro p e s m args below meth c s₁ B hml hv
  obtain ⟨rfl, hsz, hP, hK, hD0⟩ := hv
  have hx := B.exec
  have hb := B.bytes
  have hr := B.returns
  have hts := atoms_spec (ws := wsX0_add) B.pre
  have hown : s.vm.findClass RX0 = some m.cls := findClass_of_methodNamed B.named
  have hlocks := B.notSynchronized
  have hi_X0 : ∀ w ∈ u_ws RX0 TX0 3, w ∈ wsX0_add := fun _ h => List.mem_cons_of_mem _ (List.mem_append_right _ (h))
  subst hsz
  have hD := hD0.self (sz := s.heap.size)
  generalize hAe : va_A [(h0, .inr (0, [.int (nI n), .ref b1, .ref b2])), (b1, .inl (cI, 15, .inl fb1)), (b2, .inl (cI, 15, .inl fb2))] s.heap.size = A at hD ⊢
  have hA : ∀ q : Nat, s.heap.size ≤ q → A q := fun q h => by rw [← hAe]; exact Or.inr h
  have hS : va_S A s.heap s.heap [] := va_S.rf
  have hl := lv_entry ([.ref h0, .int (nI j), .int a0]) (n := 3) (Nat.le_of_ble_eq_true rfl)
  rw [lg_entry_eq]
  generalize (lg_sl ([.ref h0, .int (nI j), .int a0]) ++ List.replicate (3 - (lg_sl ([.ref h0, .int (nI j), .int a0])).length) Slot.unset).toArray = ls at hl ⊢
  have hl : lv_has ls 3 [(0, .ref h0), (1, .int (nI j)), (2, .int a0)] := hl
  refine lv_aload_n hx hb dX0_add_0 rfl (lv_at hl 0 rfl) ?_
  refine va_get (D := (dC, dI)) (ci := 0) (v := .int (nI n)) (C := RX0) (T := TX0) (N := 3) hx hb hts hi_X0 hown hK hP 0 rfl rfl 0 (by decide) (hts (.fieldLink RX0 9 "LeftQuills$Book" "count" "I") (wmx 1 rfl)) (fun _ h9 => h9) rfl dX0_add_1 ?_
  refine lv_bipush (v := 15) hx hb dX0_add_4 (by decide) ?_
  refine lv_icmp_lt (tgt := 10) hx hb dX0_add_6 (by decide) (fun c1 => ?_) (fun c1 => ?_)
  ·
    have c1 : n < 15 := (nI_ltI (a := n) (b := 15) (by omega) (by omega)).mp c1
    refine lv_aload_n hx hb dX0_add_10 rfl (lv_at hl 0 rfl) ?_
    refine va_get (D := (dC, dI)) (ci := 0) (v := .ref b1) (C := RX0) (T := TX0) (N := 3) hx hb hts hi_X0 hown hK hP 0 rfl rfl 1 (by decide) (hts (.fieldLink RX0 15 "LeftQuills$Book" "quill" "[I") (wmx 2 rfl)) (fun _ h9 => h9) rfl dX0_add_11 ?_
    refine lv_aload_n hx hb dX0_add_14 rfl (lv_at hl 0 rfl) ?_
    refine va_get (D := (dC, dI)) (ci := 0) (v := .int (nI n)) (C := RX0) (T := TX0) (N := 3) hx hb hts hi_X0 hown hK hP 0 rfl rfl 0 (by decide) (hts (.fieldLink RX0 9 "LeftQuills$Book" "count" "I") (wmx 1 rfl)) (fun _ h9 => h9) rfl dX0_add_15 ?_
    refine lv_iload_n hx hb dX0_add_18 rfl (lv_at hl 1 rfl) ?_
    refine va_iast hx hb hK hP hD hS 1 0 rfl rfl (vp_in_nI (n := n) (N := 15) (by omega) (by decide)) dX0_add_19 (fun H locs hP hD hS => ?_)
    have hcl := (nI_clamp (n := n) (by omega))
    rw [hcl] at hP hD
    clear hcl
    have hPD : pdW (dC, dI) vwCl A [(h0, .inr (0, [.int (nI n), .ref b1, .ref b2])), (b1, .inl (cI, 15, .inl (upd fb1 n (nI j)))), (b2, .inl (cI, 15, .inl fb2))] H := ⟨hP, hD⟩
    have hP := hPD.1
    have hD := hPD.2
    clear hPD
    refine lv_aload_n hx hb dX0_add_20 rfl (lv_at hl 0 rfl) ?_
    refine va_get (D := (dC, dI)) (ci := 0) (v := .ref b2) (C := RX0) (T := TX0) (N := 3) hx hb hts hi_X0 hown hK hP 0 rfl rfl 2 (by decide) (hts (.fieldLink RX0 19 "LeftQuills$Book" "softness" "[I") (wmx 3 rfl)) (fun _ h9 => h9) rfl dX0_add_21 ?_
    refine lv_aload_n hx hb dX0_add_24 rfl (lv_at hl 0 rfl) ?_
    refine va_get (D := (dC, dI)) (ci := 0) (v := .int (nI n)) (C := RX0) (T := TX0) (N := 3) hx hb hts hi_X0 hown hK hP 0 rfl rfl 0 (by decide) (hts (.fieldLink RX0 9 "LeftQuills$Book" "count" "I") (wmx 1 rfl)) (fun _ h9 => h9) rfl dX0_add_25 ?_
    refine lv_iload_n hx hb dX0_add_28 rfl (lv_at hl 2 rfl) ?_
    refine va_iast hx hb hK hP hD hS 2 0 rfl rfl (vp_in_nI (n := n) (N := 15) (by omega) (by decide)) dX0_add_29 (fun H locs hP hD hS => ?_)
    have hcl := (nI_clamp (n := n) (by omega))
    rw [hcl] at hP hD
    clear hcl
    have hPD : pdW (dC, dI) vwCl A [(h0, .inr (0, [.int (nI n), .ref b1, .ref b2])), (b1, .inl (cI, 15, .inl (upd fb1 n (nI j)))), (b2, .inl (cI, 15, .inl (upd fb2 n a0)))] H := ⟨hP, hD⟩
    have hP := hPD.1
    have hD := hPD.2
    clear hPD
    refine lv_aload_n hx hb dX0_add_30 rfl (lv_at hl 0 rfl) ?_
    refine lv_dup hx hb dX0_add_31 rfl ?_
    refine va_get (D := (dC, dI)) (ci := 0) (v := .int (nI n)) (C := RX0) (T := TX0) (N := 3) hx hb hts hi_X0 hown hK hP 0 rfl rfl 0 (by decide) (hts (.fieldLink RX0 9 "LeftQuills$Book" "count" "I") (wmx 1 rfl)) (fun _ h9 => h9) rfl dX0_add_32 ?_
    refine lv_iconst (v := 1) hx hb dX0_add_35 (by decide) ?_
    refine lv_iadd hx hb dX0_add_36 ?_
    refine lv_topi (fun z4 ez4 => ?_)
    obtain rfl : z4 = nI (n + 1) := ez4.trans (nI_add n 1)
    refine va_put (D := (dC, dI)) (ci := 0) (v := .int (nI (n + 1))) (ty := .int) (C := RX0) (T := TX0) (N := 3) hx hb hts hi_X0 tyX0 tyX0_ok nmX0 hown hK hP hD hS 0 rfl rfl 0 (by decide) (hts (.fieldLink RX0 9 "LeftQuills$Book" "count" "I") (wmx 1 rfl)) (fun _ h9 => h9) rfl (by decide +kernel) rfl rfl (Nat.le_of_ble_eq_true rfl) dX0_add_37 (fun H locs hP hD hS => ?_)
    have hPD : pdW (dC, dI) vwCl A [(h0, .inr (0, [.int (nI (n + 1)), .ref b1, .ref b2])), (b1, .inl (cI, 15, .inl (upd fb1 n (nI j)))), (b2, .inl (cI, 15, .inl (upd fb2 n a0)))] H := ⟨hP, hD⟩
    have hP := hPD.1
    have hD := hPD.2
    clear hPD
    have hP9 := hP.sub (ws' := [(h0, .inr (0, [.int (nI (n + 1)), .ref b1, .ref b2])), (b1, .inl (cI, 15, .inl (upd fb1 n (nI j)))), (b2, .inl (cI, 15, .inl (upd fb2 n a0)))]) [0, 1, 2] rfl
    have hD9 := hD.sub (ws' := [(h0, .inr (0, [.int (nI (n + 1)), .ref b1, .ref b2])), (b1, .inl (cI, 15, .inl (upd fb1 n (nI j)))), (b2, .inl (cI, 15, .inl (upd fb2 n a0)))]) [0, 1, 2] (by decide +kernel) rfl
    exact W.vret hx hb hr (fun t ht hW => ⟨⟨(fun _ => 0), rfl, trivial, ⟨(upd fb1 n (nI j)), (upd fb2 n a0), (n + 1), by omega, qIn_add hqi hj, rfl, rfl, rfl, va_hq ht hP9, hD9⟩⟩, hS.F ht⟩) hS.2.2 dX0_add_40
  ·
    have c1 : ¬ n < 15 := fun h => c1 ((nI_ltI (a := n) (b := 15) (by omega) (by omega)).mpr h)
    omega
set_option maxHeartbeats 4000000 in
set_option maxRecDepth 100000 in
theorem c_X10_noteD (l : Launch) (dC : Nat → ClassId) (dI : Nat → Nat → Nat) (cI cZ cQ : ClassId) (h0 : Nat) (x4 : Nat) (x13 : Nat) (f_h0 : List Value) (nq : Nat) (f_x4 : List Value) (n : Nat) (b1 : Nat) (b2 : Nat) (fb1 : Nat → Int32) (fb2 : Nat → Int32) (q0 : Int32) (q1 : Int32) (sz : Nat) (e_h0_4 : fAt f_h0 4 = some (.ref x4)) (e_h0_13 : fAt f_h0 13 = some (.ref x13)) (e_x4_3 : fAt f_x4 3 = some (.int (nI nq))) (hnq : nq ≤ 8) (hn : n ≤ 15) (hqi : qIn fb1 n) : Met l yX10_note wsX10_note ({ frames := 1, cells := 0, slots := 0, locals := 62 }) (va_Pc [.ref h0, .int q0, .int q1] (fun U => U.heap.size = sz ∧ va_P (dC, dI) vwCl [(h0, .inr (10, f_h0)), (x4, .inr (5, f_x4)), (x13, .inr (0, [.int (nI n), .ref b1, .ref b2])), (b1, .inl (cI, 15, .inl fb1)), (b2, .inl (cI, 15, .inl fb2))] U.heap ∧ va_K (dC, dI) vwCl (tys0 cI cZ cQ) U ∧ va_D (fun _ => True) [(h0, .inr (10, f_h0)), (x4, .inr (5, f_x4)), (x13, .inr (0, [.int (nI n), .ref b1, .ref b2])), (b1, .inl (cI, 15, .inl fb1)), (b2, .inl (cI, 15, .inl fb2))])) (va_Qi (fun (r : Int32) (u : Nat → Nat) => r = noteR q0 q1 nq n) (fun (_ : Nat → Nat) (t : State) => ∃ (gg0 gg1 : Nat → Int32) (kk0 : Nat), kk0 ≤ 15 ∧ (qIn gg0 kk0) ∧ (kk0 = noteN q0 q1 nq n) ∧ (gg0 = if ntP q0 q1 nq n then upd fb1 n q0 else fb1) ∧ (gg1 = if ntP q0 q1 nq n then upd fb2 n q1 else fb2) ∧ va_P (dC, dI) vwCl [(h0, .inr (10, f_h0)), (x4, .inr (5, f_x4)), (x13, .inr (0, [.int (nI kk0), .ref b1, .ref b2])), (b1, .inl (cI, 15, .inl gg0)), (b2, .inl (cI, 15, .inl gg1))] t.heap ∧ va_D (va_A [(h0, .inr (10, f_h0)), (x4, .inr (5, f_x4)), (x13, .inr (0, [.int (nI n), .ref b1, .ref b2])), (b1, .inl (cI, 15, .inl fb1)), (b2, .inl (cI, 15, .inl fb2))] sz) [(h0, .inr (10, f_h0)), (x4, .inr (5, f_x4)), (x13, .inr (0, [.int (nI kk0), .ref b1, .ref b2])), (b1, .inl (cI, 15, .inl gg0)), (b2, .inl (cI, 15, .inl gg1))]) (va_A [(h0, .inr (10, f_h0)), (x4, .inr (5, f_x4)), (x13, .inr (0, [.int (nI n), .ref b1, .ref b2])), (b1, .inl (cI, 15, .inl fb1)), (b2, .inl (cI, 15, .inl fb2))] sz)) 0 0 (va_A [(h0, .inr (10, f_h0)), (x4, .inr (5, f_x4)), (x13, .inr (0, [.int (nI n), .ref b1, .ref b2])), (b1, .inl (cI, 15, .inl fb1)), (b2, .inl (cI, 15, .inl fb2))] sz) := by
  refine Met.ofW (cc := cX10_note) (maxL := 3) (ret := (some .int)) (by decide) rfl ?_
  intro p e s m args below meth c s₁ B hml hv
  obtain ⟨rfl, hsz, hP, hK, hD0⟩ := hv
  have hx := B.exec
  have hb := B.bytes
  have hr := B.returns
  have hts := atoms_spec (ws := wsX10_note) B.pre
  have hown : s.vm.findClass RX10 = some m.cls := findClass_of_methodNamed B.named
  have hlocks := B.notSynchronized
  have hi_X0 : ∀ w ∈ u_ws RX0 TX0 3, w ∈ wsX10_note := fun _ h => List.mem_cons_of_mem _ (List.mem_append_left _ (List.mem_append_right _ (h)))
  have hi_X10 : ∀ w ∈ u_ws RX10 TX10 14, w ∈ wsX10_note := fun _ h => List.mem_cons_of_mem _ (List.mem_append_left _ (List.mem_append_left _ (List.mem_append_right _ (h))))
  subst hsz
  have hD := hD0.self (sz := s.heap.size)
  generalize hAe : va_A [(h0, .inr (10, f_h0)), (x4, .inr (5, f_x4)), (x13, .inr (0, [.int (nI n), .ref b1, .ref b2])), (b1, .inl (cI, 15, .inl fb1)), (b2, .inl (cI, 15, .inl fb2))] s.heap.size = A at hD ⊢
  have hA : ∀ q : Nat, s.heap.size ≤ q → A q := fun q h => by rw [← hAe]; exact Or.inr h
  have hS : va_S A s.heap s.heap [] := va_S.rf
  have hl := lv_entry ([.ref h0, .int q0, .int q1]) (n := 3) (Nat.le_of_ble_eq_true rfl)
  rw [lg_entry_eq]
  generalize (lg_sl ([.ref h0, .int q0, .int q1]) ++ List.replicate (3 - (lg_sl ([.ref h0, .int q0, .int q1])).length) Slot.unset).toArray = ls at hl ⊢
  have hl : lv_has ls 3 [(0, .ref h0), (1, .int q0), (2, .int q1)] := hl
  refine lv_aload_n hx hb dX10_note_0 rfl (lv_at hl 0 rfl) ?_
  refine lv_iload_n hx hb dX10_note_1 rfl (lv_at hl 1 rfl) ?_
  have hPc := hP.sub (ws' := [(h0, .inr (10, f_h0)), (x4, .inr (5, f_x4))]) [0, 1] rfl
  refine va_calli (va_runV (As := [.int q0]) (rest := []) ⟨hx, hb, hml, hown, hts⟩ (c_X10_isQuill l dC dI cI cZ cQ h0 x4 f_h0 (nI nq) f_x4 q0 s.heap.size e_h0_4 e_x4_3) (cwV 1 hts gX10_note_X10_isQuill rfl rfl rfl hd_X10_isQuill_RX10 ⟨Nat.le_of_ble_eq_true rfl, Nat.le_of_ble_eq_true rfl⟩) (pv_R (va_recv hK hP (ci := 10) (q0 := 0) rfl rfl) hK hPc) rfl rfl hl.1 rfl (lv_room (Nat.le_of_ble_eq_true rfl)) dX10_note_2 ⟨Nat.le_of_ble_eq_true rfl, Nat.le_of_ble_eq_true rfl⟩) hS (fun q _ h => False.elim h) (fun q h => False.elim h) (fun r1 u2 t H1 locs ht hvm hw3 hB hz1 hk1 hS => ?_)
  have hP := hP.kept (fun k q hk => hk1 q.1 (hP k q hk).lt (fun h => h))
  clear hz1 hk1 hPc
  generalize H1 = H at hP hS ht ⊢
  try dsimp only at hw3
  rcases hw3 with ⟨rfl, hw3⟩ | ⟨rfl, hw3⟩
  ·
    obtain ⟨j4, hj4, rfl⟩ := x_ix hw3 (by omega)
    refine lv_if_ne (tgt := 11) hx hb dX10_note_5 (by decide) (fun c5 => ?_) (fun c5 => ?_)
    rotate_left
    · exact absurd c5 (by decide)
    clear c5
    refine lv_iload_n hx hb dX10_note_11 rfl (lv_at hl 2 rfl) ?_
    refine lv_iconst (v := 0) hx hb dX10_note_12 (by decide) ?_
    refine lv_bipush (v := 99) hx hb dX10_note_13 (by decide) ?_
    have hPc := hP.sub (ws' := []) [] rfl
    refine va_calli (va_runS (As := [.int q1, .int 0, .int 99]) (rest := []) ⟨hx, hb, hml, hown, hts⟩ (c_X10_within l dC dI cI cZ cQ q1 0 99 H.size ) (va_cwS 3 hts gX10_note_X10_within rfl rfl rfl (by decide +kernel) ⟨Nat.le_of_ble_eq_true rfl, Nat.le_of_ble_eq_true rfl⟩) (ps_R hK hPc) rfl rfl hl.1 rfl (lv_room (Nat.le_of_ble_eq_true rfl)) dX10_note_15 ⟨Nat.le_of_ble_eq_true rfl, Nat.le_of_ble_eq_true rfl⟩) hS (fun q _ h => False.elim h) (fun q h => False.elim h) (fun r6 u7 t H1 locs ht hvm hw8 hB hz1 hk1 hS => ?_)
    have hP := hP.kept (fun k q hk => hk1 q.1 (hP k q hk).lt (fun h => h))
    clear hz1 hk1 hPc
    generalize H1 = H at hP hS ht ⊢
    try dsimp only at hw8
    rcases hw8 with ⟨rfl, hw8⟩ | ⟨rfl, hw8⟩
    ·
      refine lv_if_ne (tgt := 24) hx hb dX10_note_18 (by decide) (fun c9 => ?_) (fun c9 => ?_)
      rotate_left
      · exact absurd c9 (by decide)
      clear c9
      refine lv_aload_n hx hb dX10_note_24 rfl (lv_at hl 0 rfl) ?_
      refine va_get (D := (dC, dI)) (ci := 10) (v := .ref x13) (C := RX10) (T := TX10) (N := 14) hx hb hts hi_X10 hown hK hP 0 rfl rfl 13 (by decide) (hts (.fieldLink RX10 95 "LeftQuills" "book" "LLeftQuills$Book;") (wmx 3 rfl)) (fun _ h9 => h9) e_h0_13 dX10_note_25 ?_
      refine va_get (D := (dC, dI)) (ci := 0) (v := .int (nI n)) (C := RX0) (T := TX0) (N := 3) hx hb hts hi_X0 hown hK hP 2 rfl rfl 0 (by decide) (hts (.fieldLink RX10 126 "LeftQuills$Book" "count" "I") (wmx 4 rfl)) (fun _ h9 => h9) rfl dX10_note_28 ?_
      refine lv_bipush (v := 15) hx hb dX10_note_31 (by decide) ?_
      refine lv_icmp_lt (tgt := 39) hx hb dX10_note_33 (by decide) (fun c10 => ?_) (fun c10 => ?_)
      ·
        have c10 : n < 15 := (nI_ltI (a := n) (b := 15) (by omega) (by omega)).mp c10
        refine lv_aload_n hx hb dX10_note_39 rfl (lv_at hl 0 rfl) ?_
        refine va_get (D := (dC, dI)) (ci := 10) (v := .ref x13) (C := RX10) (T := TX10) (N := 14) hx hb hts hi_X10 hown hK hP 0 rfl rfl 13 (by decide) (hts (.fieldLink RX10 95 "LeftQuills" "book" "LLeftQuills$Book;") (wmx 3 rfl)) (fun _ h9 => h9) e_h0_13 dX10_note_40 ?_
        refine lv_iload_n hx hb dX10_note_43 rfl (lv_at hl 1 rfl) ?_
        refine lv_iload_n hx hb dX10_note_44 rfl (lv_at hl 2 rfl) ?_
        have hc9 := va_cut (W' := [(x13, .inr (0, [.int (nI n), .ref b1, .ref b2])), (b1, .inl (cI, 15, .inl fb1)), (b2, .inl (cI, 15, .inl fb2))]) hP hD hS hA [2, 3, 4] (by decide) rfl
        have hPc := hc9.1
        have hDc := hc9.2.1
        have hFc := hc9.2.2
        clear hc9
        refine va_callv (va_runV (As := [.int (nI j4), .int q1]) (rest := []) ⟨hx, hb, hml, hown, hts⟩ (c_X0_addD l dC dI cI cZ cQ x13 n b1 b2 fb1 fb2 j4 q1 H.size (by omega) (by omega) (by first | assumption | decide)) (cwV 2 hts gX10_note_X0_add rfl rfl rfl hd_X0_add_RX0 ⟨Nat.le_of_ble_eq_true rfl, Nat.le_of_ble_eq_true rfl⟩) (pv_D (va_recv hK hP (ci := 0) (q0 := 2) rfl rfl) hK hPc hDc) rfl rfl hl.1 rfl (lv_room (Nat.le_of_ble_eq_true rfl)) dX10_note_45 ⟨Nat.le_of_ble_eq_true rfl, Nat.le_of_ble_eq_true rfl⟩) hS (fun q _ h => hFc q h) hFc (fun u12 t H1 locs ht hvm hw13 hB hz1 hk1 hS => ?_)
        obtain ⟨f14, f15, k16, hk16, he17, he18, he19, he20, hP1, hD1⟩ := hB
        replace hP1 := va_hp ht hP1
        obtain ⟨hP, hD⟩ := va_join (wr := [(h0, .inr (10, f_h0)), (x4, .inr (5, f_x4))]) (w1 := [(x13, .inr (0, [.int (nI k16), .ref b1, .ref b2])), (b1, .inl (cI, 15, .inl f14)), (b2, .inl (cI, 15, .inl f15))]) hP hD [2, 3, 4] [0, 1] rfl rfl (by decide +kernel) (by decide +kernel) hk1 hFc hP1 hD1
        clear hP1 hD1
        clear hz1 hk1 hPc hDc hFc
        generalize H1 = H at hP hS ht ⊢
        have hPD : pdW (dC, dI) vwCl A [(h0, .inr (10, f_h0)), (x4, .inr (5, f_x4)), (x13, .inr (0, [.int (nI k16), .ref b1, .ref b2])), (b1, .inl (cI, 15, .inl f14)), (b2, .inl (cI, 15, .inl f15))] H := ⟨hP, hD⟩
        have hP := hPD.1
        have hD := hPD.2
        clear hPD
        try dsimp only at hw13
        subst he20
        have hPD : pdW (dC, dI) vwCl A [(h0, .inr (10, f_h0)), (x4, .inr (5, f_x4)), (x13, .inr (0, [.int (nI (n + 1)), .ref b1, .ref b2])), (b1, .inl (cI, 15, .inl f14)), (b2, .inl (cI, 15, .inl f15))] H := ⟨hP, hD⟩
        have hP := hPD.1
        have hD := hPD.2
        clear hPD
        refine lv_aload_n hx hb dX10_note_48 rfl (lv_at hl 0 rfl) ?_
        refine va_get (D := (dC, dI)) (ci := 10) (v := .ref x13) (C := RX10) (T := TX10) (N := 14) hx hb hts hi_X10 hown hK hP 0 rfl rfl 13 (by decide) (hts (.fieldLink RX10 95 "LeftQuills" "book" "LLeftQuills$Book;") (wmx 3 rfl)) (fun _ h9 => h9) e_h0_13 dX10_note_49 ?_
        refine va_get (D := (dC, dI)) (ci := 0) (v := .int (nI (n + 1))) (C := RX0) (T := TX0) (N := 3) hx hb hts hi_X0 hown hK hP 2 rfl rfl 0 (by decide) (hts (.fieldLink RX10 126 "LeftQuills$Book" "count" "I") (wmx 4 rfl)) (fun _ h9 => h9) rfl dX10_note_52 ?_
        have hP9 := hP.sub (ws' := [(h0, .inr (10, f_h0)), (x4, .inr (5, f_x4)), (x13, .inr (0, [.int (nI (n + 1)), .ref b1, .ref b2])), (b1, .inl (cI, 15, .inl f14)), (b2, .inl (cI, 15, .inl f15))]) [0, 1, 2, 3, 4] rfl
        have hD9 := hD.sub (ws' := [(h0, .inr (10, f_h0)), (x4, .inr (5, f_x4)), (x13, .inr (0, [.int (nI (n + 1)), .ref b1, .ref b2])), (b1, .inl (cI, 15, .inl f14)), (b2, .inl (cI, 15, .inl f15))]) [0, 1, 2, 3, 4] (by decide +kernel) rfl
        exact W.iret (v := nI (n + 1)) hx hb hr (fun t ht hW => ⟨⟨nI (n + 1), (fun _ => 0), rfl, (by unfold noteR; rw [if_pos hw3, if_pos hw8, if_pos (by omega)]), ⟨f14, f15, (n + 1), by omega, he17, (by unfold noteN; rw [if_pos hw3, if_pos hw8, if_pos (by omega)]), (he18.trans (if_pos ⟨hw3, hw8, by omega⟩).symm), (he19.trans (if_pos ⟨hw3, hw8, by omega⟩).symm), va_hq ht hP9, hD9⟩⟩, hS.F ht⟩) hS.2.2 dX10_note_55
      ·
        have c10 : ¬ n < 15 := fun h => c10 ((nI_ltI (a := n) (b := 15) (by omega) (by omega)).mpr h)
        refine lv_ldc (v := (-1000000004)) hx hb hown (hts (.constant RX10 104 (-1000000004)) (wmx 5 rfl)) dX10_note_36 ?_
        have hP9 := hP.sub (ws' := [(h0, .inr (10, f_h0)), (x4, .inr (5, f_x4)), (x13, .inr (0, [.int (nI n), .ref b1, .ref b2])), (b1, .inl (cI, 15, .inl fb1)), (b2, .inl (cI, 15, .inl fb2))]) [0, 1, 2, 3, 4] rfl
        have hD9 := hD.sub (ws' := [(h0, .inr (10, f_h0)), (x4, .inr (5, f_x4)), (x13, .inr (0, [.int (nI n), .ref b1, .ref b2])), (b1, .inl (cI, 15, .inl fb1)), (b2, .inl (cI, 15, .inl fb2))]) [0, 1, 2, 3, 4] (by decide +kernel) rfl
        exact W.iret (v := (-1000000004)) hx hb hr (fun t ht hW => ⟨⟨(-1000000004), (fun _ => 0), rfl, (by unfold noteR; rw [if_pos hw3, if_pos hw8, if_neg (by omega)]), ⟨fb1, fb2, n, by omega, hqi, (by unfold noteN; rw [if_pos hw3, if_pos hw8, if_neg (by omega)]), ((if_neg (fun h9 => by have h8 := h9.2.2; omega)).symm), ((if_neg (fun h9 => by have h8 := h9.2.2; omega)).symm), va_hq ht hP9, hD9⟩⟩, hS.F ht⟩) hS.2.2 dX10_note_38
    ·
      refine lv_if_ne (tgt := 24) hx hb dX10_note_18 (by decide) (fun c21 => ?_) (fun c21 => ?_)
      · exact absurd c21 (by decide)
      clear c21
      refine lv_ldc (v := (-1000000002)) hx hb hown (hts (.constant RX10 103 (-1000000002)) (wmx 2 rfl)) dX10_note_21 ?_
      have hP9 := hP.sub (ws' := [(h0, .inr (10, f_h0)), (x4, .inr (5, f_x4)), (x13, .inr (0, [.int (nI n), .ref b1, .ref b2])), (b1, .inl (cI, 15, .inl fb1)), (b2, .inl (cI, 15, .inl fb2))]) [0, 1, 2, 3, 4] rfl
      have hD9 := hD.sub (ws' := [(h0, .inr (10, f_h0)), (x4, .inr (5, f_x4)), (x13, .inr (0, [.int (nI n), .ref b1, .ref b2])), (b1, .inl (cI, 15, .inl fb1)), (b2, .inl (cI, 15, .inl fb2))]) [0, 1, 2, 3, 4] (by decide +kernel) rfl
      exact W.iret (v := (-1000000002)) hx hb hr (fun t ht hW => ⟨⟨(-1000000002), (fun _ => 0), rfl, (by unfold noteR; rw [if_pos hw3, if_neg hw8]), ⟨fb1, fb2, n, by omega, hqi, (by unfold noteN; rw [if_pos hw3, if_neg hw8]), ((if_neg (fun h9 => hw8 h9.2.1)).symm), ((if_neg (fun h9 => hw8 h9.2.1)).symm), va_hq ht hP9, hD9⟩⟩, hS.F ht⟩) hS.2.2 dX10_note_23
  ·
    refine lv_if_ne (tgt := 11) hx hb dX10_note_5 (by decide) (fun c22 => ?_) (fun c22 => ?_)
    · exact absurd c22 (by decide)
    clear c22
    refine lv_ldc (v := (-1000000001)) hx hb hown (hts (.constant RX10 160 (-1000000001)) (wmx 1 rfl)) dX10_note_8 ?_
    have hP9 := hP.sub (ws' := [(h0, .inr (10, f_h0)), (x4, .inr (5, f_x4)), (x13, .inr (0, [.int (nI n), .ref b1, .ref b2])), (b1, .inl (cI, 15, .inl fb1)), (b2, .inl (cI, 15, .inl fb2))]) [0, 1, 2, 3, 4] rfl
    have hD9 := hD.sub (ws' := [(h0, .inr (10, f_h0)), (x4, .inr (5, f_x4)), (x13, .inr (0, [.int (nI n), .ref b1, .ref b2])), (b1, .inl (cI, 15, .inl fb1)), (b2, .inl (cI, 15, .inl fb2))]) [0, 1, 2, 3, 4] (by decide +kernel) rfl
    exact W.iret (v := (-1000000001)) hx hb hr (fun t ht hW => ⟨⟨(-1000000001), (fun _ => 0), rfl, (by unfold noteR; rw [if_neg hw3]), ⟨fb1, fb2, n, by omega, hqi, (by unfold noteN; rw [if_neg hw3]), ((if_neg (fun h9 => hw3 h9.1)).symm), ((if_neg (fun h9 => hw3 h9.1)).symm), va_hq ht hP9, hD9⟩⟩, hS.F ht⟩) hS.2.2 dX10_note_10
set_option maxHeartbeats 4000000 in
set_option maxRecDepth 100000 in
theorem c_X11_noteD (l : Launch) (dC : Nat → ClassId) (dI : Nat → Nat → Nat) (cI cZ cQ : ClassId) (h0 : Nat) (n0 : Int32) (n1 : Int32) (nq : Nat) (m3 : Nat) (m4 : Nat) (m5 : Nat) (nh : Nat) (m7 : Nat) (m8 : Nat) (m9 : Nat) (m10 : Nat) (sd : Nat) (m12 : Nat) (tx : Nat) (n14 : Int32) (at9 : Nat) (n16 : Int32) (n17 : Int32) (m18 : Nat) (rq : Nat) (m20 : Nat) (m21 : Nat) (m22 : Nat) (m23 : Nat) (m24 : Nat) (rh : Nat) (m26 : Nat) (m27 : Nat) (m28 : Nat) (un : Nat) (m30 : Nat) (n31 : Int32) (n32 : Int32) (m33 : Nat) (n34 : Int32) (n35 : Int32) (m36 : Nat) (wm : Nat) (m38 : Nat) (m39 : Nat) (m40 : Nat) (bk : Nat) (m42 : Nat) (m43 : Nat) (m44 : Nat) (m45 : Nat) (fm42 : Nat → Int32) (fm43 : Nat → Int32) (q0 : Int32) (q1 : Int32) (sz : Nat) (hnq : nq ≤ 8) (hbk : bk ≤ 15) (hqi : qIn fm42 bk) : Met l yX11_note wsX11_note ({ frames := 2, cells := 0, slots := 0, locals := 86 }) (va_Pc [.ref h0, .int q0, .int q1] (fun U => U.heap.size = sz ∧ va_P (dC, dI) vwCl [(h0, .inr (11, (.int n0 :: .int n1 :: .int (nI nq) :: .ref m3 :: .ref m4 :: .ref m5 :: .int (nI nh) :: .ref m7 :: .ref m8 :: .ref m9 :: .ref m10 :: .int (nI sd) :: .ref m12 :: .int (nI tx) :: .int n14 :: .int (nI at9) :: .int n16 :: .int n17 :: .ref m18 :: .int (nI rq) :: .ref m20 :: .ref m21 :: .ref m22 :: .ref m23 :: .ref m24 :: .int (nI rh) :: .ref m26 :: .ref m27 :: .ref m28 :: .int (nI un) :: .ref m30 :: .int n31 :: .int n32 :: .ref m33 :: .int n34 :: .int n35 :: .ref m36 :: .int (nI wm) :: .ref m38 :: .ref m39 :: .ref m40 :: .int (nI bk) :: .ref m42 :: .ref m43 :: .ref m44 :: .ref m45 :: []))), (m42, .inl (cI, 15, .inl fm42)), (m43, .inl (cI, 15, .inl fm43))] U.heap ∧ va_K (dC, dI) vwCl (tys0 cI cZ cQ) U ∧ va_D (fun _ => True) [(h0, .inr (11, (.int n0 :: .int n1 :: .int (nI nq) :: .ref m3 :: .ref m4 :: .ref m5 :: .int (nI nh) :: .ref m7 :: .ref m8 :: .ref m9 :: .ref m10 :: .int (nI sd) :: .ref m12 :: .int (nI tx) :: .int n14 :: .int (nI at9) :: .int n16 :: .int n17 :: .ref m18 :: .int (nI rq) :: .ref m20 :: .ref m21 :: .ref m22 :: .ref m23 :: .ref m24 :: .int (nI rh) :: .ref m26 :: .ref m27 :: .ref m28 :: .int (nI un) :: .ref m30 :: .int n31 :: .int n32 :: .ref m33 :: .int n34 :: .int n35 :: .ref m36 :: .int (nI wm) :: .ref m38 :: .ref m39 :: .ref m40 :: .int (nI bk) :: .ref m42 :: .ref m43 :: .ref m44 :: .ref m45 :: []))), (m42, .inl (cI, 15, .inl fm42)), (m43, .inl (cI, 15, .inl fm43))])) (va_Qi (fun (r : Int32) (u : Nat → Nat) => r = noteR q0 q1 nq bk) (fun (_ : Nat → Nat) (t : State) => ∃ (gg0 gg1 : Nat → Int32) (kk0 : Nat), kk0 ≤ 15 ∧ (qIn gg0 kk0) ∧ (kk0 = noteN q0 q1 nq bk) ∧ (gg0 = if ntP q0 q1 nq bk then upd fm42 bk q0 else fm42) ∧ (gg1 = if ntP q0 q1 nq bk then upd fm43 bk q1 else fm43) ∧ va_P (dC, dI) vwCl [(h0, .inr (11, (.int n0 :: .int n1 :: .int (nI nq) :: .ref m3 :: .ref m4 :: .ref m5 :: .int (nI nh) :: .ref m7 :: .ref m8 :: .ref m9 :: .ref m10 :: .int (nI sd) :: .ref m12 :: .int (nI tx) :: .int n14 :: .int (nI at9) :: .int n16 :: .int n17 :: .ref m18 :: .int (nI rq) :: .ref m20 :: .ref m21 :: .ref m22 :: .ref m23 :: .ref m24 :: .int (nI rh) :: .ref m26 :: .ref m27 :: .ref m28 :: .int (nI un) :: .ref m30 :: .int n31 :: .int n32 :: .ref m33 :: .int n34 :: .int n35 :: .ref m36 :: .int (nI wm) :: .ref m38 :: .ref m39 :: .ref m40 :: .int (nI kk0) :: .ref m42 :: .ref m43 :: .ref m44 :: .ref m45 :: []))), (m42, .inl (cI, 15, .inl gg0)), (m43, .inl (cI, 15, .inl gg1))] t.heap ∧ va_D (va_A [(h0, .inr (11, (.int n0 :: .int n1 :: .int (nI nq) :: .ref m3 :: .ref m4 :: .ref m5 :: .int (nI nh) :: .ref m7 :: .ref m8 :: .ref m9 :: .ref m10 :: .int (nI sd) :: .ref m12 :: .int (nI tx) :: .int n14 :: .int (nI at9) :: .int n16 :: .int n17 :: .ref m18 :: .int (nI rq) :: .ref m20 :: .ref m21 :: .ref m22 :: .ref m23 :: .ref m24 :: .int (nI rh) :: .ref m26 :: .ref m27 :: .ref m28 :: .int (nI un) :: .ref m30 :: .int n31 :: .int n32 :: .ref m33 :: .int n34 :: .int n35 :: .ref m36 :: .int (nI wm) :: .ref m38 :: .ref m39 :: .ref m40 :: .int (nI bk) :: .ref m42 :: .ref m43 :: .ref m44 :: .ref m45 :: []))), (m42, .inl (cI, 15, .inl fm42)), (m43, .inl (cI, 15, .inl fm43))] sz) [(h0, .inr (11, (.int n0 :: .int n1 :: .int (nI nq) :: .ref m3 :: .ref m4 :: .ref m5 :: .int (nI nh) :: .ref m7 :: .ref m8 :: .ref m9 :: .ref m10 :: .int (nI sd) :: .ref m12 :: .int (nI tx) :: .int n14 :: .int (nI at9) :: .int n16 :: .int n17 :: .ref m18 :: .int (nI rq) :: .ref m20 :: .ref m21 :: .ref m22 :: .ref m23 :: .ref m24 :: .int (nI rh) :: .ref m26 :: .ref m27 :: .ref m28 :: .int (nI un) :: .ref m30 :: .int n31 :: .int n32 :: .ref m33 :: .int n34 :: .int n35 :: .ref m36 :: .int (nI wm) :: .ref m38 :: .ref m39 :: .ref m40 :: .int (nI kk0) :: .ref m42 :: .ref m43 :: .ref m44 :: .ref m45 :: []))), (m42, .inl (cI, 15, .inl gg0)), (m43, .inl (cI, 15, .inl gg1))]) (va_A [(h0, .inr (11, (.int n0 :: .int n1 :: .int (nI nq) :: .ref m3 :: .ref m4 :: .ref m5 :: .int (nI nh) :: .ref m7 :: .ref m8 :: .ref m9 :: .ref m10 :: .int (nI sd) :: .ref m12 :: .int (nI tx) :: .int n14 :: .int (nI at9) :: .int n16 :: .int n17 :: .ref m18 :: .int (nI rq) :: .ref m20 :: .ref m21 :: .ref m22 :: .ref m23 :: .ref m24 :: .int (nI rh) :: .ref m26 :: .ref m27 :: .ref m28 :: .int (nI un) :: .ref m30 :: .int n31 :: .int n32 :: .ref m33 :: .int n34 :: .int n35 :: .ref m36 :: .int (nI wm) :: .ref m38 :: .ref m39 :: .ref m40 :: .int (nI bk) :: .ref m42 :: .ref m43 :: .ref m44 :: .ref m45 :: []))), (m42, .inl (cI, 15, .inl fm42)), (m43, .inl (cI, 15, .inl fm43))] sz)) 0 0 (va_A [(h0, .inr (11, (.int n0 :: .int n1 :: .int (nI nq) :: .ref m3 :: .ref m4 :: .ref m5 :: .int (nI nh) :: .ref m7 :: .ref m8 :: .ref m9 :: .ref m10 :: .int (nI sd) :: .ref m12 :: .int (nI tx) :: .int n14 :: .int (nI at9) :: .int n16 :: .int n17 :: .ref m18 :: .int (nI rq) :: .ref m20 :: .ref m21 :: .ref m22 :: .ref m23 :: .ref m24 :: .int (nI rh) :: .ref m26 :: .ref m27 :: .ref m28 :: .int (nI un) :: .ref m30 :: .int n31 :: .int n32 :: .ref m33 :: .int n34 :: .int n35 :: .ref m36 :: .int (nI wm) :: .ref m38 :: .ref m39 :: .ref m40 :: .int (nI bk) :: .ref m42 :: .ref m43 :: .ref m44 :: .ref m45 :: []))), (m42, .inl (cI, 15, .inl fm42)), (m43, .inl (cI, 15, .inl fm43))] sz) := by
  refine Met.ofW (cc := cX11_note) (maxL := 3) (ret := (some .int)) (by decide) rfl ?_
  intro p e s m args below meth c s₁ B hml hv
  obtain ⟨rfl, hsz, hP, hK, hD0⟩ := hv
  have hx := B.exec
  have hb := B.bytes
  have hr := B.returns
  have hts := atoms_spec (ws := wsX11_note) B.pre
  have hown : s.vm.findClass RX11 = some m.cls := findClass_of_methodNamed B.named
  have hlocks := B.notSynchronized
  have hi_X11 : ∀ w ∈ u_ws RX11 TX11 46, w ∈ wsX11_note := fun _ h => List.mem_cons_of_mem _ (List.mem_append_right _ (h))
  subst hsz
  have hD := hD0.self (sz := s.heap.size)
  generalize hAe : va_A [(h0, .inr (11, (.int n0 :: .int n1 :: .int (nI nq) :: .ref m3 :: .ref m4 :: .ref m5 :: .int (nI nh) :: .ref m7 :: .ref m8 :: .ref m9 :: .ref m10 :: .int (nI sd) :: .ref m12 :: .int (nI tx) :: .int n14 :: .int (nI at9) :: .int n16 :: .int n17 :: .ref m18 :: .int (nI rq) :: .ref m20 :: .ref m21 :: .ref m22 :: .ref m23 :: .ref m24 :: .int (nI rh) :: .ref m26 :: .ref m27 :: .ref m28 :: .int (nI un) :: .ref m30 :: .int n31 :: .int n32 :: .ref m33 :: .int n34 :: .int n35 :: .ref m36 :: .int (nI wm) :: .ref m38 :: .ref m39 :: .ref m40 :: .int (nI bk) :: .ref m42 :: .ref m43 :: .ref m44 :: .ref m45 :: []))), (m42, .inl (cI, 15, .inl fm42)), (m43, .inl (cI, 15, .inl fm43))] s.heap.size = A at hD ⊢
  have hA : ∀ q : Nat, s.heap.size ≤ q → A q := fun q h => by rw [← hAe]; exact Or.inr h
  have hS : va_S A s.heap s.heap [] := va_S.rf
  have hl := lv_entry ([.ref h0, .int q0, .int q1]) (n := 3) (Nat.le_of_ble_eq_true rfl)
  rw [lg_entry_eq]
  generalize (lg_sl ([.ref h0, .int q0, .int q1]) ++ List.replicate (3 - (lg_sl ([.ref h0, .int q0, .int q1])).length) Slot.unset).toArray = ls at hl ⊢
  have hl : lv_has ls 3 [(0, .ref h0), (1, .int q0), (2, .int q1)] := hl
  refine lv_aload_n hx hb dX11_note_0 rfl (lv_at hl 0 rfl) ?_
  refine lv_iload_n hx hb dX11_note_1 rfl (lv_at hl 1 rfl) ?_
  have hPc := hP.sub (ws' := [(h0, .inr (11, (.int n0 :: .int n1 :: .int (nI nq) :: .ref m3 :: .ref m4 :: .ref m5 :: .int (nI nh) :: .ref m7 :: .ref m8 :: .ref m9 :: .ref m10 :: .int (nI sd) :: .ref m12 :: .int (nI tx) :: .int n14 :: .int (nI at9) :: .int n16 :: .int n17 :: .ref m18 :: .int (nI rq) :: .ref m20 :: .ref m21 :: .ref m22 :: .ref m23 :: .ref m24 :: .int (nI rh) :: .ref m26 :: .ref m27 :: .ref m28 :: .int (nI un) :: .ref m30 :: .int n31 :: .int n32 :: .ref m33 :: .int n34 :: .int n35 :: .ref m36 :: .int (nI wm) :: .ref m38 :: .ref m39 :: .ref m40 :: .int (nI bk) :: .ref m42 :: .ref m43 :: .ref m44 :: .ref m45 :: [])))]) [0] rfl
  refine va_calli (va_runV (As := [.int q0]) (rest := []) ⟨hx, hb, hml, hown, hts⟩ (c_X11_isQuill l dC dI cI cZ cQ h0 (nI nq) ((.int n0 :: .int n1 :: .int (nI nq) :: .ref m3 :: .ref m4 :: .ref m5 :: .int (nI nh) :: .ref m7 :: .ref m8 :: .ref m9 :: .ref m10 :: .int (nI sd) :: .ref m12 :: .int (nI tx) :: .int n14 :: .int (nI at9) :: .int n16 :: .int n17 :: .ref m18 :: .int (nI rq) :: .ref m20 :: .ref m21 :: .ref m22 :: .ref m23 :: .ref m24 :: .int (nI rh) :: .ref m26 :: .ref m27 :: .ref m28 :: .int (nI un) :: .ref m30 :: .int n31 :: .int n32 :: .ref m33 :: .int n34 :: .int n35 :: .ref m36 :: .int (nI wm) :: .ref m38 :: .ref m39 :: .ref m40 :: .int (nI bk) :: .ref m42 :: .ref m43 :: .ref m44 :: .ref m45 :: [])) q0 s.heap.size rfl (nI_pos' (n := nq) (by omega))) (cwV 1 hts gX11_note_X11_isQuill rfl rfl rfl hd_X11_isQuill_RX11 ⟨Nat.le_of_ble_eq_true rfl, Nat.le_of_ble_eq_true rfl⟩) (pv_R (va_recv hK hP (ci := 11) (q0 := 0) rfl rfl) hK hPc) rfl rfl hl.1 rfl (lv_room (Nat.le_of_ble_eq_true rfl)) dX11_note_2 ⟨Nat.le_of_ble_eq_true rfl, Nat.le_of_ble_eq_true rfl⟩) hS (fun q _ h => False.elim h) (fun q h => False.elim h) (fun r1 u2 t H1 locs ht hvm hw3 hB hz1 hk1 hS => ?_)
  have hP := hP.kept (fun k q hk => hk1 q.1 (hP k q hk).lt (fun h => h))
  clear hz1 hk1 hPc
  generalize H1 = H at hP hS ht ⊢
  try dsimp only at hw3
  rcases hw3 with ⟨rfl, hw3⟩ | ⟨rfl, hw3⟩
  ·
    obtain ⟨j4, hj4, rfl⟩ := x_ix hw3 (by omega)
    refine lv_if_ne (tgt := 11) hx hb dX11_note_5 (by decide) (fun c5 => ?_) (fun c5 => ?_)
    rotate_left
    · exact absurd c5 (by decide)
    clear c5
    refine lv_iload_n hx hb dX11_note_11 rfl (lv_at hl 2 rfl) ?_
    refine lv_i2l hx hb dX11_note_12 rfl ?_
    refine lv_lconst (v := 0) hx hb dX11_note_13 (by decide) ?_
    refine lv_topl (fun z6 ez6 => ?_)
    obtain rfl : z6 = (0 : Int32).toInt64 := ez6.trans (by decide)
    refine lv_ldc2 (v := 99) hx hb hown (hts (.constantLong RX11 313 99) (wmx 2 rfl)) dX11_note_14 ?_
    refine lv_topl (fun z7 ez7 => ?_)
    obtain rfl : z7 = (99 : Int32).toInt64 := ez7.trans (by decide)
    have hPc := hP.sub (ws' := []) [] rfl
    refine va_calli (va_runS (As := [.long q1.toInt64, .long ((0 : Int32).toInt64), .long ((99 : Int32).toInt64)]) (rest := []) ⟨hx, hb, hml, hown, hts⟩ (c_X11_in l dC dI cI cZ cQ q1 0 99 H.size ) (va_cwS 3 hts gX11_note_X11_in rfl rfl rfl (by decide +kernel) ⟨Nat.le_of_ble_eq_true rfl, Nat.le_of_ble_eq_true rfl⟩) (ps_R hK hPc) rfl rfl hl.1 rfl (lv_room (Nat.le_of_ble_eq_true rfl)) dX11_note_17 ⟨Nat.le_of_ble_eq_true rfl, Nat.le_of_ble_eq_true rfl⟩) hS (fun q _ h => False.elim h) (fun q h => False.elim h) (fun r8 u9 t H1 locs ht hvm hw10 hB hz1 hk1 hS => ?_)
    have hP := hP.kept (fun k q hk => hk1 q.1 (hP k q hk).lt (fun h => h))
    clear hz1 hk1 hPc
    generalize H1 = H at hP hS ht ⊢
    try dsimp only at hw10
    rcases hw10 with ⟨rfl, hw10⟩ | ⟨rfl, hw10⟩
    ·
      refine lv_if_ne (tgt := 26) hx hb dX11_note_20 (by decide) (fun c11 => ?_) (fun c11 => ?_)
      rotate_left
      · exact absurd c11 (by decide)
      clear c11
      refine lv_aload_n hx hb dX11_note_26 rfl (lv_at hl 0 rfl) ?_
      refine va_get (D := (dC, dI)) (ci := 11) (v := .int (nI bk)) (C := RX11) (T := TX11) (N := 46) hx hb hts hi_X11 hown hK hP 0 rfl rfl 41 (by decide) (hts (.fieldLink RX11 171 "LeftQuillsModel" "booked" "I") (wmx 4 rfl)) (fun _ h9 => h9) rfl dX11_note_27 ?_
      refine lv_bipush (v := 15) hx hb dX11_note_30 (by decide) ?_
      refine lv_icmp_ne (tgt := 38) hx hb dX11_note_32 (by decide) (fun c12 => ?_) (fun c12 => ?_)
      ·
        have c12 : ¬ bk = 15 := fun h => c12 ((nI_eq (a := bk) (b := 15) (by omega) (by omega)).mpr h)
        refine lv_aload_n hx hb dX11_note_38 rfl (lv_at hl 0 rfl) ?_
        refine va_get (D := (dC, dI)) (ci := 11) (v := .ref m42) (C := RX11) (T := TX11) (N := 46) hx hb hts hi_X11 hown hK hP 0 rfl rfl 42 (by decide) (hts (.fieldLink RX11 83 "LeftQuillsModel" "bookQuill" "[I") (wmx 6 rfl)) (fun _ h9 => h9) rfl dX11_note_39 ?_
        refine lv_aload_n hx hb dX11_note_42 rfl (lv_at hl 0 rfl) ?_
        refine va_get (D := (dC, dI)) (ci := 11) (v := .int (nI bk)) (C := RX11) (T := TX11) (N := 46) hx hb hts hi_X11 hown hK hP 0 rfl rfl 41 (by decide) (hts (.fieldLink RX11 171 "LeftQuillsModel" "booked" "I") (wmx 4 rfl)) (fun _ h9 => h9) rfl dX11_note_43 ?_
        refine lv_iload_n hx hb dX11_note_46 rfl (lv_at hl 1 rfl) ?_
        refine va_iast hx hb hK hP hD hS 1 0 rfl rfl (vp_in_nI (n := bk) (N := 15) (by omega) (by decide)) dX11_note_47 (fun H locs hP hD hS => ?_)
        have hcl := (nI_clamp (n := bk) (by omega))
        rw [hcl] at hP hD
        clear hcl
        have hPD : pdW (dC, dI) vwCl A [(h0, .inr (11, (.int n0 :: .int n1 :: .int (nI nq) :: .ref m3 :: .ref m4 :: .ref m5 :: .int (nI nh) :: .ref m7 :: .ref m8 :: .ref m9 :: .ref m10 :: .int (nI sd) :: .ref m12 :: .int (nI tx) :: .int n14 :: .int (nI at9) :: .int n16 :: .int n17 :: .ref m18 :: .int (nI rq) :: .ref m20 :: .ref m21 :: .ref m22 :: .ref m23 :: .ref m24 :: .int (nI rh) :: .ref m26 :: .ref m27 :: .ref m28 :: .int (nI un) :: .ref m30 :: .int n31 :: .int n32 :: .ref m33 :: .int n34 :: .int n35 :: .ref m36 :: .int (nI wm) :: .ref m38 :: .ref m39 :: .ref m40 :: .int (nI bk) :: .ref m42 :: .ref m43 :: .ref m44 :: .ref m45 :: []))), (m42, .inl (cI, 15, .inl (upd fm42 bk (nI j4)))), (m43, .inl (cI, 15, .inl fm43))] H := ⟨hP, hD⟩
        have hP := hPD.1
        have hD := hPD.2
        clear hPD
        refine lv_aload_n hx hb dX11_note_48 rfl (lv_at hl 0 rfl) ?_
        refine va_get (D := (dC, dI)) (ci := 11) (v := .ref m43) (C := RX11) (T := TX11) (N := 46) hx hb hts hi_X11 hown hK hP 0 rfl rfl 43 (by decide) (hts (.fieldLink RX11 86 "LeftQuillsModel" "bookSoft" "[I") (wmx 7 rfl)) (fun _ h9 => h9) rfl dX11_note_49 ?_
        refine lv_aload_n hx hb dX11_note_52 rfl (lv_at hl 0 rfl) ?_
        refine va_get (D := (dC, dI)) (ci := 11) (v := .int (nI bk)) (C := RX11) (T := TX11) (N := 46) hx hb hts hi_X11 hown hK hP 0 rfl rfl 41 (by decide) (hts (.fieldLink RX11 171 "LeftQuillsModel" "booked" "I") (wmx 4 rfl)) (fun _ h9 => h9) rfl dX11_note_53 ?_
        refine lv_iload_n hx hb dX11_note_56 rfl (lv_at hl 2 rfl) ?_
        refine va_iast hx hb hK hP hD hS 2 0 rfl rfl (vp_in_nI (n := bk) (N := 15) (by omega) (by decide)) dX11_note_57 (fun H locs hP hD hS => ?_)
        have hcl := (nI_clamp (n := bk) (by omega))
        rw [hcl] at hP hD
        clear hcl
        have hPD : pdW (dC, dI) vwCl A [(h0, .inr (11, (.int n0 :: .int n1 :: .int (nI nq) :: .ref m3 :: .ref m4 :: .ref m5 :: .int (nI nh) :: .ref m7 :: .ref m8 :: .ref m9 :: .ref m10 :: .int (nI sd) :: .ref m12 :: .int (nI tx) :: .int n14 :: .int (nI at9) :: .int n16 :: .int n17 :: .ref m18 :: .int (nI rq) :: .ref m20 :: .ref m21 :: .ref m22 :: .ref m23 :: .ref m24 :: .int (nI rh) :: .ref m26 :: .ref m27 :: .ref m28 :: .int (nI un) :: .ref m30 :: .int n31 :: .int n32 :: .ref m33 :: .int n34 :: .int n35 :: .ref m36 :: .int (nI wm) :: .ref m38 :: .ref m39 :: .ref m40 :: .int (nI bk) :: .ref m42 :: .ref m43 :: .ref m44 :: .ref m45 :: []))), (m42, .inl (cI, 15, .inl (upd fm42 bk (nI j4)))), (m43, .inl (cI, 15, .inl (upd fm43 bk q1)))] H := ⟨hP, hD⟩
        have hP := hPD.1
        have hD := hPD.2
        clear hPD
        refine lv_aload_n hx hb dX11_note_58 rfl (lv_at hl 0 rfl) ?_
        refine lv_dup hx hb dX11_note_59 rfl ?_
        refine va_get (D := (dC, dI)) (ci := 11) (v := .int (nI bk)) (C := RX11) (T := TX11) (N := 46) hx hb hts hi_X11 hown hK hP 0 rfl rfl 41 (by decide) (hts (.fieldLink RX11 171 "LeftQuillsModel" "booked" "I") (wmx 4 rfl)) (fun _ h9 => h9) rfl dX11_note_60 ?_
        refine lv_iconst (v := 1) hx hb dX11_note_63 (by decide) ?_
        refine lv_iadd hx hb dX11_note_64 ?_
        refine lv_topi (fun z15 ez15 => ?_)
        obtain rfl : z15 = nI (bk + 1) := ez15.trans (nI_add bk 1)
        refine va_put (D := (dC, dI)) (ci := 11) (v := .int (nI (bk + 1))) (ty := .int) (C := RX11) (T := TX11) (N := 46) hx hb hts hi_X11 tyX11 tyX11_ok nmX11 hown hK hP hD hS 0 rfl rfl 41 (by decide) (hts (.fieldLink RX11 171 "LeftQuillsModel" "booked" "I") (wmx 4 rfl)) (fun _ h9 => h9) rfl (by decide +kernel) rfl rfl (Nat.le_of_ble_eq_true rfl) dX11_note_65 (fun H locs hP hD hS => ?_)
        have hPD : pdW (dC, dI) vwCl A [(h0, .inr (11, (.int n0 :: .int n1 :: .int (nI nq) :: .ref m3 :: .ref m4 :: .ref m5 :: .int (nI nh) :: .ref m7 :: .ref m8 :: .ref m9 :: .ref m10 :: .int (nI sd) :: .ref m12 :: .int (nI tx) :: .int n14 :: .int (nI at9) :: .int n16 :: .int n17 :: .ref m18 :: .int (nI rq) :: .ref m20 :: .ref m21 :: .ref m22 :: .ref m23 :: .ref m24 :: .int (nI rh) :: .ref m26 :: .ref m27 :: .ref m28 :: .int (nI un) :: .ref m30 :: .int n31 :: .int n32 :: .ref m33 :: .int n34 :: .int n35 :: .ref m36 :: .int (nI wm) :: .ref m38 :: .ref m39 :: .ref m40 :: .int (nI (bk + 1)) :: .ref m42 :: .ref m43 :: .ref m44 :: .ref m45 :: []))), (m42, .inl (cI, 15, .inl (upd fm42 bk (nI j4)))), (m43, .inl (cI, 15, .inl (upd fm43 bk q1)))] H := ⟨hP, hD⟩
        have hP := hPD.1
        have hD := hPD.2
        clear hPD
        refine lv_aload_n hx hb dX11_note_68 rfl (lv_at hl 0 rfl) ?_
        refine va_get (D := (dC, dI)) (ci := 11) (v := .int (nI (bk + 1))) (C := RX11) (T := TX11) (N := 46) hx hb hts hi_X11 hown hK hP 0 rfl rfl 41 (by decide) (hts (.fieldLink RX11 171 "LeftQuillsModel" "booked" "I") (wmx 4 rfl)) (fun _ h9 => h9) rfl dX11_note_69 ?_
        have hP9 := hP.sub (ws' := [(h0, .inr (11, (.int n0 :: .int n1 :: .int (nI nq) :: .ref m3 :: .ref m4 :: .ref m5 :: .int (nI nh) :: .ref m7 :: .ref m8 :: .ref m9 :: .ref m10 :: .int (nI sd) :: .ref m12 :: .int (nI tx) :: .int n14 :: .int (nI at9) :: .int n16 :: .int n17 :: .ref m18 :: .int (nI rq) :: .ref m20 :: .ref m21 :: .ref m22 :: .ref m23 :: .ref m24 :: .int (nI rh) :: .ref m26 :: .ref m27 :: .ref m28 :: .int (nI un) :: .ref m30 :: .int n31 :: .int n32 :: .ref m33 :: .int n34 :: .int n35 :: .ref m36 :: .int (nI wm) :: .ref m38 :: .ref m39 :: .ref m40 :: .int (nI (bk + 1)) :: .ref m42 :: .ref m43 :: .ref m44 :: .ref m45 :: []))), (m42, .inl (cI, 15, .inl (upd fm42 bk (nI j4)))), (m43, .inl (cI, 15, .inl (upd fm43 bk q1)))]) [0, 1, 2] rfl
        have hD9 := hD.sub (ws' := [(h0, .inr (11, (.int n0 :: .int n1 :: .int (nI nq) :: .ref m3 :: .ref m4 :: .ref m5 :: .int (nI nh) :: .ref m7 :: .ref m8 :: .ref m9 :: .ref m10 :: .int (nI sd) :: .ref m12 :: .int (nI tx) :: .int n14 :: .int (nI at9) :: .int n16 :: .int n17 :: .ref m18 :: .int (nI rq) :: .ref m20 :: .ref m21 :: .ref m22 :: .ref m23 :: .ref m24 :: .int (nI rh) :: .ref m26 :: .ref m27 :: .ref m28 :: .int (nI un) :: .ref m30 :: .int n31 :: .int n32 :: .ref m33 :: .int n34 :: .int n35 :: .ref m36 :: .int (nI wm) :: .ref m38 :: .ref m39 :: .ref m40 :: .int (nI (bk + 1)) :: .ref m42 :: .ref m43 :: .ref m44 :: .ref m45 :: []))), (m42, .inl (cI, 15, .inl (upd fm42 bk (nI j4)))), (m43, .inl (cI, 15, .inl (upd fm43 bk q1)))]) [0, 1, 2] (by decide +kernel) rfl
        exact W.iret (v := nI (bk + 1)) hx hb hr (fun t ht hW => ⟨⟨nI (bk + 1), (fun _ => 0), rfl, (by unfold noteR; rw [if_pos hw3, if_pos hw10, if_pos (by omega)]), ⟨(upd fm42 bk (nI j4)), (upd fm43 bk q1), (bk + 1), by omega, qIn_add hqi (by omega), (by unfold noteN; rw [if_pos hw3, if_pos hw10, if_pos (by omega)]), ((if_pos ⟨hw3, hw10, by omega⟩).symm), ((if_pos ⟨hw3, hw10, by omega⟩).symm), va_hq ht hP9, hD9⟩⟩, hS.F ht⟩) hS.2.2 dX11_note_72
      ·
        have c12 : bk = 15 := (nI_eq (a := bk) (b := 15) (by omega) (by omega)).mp c12
        refine lv_ldc (v := (-1000000004)) hx hb hown (hts (.constant RX11 115 (-1000000004)) (wmx 5 rfl)) dX11_note_35 ?_
        have hP9 := hP.sub (ws' := [(h0, .inr (11, (.int n0 :: .int n1 :: .int (nI nq) :: .ref m3 :: .ref m4 :: .ref m5 :: .int (nI nh) :: .ref m7 :: .ref m8 :: .ref m9 :: .ref m10 :: .int (nI sd) :: .ref m12 :: .int (nI tx) :: .int n14 :: .int (nI at9) :: .int n16 :: .int n17 :: .ref m18 :: .int (nI rq) :: .ref m20 :: .ref m21 :: .ref m22 :: .ref m23 :: .ref m24 :: .int (nI rh) :: .ref m26 :: .ref m27 :: .ref m28 :: .int (nI un) :: .ref m30 :: .int n31 :: .int n32 :: .ref m33 :: .int n34 :: .int n35 :: .ref m36 :: .int (nI wm) :: .ref m38 :: .ref m39 :: .ref m40 :: .int (nI bk) :: .ref m42 :: .ref m43 :: .ref m44 :: .ref m45 :: []))), (m42, .inl (cI, 15, .inl fm42)), (m43, .inl (cI, 15, .inl fm43))]) [0, 1, 2] rfl
        have hD9 := hD.sub (ws' := [(h0, .inr (11, (.int n0 :: .int n1 :: .int (nI nq) :: .ref m3 :: .ref m4 :: .ref m5 :: .int (nI nh) :: .ref m7 :: .ref m8 :: .ref m9 :: .ref m10 :: .int (nI sd) :: .ref m12 :: .int (nI tx) :: .int n14 :: .int (nI at9) :: .int n16 :: .int n17 :: .ref m18 :: .int (nI rq) :: .ref m20 :: .ref m21 :: .ref m22 :: .ref m23 :: .ref m24 :: .int (nI rh) :: .ref m26 :: .ref m27 :: .ref m28 :: .int (nI un) :: .ref m30 :: .int n31 :: .int n32 :: .ref m33 :: .int n34 :: .int n35 :: .ref m36 :: .int (nI wm) :: .ref m38 :: .ref m39 :: .ref m40 :: .int (nI bk) :: .ref m42 :: .ref m43 :: .ref m44 :: .ref m45 :: []))), (m42, .inl (cI, 15, .inl fm42)), (m43, .inl (cI, 15, .inl fm43))]) [0, 1, 2] (by decide +kernel) rfl
        exact W.iret (v := (-1000000004)) hx hb hr (fun t ht hW => ⟨⟨(-1000000004), (fun _ => 0), rfl, (by unfold noteR; rw [if_pos hw3, if_pos hw10, if_neg (by omega)]), ⟨fm42, fm43, bk, by omega, hqi, (by unfold noteN; rw [if_pos hw3, if_pos hw10, if_neg (by omega)]), ((if_neg (fun h9 => by have h8 := h9.2.2; omega)).symm), ((if_neg (fun h9 => by have h8 := h9.2.2; omega)).symm), va_hq ht hP9, hD9⟩⟩, hS.F ht⟩) hS.2.2 dX11_note_37
    ·
      refine lv_if_ne (tgt := 26) hx hb dX11_note_20 (by decide) (fun c16 => ?_) (fun c16 => ?_)
      · exact absurd c16 (by decide)
      clear c16
      refine lv_ldc (v := (-1000000002)) hx hb hown (hts (.constant RX11 111 (-1000000002)) (wmx 3 rfl)) dX11_note_23 ?_
      have hP9 := hP.sub (ws' := [(h0, .inr (11, (.int n0 :: .int n1 :: .int (nI nq) :: .ref m3 :: .ref m4 :: .ref m5 :: .int (nI nh) :: .ref m7 :: .ref m8 :: .ref m9 :: .ref m10 :: .int (nI sd) :: .ref m12 :: .int (nI tx) :: .int n14 :: .int (nI at9) :: .int n16 :: .int n17 :: .ref m18 :: .int (nI rq) :: .ref m20 :: .ref m21 :: .ref m22 :: .ref m23 :: .ref m24 :: .int (nI rh) :: .ref m26 :: .ref m27 :: .ref m28 :: .int (nI un) :: .ref m30 :: .int n31 :: .int n32 :: .ref m33 :: .int n34 :: .int n35 :: .ref m36 :: .int (nI wm) :: .ref m38 :: .ref m39 :: .ref m40 :: .int (nI bk) :: .ref m42 :: .ref m43 :: .ref m44 :: .ref m45 :: []))), (m42, .inl (cI, 15, .inl fm42)), (m43, .inl (cI, 15, .inl fm43))]) [0, 1, 2] rfl
      have hD9 := hD.sub (ws' := [(h0, .inr (11, (.int n0 :: .int n1 :: .int (nI nq) :: .ref m3 :: .ref m4 :: .ref m5 :: .int (nI nh) :: .ref m7 :: .ref m8 :: .ref m9 :: .ref m10 :: .int (nI sd) :: .ref m12 :: .int (nI tx) :: .int n14 :: .int (nI at9) :: .int n16 :: .int n17 :: .ref m18 :: .int (nI rq) :: .ref m20 :: .ref m21 :: .ref m22 :: .ref m23 :: .ref m24 :: .int (nI rh) :: .ref m26 :: .ref m27 :: .ref m28 :: .int (nI un) :: .ref m30 :: .int n31 :: .int n32 :: .ref m33 :: .int n34 :: .int n35 :: .ref m36 :: .int (nI wm) :: .ref m38 :: .ref m39 :: .ref m40 :: .int (nI bk) :: .ref m42 :: .ref m43 :: .ref m44 :: .ref m45 :: []))), (m42, .inl (cI, 15, .inl fm42)), (m43, .inl (cI, 15, .inl fm43))]) [0, 1, 2] (by decide +kernel) rfl
      exact W.iret (v := (-1000000002)) hx hb hr (fun t ht hW => ⟨⟨(-1000000002), (fun _ => 0), rfl, (by unfold noteR; rw [if_pos hw3, if_neg hw10]), ⟨fm42, fm43, bk, by omega, hqi, (by unfold noteN; rw [if_pos hw3, if_neg hw10]), ((if_neg (fun h9 => hw10 h9.2.1)).symm), ((if_neg (fun h9 => hw10 h9.2.1)).symm), va_hq ht hP9, hD9⟩⟩, hS.F ht⟩) hS.2.2 dX11_note_25
  ·
    refine lv_if_ne (tgt := 11) hx hb dX11_note_5 (by decide) (fun c17 => ?_) (fun c17 => ?_)
    · exact absurd c17 (by decide)
    clear c17
    refine lv_ldc (v := (-1000000001)) hx hb hown (hts (.constant RX11 188 (-1000000001)) (wmx 1 rfl)) dX11_note_8 ?_
    have hP9 := hP.sub (ws' := [(h0, .inr (11, (.int n0 :: .int n1 :: .int (nI nq) :: .ref m3 :: .ref m4 :: .ref m5 :: .int (nI nh) :: .ref m7 :: .ref m8 :: .ref m9 :: .ref m10 :: .int (nI sd) :: .ref m12 :: .int (nI tx) :: .int n14 :: .int (nI at9) :: .int n16 :: .int n17 :: .ref m18 :: .int (nI rq) :: .ref m20 :: .ref m21 :: .ref m22 :: .ref m23 :: .ref m24 :: .int (nI rh) :: .ref m26 :: .ref m27 :: .ref m28 :: .int (nI un) :: .ref m30 :: .int n31 :: .int n32 :: .ref m33 :: .int n34 :: .int n35 :: .ref m36 :: .int (nI wm) :: .ref m38 :: .ref m39 :: .ref m40 :: .int (nI bk) :: .ref m42 :: .ref m43 :: .ref m44 :: .ref m45 :: []))), (m42, .inl (cI, 15, .inl fm42)), (m43, .inl (cI, 15, .inl fm43))]) [0, 1, 2] rfl
    have hD9 := hD.sub (ws' := [(h0, .inr (11, (.int n0 :: .int n1 :: .int (nI nq) :: .ref m3 :: .ref m4 :: .ref m5 :: .int (nI nh) :: .ref m7 :: .ref m8 :: .ref m9 :: .ref m10 :: .int (nI sd) :: .ref m12 :: .int (nI tx) :: .int n14 :: .int (nI at9) :: .int n16 :: .int n17 :: .ref m18 :: .int (nI rq) :: .ref m20 :: .ref m21 :: .ref m22 :: .ref m23 :: .ref m24 :: .int (nI rh) :: .ref m26 :: .ref m27 :: .ref m28 :: .int (nI un) :: .ref m30 :: .int n31 :: .int n32 :: .ref m33 :: .int n34 :: .int n35 :: .ref m36 :: .int (nI wm) :: .ref m38 :: .ref m39 :: .ref m40 :: .int (nI bk) :: .ref m42 :: .ref m43 :: .ref m44 :: .ref m45 :: []))), (m42, .inl (cI, 15, .inl fm42)), (m43, .inl (cI, 15, .inl fm43))]) [0, 1, 2] (by decide +kernel) rfl
    exact W.iret (v := (-1000000001)) hx hb hr (fun t ht hW => ⟨⟨(-1000000001), (fun _ => 0), rfl, (by unfold noteR; rw [if_neg hw3]), ⟨fm42, fm43, bk, by omega, hqi, (by unfold noteN; rw [if_neg hw3]), ((if_neg (fun h9 => hw3 h9.1)).symm), ((if_neg (fun h9 => hw3 h9.1)).symm), va_hq ht hP9, hD9⟩⟩, hS.F ht⟩) hS.2.2 dX11_note_10
