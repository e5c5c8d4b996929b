set_option maxHeartbeats 4000000 in
set_option maxRecDepth 100000 in
theorem c_X0_firstWrong (l : Launch) (dC : Nat → ClassId) (dI : Nat → Nat → Nat) (cI cZ cQ : ClassId) (h0 : Nat) (n : Nat) (b1 : Nat) (b2 : Nat) (f_h0 : List Value) (fb1 : Nat → Int32) (fb2 : Nat → Int32) (hd : Nat) (a4 : Nat) (f_hd : List Value) (fa4 : Nat → Int32) (sz : Nat) (e_h0_0 : fAt f_h0 0 = some (.int (nI n))) (e_h0_1 : fAt f_h0 1 = some (.ref b1)) (e_h0_2 : fAt f_h0 2 = some (.ref b2)) (e_hd_4 : fAt f_hd 4 = some (.ref a4)) (hn : n ≤ 15) (hqi : qIn fb1 n) : Met l yX0_firstWrong wsX0_firstWrong ({ frames := 0, cells := 0, slots := 0, locals := 40 }) (va_Pc [.ref h0, .ref hd] (fun U => U.heap.size = sz ∧ va_P (dC, dI) vwCl [(h0, .inr (0, f_h0)), (b1, .inl (cI, 15, .inl fb1)), (b2, .inl (cI, 15, .inl fb2)), (hd, .inr (1, f_hd)), (a4, .inl (cI, 8, .inl fa4))] U.heap ∧ va_K (dC, dI) vwCl (tys0 cI cZ cQ) U)) (va_Qi (fun (r : Int32) (u : Nat → Nat) => True) (fun (_ : Nat → Nat) (_ : State) => True) (fun _ : Nat => False)) 0 0 (fun _ : Nat => False) := by
  refine Met.ofW (cc := cX0_firstWrong) (maxL := 3) (ret := (some .int)) (by decide) rfl ?_
  intro p e s m args below meth c s₁ B hml hv
  obtain ⟨rfl, hsz, hP, hK⟩ := hv
  have hx := B.exec
  have hb := B.bytes
  have hr := B.returns
  have hts := atoms_spec (ws := wsX0_firstWrong) B.pre
  have hown : s.vm.findClass RX0 = some m.cls := findClass_of_methodNamed B.named
  have hlocks := B.notSynchronized
  have hi_X0 : ∀ w ∈ u_ws RX0 TX0 3, w ∈ wsX0_firstWrong := fun _ h => List.mem_cons_of_mem _ (List.mem_append_left _ (List.mem_append_right _ (h)))
  have hi_X1 : ∀ w ∈ u_ws RX1 TX1 8, w ∈ wsX0_firstWrong := fun _ h => List.mem_cons_of_mem _ (List.mem_append_right _ (h))
  subst hsz
  have hS : va_S (fun _ : Nat => False) s.heap s.heap [] := va_S.rf
  have hl := lv_entry ([.ref h0, .ref hd]) (n := 3) (Nat.le_of_ble_eq_true rfl)
  rw [lg_entry_eq]
  generalize (lg_sl ([.ref h0, .ref hd]) ++ List.replicate (3 - (lg_sl ([.ref h0, .ref hd])).length) Slot.unset).toArray = ls at hl ⊢
  have hl : lv_has ls 3 [(0, .ref h0), (1, .ref hd)] := hl
  refine lv_iconst (v := 0) hx hb dX0_firstWrong_0 (by decide) ?_
  refine lv_istore_n (lv' := [(2, .int 0), (0, .ref h0), (1, .ref hd)]) hx hb dX0_firstWrong_1 rfl hl (by decide) rfl (fun ls hl => ?_)
  refine (fun (K : ∀ (d2 : Nat) (k2 : Nat) (H : Heap) (locs : List Loc) (ls : Array Slot), k2 + d2 = n → va_P (dC, dI) vwCl [(h0, .inr (0, f_h0)), (b1, .inl (cI, 15, .inl fb1)), (b2, .inl (cI, 15, .inl fb2)), (hd, .inr (1, f_hd)), (a4, .inl (cI, 8, .inl fa4))] H → va_S (fun _ : Nat => False) s.heap H locs → lv_has ls 3 [(2, .int (nI k2)), (0, .ref h0), (1, .ref hd)] → W p l e _ s m _ below meth c H locs _ _ _ (F0 m 2 ls [])) => K n 0 _ _ _ (by omega) hP hS (lv_sub hl [0, 1, 2] rfl)) ?_
  intro d2
  induction d2 with
  | zero =>
    intro k2 H locs ls hk2 hP hS hl
    refine lv_iload_n hx hb dX0_firstWrong_2 rfl (lv_at hl 0 rfl) ?_
    refine lv_aload_n hx hb dX0_firstWrong_3 rfl (lv_at hl 1 rfl) ?_
    refine va_get (D := (dC, dI)) (ci := 0) (v := .int (nI n)) (C := RX0) (T := TX0) (N := 3) hx hb hts hi_X0 hown hK hP 0 rfl rfl 0 (by decide) (hts (.fieldLink RX0 9 "LeftQuills$Book" "count" "I") (wmx 1 rfl)) (fun _ h9 => h9) e_h0_0 dX0_firstWrong_4 ?_
    refine lv_icmp_ge (tgt := 38) hx hb dX0_firstWrong_7 (by decide) (fun c1 => ?_) (fun c1 => ?_)
    ·
      have c1 : n ≤ k2 := (nI_leI (a := n) (b := k2) (by omega) (by omega)).mp c1
      refine lv_iconst (v := (-1)) hx hb dX0_firstWrong_38 (by decide) ?_
      exact W.iret (v := (-1)) hx hb hr (fun t ht hW => ⟨⟨(-1), (fun _ => 0), rfl, trivial, trivial⟩, hS.F ht⟩) hS.2.2 dX0_firstWrong_39
    ·
      have c1 : ¬ n ≤ k2 := fun h => c1 ((nI_leI (a := n) (b := k2) (by omega) (by omega)).mpr h)
      omega
  | succ d2 ih2 =>
    intro k2 H locs ls hk2 hP hS hl
    refine lv_iload_n hx hb dX0_firstWrong_2 rfl (lv_at hl 0 rfl) ?_
    refine lv_aload_n hx hb dX0_firstWrong_3 rfl (lv_at hl 1 rfl) ?_
    refine va_get (D := (dC, dI)) (ci := 0) (v := .int (nI n)) (C := RX0) (T := TX0) (N := 3) hx hb hts hi_X0 hown hK hP 0 rfl rfl 0 (by decide) (hts (.fieldLink RX0 9 "LeftQuills$Book" "count" "I") (wmx 1 rfl)) (fun _ h9 => h9) e_h0_0 dX0_firstWrong_4 ?_
    refine lv_icmp_ge (tgt := 38) hx hb dX0_firstWrong_7 (by decide) (fun c2 => ?_) (fun c2 => ?_)
    ·
      have c2 : n ≤ k2 := (nI_leI (a := n) (b := k2) (by omega) (by omega)).mp c2
      omega
    ·
      have c2 : ¬ n ≤ k2 := fun h => c2 ((nI_leI (a := n) (b := k2) (by omega) (by omega)).mpr h)
      refine lv_aload_n hx hb dX0_firstWrong_10 rfl (lv_at hl 2 rfl) ?_
      refine va_get (D := (dC, dI)) (ci := 1) (v := .ref a4) (C := RX1) (T := TX1) (N := 8) hx hb hts hi_X1 hown hK hP 3 rfl rfl 4 (by decide) (hts (.fieldLink RX0 22 "LeftQuills$Desk" "softness" "[I") (wmx 2 rfl)) (fun _ h9 => h9) e_hd_4 dX0_firstWrong_11 ?_
      refine lv_aload_n hx hb dX0_firstWrong_14 rfl (lv_at hl 1 rfl) ?_
      refine va_get (D := (dC, dI)) (ci := 0) (v := .ref b1) (C := RX0) (T := TX0) (N := 3) hx hb hts hi_X0 hown hK hP 0 rfl rfl 1 (by decide) (hts (.fieldLink RX0 15 "LeftQuills$Book" "quill" "[I") (wmx 3 rfl)) (fun _ h9 => h9) e_h0_1 dX0_firstWrong_15 ?_
      refine lv_iload_n hx hb dX0_firstWrong_18 rfl (lv_at hl 0 rfl) ?_
      refine va_iald hx hb hK hP 1 0 rfl rfl (vp_in_nI (n := k2) (N := 15) (by omega) (by decide)) dX0_firstWrong_19 ?_
      refine W.eq (g2 := F0 m 20 ls [.int (fb1 k2), .ref a4]) (congrArg (fun y9 => F0 m 20 ls (.int (fb1 y9) :: [.ref a4])) ((nI_clamp (n := k2) (by omega)))) ?_
      refine lv_topi (fun z3 ez3 => ?_)
      obtain ⟨j4, hj4, ejj4⟩ := hqi k2 (by omega)
      obtain rfl : z3 = nI j4 := ez3.trans (ejj4)
      refine va_iald hx hb hK hP 4 0 rfl rfl (vp_in_nI (n := j4) (N := 8) (by omega) (by decide)) dX0_firstWrong_20 ?_
      refine W.eq (g2 := F0 m 21 ls [.int (fa4 j4)]) (congrArg (fun y9 => F0 m 21 ls (.int (fa4 y9) :: [])) ((nI_clamp (n := j4) (by omega)))) ?_
      refine lv_aload_n hx hb dX0_firstWrong_21 rfl (lv_at hl 1 rfl) ?_
      refine va_get (D := (dC, dI)) (ci := 0) (v := .ref b2) (C := RX0) (T := TX0) (N := 3) hx hb hts hi_X0 hown hK hP 0 rfl rfl 2 (by decide) (hts (.fieldLink RX0 19 "LeftQuills$Book" "softness" "[I") (wmx 4 rfl)) (fun _ h9 => h9) e_h0_2 dX0_firstWrong_22 ?_
      refine lv_iload_n hx hb dX0_firstWrong_25 rfl (lv_at hl 0 rfl) ?_
      refine va_iald hx hb hK hP 2 0 rfl rfl (vp_in_nI (n := k2) (N := 15) (by omega) (by decide)) dX0_firstWrong_26 ?_
      refine W.eq (g2 := F0 m 27 ls [.int (fb2 k2), .int (fa4 j4)]) (congrArg (fun y9 => F0 m 27 ls (.int (fb2 y9) :: [.int (fa4 j4)])) ((nI_clamp (n := k2) (by omega)))) ?_
      refine lv_icmp_eq (tgt := 32) hx hb dX0_firstWrong_27 (by decide) (fun c5 => ?_) (fun c5 => ?_)
      ·
        refine lv_iinc (v := nI (k2 + 1)) (lv' := [(2, .int (nI (k2 + 1))), (0, .ref h0), (1, .ref hd)]) hx hb dX0_firstWrong_32 hl (k := 0) rfl ((rfl : nI k2 + Int32.ofInt 1 = nI k2 + 1).trans (nI_add k2 1)) (by decide) rfl (fun ls hl => ?_)
        refine lv_goto (tgt := 2) hx hb dX0_firstWrong_35 (by decide) ?_
        exact ih2 (k2 + 1) _ _ _ (by omega) hP hS (lv_sub hl [0, 1, 2] rfl)
      ·
        refine lv_iload_n hx hb dX0_firstWrong_30 rfl (lv_at hl 0 rfl) ?_
        exact W.iret (v := nI k2) hx hb hr (fun t ht hW => ⟨⟨nI k2, (fun _ => 0), rfl, trivial, trivial⟩, hS.F ht⟩) hS.2.2 dX0_firstWrong_31
set_option maxHeartbeats 4000000 in
set_option maxRecDepth 100000 in
theorem c_X2_allFits (l : Launch) (dC : Nat → ClassId) (dI : Nat → Nat → Nat) (cI cZ cQ : ClassId) (h0 : Nat) (n : Nat) (ho : Nat) (e2 : Nat) (e3 : Nat) (e4 : Nat) (f_h0 : List Value) (fe2 : Nat → Int32) (fe3 : Nat → Int32) (fe4 : Nat → Int32) (o5 : Nat) (o6 : Nat) (o7 : Nat) (o10 : Nat) (o11 : Nat) (o12 : Nat) (f_ho : List Value) (fo5 : Nat → Int32) (fo6 : Nat → Int32) (fo7 : Nat → Int32) (fo10 : Nat → Int32) (fo11 : Nat → Int32) (k : Nat) (sz : Nat) (e_h0_0 : fAt f_h0 0 = some (.int (nI n))) (e_h0_1 : fAt f_h0 1 = some (.ref ho)) (e_h0_2 : fAt f_h0 2 = some (.ref e2)) (e_h0_3 : fAt f_h0 3 = some (.ref e3)) (e_h0_4 : fAt f_h0 4 = some (.ref e4)) (e_ho_5 : fAt f_ho 5 = some (.ref o5)) (e_ho_6 : fAt f_ho 6 = some (.ref o6)) (e_ho_7 : fAt f_ho 7 = some (.ref o7)) (e_ho_10 : fAt f_ho 10 = some (.ref o10)) (e_ho_11 : fAt f_ho 11 = some (.ref o11)) (e_ho_12 : fAt f_ho 12 = some (.ref o12)) (hn : n ≤ 6) (hk : k < 4) (hqi : qIn fe2 n) : Met l yX2_allFits wsX2_allFits ({ frames := 2, cells := 0, slots := 0, locals := 85 }) (va_Pc [.ref h0, .int (nI k)] (fun U => U.heap.size = sz ∧ va_P (dC, dI) vwCl [(h0, .inr (2, f_h0)), (e2, .inl (cI, 6, .inl fe2)), (e3, .inl (cI, 6, .inl fe3)), (e4, .inl (cI, 6, .inl fe4)), (ho, .inr (5, f_ho)), (o5, .inl (cI, 8, .inl fo5)), (o6, .inl (cI, 8, .inl fo6)), (o7, .inl (cI, 8, .inl fo7)), (o10, .inl (cI, 4, .inl fo10)), (o11, .inl (cI, 4, .inl fo11))] U.heap ∧ va_K (dC, dI) vwCl (tys0 cI cZ cQ) U ∧ xN U)) (va_Qi (fun (r : Int32) (u : Nat → Nat) => r = 1 ∨ r = 0) (fun (_ : Nat → Nat) (_ : State) => True) (fun _ : Nat => False)) 0 0 (fun _ : Nat => False) := by
  refine Met.ofW (cc := cX2_allFits) (maxL := 3) (ret := (some .boolean)) (by decide) rfl ?_
  intro p e s m args below meth c s₁ B hml hv
  obtain ⟨rfl, hsz, hP, hK, hN⟩ := hv
  have hx := B.exec
  have hb := B.bytes
  have hr := B.returns
  have hts := atoms_spec (ws := wsX2_allFits) B.pre
  have hown : s.vm.findClass RX2 = some m.cls := findClass_of_methodNamed B.named
  have hlocks := B.notSynchronized
  have hi_X2 : ∀ w ∈ u_ws RX2 TX2 5, w ∈ wsX2_allFits := fun _ h => List.mem_cons_of_mem _ (List.mem_append_left _ (List.mem_append_right _ (h)))
  subst hsz
  have hS : va_S (fun _ : Nat => False) s.heap s.heap [] := va_S.rf
  have hl := lv_entry ([.ref h0, .int (nI k)]) (n := 3) (Nat.le_of_ble_eq_true rfl)
  rw [lg_entry_eq]
  generalize (lg_sl ([.ref h0, .int (nI k)]) ++ List.replicate (3 - (lg_sl ([.ref h0, .int (nI k)])).length) Slot.unset).toArray = ls at hl ⊢
  have hl : lv_has ls 3 [(0, .ref h0), (1, .int (nI k))] := hl
  refine lv_iconst (v := 0) hx hb dX2_allFits_0 (by decide) ?_
  refine lv_istore_n (lv' := [(2, .int 0), (0, .ref h0), (1, .int (nI k))]) hx hb dX2_allFits_1 rfl hl (by decide) rfl (fun ls hl => ?_)
  refine (fun (K : ∀ (d2 : Nat) (k2 : Nat) (H : Heap) (locs : List Loc) (ls : Array Slot), k2 + d2 = n → va_P (dC, dI) vwCl [(h0, .inr (2, f_h0)), (e2, .inl (cI, 6, .inl fe2)), (e3, .inl (cI, 6, .inl fe3)), (e4, .inl (cI, 6, .inl fe4)), (ho, .inr (5, f_ho)), (o5, .inl (cI, 8, .inl fo5)), (o6, .inl (cI, 8, .inl fo6)), (o7, .inl (cI, 8, .inl fo7)), (o10, .inl (cI, 4, .inl fo10)), (o11, .inl (cI, 4, .inl fo11))] H → va_S (fun _ : Nat => False) s.heap H locs → lv_has ls 3 [(2, .int (nI k2)), (0, .ref h0), (1, .int (nI k))] → W p l e _ s m _ below meth c H locs _ _ _ (F0 m 2 ls [])) => K n 0 _ _ _ (by omega) hP hS (lv_sub hl [0, 1, 2] rfl)) ?_
  intro d2
  induction d2 with
  | zero =>
    intro k2 H locs ls hk2 hP hS hl
    refine lv_iload_n hx hb dX2_allFits_2 rfl (lv_at hl 0 rfl) ?_
    refine lv_aload_n hx hb dX2_allFits_3 rfl (lv_at hl 1 rfl) ?_
    refine va_get (D := (dC, dI)) (ci := 2) (v := .int (nI n)) (C := RX2) (T := TX2) (N := 5) hx hb hts hi_X2 hown hK hP 0 rfl rfl 0 (by decide) (hts (.fieldLink RX2 9 "LeftQuills$Evidence" "count" "I") (wmx 1 rfl)) (fun _ h9 => h9) e_h0_0 dX2_allFits_4 ?_
    refine lv_icmp_ge (tgt := 52) hx hb dX2_allFits_7 (by decide) (fun c1 => ?_) (fun c1 => ?_)
    ·
      have c1 : n ≤ k2 := (nI_leI (a := n) (b := k2) (by omega) (by omega)).mp c1
      refine lv_iconst (v := 1) hx hb dX2_allFits_52 (by decide) ?_
      exact W.zret (v := 1) hx hb hr (rfl) (fun t ht hW => ⟨⟨1, (fun _ => 0), rfl, Or.inl rfl, trivial⟩, hS.F ht⟩) hS.2.2 dX2_allFits_53
    ·
      have c1 : ¬ n ≤ k2 := fun h => c1 ((nI_leI (a := n) (b := k2) (by omega) (by omega)).mpr h)
      omega
  | succ d2 ih2 =>
    intro k2 H locs ls hk2 hP hS hl
    refine lv_iload_n hx hb dX2_allFits_2 rfl (lv_at hl 0 rfl) ?_
    refine lv_aload_n hx hb dX2_allFits_3 rfl (lv_at hl 1 rfl) ?_
    refine va_get (D := (dC, dI)) (ci := 2) (v := .int (nI n)) (C := RX2) (T := TX2) (N := 5) hx hb hts hi_X2 hown hK hP 0 rfl rfl 0 (by decide) (hts (.fieldLink RX2 9 "LeftQuills$Evidence" "count" "I") (wmx 1 rfl)) (fun _ h9 => h9) e_h0_0 dX2_allFits_4 ?_
    refine lv_icmp_ge (tgt := 52) hx hb dX2_allFits_7 (by decide) (fun c2 => ?_) (fun c2 => ?_)
    ·
      have c2 : n ≤ k2 := (nI_leI (a := n) (b := k2) (by omega) (by omega)).mp c2
      omega
    ·
      have c2 : ¬ n ≤ k2 := fun h => c2 ((nI_leI (a := n) (b := k2) (by omega) (by omega)).mpr h)
      refine lv_iconst (v := 0) hx hb dX2_allFits_10 (by decide) ?_
      refine lv_aload_n hx hb dX2_allFits_11 rfl (lv_at hl 1 rfl) ?_
      refine va_get (D := (dC, dI)) (ci := 2) (v := .ref e3) (C := RX2) (T := TX2) (N := 5) hx hb hts hi_X2 hown hK hP 0 rfl rfl 3 (by decide) (hts (.fieldLink RX2 19 "LeftQuills$Evidence" "pages" "[I") (wmx 2 rfl)) (fun _ h9 => h9) e_h0_3 dX2_allFits_12 ?_
      refine lv_iload_n hx hb dX2_allFits_15 rfl (lv_at hl 0 rfl) ?_
      refine va_iald hx hb hK hP 2 0 rfl rfl (vp_in_nI (n := k2) (N := 6) (by omega) (by decide)) dX2_allFits_16 ?_
      refine W.eq (g2 := F0 m 17 ls [.int (fe3 k2), .int 0]) (congrArg (fun y9 => F0 m 17 ls (.int (fe3 y9) :: [.int 0])) ((nI_clamp (n := k2) (by omega)))) ?_
      refine lv_aload_n hx hb dX2_allFits_17 rfl (lv_at hl 1 rfl) ?_
      refine va_get (D := (dC, dI)) (ci := 2) (v := .ref ho) (C := RX2) (T := TX2) (N := 5) hx hb hts hi_X2 hown hK hP 0 rfl rfl 1 (by decide) (hts (.fieldLink RX2 25 "LeftQuills$Evidence" "office" "LLeftQuills$Office;") (wmx 3 rfl)) (fun _ h9 => h9) e_h0_1 dX2_allFits_18 ?_
      refine lv_aload_n hx hb dX2_allFits_21 rfl (lv_at hl 1 rfl) ?_
      refine va_get (D := (dC, dI)) (ci := 2) (v := .ref e2) (C := RX2) (T := TX2) (N := 5) hx hb hts hi_X2 hown hK hP 0 rfl rfl 2 (by decide) (hts (.fieldLink RX2 15 "LeftQuills$Evidence" "quill" "[I") (wmx 4 rfl)) (fun _ h9 => h9) e_h0_2 dX2_allFits_22 ?_
      refine lv_iload_n hx hb dX2_allFits_25 rfl (lv_at hl 0 rfl) ?_
      refine va_iald hx hb hK hP 1 0 rfl rfl (vp_in_nI (n := k2) (N := 6) (by omega) (by decide)) dX2_allFits_26 ?_
      refine W.eq (g2 := F0 m 27 ls [.int (fe2 k2), .ref ho, .int (fe3 k2), .int 0]) (congrArg (fun y9 => F0 m 27 ls (.int (fe2 y9) :: [.ref ho, .int (fe3 k2), .int 0])) ((nI_clamp (n := k2) (by omega)))) ?_
      refine lv_topi (fun z3 ez3 => ?_)
      obtain ⟨j4, hj4, ejj4⟩ := hqi k2 (by omega)
      obtain rfl : z3 = nI j4 := ez3.trans (ejj4)
      refine lv_iload_n hx hb dX2_allFits_27 rfl (lv_at hl 2 rfl) ?_
      have hPc := hP.sub (ws' := [(ho, .inr (5, f_ho)), (o5, .inl (cI, 8, .inl fo5)), (o6, .inl (cI, 8, .inl fo6)), (o7, .inl (cI, 8, .inl fo7)), (o10, .inl (cI, 4, .inl fo10)), (o11, .inl (cI, 4, .inl fo11))]) [4, 5, 6, 7, 8, 9] rfl
      refine va_calli (va_runV (As := [.int (nI j4), .int (nI k)]) (rest := [.int (fe3 k2), .int 0]) ⟨hx, hb, hml, hown, hts⟩ (c_X5_wear l dC dI cI cZ cQ ho o5 o6 o7 o10 o11 f_ho fo5 fo6 fo7 fo10 fo11 j4 k H.size e_ho_5 e_ho_6 e_ho_7 e_ho_10 e_ho_11 (by omega) (by omega)) (cwV 2 hts gX2_allFits_X5_wear rfl rfl rfl hd_X5_wear_RX5 ⟨Nat.le_of_ble_eq_true rfl, Nat.le_of_ble_eq_true rfl⟩) (pv_R (va_recv hK hP (ci := 5) (q0 := 4) rfl rfl) hK hPc) rfl rfl hl.1 rfl (lv_room (Nat.le_of_ble_eq_true rfl)) dX2_allFits_28 ⟨Nat.le_of_ble_eq_true rfl, Nat.le_of_ble_eq_true rfl⟩) hS (fun q _ h => False.elim h) (fun q h => False.elim h) (fun r5 u6 t H1 locs ht hvm hw7 hB hz1 hk1 hS => ?_)
      have hP := hP.kept (fun k q hk => hk1 q.1 (hP k q hk).lt (fun h => h))
      clear hz1 hk1 hPc
      generalize H1 = H at hP hS ht ⊢
      try dsimp only at hw7
      refine lv_imul hx hb dX2_allFits_31 ?_
      refine lv_topi (fun z8 ez8 => ?_)
      have hPc := hP.sub (ws' := []) [] rfl
      refine va_calli (va_runSN (As := [.int 0, .int z8]) (rest := []) ⟨hx, hb, hml, hown, hts⟩ (c_X10_softerBy l dC dI cI cZ cQ 0 z8 H.size ) ⟨va_cnB 2 hts gX2_allFits_X10_softerBy_n42 rfl rfl rfl (hN.n_X2_42) (hts (.initialized RX10) (wmx 29 rfl)) (by decide +kernel) ⟨Nat.le_of_ble_eq_true rfl, Nat.le_of_ble_eq_true rfl⟩, hts (.static yX10_softerBy) (by decide +kernel), trivial⟩ (ps_R hK hPc) rfl rfl hl.1 rfl (lv_room (Nat.le_of_ble_eq_true rfl)) dX2_allFits_32 ⟨Nat.le_of_ble_eq_true rfl, Nat.le_of_ble_eq_true rfl⟩) hS (fun q _ h => False.elim h) (fun q h => False.elim h) (fun r9 u10 t H1 locs ht hvm hw11 hB hz1 hk1 hS => ?_)
      have hP := hP.kept (fun k q hk => hk1 q.1 (hP k q hk).lt (fun h => h))
      clear hz1 hk1 hPc
      generalize H1 = H at hP hS ht ⊢
      try dsimp only at hw11
      refine lv_aload_n hx hb dX2_allFits_35 rfl (lv_at hl 1 rfl) ?_
      refine va_get (D := (dC, dI)) (ci := 2) (v := .ref e4) (C := RX2) (T := TX2) (N := 5) hx hb hts hi_X2 hown hK hP 0 rfl rfl 4 (by decide) (hts (.fieldLink RX2 22 "LeftQuills$Evidence" "softness" "[I") (wmx 5 rfl)) (fun _ h9 => h9) e_h0_4 dX2_allFits_36 ?_
      refine lv_iload_n hx hb dX2_allFits_39 rfl (lv_at hl 0 rfl) ?_
      refine va_iald hx hb hK hP 3 0 rfl rfl (vp_in_nI (n := k2) (N := 6) (by omega) (by decide)) dX2_allFits_40 ?_
      refine W.eq (g2 := F0 m 41 ls [.int (fe4 k2), .int r9]) (congrArg (fun y9 => F0 m 41 ls (.int (fe4 y9) :: [.int r9])) ((nI_clamp (n := k2) (by omega)))) ?_
      refine lv_icmp_eq (tgt := 46) hx hb dX2_allFits_41 (by decide) (fun c12 => ?_) (fun c12 => ?_)
      ·
        refine lv_iinc (v := nI (k2 + 1)) (lv' := [(2, .int (nI (k2 + 1))), (0, .ref h0), (1, .int (nI k))]) hx hb dX2_allFits_46 hl (k := 0) rfl ((rfl : nI k2 + Int32.ofInt 1 = nI k2 + 1).trans (nI_add k2 1)) (by decide) rfl (fun ls hl => ?_)
        refine lv_goto (tgt := 2) hx hb dX2_allFits_49 (by decide) ?_
        exact ih2 (k2 + 1) _ _ _ (by omega) hP hS (lv_sub hl [0, 1, 2] rfl)
      ·
        refine lv_iconst (v := 0) hx hb dX2_allFits_44 (by decide) ?_
        exact W.zret (v := 0) hx hb hr (rfl) (fun t ht hW => ⟨⟨0, (fun _ => 0), rfl, Or.inr rfl, trivial⟩, hS.F ht⟩) hS.2.2 dX2_allFits_45
set_option maxHeartbeats 4000000 in
set_option maxRecDepth 100000 in
theorem c_X2_fittingHands (l : Launch) (dC : Nat → ClassId) (dI : Nat → Nat → Nat) (cI cZ cQ : ClassId) (h0 : Nat) (n : Nat) (ho : Nat) (e2 : Nat) (e3 : Nat) (e4 : Nat) (f_h0 : List Value) (fe2 : Nat → Int32) (fe3 : Nat → Int32) (fe4 : Nat → Int32) (o5 : Nat) (o6 : Nat) (o7 : Nat) (o10 : Nat) (o11 : Nat) (o12 : Nat) (nh : Nat) (f_ho : List Value) (fo5 : Nat → Int32) (fo6 : Nat → Int32) (fo7 : Nat → Int32) (fo10 : Nat → Int32) (fo11 : Nat → Int32) (sz : Nat) (e_h0_0 : fAt f_h0 0 = some (.int (nI n))) (e_h0_1 : fAt f_h0 1 = some (.ref ho)) (e_h0_2 : fAt f_h0 2 = some (.ref e2)) (e_h0_3 : fAt f_h0 3 = some (.ref e3)) (e_h0_4 : fAt f_h0 4 = some (.ref e4)) (e_ho_5 : fAt f_ho 5 = some (.ref o5)) (e_ho_6 : fAt f_ho 6 = some (.ref o6)) (e_ho_7 : fAt f_ho 7 = some (.ref o7)) (e_ho_10 : fAt f_ho 10 = some (.ref o10)) (e_ho_11 : fAt f_ho 11 = some (.ref o11)) (e_ho_12 : fAt f_ho 12 = some (.ref o12)) (e_ho_4 : fAt f_ho 4 = some (.int (nI nh))) (hn : n ≤ 6) (hnh : nh ≤ 4) (hqi : qIn fe2 n) : Met l yX2_fittingHands wsX2_fittingHands ({ frames := 3, cells := 0, slots := 0, locals := 107 }) (va_Pc [.ref h0] (fun U => U.heap.size = sz ∧ va_P (dC, dI) vwCl [(h0, .inr (2, f_h0)), (e2, .inl (cI, 6, .inl fe2)), (e3, .inl (cI, 6, .inl fe3)), (e4, .inl (cI, 6, .inl fe4)), (ho, .inr (5, f_ho)), (o5, .inl (cI, 8, .inl fo5)), (o6, .inl (cI, 8, .inl fo6)), (o7, .inl (cI, 8, .inl fo7)), (o10, .inl (cI, 4, .inl fo10)), (o11, .inl (cI, 4, .inl fo11))] U.heap ∧ va_K (dC, dI) vwCl (tys0 cI cZ cQ) U ∧ xN U)) (va_Qi (fun (r : Int32) (u : Nat → Nat) => True) (fun (_ : Nat → Nat) (_ : State) => True) (fun _ : Nat => False)) 0 0 (fun _ : Nat => False) := by
  refine Met.ofW (cc := cX2_fittingHands) (maxL := 3) (ret := (some .int)) (by decide) rfl ?_
  intro p e s m args below meth c s₁ B hml hv
  obtain ⟨rfl, hsz, hP, hK, hN⟩ := hv
  have hx := B.exec
  have hb := B.bytes
  have hr := B.returns
  have hts := atoms_spec (ws := wsX2_fittingHands) B.pre
  have hown : s.vm.findClass RX2 = some m.cls := findClass_of_methodNamed B.named
  have hlocks := B.notSynchronized
  have hi_X2 : ∀ w ∈ u_ws RX2 TX2 5, w ∈ wsX2_fittingHands := fun _ h => List.mem_cons_of_mem _ (List.mem_append_left _ (List.mem_append_right _ (h)))
  have hi_X5 : ∀ w ∈ u_ws RX5 TX5 13, w ∈ wsX2_fittingHands := fun _ h => List.mem_cons_of_mem _ (List.mem_append_right _ (h))
  subst hsz
  have hS : va_S (fun _ : Nat => False) s.heap s.heap [] := va_S.rf
  have hl := lv_entry ([.ref h0]) (n := 3) (Nat.le_of_ble_eq_true rfl)
  rw [lg_entry_eq]
  generalize (lg_sl ([.ref h0]) ++ List.replicate (3 - (lg_sl ([.ref h0])).length) Slot.unset).toArray = ls at hl ⊢
  have hl : lv_has ls 3 [(0, .ref h0)] := hl
  refine lv_iconst (v := 0) hx hb dX2_fittingHands_0 (by decide) ?_
  refine lv_istore_n (lv' := [(1, .int 0), (0, .ref h0)]) hx hb dX2_fittingHands_1 rfl hl (by decide) rfl (fun ls hl => ?_)
  refine lv_iconst (v := 0) hx hb dX2_fittingHands_2 (by decide) ?_
  refine lv_istore_n (lv' := [(2, .int 0), (1, .int 0), (0, .ref h0)]) hx hb dX2_fittingHands_3 rfl hl (by decide) rfl (fun ls hl => ?_)
  refine (fun (K : ∀ (d4 : Nat) (k4 : Nat) (a4_1 : Int32) (H : Heap) (locs : List Loc) (ls : Array Slot), k4 + d4 = nh → va_P (dC, dI) vwCl [(h0, .inr (2, f_h0)), (e2, .inl (cI, 6, .inl fe2)), (e3, .inl (cI, 6, .inl fe3)), (e4, .inl (cI, 6, .inl fe4)), (ho, .inr (5, f_ho)), (o5, .inl (cI, 8, .inl fo5)), (o6, .inl (cI, 8, .inl fo6)), (o7, .inl (cI, 8, .inl fo7)), (o10, .inl (cI, 4, .inl fo10)), (o11, .inl (cI, 4, .inl fo11))] H → va_S (fun _ : Nat => False) s.heap H locs → lv_has ls 3 [(2, .int (nI k4)), (1, .int a4_1), (0, .ref h0)] → W p l e _ s m _ below meth c H locs _ _ _ (F0 m 4 ls [])) => K nh 0 0 _ _ _ (by omega) hP hS (lv_sub hl [0, 1, 2] rfl)) ?_
  intro d4
  induction d4 with
  | zero =>
    intro k4 a4_1 H locs ls hk4 hP hS hl
    refine lv_iload_n hx hb dX2_fittingHands_4 rfl (lv_at hl 0 rfl) ?_
    refine lv_aload_n hx hb dX2_fittingHands_5 rfl (lv_at hl 2 rfl) ?_
    refine va_get (D := (dC, dI)) (ci := 2) (v := .ref ho) (C := RX2) (T := TX2) (N := 5) hx hb hts hi_X2 hown hK hP 0 rfl rfl 1 (by decide) (hts (.fieldLink RX2 25 "LeftQuills$Evidence" "office" "LLeftQuills$Office;") (wmx 1 rfl)) (fun _ h9 => h9) e_h0_1 dX2_fittingHands_6 ?_
    refine va_get (D := (dC, dI)) (ci := 5) (v := .int (nI nh)) (C := RX5) (T := TX5) (N := 13) hx hb hts hi_X5 hown hK hP 4 rfl rfl 4 (by decide) (hts (.fieldLink RX2 29 "LeftQuills$Office" "hands" "I") (wmx 2 rfl)) (fun _ h9 => h9) e_ho_4 dX2_fittingHands_9 ?_
    refine lv_icmp_ge (tgt := 35) hx hb dX2_fittingHands_12 (by decide) (fun c1 => ?_) (fun c1 => ?_)
    ·
      have c1 : nh ≤ k4 := (nI_leI (a := nh) (b := k4) (by omega) (by omega)).mp c1
      refine lv_iload_n hx hb dX2_fittingHands_35 rfl (lv_at hl 1 rfl) ?_
      exact W.iret (v := a4_1) hx hb hr (fun t ht hW => ⟨⟨a4_1, (fun _ => 0), rfl, trivial, trivial⟩, hS.F ht⟩) hS.2.2 dX2_fittingHands_36
    ·
      have c1 : ¬ nh ≤ k4 := fun h => c1 ((nI_leI (a := nh) (b := k4) (by omega) (by omega)).mpr h)
      omega
  | succ d4 ih4 =>
    intro k4 a4_1 H locs ls hk4 hP hS hl
    refine lv_iload_n hx hb dX2_fittingHands_4 rfl (lv_at hl 0 rfl) ?_
    refine lv_aload_n hx hb dX2_fittingHands_5 rfl (lv_at hl 2 rfl) ?_
    refine va_get (D := (dC, dI)) (ci := 2) (v := .ref ho) (C := RX2) (T := TX2) (N := 5) hx hb hts hi_X2 hown hK hP 0 rfl rfl 1 (by decide) (hts (.fieldLink RX2 25 "LeftQuills$Evidence" "office" "LLeftQuills$Office;") (wmx 1 rfl)) (fun _ h9 => h9) e_h0_1 dX2_fittingHands_6 ?_
    refine va_get (D := (dC, dI)) (ci := 5) (v := .int (nI nh)) (C := RX5) (T := TX5) (N := 13) hx hb hts hi_X5 hown hK hP 4 rfl rfl 4 (by decide) (hts (.fieldLink RX2 29 "LeftQuills$Office" "hands" "I") (wmx 2 rfl)) (fun _ h9 => h9) e_ho_4 dX2_fittingHands_9 ?_
    refine lv_icmp_ge (tgt := 35) hx hb dX2_fittingHands_12 (by decide) (fun c2 => ?_) (fun c2 => ?_)
    ·
      have c2 : nh ≤ k4 := (nI_leI (a := nh) (b := k4) (by omega) (by omega)).mp c2
      omega
    ·
      have c2 : ¬ nh ≤ k4 := fun h => c2 ((nI_leI (a := nh) (b := k4) (by omega) (by omega)).mpr h)
      refine lv_aload_n hx hb dX2_fittingHands_15 rfl (lv_at hl 2 rfl) ?_
      refine lv_iload_n hx hb dX2_fittingHands_16 rfl (lv_at hl 0 rfl) ?_
      have hPc := hP.sub (ws' := [(h0, .inr (2, f_h0)), (e2, .inl (cI, 6, .inl fe2)), (e3, .inl (cI, 6, .inl fe3)), (e4, .inl (cI, 6, .inl fe4)), (ho, .inr (5, f_ho)), (o5, .inl (cI, 8, .inl fo5)), (o6, .inl (cI, 8, .inl fo6)), (o7, .inl (cI, 8, .inl fo7)), (o10, .inl (cI, 4, .inl fo10)), (o11, .inl (cI, 4, .inl fo11))]) [0, 1, 2, 3, 4, 5, 6, 7, 8, 9] rfl
      refine va_calli (va_runV (As := [.int (nI k4)]) (rest := []) ⟨hx, hb, hml, hown, hts⟩ (c_X2_allFits l dC dI cI cZ cQ h0 n ho e2 e3 e4 f_h0 fe2 fe3 fe4 o5 o6 o7 o10 o11 o12 f_ho fo5 fo6 fo7 fo10 fo11 k4 H.size e_h0_0 e_h0_1 e_h0_2 e_h0_3 e_h0_4 e_ho_5 e_ho_6 e_ho_7 e_ho_10 e_ho_11 e_ho_12 (by omega) (by omega) (by first | assumption | decide)) (cwV 1 hts gX2_fittingHands_X2_allFits rfl rfl rfl hd_X2_allFits_RX2 ⟨Nat.le_of_ble_eq_true rfl, Nat.le_of_ble_eq_true rfl⟩) ⟨fun a U g mk q => by obtain ⟨q0, q1, qP, qK, qN⟩ := q; exact ⟨q0, q1, qP, va_K.moved (u := U) (U := U.calling g mk a) (Vm.Alike.refl U.vm) qK, qN.calling⟩, va_recv hK hP (ci := 2) (q0 := 0) rfl rfl, fun U hU hW => ⟨rfl, by rw [hU], by rw [hU]; exact hPc, va_K.moved hW.alike hK, hN.warm hW⟩⟩ rfl rfl hl.1 rfl (lv_room (Nat.le_of_ble_eq_true rfl)) dX2_fittingHands_17 ⟨Nat.le_of_ble_eq_true rfl, Nat.le_of_ble_eq_true rfl⟩) hS (fun q _ h => False.elim h) (fun q h => False.elim h) (fun r3 u4 t H1 locs ht hvm hw5 hB hz1 hk1 hS => ?_)
      have hP := hP.kept (fun k q hk => hk1 q.1 (hP k q hk).lt (fun h => h))
      clear hz1 hk1 hPc
      generalize H1 = H at hP hS ht ⊢
      try dsimp only at hw5
      rcases hw5 with rfl | rfl
      ·
        refine lv_if_eq (tgt := 29) hx hb dX2_fittingHands_20 (by decide) (fun c6 => ?_) (fun c6 => ?_)
        · exact absurd c6 (by decide)
        clear c6
        refine lv_iload_n hx hb dX2_fittingHands_23 rfl (lv_at hl 1 rfl) ?_
        refine lv_iconst (v := 1) hx hb dX2_fittingHands_24 (by decide) ?_
        refine lv_iload_n hx hb dX2_fittingHands_25 rfl (lv_at hl 0 rfl) ?_
        refine lv_ishl hx hb dX2_fittingHands_26 ?_
        refine lv_topi (fun z7 ez7 => ?_)
        refine lv_ior hx hb dX2_fittingHands_27 ?_
        refine lv_topi (fun z8 ez8 => ?_)
        refine lv_istore_n (lv' := [(1, .int z8), (2, .int (nI k4)), (0, .ref h0)]) hx hb dX2_fittingHands_28 rfl hl (by decide) rfl (fun ls hl => ?_)
        refine lv_iinc (v := nI (k4 + 1)) (lv' := [(2, .int (nI (k4 + 1))), (1, .int z8), (0, .ref h0)]) hx hb dX2_fittingHands_29 hl (k := 1) rfl ((rfl : nI k4 + Int32.ofInt 1 = nI k4 + 1).trans (nI_add k4 1)) (by decide) rfl (fun ls hl => ?_)
        refine lv_goto (tgt := 4) hx hb dX2_fittingHands_32 (by decide) ?_
        exact ih4 (k4 + 1) z8 _ _ _ (by omega) hP hS (lv_sub hl [0, 1, 2] rfl)
      ·
        refine lv_if_eq (tgt := 29) hx hb dX2_fittingHands_20 (by decide) (fun c9 => ?_) (fun c9 => ?_)
        rotate_left
        · exact absurd c9 (by decide)
        clear c9
        refine lv_iinc (v := nI (k4 + 1)) (lv' := [(2, .int (nI (k4 + 1))), (1, .int a4_1), (0, .ref h0)]) hx hb dX2_fittingHands_29 hl (k := 0) rfl ((rfl : nI k4 + Int32.ofInt 1 = nI k4 + 1).trans (nI_add k4 1)) (by decide) rfl (fun ls hl => ?_)
        refine lv_goto (tgt := 4) hx hb dX2_fittingHands_32 (by decide) ?_
        exact ih4 (k4 + 1) a4_1 _ _ _ (by omega) hP hS (lv_sub hl [0, 1, 2] rfl)
set_option maxHeartbeats 4000000 in
set_option maxRecDepth 100000 in
theorem c_X2_alikeTo (l : Launch) (dC : Nat → ClassId) (dI : Nat → Nat → Nat) (cI cZ cQ : ClassId) (h0 : Nat) (ho : Nat) (f_h0 : List Value) (o5 : Nat) (o6 : Nat) (o7 : Nat) (o10 : Nat) (o11 : Nat) (o12 : Nat) (nh : Nat) (f_ho : List Value) (fo5 : Nat → Int32) (fo6 : Nat → Int32) (fo7 : Nat → Int32) (fo10 : Nat → Int32) (fo11 : Nat → Int32) (k : Nat) (j : Nat) (a0 : Int32) (sz : Nat) (e_h0_1 : fAt f_h0 1 = some (.ref ho)) (e_ho_5 : fAt f_ho 5 = some (.ref o5)) (e_ho_6 : fAt f_ho 6 = some (.ref o6)) (e_ho_7 : fAt f_ho 7 = some (.ref o7)) (e_ho_10 : fAt f_ho 10 = some (.ref o10)) (e_ho_11 : fAt f_ho 11 = some (.ref o11)) (e_ho_12 : fAt f_ho 12 = some (.ref o12)) (e_ho_4 : fAt f_ho 4 = some (.int (nI nh))) (hnh : nh ≤ 4) (hk : k < 4) (hj : j < 8) : Met l yX2_alikeTo wsX2_alikeTo ({ frames := 2, cells := 0, slots := 0, locals := 85 }) (va_Pc [.ref h0, .int (nI k), .int (nI j), .int a0] (fun U => U.heap.size = sz ∧ va_P (dC, dI) vwCl [(h0, .inr (2, f_h0)), (ho, .inr (5, f_ho)), (o5, .inl (cI, 8, .inl fo5)), (o6, .inl (cI, 8, .inl fo6)), (o7, .inl (cI, 8, .inl fo7)), (o10, .inl (cI, 4, .inl fo10)), (o11, .inl (cI, 4, .inl fo11))] U.heap ∧ va_K (dC, dI) vwCl (tys0 cI cZ cQ) U)) (va_Qi (fun (r : Int32) (u : Nat → Nat) => True) (fun (_ : Nat → Nat) (_ : State) => True) (fun _ : Nat => False)) 0 0 (fun _ : Nat => False) := by
  refine Met.ofW (cc := cX2_alikeTo) (maxL := 6) (ret := (some .int)) (by decide) rfl ?_
  intro p e s m args below meth c s₁ B hml hv
  obtain ⟨rfl, hsz, hP, hK⟩ := hv
  have hx := B.exec
  have hb := B.bytes
  have hr := B.returns
  have hts := atoms_spec (ws := wsX2_alikeTo) B.pre
  have hown : s.vm.findClass RX2 = some m.cls := findClass_of_methodNamed B.named
  have hlocks := B.notSynchronized
  have hi_X2 : ∀ w ∈ u_ws RX2 TX2 5, w ∈ wsX2_alikeTo := fun _ h => List.mem_cons_of_mem _ (List.mem_append_left _ (List.mem_append_right _ (h)))
  have hi_X5 : ∀ w ∈ u_ws RX5 TX5 13, w ∈ wsX2_alikeTo := fun _ h => List.mem_cons_of_mem _ (List.mem_append_right _ (h))
  subst hsz
  have hS : va_S (fun _ : Nat => False) s.heap s.heap [] := va_S.rf
  have hl := lv_entry ([.ref h0, .int (nI k), .int (nI j), .int a0]) (n := 6) (Nat.le_of_ble_eq_true rfl)
  rw [lg_entry_eq]
  generalize (lg_sl ([.ref h0, .int (nI k), .int (nI j), .int a0]) ++ List.replicate (6 - (lg_sl ([.ref h0, .int (nI k), .int (nI j), .int a0])).length) Slot.unset).toArray = ls at hl ⊢
  have hl : lv_has ls 6 [(0, .ref h0), (1, .int (nI k)), (2, .int (nI j)), (3, .int a0)] := hl
  refine lv_iconst (v := 0) hx hb dX2_alikeTo_0 (by decide) ?_
  refine lv_istore (lv' := [(4, .int 0), (0, .ref h0), (1, .int (nI k)), (2, .int (nI j)), (3, .int a0)]) hx hb dX2_alikeTo_1 hl (by decide) rfl (fun ls hl => ?_)
  refine lv_iconst (v := 0) hx hb dX2_alikeTo_3 (by decide) ?_
  refine lv_istore (lv' := [(5, .int 0), (4, .int 0), (0, .ref h0), (1, .int (nI k)), (2, .int (nI j)), (3, .int a0)]) hx hb dX2_alikeTo_4 hl (by decide) rfl (fun ls hl => ?_)
  refine (fun (K : ∀ (d6 : Nat) (k6 : Nat) (a6_4 : Int32) (H : Heap) (locs : List Loc) (ls : Array Slot), k6 + d6 = nh → va_P (dC, dI) vwCl [(h0, .inr (2, f_h0)), (ho, .inr (5, f_ho)), (o5, .inl (cI, 8, .inl fo5)), (o6, .inl (cI, 8, .inl fo6)), (o7, .inl (cI, 8, .inl fo7)), (o10, .inl (cI, 4, .inl fo10)), (o11, .inl (cI, 4, .inl fo11))] H → va_S (fun _ : Nat => False) s.heap H locs → lv_has ls 6 [(5, .int (nI k6)), (4, .int a6_4), (0, .ref h0), (1, .int (nI k)), (2, .int (nI j)), (3, .int a0)] → W p l e _ s m _ below meth c H locs _ _ _ (F0 m 6 ls [])) => K nh 0 0 _ _ _ (by omega) hP hS (lv_sub hl [0, 1, 2, 3, 4, 5] rfl)) ?_
  intro d6
  induction d6 with
  | zero =>
    intro k6 a6_4 H locs ls hk6 hP hS hl
    refine lv_iload hx hb dX2_alikeTo_6 (lv_at hl 0 rfl) ?_
    refine lv_aload_n hx hb dX2_alikeTo_8 rfl (lv_at hl 2 rfl) ?_
    refine va_get (D := (dC, dI)) (ci := 2) (v := .ref ho) (C := RX2) (T := TX2) (N := 5) hx hb hts hi_X2 hown hK hP 0 rfl rfl 1 (by decide) (hts (.fieldLink RX2 25 "LeftQuills$Evidence" "office" "LLeftQuills$Office;") (wmx 1 rfl)) (fun _ h9 => h9) e_h0_1 dX2_alikeTo_9 ?_
    refine va_get (D := (dC, dI)) (ci := 5) (v := .int (nI nh)) (C := RX5) (T := TX5) (N := 13) hx hb hts hi_X5 hown hK hP 1 rfl rfl 4 (by decide) (hts (.fieldLink RX2 29 "LeftQuills$Office" "hands" "I") (wmx 2 rfl)) (fun _ h9 => h9) e_ho_4 dX2_alikeTo_12 ?_
    refine lv_icmp_ge (tgt := 58) hx hb dX2_alikeTo_15 (by decide) (fun c1 => ?_) (fun c1 => ?_)
    ·
      have c1 : nh ≤ k6 := (nI_leI (a := nh) (b := k6) (by omega) (by omega)).mp c1
      refine lv_iload hx hb dX2_alikeTo_58 (lv_at hl 1 rfl) ?_
      exact W.iret (v := a6_4) hx hb hr (fun t ht hW => ⟨⟨a6_4, (fun _ => 0), rfl, trivial, trivial⟩, hS.F ht⟩) hS.2.2 dX2_alikeTo_60
    ·
      have c1 : ¬ nh ≤ k6 := fun h => c1 ((nI_leI (a := nh) (b := k6) (by omega) (by omega)).mpr h)
      omega
  | succ d6 ih6 =>
    intro k6 a6_4 H locs ls hk6 hP hS hl
    refine lv_iload hx hb dX2_alikeTo_6 (lv_at hl 0 rfl) ?_
    refine lv_aload_n hx hb dX2_alikeTo_8 rfl (lv_at hl 2 rfl) ?_
    refine va_get (D := (dC, dI)) (ci := 2) (v := .ref ho) (C := RX2) (T := TX2) (N := 5) hx hb hts hi_X2 hown hK hP 0 rfl rfl 1 (by decide) (hts (.fieldLink RX2 25 "LeftQuills$Evidence" "office" "LLeftQuills$Office;") (wmx 1 rfl)) (fun _ h9 => h9) e_h0_1 dX2_alikeTo_9 ?_
    refine va_get (D := (dC, dI)) (ci := 5) (v := .int (nI nh)) (C := RX5) (T := TX5) (N := 13) hx hb hts hi_X5 hown hK hP 1 rfl rfl 4 (by decide) (hts (.fieldLink RX2 29 "LeftQuills$Office" "hands" "I") (wmx 2 rfl)) (fun _ h9 => h9) e_ho_4 dX2_alikeTo_12 ?_
    refine lv_icmp_ge (tgt := 58) hx hb dX2_alikeTo_15 (by decide) (fun c2 => ?_) (fun c2 => ?_)
    ·
      have c2 : nh ≤ k6 := (nI_leI (a := nh) (b := k6) (by omega) (by omega)).mp c2
      omega
    ·
      have c2 : ¬ nh ≤ k6 := fun h => c2 ((nI_leI (a := nh) (b := k6) (by omega) (by omega)).mpr h)
      refine lv_iload_n hx hb dX2_alikeTo_18 rfl (lv_at hl 5 rfl) ?_
      refine lv_iconst (v := 1) hx hb dX2_alikeTo_19 (by decide) ?_
      refine lv_iload hx hb dX2_alikeTo_20 (lv_at hl 0 rfl) ?_
      refine lv_ishl hx hb dX2_alikeTo_22 ?_
      refine lv_topi (fun z3 ez3 => ?_)
      refine lv_iand hx hb dX2_alikeTo_23 ?_
      refine lv_topi (fun z4 ez4 => ?_)
      refine lv_if_eq (tgt := 52) hx hb dX2_alikeTo_24 (by decide) (fun c5 => ?_) (fun c5 => ?_)
      ·
        refine lv_iinc (v := nI (k6 + 1)) (lv' := [(5, .int (nI (k6 + 1))), (4, .int a6_4), (0, .ref h0), (1, .int (nI k)), (2, .int (nI j)), (3, .int a0)]) hx hb dX2_alikeTo_52 hl (k := 0) rfl ((rfl : nI k6 + Int32.ofInt 1 = nI k6 + 1).trans (nI_add k6 1)) (by decide) rfl (fun ls hl => ?_)
        refine lv_goto (tgt := 6) hx hb dX2_alikeTo_55 (by decide) ?_
        exact ih6 (k6 + 1) a6_4 _ _ _ (by omega) hP hS (lv_sub hl [0, 1, 2, 3, 4, 5] rfl)
      ·
        refine lv_aload_n hx hb dX2_alikeTo_27 rfl (lv_at hl 2 rfl) ?_
        refine va_get (D := (dC, dI)) (ci := 2) (v := .ref ho) (C := RX2) (T := TX2) (N := 5) hx hb hts hi_X2 hown hK hP 0 rfl rfl 1 (by decide) (hts (.fieldLink RX2 25 "LeftQuills$Evidence" "office" "LLeftQuills$Office;") (wmx 1 rfl)) (fun _ h9 => h9) e_h0_1 dX2_alikeTo_28 ?_
        refine lv_iload_n hx hb dX2_alikeTo_31 rfl (lv_at hl 4 rfl) ?_
        refine lv_iload hx hb dX2_alikeTo_32 (lv_at hl 0 rfl) ?_
        have hPc := hP.sub (ws' := [(ho, .inr (5, f_ho)), (o5, .inl (cI, 8, .inl fo5)), (o6, .inl (cI, 8, .inl fo6)), (o7, .inl (cI, 8, .inl fo7)), (o10, .inl (cI, 4, .inl fo10)), (o11, .inl (cI, 4, .inl fo11))]) [1, 2, 3, 4, 5, 6] rfl
        refine va_calli (va_runV (As := [.int (nI j), .int (nI k6)]) (rest := []) ⟨hx, hb, hml, hown, hts⟩ (c_X5_wear l dC dI cI cZ cQ ho o5 o6 o7 o10 o11 f_ho fo5 fo6 fo7 fo10 fo11 j k6 H.size e_ho_5 e_ho_6 e_ho_7 e_ho_10 e_ho_11 (by omega) (by omega)) (cwV 2 hts gX2_alikeTo_X5_wear rfl rfl rfl hd_X5_wear_RX5 ⟨Nat.le_of_ble_eq_true rfl, Nat.le_of_ble_eq_true rfl⟩) (pv_R (va_recv hK hP (ci := 5) (q0 := 1) rfl rfl) hK hPc) rfl rfl hl.1 rfl (lv_room (Nat.le_of_ble_eq_true rfl)) dX2_alikeTo_34 ⟨Nat.le_of_ble_eq_true rfl, Nat.le_of_ble_eq_true rfl⟩) hS (fun q _ h => False.elim h) (fun q h => False.elim h) (fun r6 u7 t H1 locs ht hvm hw8 hB hz1 hk1 hS => ?_)
        have hP := hP.kept (fun k q hk => hk1 q.1 (hP k q hk).lt (fun h => h))
        clear hz1 hk1 hPc
        generalize H1 = H at hP hS ht ⊢
        try dsimp only at hw8
        refine lv_aload_n hx hb dX2_alikeTo_37 rfl (lv_at hl 2 rfl) ?_
        refine va_get (D := (dC, dI)) (ci := 2) (v := .ref ho) (C := RX2) (T := TX2) (N := 5) hx hb hts hi_X2 hown hK hP 0 rfl rfl 1 (by decide) (hts (.fieldLink RX2 25 "LeftQuills$Evidence" "office" "LLeftQuills$Office;") (wmx 1 rfl)) (fun _ h9 => h9) e_h0_1 dX2_alikeTo_38 ?_
        refine lv_iload_n hx hb dX2_alikeTo_41 rfl (lv_at hl 4 rfl) ?_
        refine lv_iload_n hx hb dX2_alikeTo_42 rfl (lv_at hl 3 rfl) ?_
        have hPc := hP.sub (ws' := [(ho, .inr (5, f_ho)), (o5, .inl (cI, 8, .inl fo5)), (o6, .inl (cI, 8, .inl fo6)), (o7, .inl (cI, 8, .inl fo7)), (o10, .inl (cI, 4, .inl fo10)), (o11, .inl (cI, 4, .inl fo11))]) [1, 2, 3, 4, 5, 6] rfl
        refine va_calli (va_runV (As := [.int (nI j), .int (nI k)]) (rest := [.int r6]) ⟨hx, hb, hml, hown, hts⟩ (c_X5_wear l dC dI cI cZ cQ ho o5 o6 o7 o10 o11 f_ho fo5 fo6 fo7 fo10 fo11 j k H.size e_ho_5 e_ho_6 e_ho_7 e_ho_10 e_ho_11 (by omega) (by omega)) (cwV 2 hts gX2_alikeTo_X5_wear rfl rfl rfl hd_X5_wear_RX5 ⟨Nat.le_of_ble_eq_true rfl, Nat.le_of_ble_eq_true rfl⟩) (pv_R (va_recv hK hP (ci := 5) (q0 := 1) rfl rfl) hK hPc) rfl rfl hl.1 rfl (lv_room (Nat.le_of_ble_eq_true rfl)) dX2_alikeTo_43 ⟨Nat.le_of_ble_eq_true rfl, Nat.le_of_ble_eq_true rfl⟩) hS (fun q _ h => False.elim h) (fun q h => False.elim h) (fun r9 u10 t H1 locs ht hvm hw11 hB hz1 hk1 hS => ?_)
        have hP := hP.kept (fun k q hk => hk1 q.1 (hP k q hk).lt (fun h => h))
        clear hz1 hk1 hPc
        generalize H1 = H at hP hS ht ⊢
        try dsimp only at hw11
        refine lv_icmp_ne (tgt := 52) hx hb dX2_alikeTo_46 (by decide) (fun c12 => ?_) (fun c12 => ?_)
        ·
          refine lv_iinc (v := nI (k6 + 1)) (lv' := [(5, .int (nI (k6 + 1))), (4, .int a6_4), (0, .ref h0), (1, .int (nI k)), (2, .int (nI j)), (3, .int a0)]) hx hb dX2_alikeTo_52 hl (k := 0) rfl ((rfl : nI k6 + Int32.ofInt 1 = nI k6 + 1).trans (nI_add k6 1)) (by decide) rfl (fun ls hl => ?_)
          refine lv_goto (tgt := 6) hx hb dX2_alikeTo_55 (by decide) ?_
          exact ih6 (k6 + 1) a6_4 _ _ _ (by omega) hP hS (lv_sub hl [0, 1, 2, 3, 4, 5] rfl)
        ·
          obtain ⟨z13, ez13⟩ : ∃ y : Int32, y = a6_4 + 1 := ⟨_, rfl⟩
          refine lv_iinc (v := z13) (lv' := [(4, .int z13), (5, .int (nI k6)), (0, .ref h0), (1, .int (nI k)), (2, .int (nI j)), (3, .int a0)]) hx hb dX2_alikeTo_49 hl (k := 1) rfl (by rw [ez13]; rfl) (by decide) rfl (fun ls hl => ?_)
          refine lv_iinc (v := nI (k6 + 1)) (lv' := [(5, .int (nI (k6 + 1))), (4, .int z13), (0, .ref h0), (1, .int (nI k)), (2, .int (nI j)), (3, .int a0)]) hx hb dX2_alikeTo_52 hl (k := 1) rfl ((rfl : nI k6 + Int32.ofInt 1 = nI k6 + 1).trans (nI_add k6 1)) (by decide) rfl (fun ls hl => ?_)
          refine lv_goto (tgt := 6) hx hb dX2_alikeTo_55 (by decide) ?_
          exact ih6 (k6 + 1) z13 _ _ _ (by omega) hP hS (lv_sub hl [0, 1, 2, 3, 4, 5] rfl)
set_option maxHeartbeats 4000000 in
set_option maxRecDepth 100000 in
theorem c_X2_greatestAlike (l : Launch) (dC : Nat → ClassId) (dI : Nat → Nat → Nat) (cI cZ cQ : ClassId) (h0 : Nat) (ho : Nat) (f_h0 : List Value) (o5 : Nat) (o6 : Nat) (o7 : Nat) (o10 : Nat) (o11 : Nat) (o12 : Nat) (nh : Nat) (f_ho : List Value) (fo5 : Nat → Int32) (fo6 : Nat → Int32) (fo7 : Nat → Int32) (fo10 : Nat → Int32) (fo11 : Nat → Int32) (j : Nat) (a0 : Int32) (sz : Nat) (e_h0_1 : fAt f_h0 1 = some (.ref ho)) (e_ho_5 : fAt f_ho 5 = some (.ref o5)) (e_ho_6 : fAt f_ho 6 = some (.ref o6)) (e_ho_7 : fAt f_ho 7 = some (.ref o7)) (e_ho_10 : fAt f_ho 10 = some (.ref o10)) (e_ho_11 : fAt f_ho 11 = some (.ref o11)) (e_ho_12 : fAt f_ho 12 = some (.ref o12)) (e_ho_4 : fAt f_ho 4 = some (.int (nI nh))) (hnh : nh ≤ 4) (hj : j < 8) : Met l yX2_greatestAlike wsX2_greatestAlike ({ frames := 3, cells := 0, slots := 0, locals := 110 }) (va_Pc [.ref h0, .int (nI j), .int a0] (fun U => U.heap.size = sz ∧ va_P (dC, dI) vwCl [(h0, .inr (2, f_h0)), (ho, .inr (5, f_ho)), (o5, .inl (cI, 8, .inl fo5)), (o6, .inl (cI, 8, .inl fo6)), (o7, .inl (cI, 8, .inl fo7)), (o10, .inl (cI, 4, .inl fo10)), (o11, .inl (cI, 4, .inl fo11))] U.heap ∧ va_K (dC, dI) vwCl (tys0 cI cZ cQ) U)) (va_Qi (fun (r : Int32) (u : Nat → Nat) => True) (fun (_ : Nat → Nat) (_ : State) => True) (fun _ : Nat => False)) 0 0 (fun _ : Nat => False) := by
  refine Met.ofW (cc := cX2_greatestAlike) (maxL := 5) (ret := (some .int)) (by decide) rfl ?_
  intro p e s m args below meth c s₁ B hml hv
  obtain ⟨rfl, hsz, hP, hK⟩ := hv
  have hx := B.exec
  have hb := B.bytes
  have hr := B.returns
  have hts := atoms_spec (ws := wsX2_greatestAlike) B.pre
  have hown : s.vm.findClass RX2 = some m.cls := findClass_of_methodNamed B.named
  have hlocks := B.notSynchronized
  have hi_X2 : ∀ w ∈ u_ws RX2 TX2 5, w ∈ wsX2_greatestAlike := fun _ h => List.mem_cons_of_mem _ (List.mem_append_left _ (List.mem_append_right _ (h)))
  have hi_X5 : ∀ w ∈ u_ws RX5 TX5 13, w ∈ wsX2_greatestAlike := fun _ h => List.mem_cons_of_mem _ (List.mem_append_right _ (h))
  subst hsz
  have hS : va_S (fun _ : Nat => False) s.heap s.heap [] := va_S.rf
  have hl := lv_entry ([.ref h0, .int (nI j), .int a0]) (n := 5) (Nat.le_of_ble_eq_true rfl)
  rw [lg_entry_eq]
  generalize (lg_sl ([.ref h0, .int (nI j), .int a0]) ++ List.replicate (5 - (lg_sl ([.ref h0, .int (nI j), .int a0])).length) Slot.unset).toArray = ls at hl ⊢
  have hl : lv_has ls 5 [(0, .ref h0), (1, .int (nI j)), (2, .int a0)] := hl
  refine lv_iconst (v := 0) hx hb dX2_greatestAlike_0 (by decide) ?_
  refine lv_istore_n (lv' := [(3, .int 0), (0, .ref h0), (1, .int (nI j)), (2, .int a0)]) hx hb dX2_greatestAlike_1 rfl hl (by decide) rfl (fun ls hl => ?_)
  refine lv_iconst (v := 0) hx hb dX2_greatestAlike_2 (by decide) ?_
  refine lv_istore (lv' := [(4, .int 0), (3, .int 0), (0, .ref h0), (1, .int (nI j)), (2, .int a0)]) hx hb dX2_greatestAlike_3 hl (by decide) rfl (fun ls hl => ?_)
  refine (fun (K : ∀ (d5 : Nat) (k5 : Nat) (a5_3 : Int32) (H : Heap) (locs : List Loc) (ls : Array Slot), k5 + d5 = nh → va_P (dC, dI) vwCl [(h0, .inr (2, f_h0)), (ho, .inr (5, f_ho)), (o5, .inl (cI, 8, .inl fo5)), (o6, .inl (cI, 8, .inl fo6)), (o7, .inl (cI, 8, .inl fo7)), (o10, .inl (cI, 4, .inl fo10)), (o11, .inl (cI, 4, .inl fo11))] H → va_S (fun _ : Nat => False) s.heap H locs → lv_has ls 5 [(4, .int (nI k5)), (3, .int a5_3), (0, .ref h0), (1, .int (nI j)), (2, .int a0)] → W p l e _ s m _ below meth c H locs _ _ _ (F0 m 5 ls [])) => K nh 0 0 _ _ _ (by omega) hP hS (lv_sub hl [0, 1, 2, 3, 4] rfl)) ?_
  intro d5
  induction d5 with
  | zero =>
    intro k5 a5_3 H locs ls hk5 hP hS hl
    refine lv_iload hx hb dX2_greatestAlike_5 (lv_at hl 0 rfl) ?_
    refine lv_aload_n hx hb dX2_greatestAlike_7 rfl (lv_at hl 2 rfl) ?_
    refine va_get (D := (dC, dI)) (ci := 2) (v := .ref ho) (C := RX2) (T := TX2) (N := 5) hx hb hts hi_X2 hown hK hP 0 rfl rfl 1 (by decide) (hts (.fieldLink RX2 25 "LeftQuills$Evidence" "office" "LLeftQuills$Office;") (wmx 1 rfl)) (fun _ h9 => h9) e_h0_1 dX2_greatestAlike_8 ?_
    refine va_get (D := (dC, dI)) (ci := 5) (v := .int (nI nh)) (C := RX5) (T := TX5) (N := 13) hx hb hts hi_X5 hown hK hP 1 rfl rfl 4 (by decide) (hts (.fieldLink RX2 29 "LeftQuills$Office" "hands" "I") (wmx 2 rfl)) (fun _ h9 => h9) e_ho_4 dX2_greatestAlike_11 ?_
    refine lv_icmp_ge (tgt := 45) hx hb dX2_greatestAlike_14 (by decide) (fun c1 => ?_) (fun c1 => ?_)
    ·
      have c1 : nh ≤ k5 := (nI_leI (a := nh) (b := k5) (by omega) (by omega)).mp c1
      refine lv_iload_n hx hb dX2_greatestAlike_45 rfl (lv_at hl 1 rfl) ?_
      exact W.iret (v := a5_3) hx hb hr (fun t ht hW => ⟨⟨a5_3, (fun _ => 0), rfl, trivial, trivial⟩, hS.F ht⟩) hS.2.2 dX2_greatestAlike_46
    ·
      have c1 : ¬ nh ≤ k5 := fun h => c1 ((nI_leI (a := nh) (b := k5) (by omega) (by omega)).mpr h)
      omega
  | succ d5 ih5 =>
    intro k5 a5_3 H locs ls hk5 hP hS hl
    refine lv_iload hx hb dX2_greatestAlike_5 (lv_at hl 0 rfl) ?_
    refine lv_aload_n hx hb dX2_greatestAlike_7 rfl (lv_at hl 2 rfl) ?_
    refine va_get (D := (dC, dI)) (ci := 2) (v := .ref ho) (C := RX2) (T := TX2) (N := 5) hx hb hts hi_X2 hown hK hP 0 rfl rfl 1 (by decide) (hts (.fieldLink RX2 25 "LeftQuills$Evidence" "office" "LLeftQuills$Office;") (wmx 1 rfl)) (fun _ h9 => h9) e_h0_1 dX2_greatestAlike_8 ?_
    refine va_get (D := (dC, dI)) (ci := 5) (v := .int (nI nh)) (C := RX5) (T := TX5) (N := 13) hx hb hts hi_X5 hown hK hP 1 rfl rfl 4 (by decide) (hts (.fieldLink RX2 29 "LeftQuills$Office" "hands" "I") (wmx 2 rfl)) (fun _ h9 => h9) e_ho_4 dX2_greatestAlike_11 ?_
    refine lv_icmp_ge (tgt := 45) hx hb dX2_greatestAlike_14 (by decide) (fun c2 => ?_) (fun c2 => ?_)
    ·
      have c2 : nh ≤ k5 := (nI_leI (a := nh) (b := k5) (by omega) (by omega)).mp c2
      omega
    ·
      have c2 : ¬ nh ≤ k5 := fun h => c2 ((nI_leI (a := nh) (b := k5) (by omega) (by omega)).mpr h)
      refine lv_iload_n hx hb dX2_greatestAlike_17 rfl (lv_at hl 4 rfl) ?_
      refine lv_iconst (v := 1) hx hb dX2_greatestAlike_18 (by decide) ?_
      refine lv_iload hx hb dX2_greatestAlike_19 (lv_at hl 0 rfl) ?_
      refine lv_ishl hx hb dX2_greatestAlike_21 ?_
      refine lv_topi (fun z3 ez3 => ?_)
      refine lv_iand hx hb dX2_greatestAlike_22 ?_
      refine lv_topi (fun z4 ez4 => ?_)
      refine lv_if_eq (tgt := 39) hx hb dX2_greatestAlike_23 (by decide) (fun c5 => ?_) (fun c5 => ?_)
      ·
        refine lv_iinc (v := nI (k5 + 1)) (lv' := [(4, .int (nI (k5 + 1))), (3, .int a5_3), (0, .ref h0), (1, .int (nI j)), (2, .int a0)]) hx hb dX2_greatestAlike_39 hl (k := 0) rfl ((rfl : nI k5 + Int32.ofInt 1 = nI k5 + 1).trans (nI_add k5 1)) (by decide) rfl (fun ls hl => ?_)
        refine lv_goto (tgt := 5) hx hb dX2_greatestAlike_42 (by decide) ?_
        exact ih5 (k5 + 1) a5_3 _ _ _ (by omega) hP hS (lv_sub hl [0, 1, 2, 3, 4] rfl)
      ·
        refine lv_iload_n hx hb dX2_greatestAlike_26 rfl (lv_at hl 1 rfl) ?_
        refine lv_aload_n hx hb dX2_greatestAlike_27 rfl (lv_at hl 2 rfl) ?_
        refine lv_iload hx hb dX2_greatestAlike_28 (lv_at hl 0 rfl) ?_
        refine lv_iload_n hx hb dX2_greatestAlike_30 rfl (lv_at hl 3 rfl) ?_
        refine lv_iload_n hx hb dX2_greatestAlike_31 rfl (lv_at hl 4 rfl) ?_
        have hPc := hP.sub (ws' := [(h0, .inr (2, f_h0)), (ho, .inr (5, f_ho)), (o5, .inl (cI, 8, .inl fo5)), (o6, .inl (cI, 8, .inl fo6)), (o7, .inl (cI, 8, .inl fo7)), (o10, .inl (cI, 4, .inl fo10)), (o11, .inl (cI, 4, .inl fo11))]) [0, 1, 2, 3, 4, 5, 6] rfl
        refine va_calli (va_runV (As := [.int (nI k5), .int (nI j), .int a0]) (rest := [.int a5_3]) ⟨hx, hb, hml, hown, hts⟩ (c_X2_alikeTo l dC dI cI cZ cQ h0 ho f_h0 o5 o6 o7 o10 o11 o12 nh f_ho fo5 fo6 fo7 fo10 fo11 k5 j a0 H.size e_h0_1 e_ho_5 e_ho_6 e_ho_7 e_ho_10 e_ho_11 e_ho_12 e_ho_4 (by omega) (by omega) (by omega)) (cwV 3 hts gX2_greatestAlike_X2_alikeTo rfl rfl rfl hd_X2_alikeTo_RX2 ⟨Nat.le_of_ble_eq_true rfl, Nat.le_of_ble_eq_true rfl⟩) (pv_R (va_recv hK hP (ci := 2) (q0 := 0) rfl rfl) hK hPc) rfl rfl hl.1 rfl (lv_room (Nat.le_of_ble_eq_true rfl)) dX2_greatestAlike_32 ⟨Nat.le_of_ble_eq_true rfl, Nat.le_of_ble_eq_true rfl⟩) hS (fun q _ h => False.elim h) (fun q h => False.elim h) (fun r6 u7 t H1 locs ht hvm hw8 hB hz1 hk1 hS => ?_)
        have hP := hP.kept (fun k q hk => hk1 q.1 (hP k q hk).lt (fun h => h))
        clear hz1 hk1 hPc
        generalize H1 = H at hP hS ht ⊢
        try dsimp only at hw8
        refine va_mmax hx hb (hml.trans hl.1.symm) hown (hts (.methodLink RX2 65 Lib.Math.max.name) (wmx 3 rfl)) (hts (.static Lib.Math.max.name) (wmx 4 rfl)) (hts (.initialized "java/lang/Math") (wmx 5 rfl)) (hts (.code Lib.Math.max.name Lib.Math.max.code 2 (some .int)) (wmx 6 rfl)) (Nat.le_of_ble_eq_true rfl) (Nat.le_of_ble_eq_true rfl) (Nat.le_of_ble_eq_true rfl) (Nat.le_of_ble_eq_true rfl) dX2_greatestAlike_35 ?_
        refine lv_topi (fun z9 ez9 => ?_)
        refine lv_istore_n (lv' := [(3, .int z9), (4, .int (nI k5)), (0, .ref h0), (1, .int (nI j)), (2, .int a0)]) hx hb dX2_greatestAlike_38 rfl hl (by decide) rfl (fun ls hl => ?_)
        refine lv_iinc (v := nI (k5 + 1)) (lv' := [(4, .int (nI (k5 + 1))), (3, .int z9), (0, .ref h0), (1, .int (nI j)), (2, .int a0)]) hx hb dX2_greatestAlike_39 hl (k := 1) rfl ((rfl : nI k5 + Int32.ofInt 1 = nI k5 + 1).trans (nI_add k5 1)) (by decide) rfl (fun ls hl => ?_)
        refine lv_goto (tgt := 5) hx hb dX2_greatestAlike_42 (by decide) ?_
        exact ih5 (k5 + 1) z9 _ _ _ (by omega) hP hS (lv_sub hl [0, 1, 2, 3, 4] rfl)
set_option maxHeartbeats 4000000 in
set_option maxRecDepth 100000 in
theorem c_J6_bitCount_0f7a4 (l : Launch) (dC : Nat → ClassId) (dI : Nat → Nat → Nat) (cI cZ cQ : ClassId) (a0 : Int32) (sz : Nat)  : Met l yJ6_bitCount_0f7a4 wsJ6_bitCount_0f7a4 ({ frames := 0, cells := 0, slots := 0, locals := 40 }) (va_Pc [.int a0] (fun U => U.heap.size = sz ∧ va_P (dC, dI) vwCl [] U.heap ∧ va_K (dC, dI) vwCl (tys0 cI cZ cQ) U)) (va_Qi (fun (r : Int32) (u : Nat → Nat) => True) (fun (_ : Nat → Nat) (_ : State) => True) (fun _ : Nat => False)) 0 0 (fun _ : Nat => False) := by
  refine Met.ofW (cc := cJ6_bitCount_0f7a4) (maxL := 1) (ret := (some .int)) (by decide) rfl ?_
  intro p e s m args below meth c s₁ B hml hv
  obtain ⟨rfl, hsz, hP, hK⟩ := hv
  have hx := B.exec
  have hb := B.bytes
  have hr := B.returns
  have hts := atoms_spec (ws := wsJ6_bitCount_0f7a4) B.pre
  have hown : s.vm.findClass RJ6 = some m.cls := findClass_of_methodNamed B.named
  have hlocks := B.notSynchronized
  subst hsz
  have hS : va_S (fun _ : Nat => False) s.heap s.heap [] := va_S.rf
  have hl := lv_entry ([.int a0]) (n := 1) (Nat.le_of_ble_eq_true rfl)
  rw [lg_entry_eq]
  generalize (lg_sl ([.int a0]) ++ List.replicate (1 - (lg_sl ([.int a0])).length) Slot.unset).toArray = ls at hl ⊢
  have hl : lv_has ls 1 [(0, .int a0)] := hl
  refine lv_iload_n hx hb dJ6_bitCount_0f7a4_0 rfl (lv_at hl 0 rfl) ?_
  refine lv_iload_n hx hb dJ6_bitCount_0f7a4_1 rfl (lv_at hl 0 rfl) ?_
  refine lv_iconst (v := 1) hx hb dJ6_bitCount_0f7a4_2 (by decide) ?_
  refine lv_iushr hx hb dJ6_bitCount_0f7a4_3 rfl ?_
  refine lv_topi (fun z1 ez1 => ?_)
  refine lv_ldcw (v := 1431655765) hx hb hown (hts (.constant RJ6 265 1431655765) (wmx 1 rfl)) dJ6_bitCount_0f7a4_4 ?_
  refine lv_iand hx hb dJ6_bitCount_0f7a4_7 ?_
  refine lv_topi (fun z2 ez2 => ?_)
  refine lv_isub hx hb dJ6_bitCount_0f7a4_8 ?_
  refine lv_topi (fun z3 ez3 => ?_)
  refine lv_istore_n (lv' := [(0, .int z3)]) hx hb dJ6_bitCount_0f7a4_9 rfl hl (by decide) rfl (fun ls hl => ?_)
  refine lv_iload_n hx hb dJ6_bitCount_0f7a4_10 rfl (lv_at hl 0 rfl) ?_
  refine lv_ldcw (v := 858993459) hx hb hown (hts (.constant RJ6 266 858993459) (wmx 2 rfl)) dJ6_bitCount_0f7a4_11 ?_
  refine lv_iand hx hb dJ6_bitCount_0f7a4_14 ?_
  refine lv_topi (fun z4 ez4 => ?_)
  refine lv_iload_n hx hb dJ6_bitCount_0f7a4_15 rfl (lv_at hl 0 rfl) ?_
  refine lv_iconst (v := 2) hx hb dJ6_bitCount_0f7a4_16 (by decide) ?_
  refine lv_iushr hx hb dJ6_bitCount_0f7a4_17 rfl ?_
  refine lv_topi (fun z5 ez5 => ?_)
  refine lv_ldcw (v := 858993459) hx hb hown (hts (.constant RJ6 266 858993459) (wmx 2 rfl)) dJ6_bitCount_0f7a4_18 ?_
  refine lv_iand hx hb dJ6_bitCount_0f7a4_21 ?_
  refine lv_topi (fun z6 ez6 => ?_)
  refine lv_iadd hx hb dJ6_bitCount_0f7a4_22 ?_
  refine lv_topi (fun z7 ez7 => ?_)
  refine lv_istore_n (lv' := [(0, .int z7)]) hx hb dJ6_bitCount_0f7a4_23 rfl hl (by decide) rfl (fun ls hl => ?_)
  refine lv_iload_n hx hb dJ6_bitCount_0f7a4_24 rfl (lv_at hl 0 rfl) ?_
  refine lv_iload_n hx hb dJ6_bitCount_0f7a4_25 rfl (lv_at hl 0 rfl) ?_
  refine lv_iconst (v := 4) hx hb dJ6_bitCount_0f7a4_26 (by decide) ?_
  refine lv_iushr hx hb dJ6_bitCount_0f7a4_27 rfl ?_
  refine lv_topi (fun z8 ez8 => ?_)
  refine lv_iadd hx hb dJ6_bitCount_0f7a4_28 ?_
  refine lv_topi (fun z9 ez9 => ?_)
  refine lv_ldcw (v := 252645135) hx hb hown (hts (.constant RJ6 267 252645135) (wmx 3 rfl)) dJ6_bitCount_0f7a4_29 ?_
  refine lv_iand hx hb dJ6_bitCount_0f7a4_32 ?_
  refine lv_topi (fun z10 ez10 => ?_)
  refine lv_istore_n (lv' := [(0, .int z10)]) hx hb dJ6_bitCount_0f7a4_33 rfl hl (by decide) rfl (fun ls hl => ?_)
  refine lv_iload_n hx hb dJ6_bitCount_0f7a4_34 rfl (lv_at hl 0 rfl) ?_
  refine lv_iload_n hx hb dJ6_bitCount_0f7a4_35 rfl (lv_at hl 0 rfl) ?_
  refine lv_bipush (v := 8) hx hb dJ6_bitCount_0f7a4_36 (by decide) ?_
  refine lv_iushr hx hb dJ6_bitCount_0f7a4_38 rfl ?_
  refine lv_topi (fun z11 ez11 => ?_)
  refine lv_iadd hx hb dJ6_bitCount_0f7a4_39 ?_
  refine lv_topi (fun z12 ez12 => ?_)
  refine lv_istore_n (lv' := [(0, .int z12)]) hx hb dJ6_bitCount_0f7a4_40 rfl hl (by decide) rfl (fun ls hl => ?_)
  refine lv_iload_n hx hb dJ6_bitCount_0f7a4_41 rfl (lv_at hl 0 rfl) ?_
  refine lv_iload_n hx hb dJ6_bitCount_0f7a4_42 rfl (lv_at hl 0 rfl) ?_
  refine lv_bipush (v := 16) hx hb dJ6_bitCount_0f7a4_43 (by decide) ?_
  refine lv_iushr hx hb dJ6_bitCount_0f7a4_45 rfl ?_
  refine lv_topi (fun z13 ez13 => ?_)
  refine lv_iadd hx hb dJ6_bitCount_0f7a4_46 ?_
  refine lv_topi (fun z14 ez14 => ?_)
  refine lv_istore_n (lv' := [(0, .int z14)]) hx hb dJ6_bitCount_0f7a4_47 rfl hl (by decide) rfl (fun ls hl => ?_)
  refine lv_iload_n hx hb dJ6_bitCount_0f7a4_48 rfl (lv_at hl 0 rfl) ?_
  refine lv_bipush (v := 63) hx hb dJ6_bitCount_0f7a4_49 (by decide) ?_
  refine lv_iand hx hb dJ6_bitCount_0f7a4_51 ?_
  refine lv_topi (fun z15 ez15 => ?_)
  exact W.iret (v := z15) hx hb hr (fun t ht hW => ⟨⟨z15, (fun _ => 0), rfl, trivial, trivial⟩, hS.F ht⟩) hS.2.2 dJ6_bitCount_0f7a4_52
set_option maxHeartbeats 4000000 in
set_option maxRecDepth 100000 in
theorem c_X2_bestToLookAt (l : Launch) (dC : Nat → ClassId) (dI : Nat → Nat → Nat) (cI cZ cQ : ClassId) (h0 : Nat) (n : Nat) (ho : Nat) (e2 : Nat) (e3 : Nat) (e4 : Nat) (f_h0 : List Value) (fe2 : Nat → Int32) (fe3 : Nat → Int32) (fe4 : Nat → Int32) (o5 : Nat) (o6 : Nat) (o7 : Nat) (o10 : Nat) (o11 : Nat) (o12 : Nat) (nq : Nat) (nh : Nat) (f_ho : List Value) (fo5 : Nat → Int32) (fo6 : Nat → Int32) (fo7 : Nat → Int32) (fo10 : Nat → Int32) (fo11 : Nat → Int32) (sz : Nat) (e_h0_0 : fAt f_h0 0 = some (.int (nI n))) (e_h0_1 : fAt f_h0 1 = some (.ref ho)) (e_h0_2 : fAt f_h0 2 = some (.ref e2)) (e_h0_3 : fAt f_h0 3 = some (.ref e3)) (e_h0_4 : fAt f_h0 4 = some (.ref e4)) (e_ho_5 : fAt f_ho 5 = some (.ref o5)) (e_ho_6 : fAt f_ho 6 = some (.ref o6)) (e_ho_7 : fAt f_ho 7 = some (.ref o7)) (e_ho_10 : fAt f_ho 10 = some (.ref o10)) (e_ho_11 : fAt f_ho 11 = some (.ref o11)) (e_ho_12 : fAt f_ho 12 = some (.ref o12)) (e_ho_3 : fAt f_ho 3 = some (.int (nI nq))) (e_ho_4 : fAt f_ho 4 = some (.int (nI nh))) (hn : n ≤ 6) (hnh : nh ≤ 4) (hnq : nq ≤ 8) (hqi : qIn fe2 n) : Met l yX2_bestToLookAt wsX2_bestToLookAt ({ frames := 4, cells := 0, slots := 0, locals := 134 }) (va_Pc [.ref h0] (fun U => U.heap.size = sz ∧ va_P (dC, dI) vwCl [(h0, .inr (2, f_h0)), (e2, .inl (cI, 6, .inl fe2)), (e3, .inl (cI, 6, .inl fe3)), (e4, .inl (cI, 6, .inl fe4)), (ho, .inr (5, f_ho)), (o5, .inl (cI, 8, .inl fo5)), (o6, .inl (cI, 8, .inl fo6)), (o7, .inl (cI, 8, .inl fo7)), (o10, .inl (cI, 4, .inl fo10)), (o11, .inl (cI, 4, .inl fo11))] U.heap ∧ va_K (dC, dI) vwCl (tys0 cI cZ cQ) U ∧ xN U)) (va_Qi (fun (r : Int32) (u : Nat → Nat) => True) (fun (_ : Nat → Nat) (_ : State) => True) (fun _ : Nat => False)) 0 0 (fun _ : Nat => False) := by
  refine Met.ofW (cc := cX2_bestToLookAt) (maxL := 6) (ret := (some .int)) (by decide) rfl ?_
  intro p e s m args below meth c s₁ B hml hv
  obtain ⟨rfl, hsz, hP, hK, hN⟩ := hv
  have hx := B.exec
  have hb := B.bytes
  have hr := B.returns
  have hts := atoms_spec (ws := wsX2_bestToLookAt) B.pre
  have hown : s.vm.findClass RX2 = some m.cls := findClass_of_methodNamed B.named
  have hlocks := B.notSynchronized
  have hi_X2 : ∀ w ∈ u_ws RX2 TX2 5, w ∈ wsX2_bestToLookAt := fun _ h => List.mem_cons_of_mem _ (List.mem_append_left _ (List.mem_append_right _ (h)))
  have hi_X5 : ∀ w ∈ u_ws RX5 TX5 13, w ∈ wsX2_bestToLookAt := fun _ h => List.mem_cons_of_mem _ (List.mem_append_right _ (h))
  subst hsz
  have hS : va_S (fun _ : Nat => False) s.heap s.heap [] := va_S.rf
  have hl := lv_entry ([.ref h0]) (n := 6) (Nat.le_of_ble_eq_true rfl)
  rw [lg_entry_eq]
  generalize (lg_sl ([.ref h0]) ++ List.replicate (6 - (lg_sl ([.ref h0])).length) Slot.unset).toArray = ls at hl ⊢
  have hl : lv_has ls 6 [(0, .ref h0)] := hl
  refine lv_aload_n hx hb dX2_bestToLookAt_0 rfl (lv_at hl 0 rfl) ?_
  have hPc := hP.sub (ws' := [(h0, .inr (2, f_h0)), (e2, .inl (cI, 6, .inl fe2)), (e3, .inl (cI, 6, .inl fe3)), (e4, .inl (cI, 6, .inl fe4)), (ho, .inr (5, f_ho)), (o5, .inl (cI, 8, .inl fo5)), (o6, .inl (cI, 8, .inl fo6)), (o7, .inl (cI, 8, .inl fo7)), (o10, .inl (cI, 4, .inl fo10)), (o11, .inl (cI, 4, .inl fo11))]) [0, 1, 2, 3, 4, 5, 6, 7, 8, 9] rfl
  refine va_calli (va_runV (As := []) (rest := []) ⟨hx, hb, hml, hown, hts⟩ (c_X2_fittingHands l dC dI cI cZ cQ h0 n ho e2 e3 e4 f_h0 fe2 fe3 fe4 o5 o6 o7 o10 o11 o12 nh f_ho fo5 fo6 fo7 fo10 fo11 s.heap.size e_h0_0 e_h0_1 e_h0_2 e_h0_3 e_h0_4 e_ho_5 e_ho_6 e_ho_7 e_ho_10 e_ho_11 e_ho_12 e_ho_4 (by omega) (by omega) (by first | assumption | decide)) (cwV 0 hts gX2_bestToLookAt_X2_fittingHands rfl rfl rfl hd_X2_fittingHands_RX2 ⟨Nat.le_of_ble_eq_true rfl, Nat.le_of_ble_eq_true rfl⟩) ⟨fun a U g mk q => by obtain ⟨q0, q1, qP, qK, qN⟩ := q; exact ⟨q0, q1, qP, va_K.moved (u := U) (U := U.calling g mk a) (Vm.Alike.refl U.vm) qK, qN.calling⟩, va_recv hK hP (ci := 2) (q0 := 0) rfl rfl, fun U hU hW => ⟨rfl, by rw [hU], by rw [hU]; exact hPc, va_K.moved hW.alike hK, hN.warm hW⟩⟩ rfl rfl hl.1 rfl (lv_room (Nat.le_of_ble_eq_true rfl)) dX2_bestToLookAt_1 ⟨Nat.le_of_ble_eq_true rfl, Nat.le_of_ble_eq_true rfl⟩) hS (fun q _ h => False.elim h) (fun q h => False.elim h) (fun r1 u2 t H1 locs ht hvm hw3 hB hz1 hk1 hS => ?_)
  have hP := hP.kept (fun k q hk => hk1 q.1 (hP k q hk).lt (fun h => h))
  clear hz1 hk1 hPc
  generalize H1 = H at hP hS ht ⊢
  try dsimp only at hw3
  refine lv_istore_n (lv' := [(1, .int r1), (0, .ref h0)]) hx hb dX2_bestToLookAt_4 rfl hl (by decide) rfl (fun ls hl => ?_)
  refine lv_iconst (v := (-1)) hx hb dX2_bestToLookAt_5 (by decide) ?_
  refine lv_istore_n (lv' := [(2, .int (-1)), (1, .int r1), (0, .ref h0)]) hx hb dX2_bestToLookAt_6 rfl hl (by decide) rfl (fun ls hl => ?_)
  refine lv_iload_n hx hb dX2_bestToLookAt_7 rfl (lv_at hl 1 rfl) ?_
  have hPc := hP.sub (ws' := []) [] rfl
  refine va_calli (va_runS (As := [.int r1]) (rest := []) ⟨hx, hb, hml, hown, hts⟩ (c_J6_bitCount_0f7a4 l dC dI cI cZ cQ r1 H.size ) (va_cwS 1 hts gX2_bestToLookAt_J6_bitCount_0f7a4 rfl rfl rfl (by decide +kernel) ⟨Nat.le_of_ble_eq_true rfl, Nat.le_of_ble_eq_true rfl⟩) (ps_R hK hPc) rfl rfl hl.1 rfl (lv_room (Nat.le_of_ble_eq_true rfl)) dX2_bestToLookAt_8 ⟨Nat.le_of_ble_eq_true rfl, Nat.le_of_ble_eq_true rfl⟩) hS (fun q _ h => False.elim h) (fun q h => False.elim h) (fun r4 u5 t H1 locs ht hvm hw6 hB hz1 hk1 hS => ?_)
  have hP := hP.kept (fun k q hk => hk1 q.1 (hP k q hk).lt (fun h => h))
  clear hz1 hk1 hPc
  generalize H1 = H at hP hS ht ⊢
  try dsimp only at hw6
  refine lv_istore_n (lv' := [(3, .int r4), (2, .int (-1)), (1, .int r1), (0, .ref h0)]) hx hb dX2_bestToLookAt_11 rfl hl (by decide) rfl (fun ls hl => ?_)
  refine lv_iconst (v := 0) hx hb dX2_bestToLookAt_12 (by decide) ?_
  refine lv_istore (lv' := [(4, .int 0), (3, .int r4), (2, .int (-1)), (1, .int r1), (0, .ref h0)]) hx hb dX2_bestToLookAt_13 hl (by decide) rfl (fun ls hl => ?_)
  refine (fun (K : ∀ (d15 : Nat) (k15 : Nat) (a15_2 : Int32) (a15_3 : Int32) (H : Heap) (locs : List Loc) (ls : Array Slot), k15 + d15 = nq → va_P (dC, dI) vwCl [(h0, .inr (2, f_h0)), (e2, .inl (cI, 6, .inl fe2)), (e3, .inl (cI, 6, .inl fe3)), (e4, .inl (cI, 6, .inl fe4)), (ho, .inr (5, f_ho)), (o5, .inl (cI, 8, .inl fo5)), (o6, .inl (cI, 8, .inl fo6)), (o7, .inl (cI, 8, .inl fo7)), (o10, .inl (cI, 4, .inl fo10)), (o11, .inl (cI, 4, .inl fo11))] H → va_S (fun _ : Nat => False) s.heap H locs → lv_has ls 6 [(4, .int (nI k15)), (2, .int a15_2), (3, .int a15_3), (1, .int r1), (0, .ref h0)] → W p l e _ s m _ below meth c H locs _ _ _ (F0 m 15 ls [])) => K nq 0 (-1) r4 _ _ _ (by omega) hP hS (lv_sub hl [0, 2, 1, 3, 4] rfl)) ?_
  intro d15
  induction d15 with
  | zero =>
    intro k15 a15_2 a15_3 H locs ls hk15 hP hS hl
    refine lv_iload hx hb dX2_bestToLookAt_15 (lv_at hl 0 rfl) ?_
    refine lv_aload_n hx hb dX2_bestToLookAt_17 rfl (lv_at hl 4 rfl) ?_
    refine va_get (D := (dC, dI)) (ci := 2) (v := .ref ho) (C := RX2) (T := TX2) (N := 5) hx hb hts hi_X2 hown hK hP 0 rfl rfl 1 (by decide) (hts (.fieldLink RX2 25 "LeftQuills$Evidence" "office" "LLeftQuills$Office;") (wmx 1 rfl)) (fun _ h9 => h9) e_h0_1 dX2_bestToLookAt_18 ?_
    refine va_get (D := (dC, dI)) (ci := 5) (v := .int (nI nq)) (C := RX5) (T := TX5) (N := 13) hx hb hts hi_X5 hown hK hP 4 rfl rfl 3 (by decide) (hts (.fieldLink RX2 55 "LeftQuills$Office" "quills" "I") (wmx 2 rfl)) (fun _ h9 => h9) e_ho_3 dX2_bestToLookAt_21 ?_
    refine lv_icmp_ge (tgt := 54) hx hb dX2_bestToLookAt_24 (by decide) (fun c7 => ?_) (fun c7 => ?_)
    ·
      have c7 : nq ≤ k15 := (nI_leI (a := nq) (b := k15) (by omega) (by omega)).mp c7
      refine lv_iload_n hx hb dX2_bestToLookAt_54 rfl (lv_at hl 1 rfl) ?_
      exact W.iret (v := a15_2) hx hb hr (fun t ht hW => ⟨⟨a15_2, (fun _ => 0), rfl, trivial, trivial⟩, hS.F ht⟩) hS.2.2 dX2_bestToLookAt_55
    ·
      have c7 : ¬ nq ≤ k15 := fun h => c7 ((nI_leI (a := nq) (b := k15) (by omega) (by omega)).mpr h)
      omega
  | succ d15 ih15 =>
    intro k15 a15_2 a15_3 H locs ls hk15 hP hS hl
    refine lv_iload hx hb dX2_bestToLookAt_15 (lv_at hl 0 rfl) ?_
    refine lv_aload_n hx hb dX2_bestToLookAt_17 rfl (lv_at hl 4 rfl) ?_
    refine va_get (D := (dC, dI)) (ci := 2) (v := .ref ho) (C := RX2) (T := TX2) (N := 5) hx hb hts hi_X2 hown hK hP 0 rfl rfl 1 (by decide) (hts (.fieldLink RX2 25 "LeftQuills$Evidence" "office" "LLeftQuills$Office;") (wmx 1 rfl)) (fun _ h9 => h9) e_h0_1 dX2_bestToLookAt_18 ?_
    refine va_get (D := (dC, dI)) (ci := 5) (v := .int (nI nq)) (C := RX5) (T := TX5) (N := 13) hx hb hts hi_X5 hown hK hP 4 rfl rfl 3 (by decide) (hts (.fieldLink RX2 55 "LeftQuills$Office" "quills" "I") (wmx 2 rfl)) (fun _ h9 => h9) e_ho_3 dX2_bestToLookAt_21 ?_
    refine lv_icmp_ge (tgt := 54) hx hb dX2_bestToLookAt_24 (by decide) (fun c8 => ?_) (fun c8 => ?_)
    ·
      have c8 : nq ≤ k15 := (nI_leI (a := nq) (b := k15) (by omega) (by omega)).mp c8
      omega
    ·
      have c8 : ¬ nq ≤ k15 := fun h => c8 ((nI_leI (a := nq) (b := k15) (by omega) (by omega)).mpr h)
      refine lv_aload_n hx hb dX2_bestToLookAt_27 rfl (lv_at hl 4 rfl) ?_
      refine lv_iload hx hb dX2_bestToLookAt_28 (lv_at hl 0 rfl) ?_
      refine lv_iload_n hx hb dX2_bestToLookAt_30 rfl (lv_at hl 3 rfl) ?_
      have hPc := hP.sub (ws' := [(h0, .inr (2, f_h0)), (ho, .inr (5, f_ho)), (o5, .inl (cI, 8, .inl fo5)), (o6, .inl (cI, 8, .inl fo6)), (o7, .inl (cI, 8, .inl fo7)), (o10, .inl (cI, 4, .inl fo10)), (o11, .inl (cI, 4, .inl fo11))]) [0, 4, 5, 6, 7, 8, 9] rfl
      refine va_calli (va_runV (As := [.int (nI k15), .int r1]) (rest := []) ⟨hx, hb, hml, hown, hts⟩ (c_X2_greatestAlike l dC dI cI cZ cQ h0 ho f_h0 o5 o6 o7 o10 o11 o12 nh f_ho fo5 fo6 fo7 fo10 fo11 k15 r1 H.size e_h0_1 e_ho_5 e_ho_6 e_ho_7 e_ho_10 e_ho_11 e_ho_12 e_ho_4 (by omega) (by omega)) (cwV 2 hts gX2_bestToLookAt_X2_greatestAlike rfl rfl rfl hd_X2_greatestAlike_RX2 ⟨Nat.le_of_ble_eq_true rfl, Nat.le_of_ble_eq_true rfl⟩) (pv_R (va_recv hK hP (ci := 2) (q0 := 0) rfl rfl) hK hPc) rfl rfl hl.1 rfl (lv_room (Nat.le_of_ble_eq_true rfl)) dX2_bestToLookAt_31 ⟨Nat.le_of_ble_eq_true rfl, Nat.le_of_ble_eq_true rfl⟩) hS (fun q _ h => False.elim h) (fun q h => False.elim h) (fun r9 u10 t H1 locs ht hvm hw11 hB hz1 hk1 hS => ?_)
      have hP := hP.kept (fun k q hk => hk1 q.1 (hP k q hk).lt (fun h => h))
      clear hz1 hk1 hPc
      generalize H1 = H at hP hS ht ⊢
      try dsimp only at hw11
      refine lv_istore (lv' := [(5, .int r9), (4, .int (nI k15)), (2, .int a15_2), (3, .int a15_3), (1, .int r1), (0, .ref h0)]) hx hb dX2_bestToLookAt_34 hl (by decide) rfl (fun ls hl => ?_)
      refine lv_iload hx hb dX2_bestToLookAt_36 (lv_at hl 0 rfl) ?_
      refine lv_iload_n hx hb dX2_bestToLookAt_38 rfl (lv_at hl 3 rfl) ?_
      refine lv_icmp_ge (tgt := 48) hx hb dX2_bestToLookAt_39 (by decide) (fun c12 => ?_) (fun c12 => ?_)
      ·
        refine lv_iinc (v := nI (k15 + 1)) (lv' := [(4, .int (nI (k15 + 1))), (5, .int r9), (2, .int a15_2), (3, .int a15_3), (1, .int r1), (0, .ref h0)]) hx hb dX2_bestToLookAt_48 hl (k := 1) rfl ((rfl : nI k15 + Int32.ofInt 1 = nI k15 + 1).trans (nI_add k15 1)) (by decide) rfl (fun ls hl => ?_)
        refine lv_goto (tgt := 15) hx hb dX2_bestToLookAt_51 (by decide) ?_
        exact ih15 (k15 + 1) a15_2 a15_3 _ _ _ (by omega) hP hS (lv_sub hl [0, 2, 3, 4, 5] rfl)
      ·
        refine lv_iload hx hb dX2_bestToLookAt_42 (lv_at hl 0 rfl) ?_
        refine lv_istore_n (lv' := [(3, .int r9), (5, .int r9), (4, .int (nI k15)), (2, .int a15_2), (1, .int r1), (0, .ref h0)]) hx hb dX2_bestToLookAt_44 rfl hl (by decide) rfl (fun ls hl => ?_)
        refine lv_iload hx hb dX2_bestToLookAt_45 (lv_at hl 2 rfl) ?_
        refine lv_istore_n (lv' := [(2, .int (nI k15)), (3, .int r9), (5, .int r9), (4, .int (nI k15)), (1, .int r1), (0, .ref h0)]) hx hb dX2_bestToLookAt_47 rfl hl (by decide) rfl (fun ls hl => ?_)
        refine lv_iinc (v := nI (k15 + 1)) (lv' := [(4, .int (nI (k15 + 1))), (2, .int (nI k15)), (3, .int r9), (5, .int r9), (1, .int r1), (0, .ref h0)]) hx hb dX2_bestToLookAt_48 hl (k := 3) rfl ((rfl : nI k15 + Int32.ofInt 1 = nI k15 + 1).trans (nI_add k15 1)) (by decide) rfl (fun ls hl => ?_)
        refine lv_goto (tgt := 15) hx hb dX2_bestToLookAt_51 (by decide) ?_
        exact ih15 (k15 + 1) (nI k15) r9 _ _ _ (by omega) hP hS (lv_sub hl [0, 1, 2, 4, 5] rfl)

