set_option maxHeartbeats 4000000 in
set_option maxRecDepth 100000 in
theorem c_X1_allPagesD (l : Launch) (dC : Nat → ClassId) (dI : Nat → Nat → Nat) (cI cZ cQ : ClassId) (h0 : Nat) (a5 : Nat) (ho : Nat) (f_h0 : List Value) (nh : Nat) (f_ho : List Value) (fa5 : Nat → Int32) (sz : Nat) (e_h0_5 : f_h0[5]? = some (.ref a5)) (e_h0_7 : f_h0[7]? = some (.ref ho)) (e_ho_4 : f_ho[4]? = some (.int (nI nh))) (hnh : nh ≤ 4) : Met l yX1_allPages wsX1_allPages ({ frames := 0, cells := 0, slots := 0, locals := 40 }) (va_Pc [.ref h0] (fun U => U.heap.size = sz ∧ va_P (dC, dI) vwCl [(h0, .inr (1, f_h0)), (ho, .inr (5, f_ho)), (a5, .inl (cI, 4, .inl fa5))] U.heap ∧ va_K (dC, dI) vwCl (tys0 cI cZ cQ) U)) (va_Qi (fun (r : Int32) (u : Nat → Nat) => r = smF fa5 nh) (fun (_ : Nat → Nat) (_ : State) => True) (fun _ : Nat => False)) 0 0 (fun _ : Nat => False) := by
  refine Met.ofW (cc := cX1_allPages) (maxL := 3) (ret := (some .int)) (by decide) rfl ?_
  intro p e s m args below meth c s₁ B hml hv
  obtain ⟨rfl, hsz, hP, hK⟩ := hv
  have hx := B.exec
  have hb := B.bytes
  have hr := B.returns
  have hts := atoms_spec (ws := wsX1_allPages) B.pre
  have hown : s.vm.findClass RX1 = some m.cls := findClass_of_methodNamed B.named
  have hlocks := B.notSynchronized
  have hi_X1 : ∀ w ∈ u_ws RX1 TX1 8, w ∈ wsX1_allPages := by decide +kernel
  have hi_X5 : ∀ w ∈ u_ws RX5 TX5 13, w ∈ wsX1_allPages := by decide +kernel
  subst hsz
  have hS : va_S (fun _ : Nat => False) s.heap s.heap [] := va_S.rf
  have hl := lv_entry ([.ref h0]) (n := 3) (Nat.le_of_ble_eq_true rfl)
  rw [lg_entry_eq]
  generalize (lg_sl ([.ref h0]) ++ List.replicate (3 - (lg_sl ([.ref h0])).length) Slot.unset).toArray = ls at hl ⊢
  have hl : lv_has ls 3 [(0, .ref h0)] := hl
  refine lv_iconst (v := 0) hx hb dX1_allPages_0 (by decide) ?_
  refine lv_istore_n (lv' := [(1, .int 0), (0, .ref h0)]) hx hb dX1_allPages_1 rfl hl (by decide) rfl (fun ls hl => ?_)
  refine lv_iconst (v := 0) hx hb dX1_allPages_2 (by decide) ?_
  refine lv_istore_n (lv' := [(2, .int 0), (1, .int 0), (0, .ref h0)]) hx hb dX1_allPages_3 rfl hl (by decide) rfl (fun ls hl => ?_)
  refine (fun (K : ∀ (d4 : Nat) (k4 : Nat) (a4_1 : Int32) (H : Heap) (locs : List Loc) (ls : Array Slot), k4 + d4 = nh → a4_1 = smF fa5 k4 → va_P (dC, dI) vwCl [(h0, .inr (1, f_h0)), (ho, .inr (5, f_ho)), (a5, .inl (cI, 4, .inl fa5))] H → va_S (fun _ : Nat => False) s.heap H locs → lv_has ls 3 [(2, .int (nI k4)), (1, .int a4_1), (0, .ref h0)] → W p l e _ s m _ below meth c H locs _ _ _ (F0 m 4 ls [])) => K nh 0 0 _ _ _ (by omega) rfl hP hS (lv_sub hl [0, 1, 2] rfl)) ?_
  intro d4
  induction d4 with
  | zero =>
    intro k4 a4_1 H locs ls hk4 hv4_0 hP hS hl
    refine lv_iload_n hx hb dX1_allPages_4 rfl (lv_at hl 0 rfl) ?_
    refine lv_aload_n hx hb dX1_allPages_5 rfl (lv_at hl 2 rfl) ?_
    refine va_get (D := (dC, dI)) (ci := 1) (v := .ref ho) (C := RX1) (T := TX1) (N := 8) hx hb hts hi_X1 hown hK hP 0 rfl rfl 7 (by decide) (hts (.fieldLink RX1 34 "LeftQuills$Desk" "office" "LLeftQuills$Office;") (wmx 1 rfl)) (fun _ h9 => h9) e_h0_7 dX1_allPages_6 ?_
    refine va_get (D := (dC, dI)) (ci := 5) (v := .int (nI nh)) (C := RX5) (T := TX5) (N := 13) hx hb hts hi_X5 hown hK hP 1 rfl rfl 4 (by decide) (hts (.fieldLink RX1 78 "LeftQuills$Office" "hands" "I") (wmx 2 rfl)) (fun _ h9 => h9) e_ho_4 dX1_allPages_9 ?_
    refine lv_icmp_ge (tgt := 30) hx hb dX1_allPages_12 (by decide) (fun c1 => ?_) (fun c1 => ?_)
    ·
      have c1 : nh ≤ k4 := (nI_leI (a := nh) (b := k4) (by omega) (by omega)).mp c1
      refine lv_iload_n hx hb dX1_allPages_30 rfl (lv_at hl 1 rfl) ?_
      exact W.iret (v := a4_1) hx hb hr (fun t ht hW => ⟨⟨a4_1, (fun _ => 0), rfl, (hv4_0.trans (by rw [show k4 = nh from by omega])), trivial⟩, hS.F ht⟩) hS.2.2 dX1_allPages_31
    ·
      have c1 : ¬ nh ≤ k4 := fun h => c1 ((nI_leI (a := nh) (b := k4) (by omega) (by omega)).mpr h)
      omega
  | succ d4 ih4 =>
    intro k4 a4_1 H locs ls hk4 hv4_0 hP hS hl
    refine lv_iload_n hx hb dX1_allPages_4 rfl (lv_at hl 0 rfl) ?_
    refine lv_aload_n hx hb dX1_allPages_5 rfl (lv_at hl 2 rfl) ?_
    refine va_get (D := (dC, dI)) (ci := 1) (v := .ref ho) (C := RX1) (T := TX1) (N := 8) hx hb hts hi_X1 hown hK hP 0 rfl rfl 7 (by decide) (hts (.fieldLink RX1 34 "LeftQuills$Desk" "office" "LLeftQuills$Office;") (wmx 1 rfl)) (fun _ h9 => h9) e_h0_7 dX1_allPages_6 ?_
    refine va_get (D := (dC, dI)) (ci := 5) (v := .int (nI nh)) (C := RX5) (T := TX5) (N := 13) hx hb hts hi_X5 hown hK hP 1 rfl rfl 4 (by decide) (hts (.fieldLink RX1 78 "LeftQuills$Office" "hands" "I") (wmx 2 rfl)) (fun _ h9 => h9) e_ho_4 dX1_allPages_9 ?_
    refine lv_icmp_ge (tgt := 30) hx hb dX1_allPages_12 (by decide) (fun c2 => ?_) (fun c2 => ?_)
    ·
      have c2 : nh ≤ k4 := (nI_leI (a := nh) (b := k4) (by omega) (by omega)).mp c2
      omega
    ·
      have c2 : ¬ nh ≤ k4 := fun h => c2 ((nI_leI (a := nh) (b := k4) (by omega) (by omega)).mpr h)
      refine lv_iload_n hx hb dX1_allPages_15 rfl (lv_at hl 1 rfl) ?_
      refine lv_aload_n hx hb dX1_allPages_16 rfl (lv_at hl 2 rfl) ?_
      refine va_get (D := (dC, dI)) (ci := 1) (v := .ref a5) (C := RX1) (T := TX1) (N := 8) hx hb hts hi_X1 hown hK hP 0 rfl rfl 5 (by decide) (hts (.fieldLink RX1 28 "LeftQuills$Desk" "pages" "[I") (wmx 3 rfl)) (fun _ h9 => h9) e_h0_5 dX1_allPages_17 ?_
      refine lv_iload_n hx hb dX1_allPages_20 rfl (lv_at hl 0 rfl) ?_
      refine va_iald hx hb hK hP 2 0 rfl rfl (vp_in_nI (n := k4) (N := 4) (by omega) (by decide)) dX1_allPages_21 ?_
      refine W.eq (g2 := F0 m 22 ls [.int (fa5 k4), .int a4_1]) (congrArg (fun y9 => F0 m 22 ls (.int (fa5 y9) :: [.int a4_1])) ((nI_clamp (n := k4) (by omega)))) ?_
      refine lv_iadd hx hb dX1_allPages_22 ?_
      refine lv_istore_n (lv' := [(1, .int (a4_1 + (fa5 k4))), (2, .int (nI k4)), (0, .ref h0)]) hx hb dX1_allPages_23 rfl hl (by decide) rfl (fun ls hl => ?_)
      refine lv_iinc (v := nI (k4 + 1)) (lv' := [(2, .int (nI (k4 + 1))), (1, .int (a4_1 + (fa5 k4))), (0, .ref h0)]) hx hb dX1_allPages_24 hl (k := 1) rfl ((rfl : nI k4 + Int32.ofInt 1 = nI k4 + 1).trans (nI_add k4 1)) (by decide) rfl (fun ls hl => ?_)
      refine lv_goto (tgt := 4) hx hb dX1_allPages_27 (by decide) ?_
      exact ih4 (k4 + 1) (a4_1 + (fa5 k4)) _ _ _ (by omega) (by rw [hv4_0]; rfl) hP hS (lv_sub hl [0, 1, 2] rfl)
set_option maxHeartbeats 4000000 in
set_option maxRecDepth 100000 in
theorem c_X1_allGoodD (l : Launch) (dC : Nat → ClassId) (dI : Nat → Nat → Nat) (cI cZ cQ : ClassId) (h0 : Nat) (a6 : Nat) (ho : Nat) (f_h0 : List Value) (nh : Nat) (f_ho : List Value) (fa6 : Nat → Int32) (sz : Nat) (e_h0_6 : f_h0[6]? = some (.ref a6)) (e_h0_7 : f_h0[7]? = some (.ref ho)) (e_ho_4 : f_ho[4]? = some (.int (nI nh))) (hnh : nh ≤ 4) : Met l yX1_allGood wsX1_allGood ({ frames := 0, cells := 0, slots := 0, locals := 40 }) (va_Pc [.ref h0] (fun U => U.heap.size = sz ∧ va_P (dC, dI) vwCl [(h0, .inr (1, f_h0)), (ho, .inr (5, f_ho)), (a6, .inl (cI, 4, .inl fa6))] U.heap ∧ va_K (dC, dI) vwCl (tys0 cI cZ cQ) U)) (va_Qi (fun (r : Int32) (u : Nat → Nat) => r = smF fa6 nh) (fun (_ : Nat → Nat) (_ : State) => True) (fun _ : Nat => False)) 0 0 (fun _ : Nat => False) := by
  refine Met.ofW (cc := cX1_allGood) (maxL := 3) (ret := (some .int)) (by decide) rfl ?_
  intro p e s m args below meth c s₁ B hml hv
  obtain ⟨rfl, hsz, hP, hK⟩ := hv
  have hx := B.exec
  have hb := B.bytes
  have hr := B.returns
  have hts := atoms_spec (ws := wsX1_allGood) B.pre
  have hown : s.vm.findClass RX1 = some m.cls := findClass_of_methodNamed B.named
  have hlocks := B.notSynchronized
  have hi_X1 : ∀ w ∈ u_ws RX1 TX1 8, w ∈ wsX1_allGood := by decide +kernel
  have hi_X5 : ∀ w ∈ u_ws RX5 TX5 13, w ∈ wsX1_allGood := by decide +kernel
  subst hsz
  have hS : va_S (fun _ : Nat => False) s.heap s.heap [] := va_S.rf
  have hl := lv_entry ([.ref h0]) (n := 3) (Nat.le_of_ble_eq_true rfl)
  rw [lg_entry_eq]
  generalize (lg_sl ([.ref h0]) ++ List.replicate (3 - (lg_sl ([.ref h0])).length) Slot.unset).toArray = ls at hl ⊢
  have hl : lv_has ls 3 [(0, .ref h0)] := hl
  refine lv_iconst (v := 0) hx hb dX1_allGood_0 (by decide) ?_
  refine lv_istore_n (lv' := [(1, .int 0), (0, .ref h0)]) hx hb dX1_allGood_1 rfl hl (by decide) rfl (fun ls hl => ?_)
  refine lv_iconst (v := 0) hx hb dX1_allGood_2 (by decide) ?_
  refine lv_istore_n (lv' := [(2, .int 0), (1, .int 0), (0, .ref h0)]) hx hb dX1_allGood_3 rfl hl (by decide) rfl (fun ls hl => ?_)
  refine (fun (K : ∀ (d4 : Nat) (k4 : Nat) (a4_1 : Int32) (H : Heap) (locs : List Loc) (ls : Array Slot), k4 + d4 = nh → a4_1 = smF fa6 k4 → va_P (dC, dI) vwCl [(h0, .inr (1, f_h0)), (ho, .inr (5, f_ho)), (a6, .inl (cI, 4, .inl fa6))] H → va_S (fun _ : Nat => False) s.heap H locs → lv_has ls 3 [(2, .int (nI k4)), (1, .int a4_1), (0, .ref h0)] → W p l e _ s m _ below meth c H locs _ _ _ (F0 m 4 ls [])) => K nh 0 0 _ _ _ (by omega) rfl hP hS (lv_sub hl [0, 1, 2] rfl)) ?_
  intro d4
  induction d4 with
  | zero =>
    intro k4 a4_1 H locs ls hk4 hv4_0 hP hS hl
    refine lv_iload_n hx hb dX1_allGood_4 rfl (lv_at hl 0 rfl) ?_
    refine lv_aload_n hx hb dX1_allGood_5 rfl (lv_at hl 2 rfl) ?_
    refine va_get (D := (dC, dI)) (ci := 1) (v := .ref ho) (C := RX1) (T := TX1) (N := 8) hx hb hts hi_X1 hown hK hP 0 rfl rfl 7 (by decide) (hts (.fieldLink RX1 34 "LeftQuills$Desk" "office" "LLeftQuills$Office;") (wmx 1 rfl)) (fun _ h9 => h9) e_h0_7 dX1_allGood_6 ?_
    refine va_get (D := (dC, dI)) (ci := 5) (v := .int (nI nh)) (C := RX5) (T := TX5) (N := 13) hx hb hts hi_X5 hown hK hP 1 rfl rfl 4 (by decide) (hts (.fieldLink RX1 78 "LeftQuills$Office" "hands" "I") (wmx 2 rfl)) (fun _ h9 => h9) e_ho_4 dX1_allGood_9 ?_
    refine lv_icmp_ge (tgt := 30) hx hb dX1_allGood_12 (by decide) (fun c1 => ?_) (fun c1 => ?_)
    ·
      have c1 : nh ≤ k4 := (nI_leI (a := nh) (b := k4) (by omega) (by omega)).mp c1
      refine lv_iload_n hx hb dX1_allGood_30 rfl (lv_at hl 1 rfl) ?_
      exact W.iret (v := a4_1) hx hb hr (fun t ht hW => ⟨⟨a4_1, (fun _ => 0), rfl, (hv4_0.trans (by rw [show k4 = nh from by omega])), trivial⟩, hS.F ht⟩) hS.2.2 dX1_allGood_31
    ·
      have c1 : ¬ nh ≤ k4 := fun h => c1 ((nI_leI (a := nh) (b := k4) (by omega) (by omega)).mpr h)
      omega
  | succ d4 ih4 =>
    intro k4 a4_1 H locs ls hk4 hv4_0 hP hS hl
    refine lv_iload_n hx hb dX1_allGood_4 rfl (lv_at hl 0 rfl) ?_
    refine lv_aload_n hx hb dX1_allGood_5 rfl (lv_at hl 2 rfl) ?_
    refine va_get (D := (dC, dI)) (ci := 1) (v := .ref ho) (C := RX1) (T := TX1) (N := 8) hx hb hts hi_X1 hown hK hP 0 rfl rfl 7 (by decide) (hts (.fieldLink RX1 34 "LeftQuills$Desk" "office" "LLeftQuills$Office;") (wmx 1 rfl)) (fun _ h9 => h9) e_h0_7 dX1_allGood_6 ?_
    refine va_get (D := (dC, dI)) (ci := 5) (v := .int (nI nh)) (C := RX5) (T := TX5) (N := 13) hx hb hts hi_X5 hown hK hP 1 rfl rfl 4 (by decide) (hts (.fieldLink RX1 78 "LeftQuills$Office" "hands" "I") (wmx 2 rfl)) (fun _ h9 => h9) e_ho_4 dX1_allGood_9 ?_
    refine lv_icmp_ge (tgt := 30) hx hb dX1_allGood_12 (by decide) (fun c2 => ?_) (fun c2 => ?_)
    ·
      have c2 : nh ≤ k4 := (nI_leI (a := nh) (b := k4) (by omega) (by omega)).mp c2
      omega
    ·
      have c2 : ¬ nh ≤ k4 := fun h => c2 ((nI_leI (a := nh) (b := k4) (by omega) (by omega)).mpr h)
      refine lv_iload_n hx hb dX1_allGood_15 rfl (lv_at hl 1 rfl) ?_
      refine lv_aload_n hx hb dX1_allGood_16 rfl (lv_at hl 2 rfl) ?_
      refine va_get (D := (dC, dI)) (ci := 1) (v := .ref a6) (C := RX1) (T := TX1) (N := 8) hx hb hts hi_X1 hown hK hP 0 rfl rfl 6 (by decide) (hts (.fieldLink RX1 31 "LeftQuills$Desk" "good" "[I") (wmx 3 rfl)) (fun _ h9 => h9) e_h0_6 dX1_allGood_17 ?_
      refine lv_iload_n hx hb dX1_allGood_20 rfl (lv_at hl 0 rfl) ?_
      refine va_iald hx hb hK hP 2 0 rfl rfl (vp_in_nI (n := k4) (N := 4) (by omega) (by decide)) dX1_allGood_21 ?_
      refine W.eq (g2 := F0 m 22 ls [.int (fa6 k4), .int a4_1]) (congrArg (fun y9 => F0 m 22 ls (.int (fa6 y9) :: [.int a4_1])) ((nI_clamp (n := k4) (by omega)))) ?_
      refine lv_iadd hx hb dX1_allGood_22 ?_
      refine lv_istore_n (lv' := [(1, .int (a4_1 + (fa6 k4))), (2, .int (nI k4)), (0, .ref h0)]) hx hb dX1_allGood_23 rfl hl (by decide) rfl (fun ls hl => ?_)
      refine lv_iinc (v := nI (k4 + 1)) (lv' := [(2, .int (nI (k4 + 1))), (1, .int (a4_1 + (fa6 k4))), (0, .ref h0)]) hx hb dX1_allGood_24 hl (k := 1) rfl ((rfl : nI k4 + Int32.ofInt 1 = nI k4 + 1).trans (nI_add k4 1)) (by decide) rfl (fun ls hl => ?_)
      refine lv_goto (tgt := 4) hx hb dX1_allGood_27 (by decide) ?_
      exact ih4 (k4 + 1) (a4_1 + (fa6 k4)) _ _ _ (by omega) (by rw [hv4_0]; rfl) hP hS (lv_sub hl [0, 1, 2] rfl)
set_option maxHeartbeats 4000000 in
set_option maxRecDepth 100000 in
theorem c_X1_softQuillsD (l : Launch) (dC : Nat → ClassId) (dI : Nat → Nat → Nat) (cI cZ cQ : ClassId) (h0 : Nat) (a4 : Nat) (ho : Nat) (f_h0 : List Value) (nq : Nat) (f_ho : List Value) (fa4 : Nat → Int32) (sz : Nat) (e_h0_4 : f_h0[4]? = some (.ref a4)) (e_h0_7 : f_h0[7]? = some (.ref ho)) (e_ho_3 : f_ho[3]? = some (.int (nI nq))) (hnq : nq ≤ 8) : Met l yX1_softQuills wsX1_softQuills ({ frames := 0, cells := 0, slots := 0, locals := 40 }) (va_Pc [.ref h0] (fun U => U.heap.size = sz ∧ va_P (dC, dI) vwCl [(h0, .inr (1, f_h0)), (ho, .inr (5, f_ho)), (a4, .inl (cI, 8, .inl fa4))] U.heap ∧ va_K (dC, dI) vwCl (tys0 cI cZ cQ) U)) (va_Qi (fun (r : Int32) (u : Nat → Nat) => r = sfF fa4 nq) (fun (_ : Nat → Nat) (_ : State) => True) (fun _ : Nat => False)) 0 0 (fun _ : Nat => False) := by
  refine Met.ofW (cc := cX1_softQuills) (maxL := 3) (ret := (some .int)) (by decide) rfl ?_
  intro p e s m args below meth c s₁ B hml hv
  obtain ⟨rfl, hsz, hP, hK⟩ := hv
  have hx := B.exec
  have hb := B.bytes
  have hr := B.returns
  have hts := atoms_spec (ws := wsX1_softQuills) B.pre
  have hown : s.vm.findClass RX1 = some m.cls := findClass_of_methodNamed B.named
  have hlocks := B.notSynchronized
  have hi_X1 : ∀ w ∈ u_ws RX1 TX1 8, w ∈ wsX1_softQuills := by decide +kernel
  have hi_X5 : ∀ w ∈ u_ws RX5 TX5 13, w ∈ wsX1_softQuills := by decide +kernel
  subst hsz
  have hS : va_S (fun _ : Nat => False) s.heap s.heap [] := va_S.rf
  have hl := lv_entry ([.ref h0]) (n := 3) (Nat.le_of_ble_eq_true rfl)
  rw [lg_entry_eq]
  generalize (lg_sl ([.ref h0]) ++ List.replicate (3 - (lg_sl ([.ref h0])).length) Slot.unset).toArray = ls at hl ⊢
  have hl : lv_has ls 3 [(0, .ref h0)] := hl
  refine lv_iconst (v := 0) hx hb dX1_softQuills_0 (by decide) ?_
  refine lv_istore_n (lv' := [(1, .int 0), (0, .ref h0)]) hx hb dX1_softQuills_1 rfl hl (by decide) rfl (fun ls hl => ?_)
  refine lv_iconst (v := 0) hx hb dX1_softQuills_2 (by decide) ?_
  refine lv_istore_n (lv' := [(2, .int 0), (1, .int 0), (0, .ref h0)]) hx hb dX1_softQuills_3 rfl hl (by decide) rfl (fun ls hl => ?_)
  refine (fun (K : ∀ (d4 : Nat) (k4 : Nat) (a4_1 : Int32) (H : Heap) (locs : List Loc) (ls : Array Slot), k4 + d4 = nq → a4_1 = sfF fa4 k4 → va_P (dC, dI) vwCl [(h0, .inr (1, f_h0)), (ho, .inr (5, f_ho)), (a4, .inl (cI, 8, .inl fa4))] H → va_S (fun _ : Nat => False) s.heap H locs → lv_has ls 3 [(2, .int (nI k4)), (1, .int a4_1), (0, .ref h0)] → W p l e _ s m _ below meth c H locs _ _ _ (F0 m 4 ls [])) => K nq 0 0 _ _ _ (by omega) rfl hP hS (lv_sub hl [0, 1, 2] rfl)) ?_
  intro d4
  induction d4 with
  | zero =>
    intro k4 a4_1 H locs ls hk4 hv4_0 hP hS hl
    refine lv_iload_n hx hb dX1_softQuills_4 rfl (lv_at hl 0 rfl) ?_
    refine lv_aload_n hx hb dX1_softQuills_5 rfl (lv_at hl 2 rfl) ?_
    refine va_get (D := (dC, dI)) (ci := 1) (v := .ref ho) (C := RX1) (T := TX1) (N := 8) hx hb hts hi_X1 hown hK hP 0 rfl rfl 7 (by decide) (hts (.fieldLink RX1 34 "LeftQuills$Desk" "office" "LLeftQuills$Office;") (wmx 1 rfl)) (fun _ h9 => h9) e_h0_7 dX1_softQuills_6 ?_
    refine va_get (D := (dC, dI)) (ci := 5) (v := .int (nI nq)) (C := RX5) (T := TX5) (N := 13) hx hb hts hi_X5 hown hK hP 1 rfl rfl 3 (by decide) (hts (.fieldLink RX1 81 "LeftQuills$Office" "quills" "I") (wmx 2 rfl)) (fun _ h9 => h9) e_ho_3 dX1_softQuills_9 ?_
    refine lv_icmp_ge (tgt := 38) hx hb dX1_softQuills_12 (by decide) (fun c1 => ?_) (fun c1 => ?_)
    ·
      have c1 : nq ≤ k4 := (nI_leI (a := nq) (b := k4) (by omega) (by omega)).mp c1
      refine lv_iload_n hx hb dX1_softQuills_38 rfl (lv_at hl 1 rfl) ?_
      exact W.iret (v := a4_1) hx hb hr (fun t ht hW => ⟨⟨a4_1, (fun _ => 0), rfl, (hv4_0.trans (by rw [show k4 = nq from by omega])), trivial⟩, hS.F ht⟩) hS.2.2 dX1_softQuills_39
    ·
      have c1 : ¬ nq ≤ k4 := fun h => c1 ((nI_leI (a := nq) (b := k4) (by omega) (by omega)).mpr h)
      omega
  | succ d4 ih4 =>
    intro k4 a4_1 H locs ls hk4 hv4_0 hP hS hl
    refine lv_iload_n hx hb dX1_softQuills_4 rfl (lv_at hl 0 rfl) ?_
    refine lv_aload_n hx hb dX1_softQuills_5 rfl (lv_at hl 2 rfl) ?_
    refine va_get (D := (dC, dI)) (ci := 1) (v := .ref ho) (C := RX1) (T := TX1) (N := 8) hx hb hts hi_X1 hown hK hP 0 rfl rfl 7 (by decide) (hts (.fieldLink RX1 34 "LeftQuills$Desk" "office" "LLeftQuills$Office;") (wmx 1 rfl)) (fun _ h9 => h9) e_h0_7 dX1_softQuills_6 ?_
    refine va_get (D := (dC, dI)) (ci := 5) (v := .int (nI nq)) (C := RX5) (T := TX5) (N := 13) hx hb hts hi_X5 hown hK hP 1 rfl rfl 3 (by decide) (hts (.fieldLink RX1 81 "LeftQuills$Office" "quills" "I") (wmx 2 rfl)) (fun _ h9 => h9) e_ho_3 dX1_softQuills_9 ?_
    refine lv_icmp_ge (tgt := 38) hx hb dX1_softQuills_12 (by decide) (fun c2 => ?_) (fun c2 => ?_)
    ·
      have c2 : nq ≤ k4 := (nI_leI (a := nq) (b := k4) (by omega) (by omega)).mp c2
      omega
    ·
      have c2 : ¬ nq ≤ k4 := fun h => c2 ((nI_leI (a := nq) (b := k4) (by omega) (by omega)).mpr h)
      refine lv_aload_n hx hb dX1_softQuills_15 rfl (lv_at hl 2 rfl) ?_
      refine va_get (D := (dC, dI)) (ci := 1) (v := .ref a4) (C := RX1) (T := TX1) (N := 8) hx hb hts hi_X1 hown hK hP 0 rfl rfl 4 (by decide) (hts (.fieldLink RX1 25 "LeftQuills$Desk" "softness" "[I") (wmx 3 rfl)) (fun _ h9 => h9) e_h0_4 dX1_softQuills_16 ?_
      refine lv_iload_n hx hb dX1_softQuills_19 rfl (lv_at hl 0 rfl) ?_
      refine va_iald hx hb hK hP 2 0 rfl rfl (vp_in_nI (n := k4) (N := 8) (by omega) (by decide)) dX1_softQuills_20 ?_
      refine W.eq (g2 := F0 m 21 ls [.int (fa4 k4)]) (congrArg (fun y9 => F0 m 21 ls (.int (fa4 y9) :: [])) ((nI_clamp (n := k4) (by omega)))) ?_
      refine lv_bipush (v := 50) hx hb dX1_softQuills_21 (by decide) ?_
      refine lv_icmp_le (tgt := 32) hx hb dX1_softQuills_23 (by decide) (fun c3 => ?_) (fun c3 => ?_)
      ·
        refine lv_iinc (v := nI (k4 + 1)) (lv' := [(2, .int (nI (k4 + 1))), (1, .int a4_1), (0, .ref h0)]) hx hb dX1_softQuills_32 hl (k := 0) rfl ((rfl : nI k4 + Int32.ofInt 1 = nI k4 + 1).trans (nI_add k4 1)) (by decide) rfl (fun ls hl => ?_)
        refine lv_goto (tgt := 4) hx hb dX1_softQuills_35 (by decide) ?_
        exact ih4 (k4 + 1) a4_1 _ _ _ (by omega) (sf_n hv4_0 (fa_len c3)) hP hS (lv_sub hl [0, 1, 2] rfl)
      ·
        refine lv_iload_n hx hb dX1_softQuills_26 rfl (lv_at hl 1 rfl) ?_
        refine lv_iconst (v := 1) hx hb dX1_softQuills_27 (by decide) ?_
        refine lv_iload_n hx hb dX1_softQuills_28 rfl (lv_at hl 0 rfl) ?_
        refine lv_ishl hx hb dX1_softQuills_29 ?_
        refine lv_ior hx hb dX1_softQuills_30 ?_
        refine lv_istore_n (lv' := [(1, .int (a4_1 ||| (1 <<< ((nI k4) &&& 31)))), (2, .int (nI k4)), (0, .ref h0)]) hx hb dX1_softQuills_31 rfl hl (by decide) rfl (fun ls hl => ?_)
        refine lv_iinc (v := nI (k4 + 1)) (lv' := [(2, .int (nI (k4 + 1))), (1, .int (a4_1 ||| (1 <<< ((nI k4) &&& 31)))), (0, .ref h0)]) hx hb dX1_softQuills_32 hl (k := 1) rfl ((rfl : nI k4 + Int32.ofInt 1 = nI k4 + 1).trans (nI_add k4 1)) (by decide) rfl (fun ls hl => ?_)
        refine lv_goto (tgt := 4) hx hb dX1_softQuills_35 (by decide) ?_
        exact ih4 (k4 + 1) (a4_1 ||| (1 <<< ((nI k4) &&& 31))) _ _ _ (by omega) (sf_y hv4_0 (fa_nle c3)) hP hS (lv_sub hl [0, 1, 2] rfl)
set_option maxHeartbeats 4000000 in
set_option maxRecDepth 100000 in
theorem c_X10_toldD (l : Launch) (dC : Nat → ClassId) (dI : Nat → Nat → Nat) (cI cZ cQ : ClassId) (h0 : Nat) (tl : Nat) (x4 : Nat) (x6 : Nat) (x7 : Nat) (x12 : Nat) (x13 : Nat) (f_h0 : List Value) (bl : Int32) (mm : Int32) (nq : Nat) (nh : Nat) (f_x4 : List Value) (mi : Int32) (cu : Int32) (a2 : Nat) (a3 : Nat) (a4 : Nat) (a5 : Nat) (a6 : Nat) (f_x6 : List Value) (fa4 : Nat → Int32) (fa5 : Nat → Int32) (fa6 : Nat → Int32) (n : Nat) (f_x7 : List Value) (ne : Nat) (f_x12 : List Value) (nk : Nat) (f_x13 : List Value) (q0 : Int32) (sz : Nat) (e_h0_1 : f_h0[1]? = some (.int (nI tl))) (e_h0_4 : f_h0[4]? = some (.ref x4)) (e_h0_6 : f_h0[6]? = some (.ref x6)) (e_h0_7 : f_h0[7]? = some (.ref x7)) (e_h0_12 : f_h0[12]? = some (.ref x12)) (e_h0_13 : f_h0[13]? = some (.ref x13)) (e_x4_1 : f_x4[1]? = some (.int bl)) (e_x4_2 : f_x4[2]? = some (.int mm)) (e_x4_3 : f_x4[3]? = some (.int (nI nq))) (e_x4_4 : f_x4[4]? = some (.int (nI nh))) (e_x6_0 : f_x6[0]? = some (.int mi)) (e_x6_1 : f_x6[1]? = some (.int cu)) (e_x6_2 : f_x6[2]? = some (.ref a2)) (e_x6_3 : f_x6[3]? = some (.ref a3)) (e_x6_4 : f_x6[4]? = some (.ref a4)) (e_x6_5 : f_x6[5]? = some (.ref a5)) (e_x6_6 : f_x6[6]? = some (.ref a6)) (e_x6_7 : f_x6[7]? = some (.ref x4)) (e_x7_2 : f_x7[2]? = some (.int (nI n))) (e_x12_0 : f_x12[0]? = some (.int (nI ne))) (e_x13_0 : f_x13[0]? = some (.int (nI nk))) (hnq : nq ≤ 8) (hnh : nh ≤ 4) : Met l yX10_told wsX10_told ({ frames := 1, cells := 0, slots := 0, locals := 62 }) (va_Pc [.ref h0, .int q0] (fun U => U.heap.size = sz ∧ va_P (dC, dI) vwCl [(h0, .inr (10, f_h0)), (x4, .inr (5, f_x4)), (x6, .inr (1, f_x6)), (a4, .inl (cI, 8, .inl fa4)), (a5, .inl (cI, 4, .inl fa5)), (a6, .inl (cI, 4, .inl fa6)), (x7, .inr (3, f_x7)), (x12, .inr (2, f_x12)), (x13, .inr (0, f_x13))] U.heap ∧ va_K (dC, dI) vwCl (tys0 cI cZ cQ) U)) (va_Qi (fun (r : Int32) (u : Nat → Nat) => r = pkV 12 q0 (fun k => ([bl, mm, nI nq, nI nh, nI tl, mi, cu, smF fa5 nh, smF fa6 nh, sfF fa4 nq, nI ne, nI nk, nI n] : List Int32).getD k 0)) (fun (_ : Nat → Nat) (_ : State) => True) (fun _ : Nat => False)) 0 0 (fun _ : Nat => False) := by
  refine Met.ofW (cc := cX10_told) (maxL := 2) (ret := (some .int)) (by decide) rfl ?_
  intro p e s m args below meth c s₁ B hml hv
  obtain ⟨rfl, hsz, hP, hK⟩ := hv
  have hx := B.exec
  have hb := B.bytes
  have hr := B.returns
  have hts := atoms_spec (ws := wsX10_told) B.pre
  have hown : s.vm.findClass RX10 = some m.cls := findClass_of_methodNamed B.named
  have hlocks := B.notSynchronized
  have hi_X0 : ∀ w ∈ u_ws RX0 TX0 3, w ∈ wsX10_told := by decide +kernel
  have hi_X1 : ∀ w ∈ u_ws RX1 TX1 8, w ∈ wsX10_told := by decide +kernel
  have hi_X10 : ∀ w ∈ u_ws RX10 TX10 14, w ∈ wsX10_told := by decide +kernel
  have hi_X2 : ∀ w ∈ u_ws RX2 TX2 5, w ∈ wsX10_told := by decide +kernel
  have hi_X3 : ∀ w ∈ u_ws RX3 TX3 3, w ∈ wsX10_told := by decide +kernel
  have hi_X5 : ∀ w ∈ u_ws RX5 TX5 13, w ∈ wsX10_told := by decide +kernel
  subst hsz
  have hS : va_S (fun _ : Nat => False) s.heap s.heap [] := va_S.rf
  have hl := lv_entry ([.ref h0, .int q0]) (n := 2) (Nat.le_of_ble_eq_true rfl)
  rw [lg_entry_eq]
  generalize (lg_sl ([.ref h0, .int q0]) ++ List.replicate (2 - (lg_sl ([.ref h0, .int q0])).length) Slot.unset).toArray = ls at hl ⊢
  have hl : lv_has ls 2 [(0, .ref h0), (1, .int q0)] := hl
  refine lv_iload_n hx hb dX10_told_0 rfl (lv_at hl 1 rfl) ?_
  by_cases c1 : q0.toInt < 0 ∨ 12 < q0.toInt
  · refine lv_tableOut (tgt := 169) hx hb dX10_told_1 c1 (by decide) ?_
    refine lv_ldc (v := (-1000000002)) hx hb hown (hts (.constant RX10 103 (-1000000002)) (wmx 16 rfl)) dX10_told_169 ?_
    exact W.iret (v := (-1000000002)) hx hb hr (fun t ht hW => ⟨⟨(-1000000002), (fun _ => 0), rfl, (pk_o c1), trivial⟩, hS.F ht⟩) hS.2.2 dX10_told_171
  have h2 := x_sw_0_12 c1
  rcases h2 with h2 | h2 | h2 | h2 | h2 | h2 | h2 | h2 | h2 | h2 | h2 | h2 | h2
  · refine lv_tableIn (tgt := 68) hx hb dX10_told_1 (by rw [h2]; decide) (by rw [h2]; decide) (by rw [h2]; rfl) (by decide) ?_
    refine lv_aload_n hx hb dX10_told_68 rfl (lv_at hl 0 rfl) ?_
    refine va_get (D := (dC, dI)) (ci := 10) (v := .ref x4) (C := RX10) (T := TX10) (N := 14) hx hb hts hi_X10 hown hK hP 0 rfl rfl 4 (by decide) (hts (.fieldLink RX10 26 "LeftQuills" "office" "LLeftQuills$Office;") (wmx 1 rfl)) (fun _ h9 => h9) e_h0_4 dX10_told_69 ?_
    refine va_get (D := (dC, dI)) (ci := 5) (v := .int bl) (C := RX5) (T := TX5) (N := 13) hx hb hts hi_X5 hown hK hP 1 rfl rfl 1 (by decide) (hts (.fieldLink RX10 130 "LeftQuills$Office" "bluntBehind" "I") (wmx 2 rfl)) (fun _ h9 => h9) e_x4_1 dX10_told_72 ?_
    exact W.iret (v := bl) hx hb hr (fun t ht hW => ⟨⟨bl, (fun _ => 0), rfl, (pk_k (m := 12) (k := 0) (v := (fun k => ([bl, mm, nI nq, nI nh, nI tl, mi, cu, smF fa5 nh, smF fa6 nh, sfF fa4 nq, nI ne, nI nk, nI n] : List Int32).getD k 0)) (by decide) (by decide) h2), trivial⟩, hS.F ht⟩) hS.2.2 dX10_told_75
  · refine lv_tableIn (tgt := 76) hx hb dX10_told_1 (by rw [h2]; decide) (by rw [h2]; decide) (by rw [h2]; rfl) (by decide) ?_
    refine lv_aload_n hx hb dX10_told_76 rfl (lv_at hl 0 rfl) ?_
    refine va_get (D := (dC, dI)) (ci := 10) (v := .ref x4) (C := RX10) (T := TX10) (N := 14) hx hb hts hi_X10 hown hK hP 0 rfl rfl 4 (by decide) (hts (.fieldLink RX10 26 "LeftQuills" "office" "LLeftQuills$Office;") (wmx 1 rfl)) (fun _ h9 => h9) e_h0_4 dX10_told_77 ?_
    refine va_get (D := (dC, dI)) (ci := 5) (v := .int mm) (C := RX5) (T := TX5) (N := 13) hx hb hts hi_X5 hown hK hP 1 rfl rfl 2 (by decide) (hts (.fieldLink RX10 133 "LeftQuills$Office" "mendMinutes" "I") (wmx 3 rfl)) (fun _ h9 => h9) e_x4_2 dX10_told_80 ?_
    exact W.iret (v := mm) hx hb hr (fun t ht hW => ⟨⟨mm, (fun _ => 0), rfl, (pk_k (m := 12) (k := 1) (v := (fun k => ([bl, mm, nI nq, nI nh, nI tl, mi, cu, smF fa5 nh, smF fa6 nh, sfF fa4 nq, nI ne, nI nk, nI n] : List Int32).getD k 0)) (by decide) (by decide) h2), trivial⟩, hS.F ht⟩) hS.2.2 dX10_told_83
  · refine lv_tableIn (tgt := 84) hx hb dX10_told_1 (by rw [h2]; decide) (by rw [h2]; decide) (by rw [h2]; rfl) (by decide) ?_
    refine lv_aload_n hx hb dX10_told_84 rfl (lv_at hl 0 rfl) ?_
    refine va_get (D := (dC, dI)) (ci := 10) (v := .ref x4) (C := RX10) (T := TX10) (N := 14) hx hb hts hi_X10 hown hK hP 0 rfl rfl 4 (by decide) (hts (.fieldLink RX10 26 "LeftQuills" "office" "LLeftQuills$Office;") (wmx 1 rfl)) (fun _ h9 => h9) e_h0_4 dX10_told_85 ?_
    refine va_get (D := (dC, dI)) (ci := 5) (v := .int (nI nq)) (C := RX5) (T := TX5) (N := 13) hx hb hts hi_X5 hown hK hP 1 rfl rfl 3 (by decide) (hts (.fieldLink RX10 127 "LeftQuills$Office" "quills" "I") (wmx 4 rfl)) (fun _ h9 => h9) e_x4_3 dX10_told_88 ?_
    exact W.iret (v := nI nq) hx hb hr (fun t ht hW => ⟨⟨nI nq, (fun _ => 0), rfl, (pk_k (m := 12) (k := 2) (v := (fun k => ([bl, mm, nI nq, nI nh, nI tl, mi, cu, smF fa5 nh, smF fa6 nh, sfF fa4 nq, nI ne, nI nk, nI n] : List Int32).getD k 0)) (by decide) (by decide) h2), trivial⟩, hS.F ht⟩) hS.2.2 dX10_told_91
  · refine lv_tableIn (tgt := 92) hx hb dX10_told_1 (by rw [h2]; decide) (by rw [h2]; decide) (by rw [h2]; rfl) (by decide) ?_
    refine lv_aload_n hx hb dX10_told_92 rfl (lv_at hl 0 rfl) ?_
    refine va_get (D := (dC, dI)) (ci := 10) (v := .ref x4) (C := RX10) (T := TX10) (N := 14) hx hb hts hi_X10 hown hK hP 0 rfl rfl 4 (by decide) (hts (.fieldLink RX10 26 "LeftQuills" "office" "LLeftQuills$Office;") (wmx 1 rfl)) (fun _ h9 => h9) e_h0_4 dX10_told_93 ?_
    refine va_get (D := (dC, dI)) (ci := 5) (v := .int (nI nh)) (C := RX5) (T := TX5) (N := 13) hx hb hts hi_X5 hown hK hP 1 rfl rfl 4 (by decide) (hts (.fieldLink RX10 136 "LeftQuills$Office" "hands" "I") (wmx 5 rfl)) (fun _ h9 => h9) e_x4_4 dX10_told_96 ?_
    exact W.iret (v := nI nh) hx hb hr (fun t ht hW => ⟨⟨nI nh, (fun _ => 0), rfl, (pk_k (m := 12) (k := 3) (v := (fun k => ([bl, mm, nI nq, nI nh, nI tl, mi, cu, smF fa5 nh, smF fa6 nh, sfF fa4 nq, nI ne, nI nk, nI n] : List Int32).getD k 0)) (by decide) (by decide) h2), trivial⟩, hS.F ht⟩) hS.2.2 dX10_told_99
  · refine lv_tableIn (tgt := 100) hx hb dX10_told_1 (by rw [h2]; decide) (by rw [h2]; decide) (by rw [h2]; rfl) (by decide) ?_
    refine lv_aload_n hx hb dX10_told_100 rfl (lv_at hl 0 rfl) ?_
    refine va_get (D := (dC, dI)) (ci := 10) (v := .int (nI tl)) (C := RX10) (T := TX10) (N := 14) hx hb hts hi_X10 hown hK hP 0 rfl rfl 1 (by decide) (hts (.fieldLink RX10 13 "LeftQuills" "textLength" "I") (wmx 6 rfl)) (fun _ h9 => h9) e_h0_1 dX10_told_101 ?_
    exact W.iret (v := nI tl) hx hb hr (fun t ht hW => ⟨⟨nI tl, (fun _ => 0), rfl, (pk_k (m := 12) (k := 4) (v := (fun k => ([bl, mm, nI nq, nI nh, nI tl, mi, cu, smF fa5 nh, smF fa6 nh, sfF fa4 nq, nI ne, nI nk, nI n] : List Int32).getD k 0)) (by decide) (by decide) h2), trivial⟩, hS.F ht⟩) hS.2.2 dX10_told_104
  · refine lv_tableIn (tgt := 105) hx hb dX10_told_1 (by rw [h2]; decide) (by rw [h2]; decide) (by rw [h2]; rfl) (by decide) ?_
    refine lv_aload_n hx hb dX10_told_105 rfl (lv_at hl 0 rfl) ?_
    refine va_get (D := (dC, dI)) (ci := 10) (v := .ref x6) (C := RX10) (T := TX10) (N := 14) hx hb hts hi_X10 hown hK hP 0 rfl rfl 6 (by decide) (hts (.fieldLink RX10 42 "LeftQuills" "desk" "LLeftQuills$Desk;") (wmx 7 rfl)) (fun _ h9 => h9) e_h0_6 dX10_told_106 ?_
    refine va_get (D := (dC, dI)) (ci := 1) (v := .int mi) (C := RX1) (T := TX1) (N := 8) hx hb hts hi_X1 hown hK hP 2 rfl rfl 0 (by decide) (hts (.fieldLink RX10 139 "LeftQuills$Desk" "minutes" "I") (wmx 8 rfl)) (fun _ h9 => h9) e_x6_0 dX10_told_109 ?_
    exact W.iret (v := mi) hx hb hr (fun t ht hW => ⟨⟨mi, (fun _ => 0), rfl, (pk_k (m := 12) (k := 5) (v := (fun k => ([bl, mm, nI nq, nI nh, nI tl, mi, cu, smF fa5 nh, smF fa6 nh, sfF fa4 nq, nI ne, nI nk, nI n] : List Int32).getD k 0)) (by decide) (by decide) h2), trivial⟩, hS.F ht⟩) hS.2.2 dX10_told_112
  · refine lv_tableIn (tgt := 113) hx hb dX10_told_1 (by rw [h2]; decide) (by rw [h2]; decide) (by rw [h2]; rfl) (by decide) ?_
    refine lv_aload_n hx hb dX10_told_113 rfl (lv_at hl 0 rfl) ?_
    refine va_get (D := (dC, dI)) (ci := 10) (v := .ref x6) (C := RX10) (T := TX10) (N := 14) hx hb hts hi_X10 hown hK hP 0 rfl rfl 6 (by decide) (hts (.fieldLink RX10 42 "LeftQuills" "desk" "LLeftQuills$Desk;") (wmx 7 rfl)) (fun _ h9 => h9) e_h0_6 dX10_told_114 ?_
    refine va_get (D := (dC, dI)) (ci := 1) (v := .int cu) (C := RX1) (T := TX1) (N := 8) hx hb hts hi_X1 hown hK hP 2 rfl rfl 1 (by decide) (hts (.fieldLink RX10 142 "LeftQuills$Desk" "cuts" "I") (wmx 9 rfl)) (fun _ h9 => h9) e_x6_1 dX10_told_117 ?_
    exact W.iret (v := cu) hx hb hr (fun t ht hW => ⟨⟨cu, (fun _ => 0), rfl, (pk_k (m := 12) (k := 6) (v := (fun k => ([bl, mm, nI nq, nI nh, nI tl, mi, cu, smF fa5 nh, smF fa6 nh, sfF fa4 nq, nI ne, nI nk, nI n] : List Int32).getD k 0)) (by decide) (by decide) h2), trivial⟩, hS.F ht⟩) hS.2.2 dX10_told_120
  · refine lv_tableIn (tgt := 121) hx hb dX10_told_1 (by rw [h2]; decide) (by rw [h2]; decide) (by rw [h2]; rfl) (by decide) ?_
    refine lv_aload_n hx hb dX10_told_121 rfl (lv_at hl 0 rfl) ?_
    refine va_get (D := (dC, dI)) (ci := 10) (v := .ref x6) (C := RX10) (T := TX10) (N := 14) hx hb hts hi_X10 hown hK hP 0 rfl rfl 6 (by decide) (hts (.fieldLink RX10 42 "LeftQuills" "desk" "LLeftQuills$Desk;") (wmx 7 rfl)) (fun _ h9 => h9) e_h0_6 dX10_told_122 ?_
    have hPc := hP.sub (ws' := [(x6, .inr (1, f_x6)), (x4, .inr (5, f_x4)), (a5, .inl (cI, 4, .inl fa5))]) [2, 1, 4] rfl
    refine va_calli (va_runV (As := []) (rest := []) ⟨hx, hb, hml, hown, hts⟩ (c_X1_allPagesD l dC dI cI cZ cQ x6 a5 x4 f_x6 nh f_x4 fa5 s.heap.size e_x6_5 e_x6_7 e_x4_4 (by omega)) (cwV 0 hts gX10_told_X1_allPages rfl rfl rfl (by decide +kernel) ⟨Nat.le_of_ble_eq_true rfl, Nat.le_of_ble_eq_true rfl⟩) ⟨fun a U g mk q => by obtain ⟨q0, q1, qP, qK⟩ := q; exact ⟨q0, q1, qP, va_K.moved (u := U) (U := U.calling g mk a) (Vm.Alike.refl U.vm) qK⟩, va_recv hK hP (ci := 1) (q0 := 2) rfl rfl, fun U hU hW => ⟨rfl, by rw [hU], by rw [hU]; exact hPc, va_K.moved hW.alike hK⟩⟩ rfl rfl hl.1 rfl (lv_room (Nat.le_of_ble_eq_true rfl)) dX10_told_125 ⟨Nat.le_of_ble_eq_true rfl, Nat.le_of_ble_eq_true rfl⟩) hS (fun q _ h => False.elim h) (fun q h => False.elim h) (fun r3 u4 t H1 locs ht hvm hw5 hB hz1 hk1 hS => ?_)
    have hP := hP.kept (fun k q hk => hk1 q.1 (hP k q hk).lt (fun h => h))
    clear hz1 hk1 hPc
    generalize H1 = H at hP hS ht ⊢
    try dsimp only at hw5
    subst hw5
    exact W.iret (v := smF fa5 nh) hx hb hr (fun t ht hW => ⟨⟨smF fa5 nh, (fun _ => 0), rfl, (pk_k (m := 12) (k := 7) (v := (fun k => ([bl, mm, nI nq, nI nh, nI tl, mi, cu, smF fa5 nh, smF fa6 nh, sfF fa4 nq, nI ne, nI nk, nI n] : List Int32).getD k 0)) (by decide) (by decide) h2), trivial⟩, hS.F ht⟩) hS.2.2 dX10_told_128
  · refine lv_tableIn (tgt := 129) hx hb dX10_told_1 (by rw [h2]; decide) (by rw [h2]; decide) (by rw [h2]; rfl) (by decide) ?_
    refine lv_aload_n hx hb dX10_told_129 rfl (lv_at hl 0 rfl) ?_
    refine va_get (D := (dC, dI)) (ci := 10) (v := .ref x6) (C := RX10) (T := TX10) (N := 14) hx hb hts hi_X10 hown hK hP 0 rfl rfl 6 (by decide) (hts (.fieldLink RX10 42 "LeftQuills" "desk" "LLeftQuills$Desk;") (wmx 7 rfl)) (fun _ h9 => h9) e_h0_6 dX10_told_130 ?_
    have hPc := hP.sub (ws' := [(x6, .inr (1, f_x6)), (x4, .inr (5, f_x4)), (a6, .inl (cI, 4, .inl fa6))]) [2, 1, 5] rfl
    refine va_calli (va_runV (As := []) (rest := []) ⟨hx, hb, hml, hown, hts⟩ (c_X1_allGoodD l dC dI cI cZ cQ x6 a6 x4 f_x6 nh f_x4 fa6 s.heap.size e_x6_6 e_x6_7 e_x4_4 (by omega)) (cwV 0 hts gX10_told_X1_allGood rfl rfl rfl (by decide +kernel) ⟨Nat.le_of_ble_eq_true rfl, Nat.le_of_ble_eq_true rfl⟩) ⟨fun a U g mk q => by obtain ⟨q0, q1, qP, qK⟩ := q; exact ⟨q0, q1, qP, va_K.moved (u := U) (U := U.calling g mk a) (Vm.Alike.refl U.vm) qK⟩, va_recv hK hP (ci := 1) (q0 := 2) rfl rfl, fun U hU hW => ⟨rfl, by rw [hU], by rw [hU]; exact hPc, va_K.moved hW.alike hK⟩⟩ rfl rfl hl.1 rfl (lv_room (Nat.le_of_ble_eq_true rfl)) dX10_told_133 ⟨Nat.le_of_ble_eq_true rfl, Nat.le_of_ble_eq_true rfl⟩) hS (fun q _ h => False.elim h) (fun q h => False.elim h) (fun r6 u7 t H1 locs ht hvm hw8 hB hz1 hk1 hS => ?_)
    have hP := hP.kept (fun k q hk => hk1 q.1 (hP k q hk).lt (fun h => h))
    clear hz1 hk1 hPc
    generalize H1 = H at hP hS ht ⊢
    try dsimp only at hw8
    subst hw8
    exact W.iret (v := smF fa6 nh) hx hb hr (fun t ht hW => ⟨⟨smF fa6 nh, (fun _ => 0), rfl, (pk_k (m := 12) (k := 8) (v := (fun k => ([bl, mm, nI nq, nI nh, nI tl, mi, cu, smF fa5 nh, smF fa6 nh, sfF fa4 nq, nI ne, nI nk, nI n] : List Int32).getD k 0)) (by decide) (by decide) h2), trivial⟩, hS.F ht⟩) hS.2.2 dX10_told_136
  · refine lv_tableIn (tgt := 137) hx hb dX10_told_1 (by rw [h2]; decide) (by rw [h2]; decide) (by rw [h2]; rfl) (by decide) ?_
    refine lv_aload_n hx hb dX10_told_137 rfl (lv_at hl 0 rfl) ?_
    refine va_get (D := (dC, dI)) (ci := 10) (v := .ref x6) (C := RX10) (T := TX10) (N := 14) hx hb hts hi_X10 hown hK hP 0 rfl rfl 6 (by decide) (hts (.fieldLink RX10 42 "LeftQuills" "desk" "LLeftQuills$Desk;") (wmx 7 rfl)) (fun _ h9 => h9) e_h0_6 dX10_told_138 ?_
    have hPc := hP.sub (ws' := [(x6, .inr (1, f_x6)), (x4, .inr (5, f_x4)), (a4, .inl (cI, 8, .inl fa4))]) [2, 1, 3] rfl
    refine va_calli (va_runV (As := []) (rest := []) ⟨hx, hb, hml, hown, hts⟩ (c_X1_softQuillsD l dC dI cI cZ cQ x6 a4 x4 f_x6 nq f_x4 fa4 s.heap.size e_x6_4 e_x6_7 e_x4_3 (by omega)) (cwV 0 hts gX10_told_X1_softQuills rfl rfl rfl (by decide +kernel) ⟨Nat.le_of_ble_eq_true rfl, Nat.le_of_ble_eq_true rfl⟩) ⟨fun a U g mk q => by obtain ⟨q0, q1, qP, qK⟩ := q; exact ⟨q0, q1, qP, va_K.moved (u := U) (U := U.calling g mk a) (Vm.Alike.refl U.vm) qK⟩, va_recv hK hP (ci := 1) (q0 := 2) rfl rfl, fun U hU hW => ⟨rfl, by rw [hU], by rw [hU]; exact hPc, va_K.moved hW.alike hK⟩⟩ rfl rfl hl.1 rfl (lv_room (Nat.le_of_ble_eq_true rfl)) dX10_told_141 ⟨Nat.le_of_ble_eq_true rfl, Nat.le_of_ble_eq_true rfl⟩) hS (fun q _ h => False.elim h) (fun q h => False.elim h) (fun r9 u10 t H1 locs ht hvm hw11 hB hz1 hk1 hS => ?_)
    have hP := hP.kept (fun k q hk => hk1 q.1 (hP k q hk).lt (fun h => h))
    clear hz1 hk1 hPc
    generalize H1 = H at hP hS ht ⊢
    try dsimp only at hw11
    subst hw11
    exact W.iret (v := sfF fa4 nq) hx hb hr (fun t ht hW => ⟨⟨sfF fa4 nq, (fun _ => 0), rfl, (pk_k (m := 12) (k := 9) (v := (fun k => ([bl, mm, nI nq, nI nh, nI tl, mi, cu, smF fa5 nh, smF fa6 nh, sfF fa4 nq, nI ne, nI nk, nI n] : List Int32).getD k 0)) (by decide) (by decide) h2), trivial⟩, hS.F ht⟩) hS.2.2 dX10_told_144
  · refine lv_tableIn (tgt := 145) hx hb dX10_told_1 (by rw [h2]; decide) (by rw [h2]; decide) (by rw [h2]; rfl) (by decide) ?_
    refine lv_aload_n hx hb dX10_told_145 rfl (lv_at hl 0 rfl) ?_
    refine va_get (D := (dC, dI)) (ci := 10) (v := .ref x12) (C := RX10) (T := TX10) (N := 14) hx hb hts hi_X10 hown hK hP 0 rfl rfl 12 (by decide) (hts (.fieldLink RX10 88 "LeftQuills" "evidence" "LLeftQuills$Evidence;") (wmx 10 rfl)) (fun _ h9 => h9) e_h0_12 dX10_told_146 ?_
    refine va_get (D := (dC, dI)) (ci := 2) (v := .int (nI ne)) (C := RX2) (T := TX2) (N := 5) hx hb hts hi_X2 hown hK hP 7 rfl rfl 0 (by decide) (hts (.fieldLink RX10 123 "LeftQuills$Evidence" "count" "I") (wmx 11 rfl)) (fun _ h9 => h9) e_x12_0 dX10_told_149 ?_
    exact W.iret (v := nI ne) hx hb hr (fun t ht hW => ⟨⟨nI ne, (fun _ => 0), rfl, (pk_k (m := 12) (k := 10) (v := (fun k => ([bl, mm, nI nq, nI nh, nI tl, mi, cu, smF fa5 nh, smF fa6 nh, sfF fa4 nq, nI ne, nI nk, nI n] : List Int32).getD k 0)) (by decide) (by decide) h2), trivial⟩, hS.F ht⟩) hS.2.2 dX10_told_152
  · refine lv_tableIn (tgt := 153) hx hb dX10_told_1 (by rw [h2]; decide) (by rw [h2]; decide) (by rw [h2]; rfl) (by decide) ?_
    refine lv_aload_n hx hb dX10_told_153 rfl (lv_at hl 0 rfl) ?_
    refine va_get (D := (dC, dI)) (ci := 10) (v := .ref x13) (C := RX10) (T := TX10) (N := 14) hx hb hts hi_X10 hown hK hP 0 rfl rfl 13 (by decide) (hts (.fieldLink RX10 95 "LeftQuills" "book" "LLeftQuills$Book;") (wmx 12 rfl)) (fun _ h9 => h9) e_h0_13 dX10_told_154 ?_
    refine va_get (D := (dC, dI)) (ci := 0) (v := .int (nI nk)) (C := RX0) (T := TX0) (N := 3) hx hb hts hi_X0 hown hK hP 8 rfl rfl 0 (by decide) (hts (.fieldLink RX10 126 "LeftQuills$Book" "count" "I") (wmx 13 rfl)) (fun _ h9 => h9) e_x13_0 dX10_told_157 ?_
    exact W.iret (v := nI nk) hx hb hr (fun t ht hW => ⟨⟨nI nk, (fun _ => 0), rfl, (pk_k (m := 12) (k := 11) (v := (fun k => ([bl, mm, nI nq, nI nh, nI tl, mi, cu, smF fa5 nh, smF fa6 nh, sfF fa4 nq, nI ne, nI nk, nI n] : List Int32).getD k 0)) (by decide) (by decide) h2), trivial⟩, hS.F ht⟩) hS.2.2 dX10_told_160
  · refine lv_tableIn (tgt := 161) hx hb dX10_told_1 (by rw [h2]; decide) (by rw [h2]; decide) (by rw [h2]; rfl) (by decide) ?_
    refine lv_aload_n hx hb dX10_told_161 rfl (lv_at hl 0 rfl) ?_
    refine va_get (D := (dC, dI)) (ci := 10) (v := .ref x7) (C := RX10) (T := TX10) (N := 14) hx hb hts hi_X10 hown hK hP 0 rfl rfl 7 (by decide) (hts (.fieldLink RX10 49 "LeftQuills" "history" "LLeftQuills$History;") (wmx 14 rfl)) (fun _ h9 => h9) e_h0_7 dX10_told_162 ?_
    refine va_get (D := (dC, dI)) (ci := 3) (v := .int (nI n)) (C := RX3) (T := TX3) (N := 3) hx hb hts hi_X3 hown hK hP 6 rfl rfl 2 (by decide) (hts (.fieldLink RX10 155 "LeftQuills$History" "count" "I") (wmx 15 rfl)) (fun _ h9 => h9) e_x7_2 dX10_told_165 ?_
    exact W.iret (v := nI n) hx hb hr (fun t ht hW => ⟨⟨nI n, (fun _ => 0), rfl, (pk_k (m := 12) (k := 12) (v := (fun k => ([bl, mm, nI nq, nI nh, nI tl, mi, cu, smF fa5 nh, smF fa6 nh, sfF fa4 nq, nI ne, nI nk, nI n] : List Int32).getD k 0)) (by decide) (by decide) h2), trivial⟩, hS.F ht⟩) hS.2.2 dX10_told_168
set_option maxHeartbeats 4000000 in
set_option maxRecDepth 100000 in
theorem c_X11_sumOfD (l : Launch) (dC : Nat → ClassId) (dI : Nat → Nat → Nat) (cI cZ cQ : ClassId) (h0 : Nat) (nh : Nat) (m10 : Nat) (f_h0 : List Value) (fm10 : Nat → Int32) (j : Nat) (sz : Nat) (e_h0_6 : f_h0[6]? = some (.int (nI nh))) (e_h0_10 : f_h0[10]? = some (.ref m10)) (hnh : nh ≤ 4) (hj : j ≤ 30) : Met l yX11_sumOf wsX11_sumOf ({ frames := 0, cells := 0, slots := 0, locals := 40 }) (va_Pc [.ref h0, .int (nI j)] (fun U => U.heap.size = sz ∧ va_P (dC, dI) vwCl [(h0, .inr (11, f_h0)), (m10, .inl (cI, 34, .inl fm10))] U.heap ∧ va_K (dC, dI) vwCl (tys0 cI cZ cQ) U)) (va_Qi (fun (r : Int32) (u : Nat → Nat) => r = smF (fun i => fm10 (j + i)) nh) (fun (_ : Nat → Nat) (_ : State) => True) (fun _ : Nat => False)) 0 0 (fun _ : Nat => False) := by
  refine Met.ofW (cc := cX11_sumOf) (maxL := 4) (ret := (some .int)) (by decide) rfl ?_
  intro p e s m args below meth c s₁ B hml hv
  obtain ⟨rfl, hsz, hP, hK⟩ := hv
  have hx := B.exec
  have hb := B.bytes
  have hr := B.returns
  have hts := atoms_spec (ws := wsX11_sumOf) B.pre
  have hown : s.vm.findClass RX11 = some m.cls := findClass_of_methodNamed B.named
  have hlocks := B.notSynchronized
  have hi_X11 : ∀ w ∈ u_ws RX11 TX11 46, w ∈ wsX11_sumOf := by decide +kernel
  subst hsz
  have hS : va_S (fun _ : Nat => False) s.heap s.heap [] := va_S.rf
  have hl := lv_entry ([.ref h0, .int (nI j)]) (n := 4) (Nat.le_of_ble_eq_true rfl)
  rw [lg_entry_eq]
  generalize (lg_sl ([.ref h0, .int (nI j)]) ++ List.replicate (4 - (lg_sl ([.ref h0, .int (nI j)])).length) Slot.unset).toArray = ls at hl ⊢
  have hl : lv_has ls 4 [(0, .ref h0), (1, .int (nI j))] := hl
  refine lv_iconst (v := 0) hx hb dX11_sumOf_0 (by decide) ?_
  refine lv_istore_n (lv' := [(2, .int 0), (0, .ref h0), (1, .int (nI j))]) hx hb dX11_sumOf_1 rfl hl (by decide) rfl (fun ls hl => ?_)
  refine lv_iconst (v := 0) hx hb dX11_sumOf_2 (by decide) ?_
  refine lv_istore_n (lv' := [(3, .int 0), (2, .int 0), (0, .ref h0), (1, .int (nI j))]) hx hb dX11_sumOf_3 rfl hl (by decide) rfl (fun ls hl => ?_)
  refine (fun (K : ∀ (d4 : Nat) (k4 : Nat) (a4_2 : Int32) (H : Heap) (locs : List Loc) (ls : Array Slot), k4 + d4 = nh → a4_2 = smF (fun i => fm10 (j + i)) k4 → va_P (dC, dI) vwCl [(h0, .inr (11, f_h0)), (m10, .inl (cI, 34, .inl fm10))] H → va_S (fun _ : Nat => False) s.heap H locs → lv_has ls 4 [(3, .int (nI k4)), (2, .int a4_2), (0, .ref h0), (1, .int (nI j))] → W p l e _ s m _ below meth c H locs _ _ _ (F0 m 4 ls [])) => K nh 0 0 _ _ _ (by omega) rfl hP hS (lv_sub hl [0, 1, 2, 3] rfl)) ?_
  intro d4
  induction d4 with
  | zero =>
    intro k4 a4_2 H locs ls hk4 hv4_0 hP hS hl
    refine lv_iload_n hx hb dX11_sumOf_4 rfl (lv_at hl 0 rfl) ?_
    refine lv_aload_n hx hb dX11_sumOf_5 rfl (lv_at hl 2 rfl) ?_
    refine va_get (D := (dC, dI)) (ci := 11) (v := .int (nI nh)) (C := RX11) (T := TX11) (N := 46) hx hb hts hi_X11 hown hK hP 0 rfl rfl 6 (by decide) (hts (.fieldLink RX11 106 "LeftQuillsModel" "hands" "I") (wmx 1 rfl)) (fun _ h9 => h9) e_h0_6 dX11_sumOf_6 ?_
    refine lv_icmp_ge (tgt := 29) hx hb dX11_sumOf_9 (by decide) (fun c1 => ?_) (fun c1 => ?_)
    ·
      have c1 : nh ≤ k4 := (nI_leI (a := nh) (b := k4) (by omega) (by omega)).mp c1
      refine lv_iload_n hx hb dX11_sumOf_29 rfl (lv_at hl 1 rfl) ?_
      exact W.iret (v := a4_2) hx hb hr (fun t ht hW => ⟨⟨a4_2, (fun _ => 0), rfl, (hv4_0.trans (by rw [show k4 = nh from by omega])), trivial⟩, hS.F ht⟩) hS.2.2 dX11_sumOf_30
    ·
      have c1 : ¬ nh ≤ k4 := fun h => c1 ((nI_leI (a := nh) (b := k4) (by omega) (by omega)).mpr h)
      omega
  | succ d4 ih4 =>
    intro k4 a4_2 H locs ls hk4 hv4_0 hP hS hl
    refine lv_iload_n hx hb dX11_sumOf_4 rfl (lv_at hl 0 rfl) ?_
    refine lv_aload_n hx hb dX11_sumOf_5 rfl (lv_at hl 2 rfl) ?_
    refine va_get (D := (dC, dI)) (ci := 11) (v := .int (nI nh)) (C := RX11) (T := TX11) (N := 46) hx hb hts hi_X11 hown hK hP 0 rfl rfl 6 (by decide) (hts (.fieldLink RX11 106 "LeftQuillsModel" "hands" "I") (wmx 1 rfl)) (fun _ h9 => h9) e_h0_6 dX11_sumOf_6 ?_
    refine lv_icmp_ge (tgt := 29) hx hb dX11_sumOf_9 (by decide) (fun c2 => ?_) (fun c2 => ?_)
    ·
      have c2 : nh ≤ k4 := (nI_leI (a := nh) (b := k4) (by omega) (by omega)).mp c2
      omega
    ·
      have c2 : ¬ nh ≤ k4 := fun h => c2 ((nI_leI (a := nh) (b := k4) (by omega) (by omega)).mpr h)
      refine lv_iload_n hx hb dX11_sumOf_12 rfl (lv_at hl 1 rfl) ?_
      refine lv_aload_n hx hb dX11_sumOf_13 rfl (lv_at hl 2 rfl) ?_
      refine va_get (D := (dC, dI)) (ci := 11) (v := .ref m10) (C := RX11) (T := TX11) (N := 46) hx hb hts hi_X11 hown hK hP 0 rfl rfl 10 (by decide) (hts (.fieldLink RX11 28 "LeftQuillsModel" "now" "[I") (wmx 2 rfl)) (fun _ h9 => h9) e_h0_10 dX11_sumOf_14 ?_
      refine lv_iload_n hx hb dX11_sumOf_17 rfl (lv_at hl 3 rfl) ?_
      refine lv_iload_n hx hb dX11_sumOf_18 rfl (lv_at hl 0 rfl) ?_
      refine lv_iadd hx hb dX11_sumOf_19 ?_
      refine lv_topi (fun z3 ez3 => ?_)
      obtain rfl : z3 = nI (j + k4) := ez3.trans (nI_add j k4)
      refine va_iald hx hb hK hP 1 0 rfl rfl (vp_in_nI (n := j + k4) (N := 34) (by omega) (by decide)) dX11_sumOf_20 ?_
      refine W.eq (g2 := F0 m 21 ls [.int (fm10 (j + k4)), .int a4_2]) (congrArg (fun y9 => F0 m 21 ls (.int (fm10 y9) :: [.int a4_2])) ((nI_clamp (n := j + k4) (by omega)))) ?_
      refine lv_iadd hx hb dX11_sumOf_21 ?_
      refine lv_istore_n (lv' := [(2, .int (a4_2 + (fm10 (j + k4)))), (3, .int (nI k4)), (0, .ref h0), (1, .int (nI j))]) hx hb dX11_sumOf_22 rfl hl (by decide) rfl (fun ls hl => ?_)
      refine lv_iinc (v := nI (k4 + 1)) (lv' := [(3, .int (nI (k4 + 1))), (2, .int (a4_2 + (fm10 (j + k4)))), (0, .ref h0), (1, .int (nI j))]) hx hb dX11_sumOf_23 hl (k := 1) rfl ((rfl : nI k4 + Int32.ofInt 1 = nI k4 + 1).trans (nI_add k4 1)) (by decide) rfl (fun ls hl => ?_)
      refine lv_goto (tgt := 4) hx hb dX11_sumOf_26 (by decide) ?_
      exact ih4 (k4 + 1) (a4_2 + (fm10 (j + k4))) _ _ _ (by omega) (by rw [hv4_0]; rfl) hP hS (lv_sub hl [0, 1, 2, 3] rfl)
set_option maxHeartbeats 4000000 in
set_option maxRecDepth 100000 in
theorem c_X11_softOnesD (l : Launch) (dC : Nat → ClassId) (dI : Nat → Nat → Nat) (cI cZ cQ : ClassId) (h0 : Nat) (nq : Nat) (m10 : Nat) (f_h0 : List Value) (fm10 : Nat → Int32) (sz : Nat) (e_h0_2 : f_h0[2]? = some (.int (nI nq))) (e_h0_10 : f_h0[10]? = some (.ref m10)) (hnq : nq ≤ 8) : Met l yX11_softOnes wsX11_softOnes ({ frames := 0, cells := 0, slots := 0, locals := 40 }) (va_Pc [.ref h0] (fun U => U.heap.size = sz ∧ va_P (dC, dI) vwCl [(h0, .inr (11, f_h0)), (m10, .inl (cI, 34, .inl fm10))] U.heap ∧ va_K (dC, dI) vwCl (tys0 cI cZ cQ) U)) (va_Qi (fun (r : Int32) (u : Nat → Nat) => r = sfF (fun i => fm10 (16 + i)) nq) (fun (_ : Nat → Nat) (_ : State) => True) (fun _ : Nat => False)) 0 0 (fun _ : Nat => False) := by
  refine Met.ofW (cc := cX11_softOnes) (maxL := 3) (ret := (some .int)) (by decide) rfl ?_
  intro p e s m args below meth c s₁ B hml hv
  obtain ⟨rfl, hsz, hP, hK⟩ := hv
  have hx := B.exec
  have hb := B.bytes
  have hr := B.returns
  have hts := atoms_spec (ws := wsX11_softOnes) B.pre
  have hown : s.vm.findClass RX11 = some m.cls := findClass_of_methodNamed B.named
  have hlocks := B.notSynchronized
  have hi_X11 : ∀ w ∈ u_ws RX11 TX11 46, w ∈ wsX11_softOnes := by decide +kernel
  subst hsz
  have hS : va_S (fun _ : Nat => False) s.heap s.heap [] := va_S.rf
  have hl := lv_entry ([.ref h0]) (n := 3) (Nat.le_of_ble_eq_true rfl)
  rw [lg_entry_eq]
  generalize (lg_sl ([.ref h0]) ++ List.replicate (3 - (lg_sl ([.ref h0])).length) Slot.unset).toArray = ls at hl ⊢
  have hl : lv_has ls 3 [(0, .ref h0)] := hl
  refine lv_iconst (v := 0) hx hb dX11_softOnes_0 (by decide) ?_
  refine lv_istore_n (lv' := [(1, .int 0), (0, .ref h0)]) hx hb dX11_softOnes_1 rfl hl (by decide) rfl (fun ls hl => ?_)
  refine lv_iconst (v := 0) hx hb dX11_softOnes_2 (by decide) ?_
  refine lv_istore_n (lv' := [(2, .int 0), (1, .int 0), (0, .ref h0)]) hx hb dX11_softOnes_3 rfl hl (by decide) rfl (fun ls hl => ?_)
  refine (fun (K : ∀ (d4 : Nat) (k4 : Nat) (a4_1 : Int32) (H : Heap) (locs : List Loc) (ls : Array Slot), k4 + d4 = nq → a4_1 = sfF (fun i => fm10 (16 + i)) k4 → va_P (dC, dI) vwCl [(h0, .inr (11, f_h0)), (m10, .inl (cI, 34, .inl fm10))] H → va_S (fun _ : Nat => False) s.heap H locs → lv_has ls 3 [(2, .int (nI k4)), (1, .int a4_1), (0, .ref h0)] → W p l e _ s m _ below meth c H locs _ _ _ (F0 m 4 ls [])) => K nq 0 0 _ _ _ (by omega) rfl hP hS (lv_sub hl [0, 1, 2] rfl)) ?_
  intro d4
  induction d4 with
  | zero =>
    intro k4 a4_1 H locs ls hk4 hv4_0 hP hS hl
    refine lv_iload_n hx hb dX11_softOnes_4 rfl (lv_at hl 0 rfl) ?_
    refine lv_aload_n hx hb dX11_softOnes_5 rfl (lv_at hl 2 rfl) ?_
    refine va_get (D := (dC, dI)) (ci := 11) (v := .int (nI nq)) (C := RX11) (T := TX11) (N := 46) hx hb hts hi_X11 hown hK hP 0 rfl rfl 2 (by decide) (hts (.fieldLink RX11 99 "LeftQuillsModel" "quills" "I") (wmx 1 rfl)) (fun _ h9 => h9) e_h0_2 dX11_softOnes_6 ?_
    refine lv_icmp_ge (tgt := 42) hx hb dX11_softOnes_9 (by decide) (fun c1 => ?_) (fun c1 => ?_)
    ·
      have c1 : nq ≤ k4 := (nI_leI (a := nq) (b := k4) (by omega) (by omega)).mp c1
      refine lv_iload_n hx hb dX11_softOnes_42 rfl (lv_at hl 1 rfl) ?_
      exact W.iret (v := a4_1) hx hb hr (fun t ht hW => ⟨⟨a4_1, (fun _ => 0), rfl, (hv4_0.trans (by rw [show k4 = nq from by omega])), trivial⟩, hS.F ht⟩) hS.2.2 dX11_softOnes_43
    ·
      have c1 : ¬ nq ≤ k4 := fun h => c1 ((nI_leI (a := nq) (b := k4) (by omega) (by omega)).mpr h)
      omega
  | succ d4 ih4 =>
    intro k4 a4_1 H locs ls hk4 hv4_0 hP hS hl
    refine lv_iload_n hx hb dX11_softOnes_4 rfl (lv_at hl 0 rfl) ?_
    refine lv_aload_n hx hb dX11_softOnes_5 rfl (lv_at hl 2 rfl) ?_
    refine va_get (D := (dC, dI)) (ci := 11) (v := .int (nI nq)) (C := RX11) (T := TX11) (N := 46) hx hb hts hi_X11 hown hK hP 0 rfl rfl 2 (by decide) (hts (.fieldLink RX11 99 "LeftQuillsModel" "quills" "I") (wmx 1 rfl)) (fun _ h9 => h9) e_h0_2 dX11_softOnes_6 ?_
    refine lv_icmp_ge (tgt := 42) hx hb dX11_softOnes_9 (by decide) (fun c2 => ?_) (fun c2 => ?_)
    ·
      have c2 : nq ≤ k4 := (nI_leI (a := nq) (b := k4) (by omega) (by omega)).mp c2
      omega
    ·
      have c2 : ¬ nq ≤ k4 := fun h => c2 ((nI_leI (a := nq) (b := k4) (by omega) (by omega)).mpr h)
      refine lv_iload_n hx hb dX11_softOnes_12 rfl (lv_at hl 1 rfl) ?_
      refine lv_aload_n hx hb dX11_softOnes_13 rfl (lv_at hl 2 rfl) ?_
      refine va_get (D := (dC, dI)) (ci := 11) (v := .ref m10) (C := RX11) (T := TX11) (N := 46) hx hb hts hi_X11 hown hK hP 0 rfl rfl 10 (by decide) (hts (.fieldLink RX11 28 "LeftQuillsModel" "now" "[I") (wmx 2 rfl)) (fun _ h9 => h9) e_h0_10 dX11_softOnes_14 ?_
      refine lv_bipush (v := 16) hx hb dX11_softOnes_17 (by decide) ?_
      refine lv_iload_n hx hb dX11_softOnes_19 rfl (lv_at hl 0 rfl) ?_
      refine lv_iadd hx hb dX11_softOnes_20 ?_
      refine lv_topi (fun z3 ez3 => ?_)
      obtain rfl : z3 = nI (16 + k4) := ez3.trans (nI_add 16 k4)
      refine va_iald hx hb hK hP 1 0 rfl rfl (vp_in_nI (n := 16 + k4) (N := 34) (by omega) (by decide)) dX11_softOnes_21 ?_
      refine W.eq (g2 := F0 m 22 ls [.int (fm10 (16 + k4)), .int a4_1]) (congrArg (fun y9 => F0 m 22 ls (.int (fm10 y9) :: [.int a4_1])) ((nI_clamp (n := 16 + k4) (by omega)))) ?_
      refine lv_bipush (v := 50) hx hb dX11_softOnes_22 (by decide) ?_
      refine lv_icmp_le (tgt := 33) hx hb dX11_softOnes_24 (by decide) (fun c4 => ?_) (fun c4 => ?_)
      ·
        refine lv_iconst (v := 0) hx hb dX11_softOnes_33 (by decide) ?_
        refine lv_ior hx hb dX11_softOnes_34 ?_
        refine lv_istore_n (lv' := [(1, .int (a4_1 ||| 0)), (2, .int (nI k4)), (0, .ref h0)]) hx hb dX11_softOnes_35 rfl hl (by decide) rfl (fun ls hl => ?_)
        refine lv_iinc (v := nI (k4 + 1)) (lv' := [(2, .int (nI (k4 + 1))), (1, .int (a4_1 ||| 0)), (0, .ref h0)]) hx hb dX11_softOnes_36 hl (k := 1) rfl ((rfl : nI k4 + Int32.ofInt 1 = nI k4 + 1).trans (nI_add k4 1)) (by decide) rfl (fun ls hl => ?_)
        refine lv_goto (tgt := 4) hx hb dX11_softOnes_39 (by decide) ?_
        exact ih4 (k4 + 1) (a4_1 ||| 0) _ _ _ (by omega) (by rw [Int32.or_zero]; exact sf_n (f := fun i => fm10 (16 + i)) hv4_0 (fa_len c4)) hP hS (lv_sub hl [0, 1, 2] rfl)
      ·
        refine lv_iconst (v := 1) hx hb dX11_softOnes_27 (by decide) ?_
        refine lv_iload_n hx hb dX11_softOnes_28 rfl (lv_at hl 0 rfl) ?_
        refine lv_ishl hx hb dX11_softOnes_29 ?_
        refine lv_goto (tgt := 34) hx hb dX11_softOnes_30 (by decide) ?_
        refine lv_ior hx hb dX11_softOnes_34 ?_
        refine lv_istore_n (lv' := [(1, .int (a4_1 ||| (1 <<< ((nI k4) &&& 31)))), (2, .int (nI k4)), (0, .ref h0)]) hx hb dX11_softOnes_35 rfl hl (by decide) rfl (fun ls hl => ?_)
        refine lv_iinc (v := nI (k4 + 1)) (lv' := [(2, .int (nI (k4 + 1))), (1, .int (a4_1 ||| (1 <<< ((nI k4) &&& 31)))), (0, .ref h0)]) hx hb dX11_softOnes_36 hl (k := 1) rfl ((rfl : nI k4 + Int32.ofInt 1 = nI k4 + 1).trans (nI_add k4 1)) (by decide) rfl (fun ls hl => ?_)
        refine lv_goto (tgt := 4) hx hb dX11_softOnes_39 (by decide) ?_
        exact ih4 (k4 + 1) (a4_1 ||| (1 <<< ((nI k4) &&& 31))) _ _ _ (by omega) (sf_y (f := fun i => fm10 (16 + i)) hv4_0 (fa_nle c4)) hP hS (lv_sub hl [0, 1, 2] rfl)
set_option maxHeartbeats 4000000 in
set_option maxRecDepth 100000 in
theorem c_X11_toldD (l : Launch) (dC : Nat → ClassId) (dI : Nat → Nat → Nat) (cI cZ cQ : ClassId) (h0 : Nat) (n0 : Int32) (n1 : Int32) (nq : Nat) (nh : Nat) (m10 : Nat) (tx : Nat) (un : Nat) (wm : Nat) (bk : Nat) (f_h0 : List Value) (fm10 : Nat → Int32) (q0 : Int32) (sz : Nat) (e_h0_0 : f_h0[0]? = some (.int n0)) (e_h0_1 : f_h0[1]? = some (.int n1)) (e_h0_2 : f_h0[2]? = some (.int (nI nq))) (e_h0_6 : f_h0[6]? = some (.int (nI nh))) (e_h0_10 : f_h0[10]? = some (.ref m10)) (e_h0_13 : f_h0[13]? = some (.int (nI tx))) (e_h0_29 : f_h0[29]? = some (.int (nI un))) (e_h0_37 : f_h0[37]? = some (.int (nI wm))) (e_h0_41 : f_h0[41]? = some (.int (nI bk))) (hnq : nq ≤ 8) (hnh : nh ≤ 4) : Met l yX11_told wsX11_told ({ frames := 1, cells := 0, slots := 0, locals := 63 }) (va_Pc [.ref h0, .int q0] (fun U => U.heap.size = sz ∧ va_P (dC, dI) vwCl [(h0, .inr (11, f_h0)), (m10, .inl (cI, 34, .inl fm10))] U.heap ∧ va_K (dC, dI) vwCl (tys0 cI cZ cQ) U)) (va_Qi (fun (r : Int32) (u : Nat → Nat) => r = pkV 12 q0 (fun k => ([n0, n1, nI nq, nI nh, nI tx, fm10 32, fm10 33, smF (fun i => fm10 (24 + i)) nh, smF (fun i => fm10 (28 + i)) nh, sfF (fun i => fm10 (16 + i)) nq, nI wm, nI bk, nI un] : List Int32).getD k 0)) (fun (_ : Nat → Nat) (_ : State) => True) (fun _ : Nat => False)) 0 0 (fun _ : Nat => False) := by
  refine Met.ofW (cc := cX11_told) (maxL := 2) (ret := (some .int)) (by decide) rfl ?_
  intro p e s m args below meth c s₁ B hml hv
  obtain ⟨rfl, hsz, hP, hK⟩ := hv
  have hx := B.exec
  have hb := B.bytes
  have hr := B.returns
  have hts := atoms_spec (ws := wsX11_told) B.pre
  have hown : s.vm.findClass RX11 = some m.cls := findClass_of_methodNamed B.named
  have hlocks := B.notSynchronized
  have hi_X11 : ∀ w ∈ u_ws RX11 TX11 46, w ∈ wsX11_told := by decide +kernel
  subst hsz
  have hS : va_S (fun _ : Nat => False) s.heap s.heap [] := va_S.rf
  have hl := lv_entry ([.ref h0, .int q0]) (n := 2) (Nat.le_of_ble_eq_true rfl)
  rw [lg_entry_eq]
  generalize (lg_sl ([.ref h0, .int q0]) ++ List.replicate (2 - (lg_sl ([.ref h0, .int q0])).length) Slot.unset).toArray = ls at hl ⊢
  have hl : lv_has ls 2 [(0, .ref h0), (1, .int q0)] := hl
  refine lv_iload_n hx hb dX11_told_0 rfl (lv_at hl 1 rfl) ?_
  by_cases c1 : q0.toInt < 0 ∨ 12 < q0.toInt
  · refine lv_tableOut (tgt := 143) hx hb dX11_told_1 c1 (by decide) ?_
    refine lv_ldc (v := (-1000000002)) hx hb hown (hts (.constant RX11 111 (-1000000002)) (wmx 10 rfl)) dX11_told_143 ?_
    exact W.iret (v := (-1000000002)) hx hb hr (fun t ht hW => ⟨⟨(-1000000002), (fun _ => 0), rfl, (pk_o c1), trivial⟩, hS.F ht⟩) hS.2.2 dX11_told_145
  have h2 := x_sw_0_12 c1
  rcases h2 with h2 | h2 | h2 | h2 | h2 | h2 | h2 | h2 | h2 | h2 | h2 | h2 | h2
  · refine lv_tableIn (tgt := 68) hx hb dX11_told_1 (by rw [h2]; decide) (by rw [h2]; decide) (by rw [h2]; rfl) (by decide) ?_
    refine lv_aload_n hx hb dX11_told_68 rfl (lv_at hl 0 rfl) ?_
    refine va_get (D := (dC, dI)) (ci := 11) (v := .int n0) (C := RX11) (T := TX11) (N := 46) hx hb hts hi_X11 hown hK hP 0 rfl rfl 0 (by decide) (hts (.fieldLink RX11 96 "LeftQuillsModel" "blunt" "I") (wmx 1 rfl)) (fun _ h9 => h9) e_h0_0 dX11_told_69 ?_
    exact W.iret (v := n0) hx hb hr (fun t ht hW => ⟨⟨n0, (fun _ => 0), rfl, (pk_k (m := 12) (k := 0) (v := (fun k => ([n0, n1, nI nq, nI nh, nI tx, fm10 32, fm10 33, smF (fun i => fm10 (24 + i)) nh, smF (fun i => fm10 (28 + i)) nh, sfF (fun i => fm10 (16 + i)) nq, nI wm, nI bk, nI un] : List Int32).getD k 0)) (by decide) (by decide) h2), trivial⟩, hS.F ht⟩) hS.2.2 dX11_told_72
  · refine lv_tableIn (tgt := 73) hx hb dX11_told_1 (by rw [h2]; decide) (by rw [h2]; decide) (by rw [h2]; rfl) (by decide) ?_
    refine lv_aload_n hx hb dX11_told_73 rfl (lv_at hl 0 rfl) ?_
    refine va_get (D := (dC, dI)) (ci := 11) (v := .int n1) (C := RX11) (T := TX11) (N := 46) hx hb hts hi_X11 hown hK hP 0 rfl rfl 1 (by decide) (hts (.fieldLink RX11 159 "LeftQuillsModel" "mendTakes" "I") (wmx 2 rfl)) (fun _ h9 => h9) e_h0_1 dX11_told_74 ?_
    exact W.iret (v := n1) hx hb hr (fun t ht hW => ⟨⟨n1, (fun _ => 0), rfl, (pk_k (m := 12) (k := 1) (v := (fun k => ([n0, n1, nI nq, nI nh, nI tx, fm10 32, fm10 33, smF (fun i => fm10 (24 + i)) nh, smF (fun i => fm10 (28 + i)) nh, sfF (fun i => fm10 (16 + i)) nq, nI wm, nI bk, nI un] : List Int32).getD k 0)) (by decide) (by decide) h2), trivial⟩, hS.F ht⟩) hS.2.2 dX11_told_77
  · refine lv_tableIn (tgt := 78) hx hb dX11_told_1 (by rw [h2]; decide) (by rw [h2]; decide) (by rw [h2]; rfl) (by decide) ?_
    refine lv_aload_n hx hb dX11_told_78 rfl (lv_at hl 0 rfl) ?_
    refine va_get (D := (dC, dI)) (ci := 11) (v := .int (nI nq)) (C := RX11) (T := TX11) (N := 46) hx hb hts hi_X11 hown hK hP 0 rfl rfl 2 (by decide) (hts (.fieldLink RX11 99 "LeftQuillsModel" "quills" "I") (wmx 3 rfl)) (fun _ h9 => h9) e_h0_2 dX11_told_79 ?_
    exact W.iret (v := nI nq) hx hb hr (fun t ht hW => ⟨⟨nI nq, (fun _ => 0), rfl, (pk_k (m := 12) (k := 2) (v := (fun k => ([n0, n1, nI nq, nI nh, nI tx, fm10 32, fm10 33, smF (fun i => fm10 (24 + i)) nh, smF (fun i => fm10 (28 + i)) nh, sfF (fun i => fm10 (16 + i)) nq, nI wm, nI bk, nI un] : List Int32).getD k 0)) (by decide) (by decide) h2), trivial⟩, hS.F ht⟩) hS.2.2 dX11_told_82
  · refine lv_tableIn (tgt := 83) hx hb dX11_told_1 (by rw [h2]; decide) (by rw [h2]; decide) (by rw [h2]; rfl) (by decide) ?_
    refine lv_aload_n hx hb dX11_told_83 rfl (lv_at hl 0 rfl) ?_
    refine va_get (D := (dC, dI)) (ci := 11) (v := .int (nI nh)) (C := RX11) (T := TX11) (N := 46) hx hb hts hi_X11 hown hK hP 0 rfl rfl 6 (by decide) (hts (.fieldLink RX11 106 "LeftQuillsModel" "hands" "I") (wmx 4 rfl)) (fun _ h9 => h9) e_h0_6 dX11_told_84 ?_
    exact W.iret (v := nI nh) hx hb hr (fun t ht hW => ⟨⟨nI nh, (fun _ => 0), rfl, (pk_k (m := 12) (k := 3) (v := (fun k => ([n0, n1, nI nq, nI nh, nI tx, fm10 32, fm10 33, smF (fun i => fm10 (24 + i)) nh, smF (fun i => fm10 (28 + i)) nh, sfF (fun i => fm10 (16 + i)) nq, nI wm, nI bk, nI un] : List Int32).getD k 0)) (by decide) (by decide) h2), trivial⟩, hS.F ht⟩) hS.2.2 dX11_told_87
  · refine lv_tableIn (tgt := 88) hx hb dX11_told_1 (by rw [h2]; decide) (by rw [h2]; decide) (by rw [h2]; rfl) (by decide) ?_
    refine lv_aload_n hx hb dX11_told_88 rfl (lv_at hl 0 rfl) ?_
    refine va_get (D := (dC, dI)) (ci := 11) (v := .int (nI tx)) (C := RX11) (T := TX11) (N := 46) hx hb hts hi_X11 hown hK hP 0 rfl rfl 13 (by decide) (hts (.fieldLink RX11 112 "LeftQuillsModel" "texted" "I") (wmx 5 rfl)) (fun _ h9 => h9) e_h0_13 dX11_told_89 ?_
    exact W.iret (v := nI tx) hx hb hr (fun t ht hW => ⟨⟨nI tx, (fun _ => 0), rfl, (pk_k (m := 12) (k := 4) (v := (fun k => ([n0, n1, nI nq, nI nh, nI tx, fm10 32, fm10 33, smF (fun i => fm10 (24 + i)) nh, smF (fun i => fm10 (28 + i)) nh, sfF (fun i => fm10 (16 + i)) nq, nI wm, nI bk, nI un] : List Int32).getD k 0)) (by decide) (by decide) h2), trivial⟩, hS.F ht⟩) hS.2.2 dX11_told_92
  · refine lv_tableIn (tgt := 93) hx hb dX11_told_1 (by rw [h2]; decide) (by rw [h2]; decide) (by rw [h2]; rfl) (by decide) ?_
    refine lv_aload_n hx hb dX11_told_93 rfl (lv_at hl 0 rfl) ?_
    refine va_get (D := (dC, dI)) (ci := 11) (v := .ref m10) (C := RX11) (T := TX11) (N := 46) hx hb hts hi_X11 hown hK hP 0 rfl rfl 10 (by decide) (hts (.fieldLink RX11 28 "LeftQuillsModel" "now" "[I") (wmx 6 rfl)) (fun _ h9 => h9) e_h0_10 dX11_told_94 ?_
    refine lv_bipush (v := 32) hx hb dX11_told_97 (by decide) ?_
    refine va_iald hx hb hK hP 1 0 rfl rfl (vp_in_iff.mpr ⟨by decide, by decide⟩) dX11_told_99 ?_
    refine W.eq (g2 := F0 m 100 ls [.int (fm10 32)]) (congrArg (fun y9 => F0 m 100 ls (.int (fm10 y9) :: [])) ((show ((32 : Int32)).toNatClampNeg = 32 from by decide))) ?_
    exact W.iret (v := fm10 32) hx hb hr (fun t ht hW => ⟨⟨fm10 32, (fun _ => 0), rfl, (pk_k (m := 12) (k := 5) (v := (fun k => ([n0, n1, nI nq, nI nh, nI tx, fm10 32, fm10 33, smF (fun i => fm10 (24 + i)) nh, smF (fun i => fm10 (28 + i)) nh, sfF (fun i => fm10 (16 + i)) nq, nI wm, nI bk, nI un] : List Int32).getD k 0)) (by decide) (by decide) h2), trivial⟩, hS.F ht⟩) hS.2.2 dX11_told_100
  · refine lv_tableIn (tgt := 101) hx hb dX11_told_1 (by rw [h2]; decide) (by rw [h2]; decide) (by rw [h2]; rfl) (by decide) ?_
    refine lv_aload_n hx hb dX11_told_101 rfl (lv_at hl 0 rfl) ?_
    refine va_get (D := (dC, dI)) (ci := 11) (v := .ref m10) (C := RX11) (T := TX11) (N := 46) hx hb hts hi_X11 hown hK hP 0 rfl rfl 10 (by decide) (hts (.fieldLink RX11 28 "LeftQuillsModel" "now" "[I") (wmx 6 rfl)) (fun _ h9 => h9) e_h0_10 dX11_told_102 ?_
    refine lv_bipush (v := 33) hx hb dX11_told_105 (by decide) ?_
    refine va_iald hx hb hK hP 1 0 rfl rfl (vp_in_iff.mpr ⟨by decide, by decide⟩) dX11_told_107 ?_
    refine W.eq (g2 := F0 m 108 ls [.int (fm10 33)]) (congrArg (fun y9 => F0 m 108 ls (.int (fm10 y9) :: [])) ((show ((33 : Int32)).toNatClampNeg = 33 from by decide))) ?_
    exact W.iret (v := fm10 33) hx hb hr (fun t ht hW => ⟨⟨fm10 33, (fun _ => 0), rfl, (pk_k (m := 12) (k := 6) (v := (fun k => ([n0, n1, nI nq, nI nh, nI tx, fm10 32, fm10 33, smF (fun i => fm10 (24 + i)) nh, smF (fun i => fm10 (28 + i)) nh, sfF (fun i => fm10 (16 + i)) nq, nI wm, nI bk, nI un] : List Int32).getD k 0)) (by decide) (by decide) h2), trivial⟩, hS.F ht⟩) hS.2.2 dX11_told_108
  · refine lv_tableIn (tgt := 109) hx hb dX11_told_1 (by rw [h2]; decide) (by rw [h2]; decide) (by rw [h2]; rfl) (by decide) ?_
    refine lv_aload_n hx hb dX11_told_109 rfl (lv_at hl 0 rfl) ?_
    refine lv_bipush (v := 24) hx hb dX11_told_110 (by decide) ?_
    have hPc := hP.sub (ws' := [(h0, .inr (11, f_h0)), (m10, .inl (cI, 34, .inl fm10))]) [0, 1] rfl
    refine va_calli (va_runV (As := [.int 24]) (rest := []) ⟨hx, hb, hml, hown, hts⟩ (c_X11_sumOfD l dC dI cI cZ cQ h0 nh m10 f_h0 fm10 24 s.heap.size e_h0_6 e_h0_10 (by omega) (by omega)) (cwV 1 hts gX11_told_X11_sumOf rfl rfl rfl (by decide +kernel) ⟨Nat.le_of_ble_eq_true rfl, Nat.le_of_ble_eq_true rfl⟩) ⟨fun a U g mk q => by obtain ⟨q0, q1, qP, qK⟩ := q; exact ⟨q0, q1, qP, va_K.moved (u := U) (U := U.calling g mk a) (Vm.Alike.refl U.vm) qK⟩, va_recv hK hP (ci := 11) (q0 := 0) rfl rfl, fun U hU hW => ⟨rfl, by rw [hU], by rw [hU]; exact hPc, va_K.moved hW.alike hK⟩⟩ rfl rfl hl.1 rfl (lv_room (Nat.le_of_ble_eq_true rfl)) dX11_told_112 ⟨Nat.le_of_ble_eq_true rfl, Nat.le_of_ble_eq_true rfl⟩) hS (fun q _ h => False.elim h) (fun q h => False.elim h) (fun r3 u4 t H1 locs ht hvm hw5 hB hz1 hk1 hS => ?_)
    have hP := hP.kept (fun k q hk => hk1 q.1 (hP k q hk).lt (fun h => h))
    clear hz1 hk1 hPc
    generalize H1 = H at hP hS ht ⊢
    try dsimp only at hw5
    subst hw5
    exact W.iret (v := smF (fun i => fm10 (24 + i)) nh) hx hb hr (fun t ht hW => ⟨⟨smF (fun i => fm10 (24 + i)) nh, (fun _ => 0), rfl, (pk_k (m := 12) (k := 7) (v := (fun k => ([n0, n1, nI nq, nI nh, nI tx, fm10 32, fm10 33, smF (fun i => fm10 (24 + i)) nh, smF (fun i => fm10 (28 + i)) nh, sfF (fun i => fm10 (16 + i)) nq, nI wm, nI bk, nI un] : List Int32).getD k 0)) (by decide) (by decide) h2), trivial⟩, hS.F ht⟩) hS.2.2 dX11_told_115
  · refine lv_tableIn (tgt := 116) hx hb dX11_told_1 (by rw [h2]; decide) (by rw [h2]; decide) (by rw [h2]; rfl) (by decide) ?_
    refine lv_aload_n hx hb dX11_told_116 rfl (lv_at hl 0 rfl) ?_
    refine lv_bipush (v := 28) hx hb dX11_told_117 (by decide) ?_
    have hPc := hP.sub (ws' := [(h0, .inr (11, f_h0)), (m10, .inl (cI, 34, .inl fm10))]) [0, 1] rfl
    refine va_calli (va_runV (As := [.int 28]) (rest := []) ⟨hx, hb, hml, hown, hts⟩ (c_X11_sumOfD l dC dI cI cZ cQ h0 nh m10 f_h0 fm10 28 s.heap.size e_h0_6 e_h0_10 (by omega) (by omega)) (cwV 1 hts gX11_told_X11_sumOf rfl rfl rfl (by decide +kernel) ⟨Nat.le_of_ble_eq_true rfl, Nat.le_of_ble_eq_true rfl⟩) ⟨fun a U g mk q => by obtain ⟨q0, q1, qP, qK⟩ := q; exact ⟨q0, q1, qP, va_K.moved (u := U) (U := U.calling g mk a) (Vm.Alike.refl U.vm) qK⟩, va_recv hK hP (ci := 11) (q0 := 0) rfl rfl, fun U hU hW => ⟨rfl, by rw [hU], by rw [hU]; exact hPc, va_K.moved hW.alike hK⟩⟩ rfl rfl hl.1 rfl (lv_room (Nat.le_of_ble_eq_true rfl)) dX11_told_119 ⟨Nat.le_of_ble_eq_true rfl, Nat.le_of_ble_eq_true rfl⟩) hS (fun q _ h => False.elim h) (fun q h => False.elim h) (fun r6 u7 t H1 locs ht hvm hw8 hB hz1 hk1 hS => ?_)
    have hP := hP.kept (fun k q hk => hk1 q.1 (hP k q hk).lt (fun h => h))
    clear hz1 hk1 hPc
    generalize H1 = H at hP hS ht ⊢
    try dsimp only at hw8
    subst hw8
    exact W.iret (v := smF (fun i => fm10 (28 + i)) nh) hx hb hr (fun t ht hW => ⟨⟨smF (fun i => fm10 (28 + i)) nh, (fun _ => 0), rfl, (pk_k (m := 12) (k := 8) (v := (fun k => ([n0, n1, nI nq, nI nh, nI tx, fm10 32, fm10 33, smF (fun i => fm10 (24 + i)) nh, smF (fun i => fm10 (28 + i)) nh, sfF (fun i => fm10 (16 + i)) nq, nI wm, nI bk, nI un] : List Int32).getD k 0)) (by decide) (by decide) h2), trivial⟩, hS.F ht⟩) hS.2.2 dX11_told_122
  · refine lv_tableIn (tgt := 123) hx hb dX11_told_1 (by rw [h2]; decide) (by rw [h2]; decide) (by rw [h2]; rfl) (by decide) ?_
    refine lv_aload_n hx hb dX11_told_123 rfl (lv_at hl 0 rfl) ?_
    have hPc := hP.sub (ws' := [(h0, .inr (11, f_h0)), (m10, .inl (cI, 34, .inl fm10))]) [0, 1] rfl
    refine va_calli (va_runV (As := []) (rest := []) ⟨hx, hb, hml, hown, hts⟩ (c_X11_softOnesD l dC dI cI cZ cQ h0 nq m10 f_h0 fm10 s.heap.size e_h0_2 e_h0_10 (by omega)) (cwV 0 hts gX11_told_X11_softOnes rfl rfl rfl (by decide +kernel) ⟨Nat.le_of_ble_eq_true rfl, Nat.le_of_ble_eq_true rfl⟩) ⟨fun a U g mk q => by obtain ⟨q0, q1, qP, qK⟩ := q; exact ⟨q0, q1, qP, va_K.moved (u := U) (U := U.calling g mk a) (Vm.Alike.refl U.vm) qK⟩, va_recv hK hP (ci := 11) (q0 := 0) rfl rfl, fun U hU hW => ⟨rfl, by rw [hU], by rw [hU]; exact hPc, va_K.moved hW.alike hK⟩⟩ rfl rfl hl.1 rfl (lv_room (Nat.le_of_ble_eq_true rfl)) dX11_told_124 ⟨Nat.le_of_ble_eq_true rfl, Nat.le_of_ble_eq_true rfl⟩) hS (fun q _ h => False.elim h) (fun q h => False.elim h) (fun r9 u10 t H1 locs ht hvm hw11 hB hz1 hk1 hS => ?_)
    have hP := hP.kept (fun k q hk => hk1 q.1 (hP k q hk).lt (fun h => h))
    clear hz1 hk1 hPc
    generalize H1 = H at hP hS ht ⊢
    try dsimp only at hw11
    subst hw11
    exact W.iret (v := sfF (fun i => fm10 (16 + i)) nq) hx hb hr (fun t ht hW => ⟨⟨sfF (fun i => fm10 (16 + i)) nq, (fun _ => 0), rfl, (pk_k (m := 12) (k := 9) (v := (fun k => ([n0, n1, nI nq, nI nh, nI tx, fm10 32, fm10 33, smF (fun i => fm10 (24 + i)) nh, smF (fun i => fm10 (28 + i)) nh, sfF (fun i => fm10 (16 + i)) nq, nI wm, nI bk, nI un] : List Int32).getD k 0)) (by decide) (by decide) h2), trivial⟩, hS.F ht⟩) hS.2.2 dX11_told_127
  · refine lv_tableIn (tgt := 128) hx hb dX11_told_1 (by rw [h2]; decide) (by rw [h2]; decide) (by rw [h2]; rfl) (by decide) ?_
    refine lv_aload_n hx hb dX11_told_128 rfl (lv_at hl 0 rfl) ?_
    refine va_get (D := (dC, dI)) (ci := 11) (v := .int (nI wm)) (C := RX11) (T := TX11) (N := 46) hx hb hts hi_X11 hown hK hP 0 rfl rfl 37 (by decide) (hts (.fieldLink RX11 168 "LeftQuillsModel" "wornMany" "I") (wmx 7 rfl)) (fun _ h9 => h9) e_h0_37 dX11_told_129 ?_
    exact W.iret (v := nI wm) hx hb hr (fun t ht hW => ⟨⟨nI wm, (fun _ => 0), rfl, (pk_k (m := 12) (k := 10) (v := (fun k => ([n0, n1, nI nq, nI nh, nI tx, fm10 32, fm10 33, smF (fun i => fm10 (24 + i)) nh, smF (fun i => fm10 (28 + i)) nh, sfF (fun i => fm10 (16 + i)) nq, nI wm, nI bk, nI un] : List Int32).getD k 0)) (by decide) (by decide) h2), trivial⟩, hS.F ht⟩) hS.2.2 dX11_told_132
  · refine lv_tableIn (tgt := 133) hx hb dX11_told_1 (by rw [h2]; decide) (by rw [h2]; decide) (by rw [h2]; rfl) (by decide) ?_
    refine lv_aload_n hx hb dX11_told_133 rfl (lv_at hl 0 rfl) ?_
    refine va_get (D := (dC, dI)) (ci := 11) (v := .int (nI bk)) (C := RX11) (T := TX11) (N := 46) hx hb hts hi_X11 hown hK hP 0 rfl rfl 41 (by decide) (hts (.fieldLink RX11 171 "LeftQuillsModel" "booked" "I") (wmx 8 rfl)) (fun _ h9 => h9) e_h0_41 dX11_told_134 ?_
    exact W.iret (v := nI bk) hx hb hr (fun t ht hW => ⟨⟨nI bk, (fun _ => 0), rfl, (pk_k (m := 12) (k := 11) (v := (fun k => ([n0, n1, nI nq, nI nh, nI tx, fm10 32, fm10 33, smF (fun i => fm10 (24 + i)) nh, smF (fun i => fm10 (28 + i)) nh, sfF (fun i => fm10 (16 + i)) nq, nI wm, nI bk, nI un] : List Int32).getD k 0)) (by decide) (by decide) h2), trivial⟩, hS.F ht⟩) hS.2.2 dX11_told_137
  · refine lv_tableIn (tgt := 138) hx hb dX11_told_1 (by rw [h2]; decide) (by rw [h2]; decide) (by rw [h2]; rfl) (by decide) ?_
    refine lv_aload_n hx hb dX11_told_138 rfl (lv_at hl 0 rfl) ?_
    refine va_get (D := (dC, dI)) (ci := 11) (v := .int (nI un)) (C := RX11) (T := TX11) (N := 46) hx hb hts hi_X11 hown hK hP 0 rfl rfl 29 (by decide) (hts (.fieldLink RX11 174 "LeftQuillsModel" "undos" "I") (wmx 9 rfl)) (fun _ h9 => h9) e_h0_29 dX11_told_139 ?_
    exact W.iret (v := nI un) hx hb hr (fun t ht hW => ⟨⟨nI un, (fun _ => 0), rfl, (pk_k (m := 12) (k := 12) (v := (fun k => ([n0, n1, nI nq, nI nh, nI tx, fm10 32, fm10 33, smF (fun i => fm10 (24 + i)) nh, smF (fun i => fm10 (28 + i)) nh, sfF (fun i => fm10 (16 + i)) nq, nI wm, nI bk, nI un] : List Int32).getD k 0)) (by decide) (by decide) h2), trivial⟩, hS.F ht⟩) hS.2.2 dX11_told_142
