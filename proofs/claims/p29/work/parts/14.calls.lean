set_option maxHeartbeats 4000000 in
set_option maxRecDepth 100000 in
theorem c_X10_told (l : Launch) (dC : Nat → ClassId) (dI : Nat → Nat → Nat) (cI cZ cQ : ClassId) (h0 : Nat) (tl : Nat) (x4 : Nat) (x6 : Nat) (x7 : Nat) (x12 : Nat) (x13 : Nat) (f_h0 : List Value) (bl : Int32) (mm : Int32) (nq : Nat) (nh : Nat) (f_x4 : List Value) (mi : Int32) (cu : Int32) (a2 : Nat) (a3 : Nat) (a4 : Nat) (a5 : Nat) (a6 : Nat) (f_x6 : List Value) (fa4 : Nat → Int32) (fa5 : Nat → Int32) (fa6 : Nat → Int32) (n : Nat) (f_x7 : List Value) (ne : Nat) (f_x12 : List Value) (nk : Nat) (f_x13 : List Value) (q0 : Int32) (sz : Nat) (e_h0_1 : fAt f_h0 1 = some (.int (nI tl))) (e_h0_4 : fAt f_h0 4 = some (.ref x4)) (e_h0_6 : fAt f_h0 6 = some (.ref x6)) (e_h0_7 : fAt f_h0 7 = some (.ref x7)) (e_h0_12 : fAt f_h0 12 = some (.ref x12)) (e_h0_13 : fAt f_h0 13 = some (.ref x13)) (e_x4_1 : fAt f_x4 1 = some (.int bl)) (e_x4_2 : fAt f_x4 2 = some (.int mm)) (e_x4_3 : fAt f_x4 3 = some (.int (nI nq))) (e_x4_4 : fAt f_x4 4 = some (.int (nI nh))) (e_x6_0 : fAt f_x6 0 = some (.int mi)) (e_x6_1 : fAt f_x6 1 = some (.int cu)) (e_x6_2 : fAt f_x6 2 = some (.ref a2)) (e_x6_3 : fAt f_x6 3 = some (.ref a3)) (e_x6_4 : fAt f_x6 4 = some (.ref a4)) (e_x6_5 : fAt f_x6 5 = some (.ref a5)) (e_x6_6 : fAt f_x6 6 = some (.ref a6)) (e_x6_7 : fAt f_x6 7 = some (.ref x4)) (e_x7_2 : fAt f_x7 2 = some (.int (nI n))) (e_x12_0 : fAt f_x12 0 = some (.int (nI ne))) (e_x13_0 : fAt f_x13 0 = some (.int (nI nk))) (hnq : nq ≤ 8) (hnh : nh ≤ 4) : Met l yX10_told wsX10_told ({ frames := 1, cells := 0, slots := 0, locals := 62 }) (va_Pc [.ref h0, .int q0] (fun U => U.heap.size = sz ∧ va_P (dC, dI) vwCl [(h0, .inr (10, f_h0)), (x4, .inr (5, f_x4)), (x6, .inr (1, f_x6)), (a4, .inl (cI, 8, .inl fa4)), (a5, .inl (cI, 4, .inl fa5)), (a6, .inl (cI, 4, .inl fa6)), (x7, .inr (3, f_x7)), (x12, .inr (2, f_x12)), (x13, .inr (0, f_x13))] U.heap ∧ va_K (dC, dI) vwCl (tys0 cI cZ cQ) U)) (va_Qi (fun (r : Int32) (u : Nat → Nat) => True) (fun (_ : Nat → Nat) (_ : State) => True) (fun _ : Nat => False)) 0 0 (fun _ : Nat => False) := by
  refine Met.ofW (cc := cX10_told) (maxL := 2) (ret := (some .int)) (by decide) rfl ?_
  intro p e s m args below meth c s₁ B hml hv
  obtain ⟨rfl, hsz, hP, hK⟩ := hv
  have hx := B.exec
  have hb := B.bytes
  have hr := B.returns
  have hts := atoms_spec (ws := wsX10_told) B.pre
  have hown : s.vm.findClass RX10 = some m.cls := findClass_of_methodNamed B.named
  have hlocks := B.notSynchronized
  have hi_X0 : ∀ w ∈ u_ws RX0 TX0 3, w ∈ wsX10_told := fun _ h => List.mem_cons_of_mem _ (List.mem_append_left _ (List.mem_append_right _ (h)))
  have hi_X1 : ∀ w ∈ u_ws RX1 TX1 8, w ∈ wsX10_told := fun _ h => List.mem_cons_of_mem _ (List.mem_append_left _ (List.mem_append_left _ (List.mem_append_left _ (List.mem_append_right _ (h)))))
  have hi_X10 : ∀ w ∈ u_ws RX10 TX10 14, w ∈ wsX10_told := fun _ h => List.mem_cons_of_mem _ (List.mem_append_left _ (List.mem_append_left _ (List.mem_append_left _ (List.mem_append_left _ (List.mem_append_left _ (List.mem_append_right _ (h)))))))
  have hi_X2 : ∀ w ∈ u_ws RX2 TX2 5, w ∈ wsX10_told := fun _ h => List.mem_cons_of_mem _ (List.mem_append_left _ (List.mem_append_left _ (List.mem_append_right _ (h))))
  have hi_X3 : ∀ w ∈ u_ws RX3 TX3 3, w ∈ wsX10_told := fun _ h => List.mem_cons_of_mem _ (List.mem_append_right _ (h))
  have hi_X5 : ∀ w ∈ u_ws RX5 TX5 13, w ∈ wsX10_told := fun _ h => List.mem_cons_of_mem _ (List.mem_append_left _ (List.mem_append_left _ (List.mem_append_left _ (List.mem_append_left _ (List.mem_append_right _ (h))))))
  subst hsz
  have hS : va_S (fun _ : Nat => False) s.heap s.heap [] := va_S.rf
  have hl := lv_entry ([.ref h0, .int q0]) (n := 2) (Nat.le_of_ble_eq_true rfl)
  rw [lg_entry_eq]
  generalize (lg_sl ([.ref h0, .int q0]) ++ List.replicate (2 - (lg_sl ([.ref h0, .int q0])).length) Slot.unset).toArray = ls at hl ⊢
  have hl : lv_has ls 2 [(0, .ref h0), (1, .int q0)] := hl
  refine lv_iload_n hx hb dX10_told_0 rfl (lv_at hl 1 rfl) ?_
  by_cases c1 : q0.toInt < 0 ∨ 12 < q0.toInt
  · refine lv_tableOut (tgt := 169) hx hb dX10_told_1 c1 (by decide) ?_
    refine lv_ldc (v := (-1000000002)) hx hb hown (hts (.constant RX10 103 (-1000000002)) (wmx 16 rfl)) dX10_told_169 ?_
    exact W.iret (v := (-1000000002)) hx hb hr (fun t ht hW => ⟨⟨(-1000000002), (fun _ => 0), rfl, trivial, trivial⟩, hS.F ht⟩) hS.2.2 dX10_told_171
  have h2 := x_sw_0_12 c1
  rcases h2 with h2 | h2 | h2 | h2 | h2 | h2 | h2 | h2 | h2 | h2 | h2 | h2 | h2
  · refine lv_tableIn (tgt := 68) hx hb dX10_told_1 (by rw [h2]; decide) (by rw [h2]; decide) (by rw [h2]; rfl) (by decide) ?_
    refine lv_aload_n hx hb dX10_told_68 rfl (lv_at hl 0 rfl) ?_
    refine va_get (D := (dC, dI)) (ci := 10) (v := .ref x4) (C := RX10) (T := TX10) (N := 14) hx hb hts hi_X10 hown hK hP 0 rfl rfl 4 (by decide) (hts (.fieldLink RX10 26 "LeftQuills" "office" "LLeftQuills$Office;") (wmx 1 rfl)) (fun _ h9 => h9) e_h0_4 dX10_told_69 ?_
    refine va_get (D := (dC, dI)) (ci := 5) (v := .int bl) (C := RX5) (T := TX5) (N := 13) hx hb hts hi_X5 hown hK hP 1 rfl rfl 1 (by decide) (hts (.fieldLink RX10 130 "LeftQuills$Office" "bluntBehind" "I") (wmx 2 rfl)) (fun _ h9 => h9) e_x4_1 dX10_told_72 ?_
    exact W.iret (v := bl) hx hb hr (fun t ht hW => ⟨⟨bl, (fun _ => 0), rfl, trivial, trivial⟩, hS.F ht⟩) hS.2.2 dX10_told_75
  · refine lv_tableIn (tgt := 76) hx hb dX10_told_1 (by rw [h2]; decide) (by rw [h2]; decide) (by rw [h2]; rfl) (by decide) ?_
    refine lv_aload_n hx hb dX10_told_76 rfl (lv_at hl 0 rfl) ?_
    refine va_get (D := (dC, dI)) (ci := 10) (v := .ref x4) (C := RX10) (T := TX10) (N := 14) hx hb hts hi_X10 hown hK hP 0 rfl rfl 4 (by decide) (hts (.fieldLink RX10 26 "LeftQuills" "office" "LLeftQuills$Office;") (wmx 1 rfl)) (fun _ h9 => h9) e_h0_4 dX10_told_77 ?_
    refine va_get (D := (dC, dI)) (ci := 5) (v := .int mm) (C := RX5) (T := TX5) (N := 13) hx hb hts hi_X5 hown hK hP 1 rfl rfl 2 (by decide) (hts (.fieldLink RX10 133 "LeftQuills$Office" "mendMinutes" "I") (wmx 3 rfl)) (fun _ h9 => h9) e_x4_2 dX10_told_80 ?_
    exact W.iret (v := mm) hx hb hr (fun t ht hW => ⟨⟨mm, (fun _ => 0), rfl, trivial, trivial⟩, hS.F ht⟩) hS.2.2 dX10_told_83
  · refine lv_tableIn (tgt := 84) hx hb dX10_told_1 (by rw [h2]; decide) (by rw [h2]; decide) (by rw [h2]; rfl) (by decide) ?_
    refine lv_aload_n hx hb dX10_told_84 rfl (lv_at hl 0 rfl) ?_
    refine va_get (D := (dC, dI)) (ci := 10) (v := .ref x4) (C := RX10) (T := TX10) (N := 14) hx hb hts hi_X10 hown hK hP 0 rfl rfl 4 (by decide) (hts (.fieldLink RX10 26 "LeftQuills" "office" "LLeftQuills$Office;") (wmx 1 rfl)) (fun _ h9 => h9) e_h0_4 dX10_told_85 ?_
    refine va_get (D := (dC, dI)) (ci := 5) (v := .int (nI nq)) (C := RX5) (T := TX5) (N := 13) hx hb hts hi_X5 hown hK hP 1 rfl rfl 3 (by decide) (hts (.fieldLink RX10 127 "LeftQuills$Office" "quills" "I") (wmx 4 rfl)) (fun _ h9 => h9) e_x4_3 dX10_told_88 ?_
    exact W.iret (v := nI nq) hx hb hr (fun t ht hW => ⟨⟨nI nq, (fun _ => 0), rfl, trivial, trivial⟩, hS.F ht⟩) hS.2.2 dX10_told_91
  · refine lv_tableIn (tgt := 92) hx hb dX10_told_1 (by rw [h2]; decide) (by rw [h2]; decide) (by rw [h2]; rfl) (by decide) ?_
    refine lv_aload_n hx hb dX10_told_92 rfl (lv_at hl 0 rfl) ?_
    refine va_get (D := (dC, dI)) (ci := 10) (v := .ref x4) (C := RX10) (T := TX10) (N := 14) hx hb hts hi_X10 hown hK hP 0 rfl rfl 4 (by decide) (hts (.fieldLink RX10 26 "LeftQuills" "office" "LLeftQuills$Office;") (wmx 1 rfl)) (fun _ h9 => h9) e_h0_4 dX10_told_93 ?_
    refine va_get (D := (dC, dI)) (ci := 5) (v := .int (nI nh)) (C := RX5) (T := TX5) (N := 13) hx hb hts hi_X5 hown hK hP 1 rfl rfl 4 (by decide) (hts (.fieldLink RX10 136 "LeftQuills$Office" "hands" "I") (wmx 5 rfl)) (fun _ h9 => h9) e_x4_4 dX10_told_96 ?_
    exact W.iret (v := nI nh) hx hb hr (fun t ht hW => ⟨⟨nI nh, (fun _ => 0), rfl, trivial, trivial⟩, hS.F ht⟩) hS.2.2 dX10_told_99
  · refine lv_tableIn (tgt := 100) hx hb dX10_told_1 (by rw [h2]; decide) (by rw [h2]; decide) (by rw [h2]; rfl) (by decide) ?_
    refine lv_aload_n hx hb dX10_told_100 rfl (lv_at hl 0 rfl) ?_
    refine va_get (D := (dC, dI)) (ci := 10) (v := .int (nI tl)) (C := RX10) (T := TX10) (N := 14) hx hb hts hi_X10 hown hK hP 0 rfl rfl 1 (by decide) (hts (.fieldLink RX10 13 "LeftQuills" "textLength" "I") (wmx 6 rfl)) (fun _ h9 => h9) e_h0_1 dX10_told_101 ?_
    exact W.iret (v := nI tl) hx hb hr (fun t ht hW => ⟨⟨nI tl, (fun _ => 0), rfl, trivial, trivial⟩, hS.F ht⟩) hS.2.2 dX10_told_104
  · refine lv_tableIn (tgt := 105) hx hb dX10_told_1 (by rw [h2]; decide) (by rw [h2]; decide) (by rw [h2]; rfl) (by decide) ?_
    refine lv_aload_n hx hb dX10_told_105 rfl (lv_at hl 0 rfl) ?_
    refine va_get (D := (dC, dI)) (ci := 10) (v := .ref x6) (C := RX10) (T := TX10) (N := 14) hx hb hts hi_X10 hown hK hP 0 rfl rfl 6 (by decide) (hts (.fieldLink RX10 42 "LeftQuills" "desk" "LLeftQuills$Desk;") (wmx 7 rfl)) (fun _ h9 => h9) e_h0_6 dX10_told_106 ?_
    refine va_get (D := (dC, dI)) (ci := 1) (v := .int mi) (C := RX1) (T := TX1) (N := 8) hx hb hts hi_X1 hown hK hP 2 rfl rfl 0 (by decide) (hts (.fieldLink RX10 139 "LeftQuills$Desk" "minutes" "I") (wmx 8 rfl)) (fun _ h9 => h9) e_x6_0 dX10_told_109 ?_
    exact W.iret (v := mi) hx hb hr (fun t ht hW => ⟨⟨mi, (fun _ => 0), rfl, trivial, trivial⟩, hS.F ht⟩) hS.2.2 dX10_told_112
  · refine lv_tableIn (tgt := 113) hx hb dX10_told_1 (by rw [h2]; decide) (by rw [h2]; decide) (by rw [h2]; rfl) (by decide) ?_
    refine lv_aload_n hx hb dX10_told_113 rfl (lv_at hl 0 rfl) ?_
    refine va_get (D := (dC, dI)) (ci := 10) (v := .ref x6) (C := RX10) (T := TX10) (N := 14) hx hb hts hi_X10 hown hK hP 0 rfl rfl 6 (by decide) (hts (.fieldLink RX10 42 "LeftQuills" "desk" "LLeftQuills$Desk;") (wmx 7 rfl)) (fun _ h9 => h9) e_h0_6 dX10_told_114 ?_
    refine va_get (D := (dC, dI)) (ci := 1) (v := .int cu) (C := RX1) (T := TX1) (N := 8) hx hb hts hi_X1 hown hK hP 2 rfl rfl 1 (by decide) (hts (.fieldLink RX10 142 "LeftQuills$Desk" "cuts" "I") (wmx 9 rfl)) (fun _ h9 => h9) e_x6_1 dX10_told_117 ?_
    exact W.iret (v := cu) hx hb hr (fun t ht hW => ⟨⟨cu, (fun _ => 0), rfl, trivial, trivial⟩, hS.F ht⟩) hS.2.2 dX10_told_120
  · refine lv_tableIn (tgt := 121) hx hb dX10_told_1 (by rw [h2]; decide) (by rw [h2]; decide) (by rw [h2]; rfl) (by decide) ?_
    refine lv_aload_n hx hb dX10_told_121 rfl (lv_at hl 0 rfl) ?_
    refine va_get (D := (dC, dI)) (ci := 10) (v := .ref x6) (C := RX10) (T := TX10) (N := 14) hx hb hts hi_X10 hown hK hP 0 rfl rfl 6 (by decide) (hts (.fieldLink RX10 42 "LeftQuills" "desk" "LLeftQuills$Desk;") (wmx 7 rfl)) (fun _ h9 => h9) e_h0_6 dX10_told_122 ?_
    have hPc := hP.sub (ws' := [(x6, .inr (1, f_x6)), (x4, .inr (5, f_x4)), (a5, .inl (cI, 4, .inl fa5))]) [2, 1, 4] rfl
    refine va_calli (va_runV (As := []) (rest := []) ⟨hx, hb, hml, hown, hts⟩ (c_X1_allPages l dC dI cI cZ cQ x6 a5 x4 f_x6 nh f_x4 fa5 s.heap.size e_x6_5 e_x6_7 e_x4_4 (by omega)) (cwV 0 hts gX10_told_X1_allPages rfl rfl rfl hd_X1_allPages_RX1 ⟨Nat.le_of_ble_eq_true rfl, Nat.le_of_ble_eq_true rfl⟩) (pv_R (va_recv hK hP (ci := 1) (q0 := 2) rfl rfl) hK hPc) rfl rfl hl.1 rfl (lv_room (Nat.le_of_ble_eq_true rfl)) dX10_told_125 ⟨Nat.le_of_ble_eq_true rfl, Nat.le_of_ble_eq_true rfl⟩) hS (fun q _ h => False.elim h) (fun q h => False.elim h) (fun r3 u4 t H1 locs ht hvm hw5 hB hz1 hk1 hS => ?_)
    have hP := hP.kept (fun k q hk => hk1 q.1 (hP k q hk).lt (fun h => h))
    clear hz1 hk1 hPc
    generalize H1 = H at hP hS ht ⊢
    try dsimp only at hw5
    exact W.iret (v := r3) hx hb hr (fun t ht hW => ⟨⟨r3, (fun _ => 0), rfl, trivial, trivial⟩, hS.F ht⟩) hS.2.2 dX10_told_128
  · refine lv_tableIn (tgt := 129) hx hb dX10_told_1 (by rw [h2]; decide) (by rw [h2]; decide) (by rw [h2]; rfl) (by decide) ?_
    refine lv_aload_n hx hb dX10_told_129 rfl (lv_at hl 0 rfl) ?_
    refine va_get (D := (dC, dI)) (ci := 10) (v := .ref x6) (C := RX10) (T := TX10) (N := 14) hx hb hts hi_X10 hown hK hP 0 rfl rfl 6 (by decide) (hts (.fieldLink RX10 42 "LeftQuills" "desk" "LLeftQuills$Desk;") (wmx 7 rfl)) (fun _ h9 => h9) e_h0_6 dX10_told_130 ?_
    have hPc := hP.sub (ws' := [(x6, .inr (1, f_x6)), (x4, .inr (5, f_x4)), (a6, .inl (cI, 4, .inl fa6))]) [2, 1, 5] rfl
    refine va_calli (va_runV (As := []) (rest := []) ⟨hx, hb, hml, hown, hts⟩ (c_X1_allGood l dC dI cI cZ cQ x6 a6 x4 f_x6 nh f_x4 fa6 s.heap.size e_x6_6 e_x6_7 e_x4_4 (by omega)) (cwV 0 hts gX10_told_X1_allGood rfl rfl rfl hd_X1_allGood_RX1 ⟨Nat.le_of_ble_eq_true rfl, Nat.le_of_ble_eq_true rfl⟩) (pv_R (va_recv hK hP (ci := 1) (q0 := 2) rfl rfl) hK hPc) rfl rfl hl.1 rfl (lv_room (Nat.le_of_ble_eq_true rfl)) dX10_told_133 ⟨Nat.le_of_ble_eq_true rfl, Nat.le_of_ble_eq_true rfl⟩) hS (fun q _ h => False.elim h) (fun q h => False.elim h) (fun r6 u7 t H1 locs ht hvm hw8 hB hz1 hk1 hS => ?_)
    have hP := hP.kept (fun k q hk => hk1 q.1 (hP k q hk).lt (fun h => h))
    clear hz1 hk1 hPc
    generalize H1 = H at hP hS ht ⊢
    try dsimp only at hw8
    exact W.iret (v := r6) hx hb hr (fun t ht hW => ⟨⟨r6, (fun _ => 0), rfl, trivial, trivial⟩, hS.F ht⟩) hS.2.2 dX10_told_136
  · refine lv_tableIn (tgt := 137) hx hb dX10_told_1 (by rw [h2]; decide) (by rw [h2]; decide) (by rw [h2]; rfl) (by decide) ?_
    refine lv_aload_n hx hb dX10_told_137 rfl (lv_at hl 0 rfl) ?_
    refine va_get (D := (dC, dI)) (ci := 10) (v := .ref x6) (C := RX10) (T := TX10) (N := 14) hx hb hts hi_X10 hown hK hP 0 rfl rfl 6 (by decide) (hts (.fieldLink RX10 42 "LeftQuills" "desk" "LLeftQuills$Desk;") (wmx 7 rfl)) (fun _ h9 => h9) e_h0_6 dX10_told_138 ?_
    have hPc := hP.sub (ws' := [(x6, .inr (1, f_x6)), (x4, .inr (5, f_x4)), (a4, .inl (cI, 8, .inl fa4))]) [2, 1, 3] rfl
    refine va_calli (va_runV (As := []) (rest := []) ⟨hx, hb, hml, hown, hts⟩ (c_X1_softQuills l dC dI cI cZ cQ x6 a4 x4 f_x6 nq f_x4 fa4 s.heap.size e_x6_4 e_x6_7 e_x4_3 (by omega)) (cwV 0 hts gX10_told_X1_softQuills rfl rfl rfl hd_X1_softQuills_RX1 ⟨Nat.le_of_ble_eq_true rfl, Nat.le_of_ble_eq_true rfl⟩) (pv_R (va_recv hK hP (ci := 1) (q0 := 2) rfl rfl) hK hPc) rfl rfl hl.1 rfl (lv_room (Nat.le_of_ble_eq_true rfl)) dX10_told_141 ⟨Nat.le_of_ble_eq_true rfl, Nat.le_of_ble_eq_true rfl⟩) hS (fun q _ h => False.elim h) (fun q h => False.elim h) (fun r9 u10 t H1 locs ht hvm hw11 hB hz1 hk1 hS => ?_)
    have hP := hP.kept (fun k q hk => hk1 q.1 (hP k q hk).lt (fun h => h))
    clear hz1 hk1 hPc
    generalize H1 = H at hP hS ht ⊢
    try dsimp only at hw11
    exact W.iret (v := r9) hx hb hr (fun t ht hW => ⟨⟨r9, (fun _ => 0), rfl, trivial, trivial⟩, hS.F ht⟩) hS.2.2 dX10_told_144
  · refine lv_tableIn (tgt := 145) hx hb dX10_told_1 (by rw [h2]; decide) (by rw [h2]; decide) (by rw [h2]; rfl) (by decide) ?_
    refine lv_aload_n hx hb dX10_told_145 rfl (lv_at hl 0 rfl) ?_
    refine va_get (D := (dC, dI)) (ci := 10) (v := .ref x12) (C := RX10) (T := TX10) (N := 14) hx hb hts hi_X10 hown hK hP 0 rfl rfl 12 (by decide) (hts (.fieldLink RX10 88 "LeftQuills" "evidence" "LLeftQuills$Evidence;") (wmx 10 rfl)) (fun _ h9 => h9) e_h0_12 dX10_told_146 ?_
    refine va_get (D := (dC, dI)) (ci := 2) (v := .int (nI ne)) (C := RX2) (T := TX2) (N := 5) hx hb hts hi_X2 hown hK hP 7 rfl rfl 0 (by decide) (hts (.fieldLink RX10 123 "LeftQuills$Evidence" "count" "I") (wmx 11 rfl)) (fun _ h9 => h9) e_x12_0 dX10_told_149 ?_
    exact W.iret (v := nI ne) hx hb hr (fun t ht hW => ⟨⟨nI ne, (fun _ => 0), rfl, trivial, trivial⟩, hS.F ht⟩) hS.2.2 dX10_told_152
  · refine lv_tableIn (tgt := 153) hx hb dX10_told_1 (by rw [h2]; decide) (by rw [h2]; decide) (by rw [h2]; rfl) (by decide) ?_
    refine lv_aload_n hx hb dX10_told_153 rfl (lv_at hl 0 rfl) ?_
    refine va_get (D := (dC, dI)) (ci := 10) (v := .ref x13) (C := RX10) (T := TX10) (N := 14) hx hb hts hi_X10 hown hK hP 0 rfl rfl 13 (by decide) (hts (.fieldLink RX10 95 "LeftQuills" "book" "LLeftQuills$Book;") (wmx 12 rfl)) (fun _ h9 => h9) e_h0_13 dX10_told_154 ?_
    refine va_get (D := (dC, dI)) (ci := 0) (v := .int (nI nk)) (C := RX0) (T := TX0) (N := 3) hx hb hts hi_X0 hown hK hP 8 rfl rfl 0 (by decide) (hts (.fieldLink RX10 126 "LeftQuills$Book" "count" "I") (wmx 13 rfl)) (fun _ h9 => h9) e_x13_0 dX10_told_157 ?_
    exact W.iret (v := nI nk) hx hb hr (fun t ht hW => ⟨⟨nI nk, (fun _ => 0), rfl, trivial, trivial⟩, hS.F ht⟩) hS.2.2 dX10_told_160
  · refine lv_tableIn (tgt := 161) hx hb dX10_told_1 (by rw [h2]; decide) (by rw [h2]; decide) (by rw [h2]; rfl) (by decide) ?_
    refine lv_aload_n hx hb dX10_told_161 rfl (lv_at hl 0 rfl) ?_
    refine va_get (D := (dC, dI)) (ci := 10) (v := .ref x7) (C := RX10) (T := TX10) (N := 14) hx hb hts hi_X10 hown hK hP 0 rfl rfl 7 (by decide) (hts (.fieldLink RX10 49 "LeftQuills" "history" "LLeftQuills$History;") (wmx 14 rfl)) (fun _ h9 => h9) e_h0_7 dX10_told_162 ?_
    refine va_get (D := (dC, dI)) (ci := 3) (v := .int (nI n)) (C := RX3) (T := TX3) (N := 3) hx hb hts hi_X3 hown hK hP 6 rfl rfl 2 (by decide) (hts (.fieldLink RX10 155 "LeftQuills$History" "count" "I") (wmx 15 rfl)) (fun _ h9 => h9) e_x7_2 dX10_told_165 ?_
    exact W.iret (v := nI n) hx hb hr (fun t ht hW => ⟨⟨nI n, (fun _ => 0), rfl, trivial, trivial⟩, hS.F ht⟩) hS.2.2 dX10_told_168
set_option maxHeartbeats 4000000 in
set_option maxRecDepth 100000 in
theorem c_X10_quill (l : Launch) (dC : Nat → ClassId) (dI : Nat → Nat → Nat) (cI cZ cQ : ClassId) (h0 : Nat) (x4 : Nat) (x6 : Nat) (f_h0 : List Value) (o5 : Nat) (o6 : Nat) (o7 : Nat) (o10 : Nat) (o11 : Nat) (o12 : Nat) (nq : Nat) (f_x4 : List Value) (mi : Int32) (cu : Int32) (a2 : Nat) (a3 : Nat) (a4 : Nat) (a5 : Nat) (a6 : Nat) (f_x6 : List Value) (fa2 : Nat → Int32) (fa3 : Nat → Int32) (fa4 : Nat → Int32) (fo5 : Nat → Int32) (fo6 : Nat → Int32) (fo7 : Nat → Int32) (q0 : Int32) (q1 : Int32) (sz : Nat) (e_h0_4 : fAt f_h0 4 = some (.ref x4)) (e_h0_6 : fAt f_h0 6 = some (.ref x6)) (e_x4_5 : fAt f_x4 5 = some (.ref o5)) (e_x4_6 : fAt f_x4 6 = some (.ref o6)) (e_x4_7 : fAt f_x4 7 = some (.ref o7)) (e_x4_10 : fAt f_x4 10 = some (.ref o10)) (e_x4_11 : fAt f_x4 11 = some (.ref o11)) (e_x4_12 : fAt f_x4 12 = some (.ref o12)) (e_x4_3 : fAt f_x4 3 = some (.int (nI nq))) (e_x6_0 : fAt f_x6 0 = some (.int mi)) (e_x6_1 : fAt f_x6 1 = some (.int cu)) (e_x6_2 : fAt f_x6 2 = some (.ref a2)) (e_x6_3 : fAt f_x6 3 = some (.ref a3)) (e_x6_4 : fAt f_x6 4 = some (.ref a4)) (e_x6_5 : fAt f_x6 5 = some (.ref a5)) (e_x6_6 : fAt f_x6 6 = some (.ref a6)) (e_x6_7 : fAt f_x6 7 = some (.ref x4)) (hnq : nq ≤ 8) : Met l yX10_quill wsX10_quill ({ frames := 1, cells := 0, slots := 0, locals := 61 }) (va_Pc [.ref h0, .int q0, .int q1] (fun U => U.heap.size = sz ∧ va_P (dC, dI) vwCl [(h0, .inr (10, f_h0)), (x4, .inr (5, f_x4)), (x6, .inr (1, f_x6)), (a2, .inl (cI, 8, .inl fa2)), (a3, .inl (cI, 8, .inl fa3)), (a4, .inl (cI, 8, .inl fa4)), (o5, .inl (cI, 8, .inl fo5)), (o6, .inl (cI, 8, .inl fo6)), (o7, .inl (cI, 8, .inl fo7))] U.heap ∧ va_K (dC, dI) vwCl (tys0 cI cZ cQ) U)) (va_Qi (fun (r : Int32) (u : Nat → Nat) => True) (fun (_ : Nat → Nat) (_ : State) => True) (fun _ : Nat => False)) 0 0 (fun _ : Nat => False) := by
  refine Met.ofW (cc := cX10_quill) (maxL := 3) (ret := (some .int)) (by decide) rfl ?_
  intro p e s m args below meth c s₁ B hml hv
  obtain ⟨rfl, hsz, hP, hK⟩ := hv
  have hx := B.exec
  have hb := B.bytes
  have hr := B.returns
  have hts := atoms_spec (ws := wsX10_quill) B.pre
  have hown : s.vm.findClass RX10 = some m.cls := findClass_of_methodNamed B.named
  have hlocks := B.notSynchronized
  have hi_X1 : ∀ w ∈ u_ws RX1 TX1 8, w ∈ wsX10_quill := fun _ h => List.mem_cons_of_mem _ (List.mem_append_right _ (h))
  have hi_X10 : ∀ w ∈ u_ws RX10 TX10 14, w ∈ wsX10_quill := fun _ h => List.mem_cons_of_mem _ (List.mem_append_left _ (List.mem_append_left _ (List.mem_append_right _ (h))))
  have hi_X5 : ∀ w ∈ u_ws RX5 TX5 13, w ∈ wsX10_quill := fun _ h => List.mem_cons_of_mem _ (List.mem_append_left _ (List.mem_append_right _ (h)))
  subst hsz
  have hS : va_S (fun _ : Nat => False) s.heap s.heap [] := va_S.rf
  have hl := lv_entry ([.ref h0, .int q0, .int q1]) (n := 3) (Nat.le_of_ble_eq_true rfl)
  rw [lg_entry_eq]
  generalize (lg_sl ([.ref h0, .int q0, .int q1]) ++ List.replicate (3 - (lg_sl ([.ref h0, .int q0, .int q1])).length) Slot.unset).toArray = ls at hl ⊢
  have hl : lv_has ls 3 [(0, .ref h0), (1, .int q0), (2, .int q1)] := hl
  refine lv_aload_n hx hb dX10_quill_0 rfl (lv_at hl 0 rfl) ?_
  refine lv_iload_n hx hb dX10_quill_1 rfl (lv_at hl 1 rfl) ?_
  have hPc := hP.sub (ws' := [(h0, .inr (10, f_h0)), (x4, .inr (5, f_x4))]) [0, 1] rfl
  refine va_calli (va_runV (As := [.int q0]) (rest := []) ⟨hx, hb, hml, hown, hts⟩ (c_X10_isQuill l dC dI cI cZ cQ h0 x4 f_h0 (nI nq) f_x4 q0 s.heap.size e_h0_4 e_x4_3) (cwV 1 hts gX10_quill_X10_isQuill rfl rfl rfl hd_X10_isQuill_RX10 ⟨Nat.le_of_ble_eq_true rfl, Nat.le_of_ble_eq_true rfl⟩) (pv_R (va_recv hK hP (ci := 10) (q0 := 0) rfl rfl) hK hPc) rfl rfl hl.1 rfl (lv_room (Nat.le_of_ble_eq_true rfl)) dX10_quill_2 ⟨Nat.le_of_ble_eq_true rfl, Nat.le_of_ble_eq_true rfl⟩) hS (fun q _ h => False.elim h) (fun q h => False.elim h) (fun r1 u2 t H1 locs ht hvm hw3 hB hz1 hk1 hS => ?_)
  have hP := hP.kept (fun k q hk => hk1 q.1 (hP k q hk).lt (fun h => h))
  clear hz1 hk1 hPc
  generalize H1 = H at hP hS ht ⊢
  try dsimp only at hw3
  rcases hw3 with ⟨rfl, hw3⟩ | ⟨rfl, hw3⟩
  ·
    obtain ⟨j4, hj4, rfl⟩ := x_ix hw3 (by omega)
    refine lv_if_ne (tgt := 11) hx hb dX10_quill_5 (by decide) (fun c5 => ?_) (fun c5 => ?_)
    rotate_left
    · exact absurd c5 (by decide)
    clear c5
    refine lv_iload_n hx hb dX10_quill_11 rfl (lv_at hl 2 rfl) ?_
    by_cases c6 : q1.toInt < 0 ∨ 6 < q1.toInt
    · refine lv_tableOut (tgt := 125) hx hb dX10_quill_12 c6 (by decide) ?_
      refine lv_ldc (v := (-1000000002)) hx hb hown (hts (.constant RX10 103 (-1000000002)) (wmx 10 rfl)) dX10_quill_125 ?_
      exact W.iret (v := (-1000000002)) hx hb hr (fun t ht hW => ⟨⟨(-1000000002), (fun _ => 0), rfl, trivial, trivial⟩, hS.F ht⟩) hS.2.2 dX10_quill_127
    have h7 := x_sw_0_6 c6
    rcases h7 with h7 | h7 | h7 | h7 | h7 | h7 | h7
    · refine lv_tableIn (tgt := 56) hx hb dX10_quill_12 (by rw [h7]; decide) (by rw [h7]; decide) (by rw [h7]; rfl) (by decide) ?_
      refine lv_aload_n hx hb dX10_quill_56 rfl (lv_at hl 0 rfl) ?_
      refine va_get (D := (dC, dI)) (ci := 10) (v := .ref x4) (C := RX10) (T := TX10) (N := 14) hx hb hts hi_X10 hown hK hP 0 rfl rfl 4 (by decide) (hts (.fieldLink RX10 26 "LeftQuills" "office" "LLeftQuills$Office;") (wmx 2 rfl)) (fun _ h9 => h9) e_h0_4 dX10_quill_57 ?_
      refine va_get (D := (dC, dI)) (ci := 5) (v := .ref o5) (C := RX5) (T := TX5) (N := 13) hx hb hts hi_X5 hown hK hP 1 rfl rfl 5 (by decide) (hts (.fieldLink RX10 161 "LeftQuills$Office" "wing" "[I") (wmx 3 rfl)) (fun _ h9 => h9) e_x4_5 dX10_quill_60 ?_
      refine lv_iload_n hx hb dX10_quill_63 rfl (lv_at hl 1 rfl) ?_
      refine va_iald hx hb hK hP 6 0 rfl rfl (vp_in_nI (n := j4) (N := 8) (by omega) (by decide)) dX10_quill_64 ?_
      refine W.eq (g2 := F0 m 65 ls [.int (fo5 j4)]) (congrArg (fun y9 => F0 m 65 ls (.int (fo5 y9) :: [])) ((nI_clamp (n := j4) (by omega)))) ?_
      exact W.iret (v := fo5 j4) hx hb hr (fun t ht hW => ⟨⟨fo5 j4, (fun _ => 0), rfl, trivial, trivial⟩, hS.F ht⟩) hS.2.2 dX10_quill_65
    · refine lv_tableIn (tgt := 66) hx hb dX10_quill_12 (by rw [h7]; decide) (by rw [h7]; decide) (by rw [h7]; rfl) (by decide) ?_
      refine lv_aload_n hx hb dX10_quill_66 rfl (lv_at hl 0 rfl) ?_
      refine va_get (D := (dC, dI)) (ci := 10) (v := .ref x4) (C := RX10) (T := TX10) (N := 14) hx hb hts hi_X10 hown hK hP 0 rfl rfl 4 (by decide) (hts (.fieldLink RX10 26 "LeftQuills" "office" "LLeftQuills$Office;") (wmx 2 rfl)) (fun _ h9 => h9) e_h0_4 dX10_quill_67 ?_
      refine va_get (D := (dC, dI)) (ci := 5) (v := .ref o6) (C := RX5) (T := TX5) (N := 13) hx hb hts hi_X5 hown hK hP 1 rfl rfl 6 (by decide) (hts (.fieldLink RX10 164 "LeftQuills$Office" "place" "[I") (wmx 4 rfl)) (fun _ h9 => h9) e_x4_6 dX10_quill_70 ?_
      refine lv_iload_n hx hb dX10_quill_73 rfl (lv_at hl 1 rfl) ?_
      refine va_iald hx hb hK hP 7 0 rfl rfl (vp_in_nI (n := j4) (N := 8) (by omega) (by decide)) dX10_quill_74 ?_
      refine W.eq (g2 := F0 m 75 ls [.int (fo6 j4)]) (congrArg (fun y9 => F0 m 75 ls (.int (fo6 y9) :: [])) ((nI_clamp (n := j4) (by omega)))) ?_
      exact W.iret (v := fo6 j4) hx hb hr (fun t ht hW => ⟨⟨fo6 j4, (fun _ => 0), rfl, trivial, trivial⟩, hS.F ht⟩) hS.2.2 dX10_quill_75
    · refine lv_tableIn (tgt := 76) hx hb dX10_quill_12 (by rw [h7]; decide) (by rw [h7]; decide) (by rw [h7]; rfl) (by decide) ?_
      refine lv_aload_n hx hb dX10_quill_76 rfl (lv_at hl 0 rfl) ?_
      refine va_get (D := (dC, dI)) (ci := 10) (v := .ref x4) (C := RX10) (T := TX10) (N := 14) hx hb hts hi_X10 hown hK hP 0 rfl rfl 4 (by decide) (hts (.fieldLink RX10 26 "LeftQuills" "office" "LLeftQuills$Office;") (wmx 2 rfl)) (fun _ h9 => h9) e_h0_4 dX10_quill_77 ?_
      refine va_get (D := (dC, dI)) (ci := 5) (v := .ref o7) (C := RX5) (T := TX5) (N := 13) hx hb hts hi_X5 hown hK hP 1 rfl rfl 7 (by decide) (hts (.fieldLink RX10 167 "LeftQuills$Office" "cooked" "[I") (wmx 5 rfl)) (fun _ h9 => h9) e_x4_7 dX10_quill_80 ?_
      refine lv_iload_n hx hb dX10_quill_83 rfl (lv_at hl 1 rfl) ?_
      refine va_iald hx hb hK hP 8 0 rfl rfl (vp_in_nI (n := j4) (N := 8) (by omega) (by decide)) dX10_quill_84 ?_
      refine W.eq (g2 := F0 m 85 ls [.int (fo7 j4)]) (congrArg (fun y9 => F0 m 85 ls (.int (fo7 y9) :: [])) ((nI_clamp (n := j4) (by omega)))) ?_
      exact W.iret (v := fo7 j4) hx hb hr (fun t ht hW => ⟨⟨fo7 j4, (fun _ => 0), rfl, trivial, trivial⟩, hS.F ht⟩) hS.2.2 dX10_quill_85
    · refine lv_tableIn (tgt := 86) hx hb dX10_quill_12 (by rw [h7]; decide) (by rw [h7]; decide) (by rw [h7]; rfl) (by decide) ?_
      refine lv_aload_n hx hb dX10_quill_86 rfl (lv_at hl 0 rfl) ?_
      refine va_get (D := (dC, dI)) (ci := 10) (v := .ref x6) (C := RX10) (T := TX10) (N := 14) hx hb hts hi_X10 hown hK hP 0 rfl rfl 6 (by decide) (hts (.fieldLink RX10 42 "LeftQuills" "desk" "LLeftQuills$Desk;") (wmx 6 rfl)) (fun _ h9 => h9) e_h0_6 dX10_quill_87 ?_
      refine va_get (D := (dC, dI)) (ci := 1) (v := .ref a2) (C := RX1) (T := TX1) (N := 8) hx hb hts hi_X1 hown hK hP 2 rfl rfl 2 (by decide) (hts (.fieldLink RX10 170 "LeftQuills$Desk" "length" "[I") (wmx 7 rfl)) (fun _ h9 => h9) e_x6_2 dX10_quill_90 ?_
      refine lv_iload_n hx hb dX10_quill_93 rfl (lv_at hl 1 rfl) ?_
      refine va_iald hx hb hK hP 3 0 rfl rfl (vp_in_nI (n := j4) (N := 8) (by omega) (by decide)) dX10_quill_94 ?_
      refine W.eq (g2 := F0 m 95 ls [.int (fa2 j4)]) (congrArg (fun y9 => F0 m 95 ls (.int (fa2 y9) :: [])) ((nI_clamp (n := j4) (by omega)))) ?_
      exact W.iret (v := fa2 j4) hx hb hr (fun t ht hW => ⟨⟨fa2 j4, (fun _ => 0), rfl, trivial, trivial⟩, hS.F ht⟩) hS.2.2 dX10_quill_95
    · refine lv_tableIn (tgt := 96) hx hb dX10_quill_12 (by rw [h7]; decide) (by rw [h7]; decide) (by rw [h7]; rfl) (by decide) ?_
      refine lv_aload_n hx hb dX10_quill_96 rfl (lv_at hl 0 rfl) ?_
      refine va_get (D := (dC, dI)) (ci := 10) (v := .ref x6) (C := RX10) (T := TX10) (N := 14) hx hb hts hi_X10 hown hK hP 0 rfl rfl 6 (by decide) (hts (.fieldLink RX10 42 "LeftQuills" "desk" "LLeftQuills$Desk;") (wmx 6 rfl)) (fun _ h9 => h9) e_h0_6 dX10_quill_97 ?_
      refine va_get (D := (dC, dI)) (ci := 1) (v := .ref a3) (C := RX1) (T := TX1) (N := 8) hx hb hts hi_X1 hown hK hP 2 rfl rfl 3 (by decide) (hts (.fieldLink RX10 173 "LeftQuills$Desk" "nib" "[I") (wmx 8 rfl)) (fun _ h9 => h9) e_x6_3 dX10_quill_100 ?_
      refine lv_iload_n hx hb dX10_quill_103 rfl (lv_at hl 1 rfl) ?_
      refine va_iald hx hb hK hP 4 0 rfl rfl (vp_in_nI (n := j4) (N := 8) (by omega) (by decide)) dX10_quill_104 ?_
      refine W.eq (g2 := F0 m 105 ls [.int (fa3 j4)]) (congrArg (fun y9 => F0 m 105 ls (.int (fa3 y9) :: [])) ((nI_clamp (n := j4) (by omega)))) ?_
      exact W.iret (v := fa3 j4) hx hb hr (fun t ht hW => ⟨⟨fa3 j4, (fun _ => 0), rfl, trivial, trivial⟩, hS.F ht⟩) hS.2.2 dX10_quill_105
    · refine lv_tableIn (tgt := 106) hx hb dX10_quill_12 (by rw [h7]; decide) (by rw [h7]; decide) (by rw [h7]; rfl) (by decide) ?_
      refine lv_aload_n hx hb dX10_quill_106 rfl (lv_at hl 0 rfl) ?_
      refine va_get (D := (dC, dI)) (ci := 10) (v := .ref x4) (C := RX10) (T := TX10) (N := 14) hx hb hts hi_X10 hown hK hP 0 rfl rfl 4 (by decide) (hts (.fieldLink RX10 26 "LeftQuills" "office" "LLeftQuills$Office;") (wmx 2 rfl)) (fun _ h9 => h9) e_h0_4 dX10_quill_107 ?_
      refine lv_iload_n hx hb dX10_quill_110 rfl (lv_at hl 1 rfl) ?_
      have hPc := hP.sub (ws' := [(x4, .inr (5, f_x4)), (o6, .inl (cI, 8, .inl fo6)), (o7, .inl (cI, 8, .inl fo7))]) [1, 7, 8] rfl
      refine va_calli (va_runV (As := [.int (nI j4)]) (rest := []) ⟨hx, hb, hml, hown, hts⟩ (c_X5_hardness l dC dI cI cZ cQ x4 o6 o7 f_x4 fo6 fo7 j4 H.size e_x4_6 e_x4_7 (by omega)) (cwV 1 hts gX10_quill_X5_hardness rfl rfl rfl hd_X5_hardness_RX5 ⟨Nat.le_of_ble_eq_true rfl, Nat.le_of_ble_eq_true rfl⟩) (pv_R (va_recv hK hP (ci := 5) (q0 := 1) rfl rfl) hK hPc) rfl rfl hl.1 rfl (lv_room (Nat.le_of_ble_eq_true rfl)) dX10_quill_111 ⟨Nat.le_of_ble_eq_true rfl, Nat.le_of_ble_eq_true rfl⟩) hS (fun q _ h => False.elim h) (fun q h => False.elim h) (fun r8 u9 t H1 locs ht hvm hw10 hB hz1 hk1 hS => ?_)
      have hP := hP.kept (fun k q hk => hk1 q.1 (hP k q hk).lt (fun h => h))
      clear hz1 hk1 hPc
      generalize H1 = H at hP hS ht ⊢
      try dsimp only at hw10
      exact W.iret (v := r8) hx hb hr (fun t ht hW => ⟨⟨r8, (fun _ => 0), rfl, trivial, trivial⟩, hS.F ht⟩) hS.2.2 dX10_quill_114
    · refine lv_tableIn (tgt := 115) hx hb dX10_quill_12 (by rw [h7]; decide) (by rw [h7]; decide) (by rw [h7]; rfl) (by decide) ?_
      refine lv_aload_n hx hb dX10_quill_115 rfl (lv_at hl 0 rfl) ?_
      refine va_get (D := (dC, dI)) (ci := 10) (v := .ref x6) (C := RX10) (T := TX10) (N := 14) hx hb hts hi_X10 hown hK hP 0 rfl rfl 6 (by decide) (hts (.fieldLink RX10 42 "LeftQuills" "desk" "LLeftQuills$Desk;") (wmx 6 rfl)) (fun _ h9 => h9) e_h0_6 dX10_quill_116 ?_
      refine va_get (D := (dC, dI)) (ci := 1) (v := .ref a4) (C := RX1) (T := TX1) (N := 8) hx hb hts hi_X1 hown hK hP 2 rfl rfl 4 (by decide) (hts (.fieldLink RX10 180 "LeftQuills$Desk" "softness" "[I") (wmx 9 rfl)) (fun _ h9 => h9) e_x6_4 dX10_quill_119 ?_
      refine lv_iload_n hx hb dX10_quill_122 rfl (lv_at hl 1 rfl) ?_
      refine va_iald hx hb hK hP 5 0 rfl rfl (vp_in_nI (n := j4) (N := 8) (by omega) (by decide)) dX10_quill_123 ?_
      refine W.eq (g2 := F0 m 124 ls [.int (fa4 j4)]) (congrArg (fun y9 => F0 m 124 ls (.int (fa4 y9) :: [])) ((nI_clamp (n := j4) (by omega)))) ?_
      exact W.iret (v := fa4 j4) hx hb hr (fun t ht hW => ⟨⟨fa4 j4, (fun _ => 0), rfl, trivial, trivial⟩, hS.F ht⟩) hS.2.2 dX10_quill_124
  ·
    refine lv_if_ne (tgt := 11) hx hb dX10_quill_5 (by decide) (fun c11 => ?_) (fun c11 => ?_)
    · exact absurd c11 (by decide)
    clear c11
    refine lv_ldc (v := (-1000000001)) hx hb hown (hts (.constant RX10 160 (-1000000001)) (wmx 1 rfl)) dX10_quill_8 ?_
    exact W.iret (v := (-1000000001)) hx hb hr (fun t ht hW => ⟨⟨(-1000000001), (fun _ => 0), rfl, trivial, trivial⟩, hS.F ht⟩) hS.2.2 dX10_quill_10
set_option maxHeartbeats 4000000 in
set_option maxRecDepth 100000 in
theorem c_X10_hand (l : Launch) (dC : Nat → ClassId) (dI : Nat → Nat → Nat) (cI cZ cQ : ClassId) (h0 : Nat) (x4 : Nat) (x6 : Nat) (f_h0 : List Value) (o5 : Nat) (o6 : Nat) (o7 : Nat) (o10 : Nat) (o11 : Nat) (o12 : Nat) (nh : Nat) (f_x4 : List Value) (mi : Int32) (cu : Int32) (a2 : Nat) (a3 : Nat) (a4 : Nat) (a5 : Nat) (a6 : Nat) (f_x6 : List Value) (fa5 : Nat → Int32) (fa6 : Nat → Int32) (fo10 : Nat → Int32) (fo11 : Nat → Int32) (fo12 : Nat → Int32) (q0 : Int32) (q1 : Int32) (sz : Nat) (e_h0_4 : fAt f_h0 4 = some (.ref x4)) (e_h0_6 : fAt f_h0 6 = some (.ref x6)) (e_x4_5 : fAt f_x4 5 = some (.ref o5)) (e_x4_6 : fAt f_x4 6 = some (.ref o6)) (e_x4_7 : fAt f_x4 7 = some (.ref o7)) (e_x4_10 : fAt f_x4 10 = some (.ref o10)) (e_x4_11 : fAt f_x4 11 = some (.ref o11)) (e_x4_12 : fAt f_x4 12 = some (.ref o12)) (e_x4_4 : fAt f_x4 4 = some (.int (nI nh))) (e_x6_0 : fAt f_x6 0 = some (.int mi)) (e_x6_1 : fAt f_x6 1 = some (.int cu)) (e_x6_2 : fAt f_x6 2 = some (.ref a2)) (e_x6_3 : fAt f_x6 3 = some (.ref a3)) (e_x6_4 : fAt f_x6 4 = some (.ref a4)) (e_x6_5 : fAt f_x6 5 = some (.ref a5)) (e_x6_6 : fAt f_x6 6 = some (.ref a6)) (e_x6_7 : fAt f_x6 7 = some (.ref x4)) (hnh : nh ≤ 4) : Met l yX10_hand wsX10_hand ({ frames := 1, cells := 0, slots := 0, locals := 61 }) (va_Pc [.ref h0, .int q0, .int q1] (fun U => U.heap.size = sz ∧ va_P (dC, dI) vwCl [(h0, .inr (10, f_h0)), (x4, .inr (5, f_x4)), (x6, .inr (1, f_x6)), (a5, .inl (cI, 4, .inl fa5)), (a6, .inl (cI, 4, .inl fa6)), (o10, .inl (cI, 4, .inl fo10)), (o11, .inl (cI, 4, .inl fo11)), (o12, .inl (cI, 4, .inl fo12))] U.heap ∧ va_K (dC, dI) vwCl (tys0 cI cZ cQ) U)) (va_Qi (fun (r : Int32) (u : Nat → Nat) => True) (fun (_ : Nat → Nat) (_ : State) => True) (fun _ : Nat => False)) 0 0 (fun _ : Nat => False) := by
  refine Met.ofW (cc := cX10_hand) (maxL := 3) (ret := (some .int)) (by decide) rfl ?_
  intro p e s m args below meth c s₁ B hml hv
  obtain ⟨rfl, hsz, hP, hK⟩ := hv
  have hx := B.exec
  have hb := B.bytes
  have hr := B.returns
  have hts := atoms_spec (ws := wsX10_hand) B.pre
  have hown : s.vm.findClass RX10 = some m.cls := findClass_of_methodNamed B.named
  have hlocks := B.notSynchronized
  have hi_X1 : ∀ w ∈ u_ws RX1 TX1 8, w ∈ wsX10_hand := fun _ h => List.mem_cons_of_mem _ (List.mem_append_right _ (h))
  have hi_X10 : ∀ w ∈ u_ws RX10 TX10 14, w ∈ wsX10_hand := fun _ h => List.mem_cons_of_mem _ (List.mem_append_left _ (List.mem_append_left _ (List.mem_append_right _ (h))))
  have hi_X5 : ∀ w ∈ u_ws RX5 TX5 13, w ∈ wsX10_hand := fun _ h => List.mem_cons_of_mem _ (List.mem_append_left _ (List.mem_append_right _ (h)))
  subst hsz
  have hS : va_S (fun _ : Nat => False) s.heap s.heap [] := va_S.rf
  have hl := lv_entry ([.ref h0, .int q0, .int q1]) (n := 3) (Nat.le_of_ble_eq_true rfl)
  rw [lg_entry_eq]
  generalize (lg_sl ([.ref h0, .int q0, .int q1]) ++ List.replicate (3 - (lg_sl ([.ref h0, .int q0, .int q1])).length) Slot.unset).toArray = ls at hl ⊢
  have hl : lv_has ls 3 [(0, .ref h0), (1, .int q0), (2, .int q1)] := hl
  refine lv_aload_n hx hb dX10_hand_0 rfl (lv_at hl 0 rfl) ?_
  refine lv_iload_n hx hb dX10_hand_1 rfl (lv_at hl 1 rfl) ?_
  have hPc := hP.sub (ws' := [(h0, .inr (10, f_h0)), (x4, .inr (5, f_x4))]) [0, 1] rfl
  refine va_calli (va_runV (As := [.int q0]) (rest := []) ⟨hx, hb, hml, hown, hts⟩ (c_X10_isHand l dC dI cI cZ cQ h0 x4 f_h0 (nI nh) f_x4 q0 s.heap.size e_h0_4 e_x4_4) (cwV 1 hts gX10_hand_X10_isHand rfl rfl rfl hd_X10_isHand_RX10 ⟨Nat.le_of_ble_eq_true rfl, Nat.le_of_ble_eq_true rfl⟩) (pv_R (va_recv hK hP (ci := 10) (q0 := 0) rfl rfl) hK hPc) rfl rfl hl.1 rfl (lv_room (Nat.le_of_ble_eq_true rfl)) dX10_hand_2 ⟨Nat.le_of_ble_eq_true rfl, Nat.le_of_ble_eq_true rfl⟩) hS (fun q _ h => False.elim h) (fun q h => False.elim h) (fun r1 u2 t H1 locs ht hvm hw3 hB hz1 hk1 hS => ?_)
  have hP := hP.kept (fun k q hk => hk1 q.1 (hP k q hk).lt (fun h => h))
  clear hz1 hk1 hPc
  generalize H1 = H at hP hS ht ⊢
  try dsimp only at hw3
  rcases hw3 with ⟨rfl, hw3⟩ | ⟨rfl, hw3⟩
  ·
    obtain ⟨j4, hj4, rfl⟩ := x_ix hw3 (by omega)
    refine lv_if_ne (tgt := 11) hx hb dX10_hand_5 (by decide) (fun c5 => ?_) (fun c5 => ?_)
    rotate_left
    · exact absurd c5 (by decide)
    clear c5
    refine lv_iload_n hx hb dX10_hand_11 rfl (lv_at hl 2 rfl) ?_
    by_cases c6 : q1.toInt < 0 ∨ 4 < q1.toInt
    · refine lv_tableOut (tgt := 98) hx hb dX10_hand_12 c6 (by decide) ?_
      refine lv_ldc (v := (-1000000002)) hx hb hown (hts (.constant RX10 103 (-1000000002)) (wmx 9 rfl)) dX10_hand_98 ?_
      exact W.iret (v := (-1000000002)) hx hb hr (fun t ht hW => ⟨⟨(-1000000002), (fun _ => 0), rfl, trivial, trivial⟩, hS.F ht⟩) hS.2.2 dX10_hand_100
    have h7 := x_sw_0_4 c6
    rcases h7 with h7 | h7 | h7 | h7 | h7
    · refine lv_tableIn (tgt := 48) hx hb dX10_hand_12 (by rw [h7]; decide) (by rw [h7]; decide) (by rw [h7]; rfl) (by decide) ?_
      refine lv_aload_n hx hb dX10_hand_48 rfl (lv_at hl 0 rfl) ?_
      refine va_get (D := (dC, dI)) (ci := 10) (v := .ref x4) (C := RX10) (T := TX10) (N := 14) hx hb hts hi_X10 hown hK hP 0 rfl rfl 4 (by decide) (hts (.fieldLink RX10 26 "LeftQuills" "office" "LLeftQuills$Office;") (wmx 2 rfl)) (fun _ h9 => h9) e_h0_4 dX10_hand_49 ?_
      refine va_get (D := (dC, dI)) (ci := 5) (v := .ref o10) (C := RX5) (T := TX5) (N := 13) hx hb hts hi_X5 hown hK hP 1 rfl rfl 10 (by decide) (hts (.fieldLink RX10 186 "LeftQuills$Office" "side" "[I") (wmx 3 rfl)) (fun _ h9 => h9) e_x4_10 dX10_hand_52 ?_
      refine lv_iload_n hx hb dX10_hand_55 rfl (lv_at hl 1 rfl) ?_
      refine va_iald hx hb hK hP 5 0 rfl rfl (vp_in_nI (n := j4) (N := 4) (by omega) (by decide)) dX10_hand_56 ?_
      refine W.eq (g2 := F0 m 57 ls [.int (fo10 j4)]) (congrArg (fun y9 => F0 m 57 ls (.int (fo10 y9) :: [])) ((nI_clamp (n := j4) (by omega)))) ?_
      exact W.iret (v := fo10 j4) hx hb hr (fun t ht hW => ⟨⟨fo10 j4, (fun _ => 0), rfl, trivial, trivial⟩, hS.F ht⟩) hS.2.2 dX10_hand_57
    · refine lv_tableIn (tgt := 58) hx hb dX10_hand_12 (by rw [h7]; decide) (by rw [h7]; decide) (by rw [h7]; rfl) (by decide) ?_
      refine lv_aload_n hx hb dX10_hand_58 rfl (lv_at hl 0 rfl) ?_
      refine va_get (D := (dC, dI)) (ci := 10) (v := .ref x4) (C := RX10) (T := TX10) (N := 14) hx hb hts hi_X10 hown hK hP 0 rfl rfl 4 (by decide) (hts (.fieldLink RX10 26 "LeftQuills" "office" "LLeftQuills$Office;") (wmx 2 rfl)) (fun _ h9 => h9) e_h0_4 dX10_hand_59 ?_
      refine va_get (D := (dC, dI)) (ci := 5) (v := .ref o11) (C := RX5) (T := TX5) (N := 13) hx hb hts hi_X5 hown hK hP 1 rfl rfl 11 (by decide) (hts (.fieldLink RX10 189 "LeftQuills$Office" "presses" "[I") (wmx 4 rfl)) (fun _ h9 => h9) e_x4_11 dX10_hand_62 ?_
      refine lv_iload_n hx hb dX10_hand_65 rfl (lv_at hl 1 rfl) ?_
      refine va_iald hx hb hK hP 6 0 rfl rfl (vp_in_nI (n := j4) (N := 4) (by omega) (by decide)) dX10_hand_66 ?_
      refine W.eq (g2 := F0 m 67 ls [.int (fo11 j4)]) (congrArg (fun y9 => F0 m 67 ls (.int (fo11 y9) :: [])) ((nI_clamp (n := j4) (by omega)))) ?_
      exact W.iret (v := fo11 j4) hx hb hr (fun t ht hW => ⟨⟨fo11 j4, (fun _ => 0), rfl, trivial, trivial⟩, hS.F ht⟩) hS.2.2 dX10_hand_67
    · refine lv_tableIn (tgt := 68) hx hb dX10_hand_12 (by rw [h7]; decide) (by rw [h7]; decide) (by rw [h7]; rfl) (by decide) ?_
      refine lv_aload_n hx hb dX10_hand_68 rfl (lv_at hl 0 rfl) ?_
      refine va_get (D := (dC, dI)) (ci := 10) (v := .ref x4) (C := RX10) (T := TX10) (N := 14) hx hb hts hi_X10 hown hK hP 0 rfl rfl 4 (by decide) (hts (.fieldLink RX10 26 "LeftQuills" "office" "LLeftQuills$Office;") (wmx 2 rfl)) (fun _ h9 => h9) e_h0_4 dX10_hand_69 ?_
      refine va_get (D := (dC, dI)) (ci := 5) (v := .ref o12) (C := RX5) (T := TX5) (N := 13) hx hb hts hi_X5 hown hK hP 1 rfl rfl 12 (by decide) (hts (.fieldLink RX10 192 "LeftQuills$Office" "wants" "[I") (wmx 5 rfl)) (fun _ h9 => h9) e_x4_12 dX10_hand_72 ?_
      refine lv_iload_n hx hb dX10_hand_75 rfl (lv_at hl 1 rfl) ?_
      refine va_iald hx hb hK hP 7 0 rfl rfl (vp_in_nI (n := j4) (N := 4) (by omega) (by decide)) dX10_hand_76 ?_
      refine W.eq (g2 := F0 m 77 ls [.int (fo12 j4)]) (congrArg (fun y9 => F0 m 77 ls (.int (fo12 y9) :: [])) ((nI_clamp (n := j4) (by omega)))) ?_
      exact W.iret (v := fo12 j4) hx hb hr (fun t ht hW => ⟨⟨fo12 j4, (fun _ => 0), rfl, trivial, trivial⟩, hS.F ht⟩) hS.2.2 dX10_hand_77
    · refine lv_tableIn (tgt := 78) hx hb dX10_hand_12 (by rw [h7]; decide) (by rw [h7]; decide) (by rw [h7]; rfl) (by decide) ?_
      refine lv_aload_n hx hb dX10_hand_78 rfl (lv_at hl 0 rfl) ?_
      refine va_get (D := (dC, dI)) (ci := 10) (v := .ref x6) (C := RX10) (T := TX10) (N := 14) hx hb hts hi_X10 hown hK hP 0 rfl rfl 6 (by decide) (hts (.fieldLink RX10 42 "LeftQuills" "desk" "LLeftQuills$Desk;") (wmx 6 rfl)) (fun _ h9 => h9) e_h0_6 dX10_hand_79 ?_
      refine va_get (D := (dC, dI)) (ci := 1) (v := .ref a5) (C := RX1) (T := TX1) (N := 8) hx hb hts hi_X1 hown hK hP 2 rfl rfl 5 (by decide) (hts (.fieldLink RX10 195 "LeftQuills$Desk" "pages" "[I") (wmx 7 rfl)) (fun _ h9 => h9) e_x6_5 dX10_hand_82 ?_
      refine lv_iload_n hx hb dX10_hand_85 rfl (lv_at hl 1 rfl) ?_
      refine va_iald hx hb hK hP 3 0 rfl rfl (vp_in_nI (n := j4) (N := 4) (by omega) (by decide)) dX10_hand_86 ?_
      refine W.eq (g2 := F0 m 87 ls [.int (fa5 j4)]) (congrArg (fun y9 => F0 m 87 ls (.int (fa5 y9) :: [])) ((nI_clamp (n := j4) (by omega)))) ?_
      exact W.iret (v := fa5 j4) hx hb hr (fun t ht hW => ⟨⟨fa5 j4, (fun _ => 0), rfl, trivial, trivial⟩, hS.F ht⟩) hS.2.2 dX10_hand_87
    · refine lv_tableIn (tgt := 88) hx hb dX10_hand_12 (by rw [h7]; decide) (by rw [h7]; decide) (by rw [h7]; rfl) (by decide) ?_
      refine lv_aload_n hx hb dX10_hand_88 rfl (lv_at hl 0 rfl) ?_
      refine va_get (D := (dC, dI)) (ci := 10) (v := .ref x6) (C := RX10) (T := TX10) (N := 14) hx hb hts hi_X10 hown hK hP 0 rfl rfl 6 (by decide) (hts (.fieldLink RX10 42 "LeftQuills" "desk" "LLeftQuills$Desk;") (wmx 6 rfl)) (fun _ h9 => h9) e_h0_6 dX10_hand_89 ?_
      refine va_get (D := (dC, dI)) (ci := 1) (v := .ref a6) (C := RX1) (T := TX1) (N := 8) hx hb hts hi_X1 hown hK hP 2 rfl rfl 6 (by decide) (hts (.fieldLink RX10 198 "LeftQuills$Desk" "good" "[I") (wmx 8 rfl)) (fun _ h9 => h9) e_x6_6 dX10_hand_92 ?_
      refine lv_iload_n hx hb dX10_hand_95 rfl (lv_at hl 1 rfl) ?_
      refine va_iald hx hb hK hP 4 0 rfl rfl (vp_in_nI (n := j4) (N := 4) (by omega) (by decide)) dX10_hand_96 ?_
      refine W.eq (g2 := F0 m 97 ls [.int (fa6 j4)]) (congrArg (fun y9 => F0 m 97 ls (.int (fa6 y9) :: [])) ((nI_clamp (n := j4) (by omega)))) ?_
      exact W.iret (v := fa6 j4) hx hb hr (fun t ht hW => ⟨⟨fa6 j4, (fun _ => 0), rfl, trivial, trivial⟩, hS.F ht⟩) hS.2.2 dX10_hand_97
  ·
    refine lv_if_ne (tgt := 11) hx hb dX10_hand_5 (by decide) (fun c8 => ?_) (fun c8 => ?_)
    · exact absurd c8 (by decide)
    clear c8
    refine lv_ldc (v := (-1000000001)) hx hb hown (hts (.constant RX10 160 (-1000000001)) (wmx 1 rfl)) dX10_hand_8 ?_
    exact W.iret (v := (-1000000001)) hx hb hr (fun t ht hW => ⟨⟨(-1000000001), (fun _ => 0), rfl, trivial, trivial⟩, hS.F ht⟩) hS.2.2 dX10_hand_10
set_option maxHeartbeats 4000000 in
set_option maxRecDepth 100000 in
theorem c_X10_goodPages (l : Launch) (dC : Nat → ClassId) (dI : Nat → Nat → Nat) (cI cZ cQ : ClassId) (h0 : Nat) (x4 : Nat) (x9 : Nat) (f_h0 : List Value) (o5 : Nat) (o6 : Nat) (o7 : Nat) (o10 : Nat) (o11 : Nat) (o12 : Nat) (nq : Nat) (nh : Nat) (f_x4 : List Value) (x6 : Nat) (f_x9 : List Value) (a2 : Nat) (a3 : Nat) (a4 : Nat) (f_x6 : List Value) (fa2 : Nat → Int32) (fa3 : Nat → Int32) (fa4 : Nat → Int32) (fo5 : Nat → Int32) (fo6 : Nat → Int32) (fo7 : Nat → Int32) (fo10 : Nat → Int32) (fo11 : Nat → Int32) (fo12 : Nat → Int32) (q0 : Int32) (q1 : Int32) (sz : Nat) (e_h0_4 : fAt f_h0 4 = some (.ref x4)) (e_h0_9 : fAt f_h0 9 = some (.ref x9)) (e_x4_5 : fAt f_x4 5 = some (.ref o5)) (e_x4_6 : fAt f_x4 6 = some (.ref o6)) (e_x4_7 : fAt f_x4 7 = some (.ref o7)) (e_x4_10 : fAt f_x4 10 = some (.ref o10)) (e_x4_11 : fAt f_x4 11 = some (.ref o11)) (e_x4_12 : fAt f_x4 12 = some (.ref o12)) (e_x4_3 : fAt f_x4 3 = some (.int (nI nq))) (e_x4_4 : fAt f_x4 4 = some (.int (nI nh))) (e_x9_0 : fAt f_x9 0 = some (.ref x4)) (e_x9_1 : fAt f_x9 1 = some (.ref x6)) (e_x6_2 : fAt f_x6 2 = some (.ref a2)) (e_x6_3 : fAt f_x6 3 = some (.ref a3)) (e_x6_4 : fAt f_x6 4 = some (.ref a4)) (hnq : nq ≤ 8) (hnh : nh ≤ 4) : Met l yX10_goodPages wsX10_goodPages ({ frames := 4, cells := 0, slots := 0, locals := 133 }) (va_Pc [.ref h0, .int q0, .int q1] (fun U => U.heap.size = sz ∧ va_P (dC, dI) vwCl [(h0, .inr (10, f_h0)), (x4, .inr (5, f_x4)), (x9, .inr (9, f_x9)), (x6, .inr (1, f_x6)), (a2, .inl (cI, 8, .inl fa2)), (a3, .inl (cI, 8, .inl fa3)), (a4, .inl (cI, 8, .inl fa4)), (o5, .inl (cI, 8, .inl fo5)), (o6, .inl (cI, 8, .inl fo6)), (o7, .inl (cI, 8, .inl fo7)), (o10, .inl (cI, 4, .inl fo10)), (o11, .inl (cI, 4, .inl fo11)), (o12, .inl (cI, 4, .inl fo12))] U.heap ∧ va_K (dC, dI) vwCl (tys0 cI cZ cQ) U ∧ xN U)) (va_Qi (fun (r : Int32) (u : Nat → Nat) => True) (fun (_ : Nat → Nat) (_ : State) => True) (fun _ : Nat => False)) 0 0 (fun _ : Nat => False) := by
  refine Met.ofW (cc := cX10_goodPages) (maxL := 3) (ret := (some .int)) (by decide) rfl ?_
  intro p e s m args below meth c s₁ B hml hv
  obtain ⟨rfl, hsz, hP, hK, hN⟩ := hv
  have hx := B.exec
  have hb := B.bytes
  have hr := B.returns
  have hts := atoms_spec (ws := wsX10_goodPages) B.pre
  have hown : s.vm.findClass RX10 = some m.cls := findClass_of_methodNamed B.named
  have hlocks := B.notSynchronized
  have hi_X10 : ∀ w ∈ u_ws RX10 TX10 14, w ∈ wsX10_goodPages := fun _ h => List.mem_cons_of_mem _ (List.mem_append_left _ (List.mem_append_left _ (List.mem_append_left _ (List.mem_append_right _ (h)))))
  subst hsz
  have hS : va_S (fun _ : Nat => False) s.heap s.heap [] := va_S.rf
  have hl := lv_entry ([.ref h0, .int q0, .int q1]) (n := 3) (Nat.le_of_ble_eq_true rfl)
  rw [lg_entry_eq]
  generalize (lg_sl ([.ref h0, .int q0, .int q1]) ++ List.replicate (3 - (lg_sl ([.ref h0, .int q0, .int q1])).length) Slot.unset).toArray = ls at hl ⊢
  have hl : lv_has ls 3 [(0, .ref h0), (1, .int q0), (2, .int q1)] := hl
  refine lv_aload_n hx hb dX10_goodPages_0 rfl (lv_at hl 0 rfl) ?_
  refine lv_iload_n hx hb dX10_goodPages_1 rfl (lv_at hl 1 rfl) ?_
  have hPc := hP.sub (ws' := [(h0, .inr (10, f_h0)), (x4, .inr (5, f_x4))]) [0, 1] rfl
  refine va_calli (va_runV (As := [.int q0]) (rest := []) ⟨hx, hb, hml, hown, hts⟩ (c_X10_isQuill l dC dI cI cZ cQ h0 x4 f_h0 (nI nq) f_x4 q0 s.heap.size e_h0_4 e_x4_3) (cwV 1 hts gX10_goodPages_X10_isQuill rfl rfl rfl hd_X10_isQuill_RX10 ⟨Nat.le_of_ble_eq_true rfl, Nat.le_of_ble_eq_true rfl⟩) (pv_R (va_recv hK hP (ci := 10) (q0 := 0) rfl rfl) hK hPc) rfl rfl hl.1 rfl (lv_room (Nat.le_of_ble_eq_true rfl)) dX10_goodPages_2 ⟨Nat.le_of_ble_eq_true rfl, Nat.le_of_ble_eq_true rfl⟩) hS (fun q _ h => False.elim h) (fun q h => False.elim h) (fun r1 u2 t H1 locs ht hvm hw3 hB hz1 hk1 hS => ?_)
  have hP := hP.kept (fun k q hk => hk1 q.1 (hP k q hk).lt (fun h => h))
  clear hz1 hk1 hPc
  generalize H1 = H at hP hS ht ⊢
  try dsimp only at hw3
  rcases hw3 with ⟨rfl, hw3⟩ | ⟨rfl, hw3⟩
  ·
    obtain ⟨j4, hj4, rfl⟩ := x_ix hw3 (by omega)
    refine lv_if_eq (tgt := 16) hx hb dX10_goodPages_5 (by decide) (fun c5 => ?_) (fun c5 => ?_)
    · exact absurd c5 (by decide)
    clear c5
    refine lv_aload_n hx hb dX10_goodPages_8 rfl (lv_at hl 0 rfl) ?_
    refine lv_iload_n hx hb dX10_goodPages_9 rfl (lv_at hl 2 rfl) ?_
    have hPc := hP.sub (ws' := [(h0, .inr (10, f_h0)), (x4, .inr (5, f_x4))]) [0, 1] rfl
    refine va_calli (va_runV (As := [.int q1]) (rest := []) ⟨hx, hb, hml, hown, hts⟩ (c_X10_isHand l dC dI cI cZ cQ h0 x4 f_h0 (nI nh) f_x4 q1 H.size e_h0_4 e_x4_4) (cwV 1 hts gX10_goodPages_X10_isHand rfl rfl rfl hd_X10_isHand_RX10 ⟨Nat.le_of_ble_eq_true rfl, Nat.le_of_ble_eq_true rfl⟩) (pv_R (va_recv hK hP (ci := 10) (q0 := 0) rfl rfl) hK hPc) rfl rfl hl.1 rfl (lv_room (Nat.le_of_ble_eq_true rfl)) dX10_goodPages_10 ⟨Nat.le_of_ble_eq_true rfl, Nat.le_of_ble_eq_true rfl⟩) hS (fun q _ h => False.elim h) (fun q h => False.elim h) (fun r6 u7 t H1 locs ht hvm hw8 hB hz1 hk1 hS => ?_)
    have hP := hP.kept (fun k q hk => hk1 q.1 (hP k q hk).lt (fun h => h))
    clear hz1 hk1 hPc
    generalize H1 = H at hP hS ht ⊢
    try dsimp only at hw8
    rcases hw8 with ⟨rfl, hw8⟩ | ⟨rfl, hw8⟩
    ·
      obtain ⟨j9, hj9, rfl⟩ := x_ix hw8 (by omega)
      refine lv_if_ne (tgt := 19) hx hb dX10_goodPages_13 (by decide) (fun c10 => ?_) (fun c10 => ?_)
      rotate_left
      · exact absurd c10 (by decide)
      clear c10
      refine lv_aload_n hx hb dX10_goodPages_19 rfl (lv_at hl 0 rfl) ?_
      refine va_get (D := (dC, dI)) (ci := 10) (v := .ref x9) (C := RX10) (T := TX10) (N := 14) hx hb hts hi_X10 hown hK hP 0 rfl rfl 9 (by decide) (hts (.fieldLink RX10 65 "LeftQuills" "trials" "LLeftQuills$Trials;") (wmx 2 rfl)) (fun _ h9 => h9) e_h0_9 dX10_goodPages_20 ?_
      refine lv_iload_n hx hb dX10_goodPages_23 rfl (lv_at hl 1 rfl) ?_
      refine lv_iload_n hx hb dX10_goodPages_24 rfl (lv_at hl 2 rfl) ?_
      have hPc := hP.sub (ws' := [(x9, .inr (9, f_x9)), (x4, .inr (5, f_x4)), (x6, .inr (1, f_x6)), (a3, .inl (cI, 8, .inl fa3)), (a4, .inl (cI, 8, .inl fa4)), (o5, .inl (cI, 8, .inl fo5)), (o6, .inl (cI, 8, .inl fo6)), (o7, .inl (cI, 8, .inl fo7)), (o10, .inl (cI, 4, .inl fo10)), (o11, .inl (cI, 4, .inl fo11)), (o12, .inl (cI, 4, .inl fo12))]) [2, 1, 3, 5, 6, 7, 8, 9, 10, 11, 12] rfl
      refine va_calli (va_runV (As := [.int (nI j4), .int (nI j9)]) (rest := []) ⟨hx, hb, hml, hown, hts⟩ (c_X9_goodNow l dC dI cI cZ cQ x9 x4 x6 f_x9 o5 o6 o7 o10 o11 o12 f_x4 a3 a4 f_x6 fa3 fa4 fo5 fo6 fo7 fo10 fo11 fo12 j4 j9 H.size e_x9_0 e_x9_1 e_x4_5 e_x4_6 e_x4_7 e_x4_10 e_x4_11 e_x4_12 e_x6_3 e_x6_4 (by omega) (by omega)) (cwV 2 hts gX10_goodPages_X9_goodNow rfl rfl rfl hd_X9_goodNow_RX9 ⟨Nat.le_of_ble_eq_true rfl, Nat.le_of_ble_eq_true rfl⟩) ⟨fun a U g mk q => by obtain ⟨q0, q1, qP, qK, qN⟩ := q; exact ⟨q0, q1, qP, va_K.moved (u := U) (U := U.calling g mk a) (Vm.Alike.refl U.vm) qK, qN.calling⟩, va_recv hK hP (ci := 9) (q0 := 2) rfl rfl, fun U hU hW => ⟨rfl, by rw [hU], by rw [hU]; exact hPc, va_K.moved hW.alike hK, hN.warm hW⟩⟩ rfl rfl hl.1 rfl (lv_room (Nat.le_of_ble_eq_true rfl)) dX10_goodPages_25 ⟨Nat.le_of_ble_eq_true rfl, Nat.le_of_ble_eq_true rfl⟩) hS (fun q _ h => False.elim h) (fun q h => False.elim h) (fun r11 u12 t H1 locs ht hvm hw13 hB hz1 hk1 hS => ?_)
      have hP := hP.kept (fun k q hk => hk1 q.1 (hP k q hk).lt (fun h => h))
      clear hz1 hk1 hPc
      generalize H1 = H at hP hS ht ⊢
      try dsimp only at hw13
      exact W.iret (v := r11) hx hb hr (fun t ht hW => ⟨⟨r11, (fun _ => 0), rfl, trivial, trivial⟩, hS.F ht⟩) hS.2.2 dX10_goodPages_28
    ·
      refine lv_if_ne (tgt := 19) hx hb dX10_goodPages_13 (by decide) (fun c14 => ?_) (fun c14 => ?_)
      · exact absurd c14 (by decide)
      clear c14
      refine lv_ldc (v := (-1000000001)) hx hb hown (hts (.constant RX10 160 (-1000000001)) (wmx 1 rfl)) dX10_goodPages_16 ?_
      exact W.iret (v := (-1000000001)) hx hb hr (fun t ht hW => ⟨⟨(-1000000001), (fun _ => 0), rfl, trivial, trivial⟩, hS.F ht⟩) hS.2.2 dX10_goodPages_18
  ·
    refine lv_if_eq (tgt := 16) hx hb dX10_goodPages_5 (by decide) (fun c15 => ?_) (fun c15 => ?_)
    rotate_left
    · exact absurd c15 (by decide)
    clear c15
    refine lv_ldc (v := (-1000000001)) hx hb hown (hts (.constant RX10 160 (-1000000001)) (wmx 1 rfl)) dX10_goodPages_16 ?_
    exact W.iret (v := (-1000000001)) hx hb hr (fun t ht hW => ⟨⟨(-1000000001), (fun _ => 0), rfl, trivial, trivial⟩, hS.F ht⟩) hS.2.2 dX10_goodPages_18
set_option maxHeartbeats 4000000 in
set_option maxRecDepth 100000 in
theorem c_X10_life (l : Launch) (dC : Nat → ClassId) (dI : Nat → Nat → Nat) (cI cZ cQ : ClassId) (h0 : Nat) (x4 : Nat) (x9 : Nat) (f_h0 : List Value) (o5 : Nat) (o6 : Nat) (o7 : Nat) (o10 : Nat) (o11 : Nat) (o12 : Nat) (nq : Nat) (nh : Nat) (f_x4 : List Value) (x6 : Nat) (f_x9 : List Value) (a2 : Nat) (a3 : Nat) (a4 : Nat) (f_x6 : List Value) (fa2 : Nat → Int32) (fa3 : Nat → Int32) (fa4 : Nat → Int32) (fo5 : Nat → Int32) (fo6 : Nat → Int32) (fo7 : Nat → Int32) (fo10 : Nat → Int32) (fo11 : Nat → Int32) (fo12 : Nat → Int32) (q0 : Int32) (q1 : Int32) (sz : Nat) (e_h0_4 : fAt f_h0 4 = some (.ref x4)) (e_h0_9 : fAt f_h0 9 = some (.ref x9)) (e_x4_5 : fAt f_x4 5 = some (.ref o5)) (e_x4_6 : fAt f_x4 6 = some (.ref o6)) (e_x4_7 : fAt f_x4 7 = some (.ref o7)) (e_x4_10 : fAt f_x4 10 = some (.ref o10)) (e_x4_11 : fAt f_x4 11 = some (.ref o11)) (e_x4_12 : fAt f_x4 12 = some (.ref o12)) (e_x4_3 : fAt f_x4 3 = some (.int (nI nq))) (e_x4_4 : fAt f_x4 4 = some (.int (nI nh))) (e_x9_0 : fAt f_x9 0 = some (.ref x4)) (e_x9_1 : fAt f_x9 1 = some (.ref x6)) (e_x6_2 : fAt f_x6 2 = some (.ref a2)) (e_x6_3 : fAt f_x6 3 = some (.ref a3)) (e_x6_4 : fAt f_x6 4 = some (.ref a4)) (hnq : nq ≤ 8) (hnh : nh ≤ 4) : Met l yX10_life wsX10_life ({ frames := 5, cells := 0, slots := 0, locals := 158 }) (va_Pc [.ref h0, .int q0, .int q1] (fun U => U.heap.size = sz ∧ va_P (dC, dI) vwCl [(h0, .inr (10, f_h0)), (x4, .inr (5, f_x4)), (x9, .inr (9, f_x9)), (x6, .inr (1, f_x6)), (a2, .inl (cI, 8, .inl fa2)), (a3, .inl (cI, 8, .inl fa3)), (a4, .inl (cI, 8, .inl fa4)), (o5, .inl (cI, 8, .inl fo5)), (o6, .inl (cI, 8, .inl fo6)), (o7, .inl (cI, 8, .inl fo7)), (o10, .inl (cI, 4, .inl fo10)), (o11, .inl (cI, 4, .inl fo11)), (o12, .inl (cI, 4, .inl fo12))] U.heap ∧ va_K (dC, dI) vwCl (tys0 cI cZ cQ) U ∧ xN U)) (va_Qi (fun (r : Int32) (u : Nat → Nat) => True) (fun (_ : Nat → Nat) (_ : State) => True) (fun _ : Nat => False)) 0 0 (fun _ : Nat => False) := by
  refine Met.ofW (cc := cX10_life) (maxL := 3) (ret := (some .int)) (by decide) rfl ?_
  intro p e s m args below meth c s₁ B hml hv
  obtain ⟨rfl, hsz, hP, hK, hN⟩ := hv
  have hx := B.exec
  have hb := B.bytes
  have hr := B.returns
  have hts := atoms_spec (ws := wsX10_life) B.pre
  have hown : s.vm.findClass RX10 = some m.cls := findClass_of_methodNamed B.named
  have hlocks := B.notSynchronized
  have hi_X10 : ∀ w ∈ u_ws RX10 TX10 14, w ∈ wsX10_life := fun _ h => List.mem_cons_of_mem _ (List.mem_append_left _ (List.mem_append_left _ (List.mem_append_left _ (List.mem_append_right _ (h)))))
  subst hsz
  have hS : va_S (fun _ : Nat => False) s.heap s.heap [] := va_S.rf
  have hl := lv_entry ([.ref h0, .int q0, .int q1]) (n := 3) (Nat.le_of_ble_eq_true rfl)
  rw [lg_entry_eq]
  generalize (lg_sl ([.ref h0, .int q0, .int q1]) ++ List.replicate (3 - (lg_sl ([.ref h0, .int q0, .int q1])).length) Slot.unset).toArray = ls at hl ⊢
  have hl : lv_has ls 3 [(0, .ref h0), (1, .int q0), (2, .int q1)] := hl
  refine lv_aload_n hx hb dX10_life_0 rfl (lv_at hl 0 rfl) ?_
  refine lv_iload_n hx hb dX10_life_1 rfl (lv_at hl 1 rfl) ?_
  have hPc := hP.sub (ws' := [(h0, .inr (10, f_h0)), (x4, .inr (5, f_x4))]) [0, 1] rfl
  refine va_calli (va_runV (As := [.int q0]) (rest := []) ⟨hx, hb, hml, hown, hts⟩ (c_X10_isQuill l dC dI cI cZ cQ h0 x4 f_h0 (nI nq) f_x4 q0 s.heap.size e_h0_4 e_x4_3) (cwV 1 hts gX10_life_X10_isQuill rfl rfl rfl hd_X10_isQuill_RX10 ⟨Nat.le_of_ble_eq_true rfl, Nat.le_of_ble_eq_true rfl⟩) (pv_R (va_recv hK hP (ci := 10) (q0 := 0) rfl rfl) hK hPc) rfl rfl hl.1 rfl (lv_room (Nat.le_of_ble_eq_true rfl)) dX10_life_2 ⟨Nat.le_of_ble_eq_true rfl, Nat.le_of_ble_eq_true rfl⟩) hS (fun q _ h => False.elim h) (fun q h => False.elim h) (fun r1 u2 t H1 locs ht hvm hw3 hB hz1 hk1 hS => ?_)
  have hP := hP.kept (fun k q hk => hk1 q.1 (hP k q hk).lt (fun h => h))
  clear hz1 hk1 hPc
  generalize H1 = H at hP hS ht ⊢
  try dsimp only at hw3
  rcases hw3 with ⟨rfl, hw3⟩ | ⟨rfl, hw3⟩
  ·
    obtain ⟨j4, hj4, rfl⟩ := x_ix hw3 (by omega)
    refine lv_if_eq (tgt := 16) hx hb dX10_life_5 (by decide) (fun c5 => ?_) (fun c5 => ?_)
    · exact absurd c5 (by decide)
    clear c5
    refine lv_aload_n hx hb dX10_life_8 rfl (lv_at hl 0 rfl) ?_
    refine lv_iload_n hx hb dX10_life_9 rfl (lv_at hl 2 rfl) ?_
    have hPc := hP.sub (ws' := [(h0, .inr (10, f_h0)), (x4, .inr (5, f_x4))]) [0, 1] rfl
    refine va_calli (va_runV (As := [.int q1]) (rest := []) ⟨hx, hb, hml, hown, hts⟩ (c_X10_isHand l dC dI cI cZ cQ h0 x4 f_h0 (nI nh) f_x4 q1 H.size e_h0_4 e_x4_4) (cwV 1 hts gX10_life_X10_isHand rfl rfl rfl hd_X10_isHand_RX10 ⟨Nat.le_of_ble_eq_true rfl, Nat.le_of_ble_eq_true rfl⟩) (pv_R (va_recv hK hP (ci := 10) (q0 := 0) rfl rfl) hK hPc) rfl rfl hl.1 rfl (lv_room (Nat.le_of_ble_eq_true rfl)) dX10_life_10 ⟨Nat.le_of_ble_eq_true rfl, Nat.le_of_ble_eq_true rfl⟩) hS (fun q _ h => False.elim h) (fun q h => False.elim h) (fun r6 u7 t H1 locs ht hvm hw8 hB hz1 hk1 hS => ?_)
    have hP := hP.kept (fun k q hk => hk1 q.1 (hP k q hk).lt (fun h => h))
    clear hz1 hk1 hPc
    generalize H1 = H at hP hS ht ⊢
    try dsimp only at hw8
    rcases hw8 with ⟨rfl, hw8⟩ | ⟨rfl, hw8⟩
    ·
      obtain ⟨j9, hj9, rfl⟩ := x_ix hw8 (by omega)
      refine lv_if_ne (tgt := 19) hx hb dX10_life_13 (by decide) (fun c10 => ?_) (fun c10 => ?_)
      rotate_left
      · exact absurd c10 (by decide)
      clear c10
      refine lv_aload_n hx hb dX10_life_19 rfl (lv_at hl 0 rfl) ?_
      refine va_get (D := (dC, dI)) (ci := 10) (v := .ref x9) (C := RX10) (T := TX10) (N := 14) hx hb hts hi_X10 hown hK hP 0 rfl rfl 9 (by decide) (hts (.fieldLink RX10 65 "LeftQuills" "trials" "LLeftQuills$Trials;") (wmx 2 rfl)) (fun _ h9 => h9) e_h0_9 dX10_life_20 ?_
      refine lv_iload_n hx hb dX10_life_23 rfl (lv_at hl 1 rfl) ?_
      refine lv_iload_n hx hb dX10_life_24 rfl (lv_at hl 2 rfl) ?_
      have hPc := hP.sub (ws' := [(x9, .inr (9, f_x9)), (x4, .inr (5, f_x4)), (x6, .inr (1, f_x6)), (a2, .inl (cI, 8, .inl fa2)), (a3, .inl (cI, 8, .inl fa3)), (a4, .inl (cI, 8, .inl fa4)), (o5, .inl (cI, 8, .inl fo5)), (o6, .inl (cI, 8, .inl fo6)), (o7, .inl (cI, 8, .inl fo7)), (o10, .inl (cI, 4, .inl fo10)), (o11, .inl (cI, 4, .inl fo11)), (o12, .inl (cI, 4, .inl fo12))]) [2, 1, 3, 4, 5, 6, 7, 8, 9, 10, 11, 12] rfl
      refine va_calli (va_runV (As := [.int (nI j4), .int (nI j9)]) (rest := []) ⟨hx, hb, hml, hown, hts⟩ (c_X9_goodInLife l dC dI cI cZ cQ x9 x4 x6 f_x9 o5 o6 o7 o10 o11 o12 f_x4 a2 a3 a4 f_x6 fa2 fa3 fa4 fo5 fo6 fo7 fo10 fo11 fo12 j4 j9 H.size e_x9_0 e_x9_1 e_x4_5 e_x4_6 e_x4_7 e_x4_10 e_x4_11 e_x4_12 e_x6_2 e_x6_3 e_x6_4 (by omega) (by omega)) (cwV 2 hts gX10_life_X9_goodInLife rfl rfl rfl hd_X9_goodInLife_RX9 ⟨Nat.le_of_ble_eq_true rfl, Nat.le_of_ble_eq_true rfl⟩) ⟨fun a U g mk q => by obtain ⟨q0, q1, qP, qK, qN⟩ := q; exact ⟨q0, q1, qP, va_K.moved (u := U) (U := U.calling g mk a) (Vm.Alike.refl U.vm) qK, qN.calling⟩, va_recv hK hP (ci := 9) (q0 := 2) rfl rfl, fun U hU hW => ⟨rfl, by rw [hU], by rw [hU]; exact hPc, va_K.moved hW.alike hK, hN.warm hW⟩⟩ rfl rfl hl.1 rfl (lv_room (Nat.le_of_ble_eq_true rfl)) dX10_life_25 ⟨Nat.le_of_ble_eq_true rfl, Nat.le_of_ble_eq_true rfl⟩) hS (fun q _ h => False.elim h) (fun q h => False.elim h) (fun r11 u12 t H1 locs ht hvm hw13 hB hz1 hk1 hS => ?_)
      have hP := hP.kept (fun k q hk => hk1 q.1 (hP k q hk).lt (fun h => h))
      clear hz1 hk1 hPc
      generalize H1 = H at hP hS ht ⊢
      try dsimp only at hw13
      exact W.iret (v := r11) hx hb hr (fun t ht hW => ⟨⟨r11, (fun _ => 0), rfl, trivial, trivial⟩, hS.F ht⟩) hS.2.2 dX10_life_28
    ·
      refine lv_if_ne (tgt := 19) hx hb dX10_life_13 (by decide) (fun c14 => ?_) (fun c14 => ?_)
      · exact absurd c14 (by decide)
      clear c14
      refine lv_ldc (v := (-1000000001)) hx hb hown (hts (.constant RX10 160 (-1000000001)) (wmx 1 rfl)) dX10_life_16 ?_
      exact W.iret (v := (-1000000001)) hx hb hr (fun t ht hW => ⟨⟨(-1000000001), (fun _ => 0), rfl, trivial, trivial⟩, hS.F ht⟩) hS.2.2 dX10_life_18
  ·
    refine lv_if_eq (tgt := 16) hx hb dX10_life_5 (by decide) (fun c15 => ?_) (fun c15 => ?_)
    rotate_left
    · exact absurd c15 (by decide)
    clear c15
    refine lv_ldc (v := (-1000000001)) hx hb hown (hts (.constant RX10 160 (-1000000001)) (wmx 1 rfl)) dX10_life_16 ?_
    exact W.iret (v := (-1000000001)) hx hb hr (fun t ht hW => ⟨⟨(-1000000001), (fun _ => 0), rfl, trivial, trivial⟩, hS.F ht⟩) hS.2.2 dX10_life_18
set_option maxHeartbeats 4000000 in
set_option maxRecDepth 100000 in
theorem c_X10_dearer (l : Launch) (dC : Nat → ClassId) (dI : Nat → Nat → Nat) (cI cZ cQ : ClassId) (h0 : Nat) (x4 : Nat) (x9 : Nat) (f_h0 : List Value) (o5 : Nat) (o6 : Nat) (o7 : Nat) (o10 : Nat) (o11 : Nat) (o12 : Nat) (nq : Nat) (nh : Nat) (f_x4 : List Value) (x6 : Nat) (f_x9 : List Value) (a2 : Nat) (a3 : Nat) (a4 : Nat) (f_x6 : List Value) (fa3 : Nat → Int32) (fa4 : Nat → Int32) (fo5 : Nat → Int32) (fo6 : Nat → Int32) (fo7 : Nat → Int32) (fo10 : Nat → Int32) (fo11 : Nat → Int32) (fo12 : Nat → Int32) (sz : Nat) (e_h0_4 : fAt f_h0 4 = some (.ref x4)) (e_h0_9 : fAt f_h0 9 = some (.ref x9)) (e_x4_5 : fAt f_x4 5 = some (.ref o5)) (e_x4_6 : fAt f_x4 6 = some (.ref o6)) (e_x4_7 : fAt f_x4 7 = some (.ref o7)) (e_x4_10 : fAt f_x4 10 = some (.ref o10)) (e_x4_11 : fAt f_x4 11 = some (.ref o11)) (e_x4_12 : fAt f_x4 12 = some (.ref o12)) (e_x4_3 : fAt f_x4 3 = some (.int (nI nq))) (e_x4_4 : fAt f_x4 4 = some (.int (nI nh))) (e_x9_0 : fAt f_x9 0 = some (.ref x4)) (e_x9_1 : fAt f_x9 1 = some (.ref x6)) (e_x6_2 : fAt f_x6 2 = some (.ref a2)) (e_x6_3 : fAt f_x6 3 = some (.ref a3)) (e_x6_4 : fAt f_x6 4 = some (.ref a4)) (hnq : nq ≤ 8) (hnh : nh ≤ 4) : Met l yX10_dearer wsX10_dearer ({ frames := 5, cells := 0, slots := 0, locals := 157 }) (va_Pc [.ref h0] (fun U => U.heap.size = sz ∧ va_P (dC, dI) vwCl [(h0, .inr (10, f_h0)), (x4, .inr (5, f_x4)), (x9, .inr (9, f_x9)), (x6, .inr (1, f_x6)), (a3, .inl (cI, 8, .inl fa3)), (a4, .inl (cI, 8, .inl fa4)), (o5, .inl (cI, 8, .inl fo5)), (o6, .inl (cI, 8, .inl fo6)), (o7, .inl (cI, 8, .inl fo7)), (o10, .inl (cI, 4, .inl fo10)), (o11, .inl (cI, 4, .inl fo11)), (o12, .inl (cI, 4, .inl fo12))] U.heap ∧ va_K (dC, dI) vwCl (tys0 cI cZ cQ) U ∧ xN U)) (va_Qi (fun (r : Int32) (u : Nat → Nat) => True) (fun (_ : Nat → Nat) (_ : State) => True) (fun _ : Nat => False)) 0 0 (fun _ : Nat => False) := by
  refine Met.ofW (cc := cX10_dearer) (maxL := 1) (ret := (some .int)) (by decide) rfl ?_
  intro p e s m args below meth c s₁ B hml hv
  obtain ⟨rfl, hsz, hP, hK, hN⟩ := hv
  have hx := B.exec
  have hb := B.bytes
  have hr := B.returns
  have hts := atoms_spec (ws := wsX10_dearer) B.pre
  have hown : s.vm.findClass RX10 = some m.cls := findClass_of_methodNamed B.named
  have hlocks := B.notSynchronized
  have hi_X10 : ∀ w ∈ u_ws RX10 TX10 14, w ∈ wsX10_dearer := fun _ h => List.mem_cons_of_mem _ (List.mem_append_left _ (List.mem_append_left _ (List.mem_append_left _ (List.mem_append_right _ (h)))))
  subst hsz
  have hS : va_S (fun _ : Nat => False) s.heap s.heap [] := va_S.rf
  have hl := lv_entry ([.ref h0]) (n := 1) (Nat.le_of_ble_eq_true rfl)
  rw [lg_entry_eq]
  generalize (lg_sl ([.ref h0]) ++ List.replicate (1 - (lg_sl ([.ref h0])).length) Slot.unset).toArray = ls at hl ⊢
  have hl : lv_has ls 1 [(0, .ref h0)] := hl
  refine lv_ldcw (v := 100000) hx hb hown (hts (.constant RX10 260 100000) (wmx 1 rfl)) dX10_dearer_0 ?_
  refine lv_aload_n hx hb dX10_dearer_3 rfl (lv_at hl 0 rfl) ?_
  refine va_get (D := (dC, dI)) (ci := 10) (v := .ref x9) (C := RX10) (T := TX10) (N := 14) hx hb hts hi_X10 hown hK hP 0 rfl rfl 9 (by decide) (hts (.fieldLink RX10 65 "LeftQuills" "trials" "LLeftQuills$Trials;") (wmx 2 rfl)) (fun _ h9 => h9) e_h0_9 dX10_dearer_4 ?_
  have hPc := hP.sub (ws' := [(x9, .inr (9, f_x9)), (x4, .inr (5, f_x4)), (x6, .inr (1, f_x6)), (a3, .inl (cI, 8, .inl fa3)), (a4, .inl (cI, 8, .inl fa4)), (o5, .inl (cI, 8, .inl fo5)), (o6, .inl (cI, 8, .inl fo6)), (o7, .inl (cI, 8, .inl fo7)), (o10, .inl (cI, 4, .inl fo10)), (o11, .inl (cI, 4, .inl fo11)), (o12, .inl (cI, 4, .inl fo12))]) [2, 1, 3, 4, 5, 6, 7, 8, 9, 10, 11] rfl
  refine va_calli (va_runV (As := []) (rest := [.int 100000]) ⟨hx, hb, hml, hown, hts⟩ (c_X9_leftAheadOfRight l dC dI cI cZ cQ x9 x4 x6 f_x9 o5 o6 o7 o10 o11 o12 nq nh f_x4 a3 a4 f_x6 fa3 fa4 fo5 fo6 fo7 fo10 fo11 fo12 s.heap.size e_x9_0 e_x9_1 e_x4_5 e_x4_6 e_x4_7 e_x4_10 e_x4_11 e_x4_12 e_x4_3 e_x4_4 e_x6_3 e_x6_4 (by omega) (by omega)) (cwV 0 hts gX10_dearer_X9_leftAheadOfRight rfl rfl rfl hd_X9_leftAheadOfRight_RX9 ⟨Nat.le_of_ble_eq_true rfl, Nat.le_of_ble_eq_true rfl⟩) ⟨fun a U g mk q => by obtain ⟨q0, q1, qP, qK, qN⟩ := q; exact ⟨q0, q1, qP, va_K.moved (u := U) (U := U.calling g mk a) (Vm.Alike.refl U.vm) qK, qN.calling⟩, va_recv hK hP (ci := 9) (q0 := 2) rfl rfl, fun U hU hW => ⟨rfl, by rw [hU], by rw [hU]; exact hPc, va_K.moved hW.alike hK, hN.warm hW⟩⟩ rfl rfl hl.1 rfl (lv_room (Nat.le_of_ble_eq_true rfl)) dX10_dearer_7 ⟨Nat.le_of_ble_eq_true rfl, Nat.le_of_ble_eq_true rfl⟩) hS (fun q _ h => False.elim h) (fun q h => False.elim h) (fun r1 u2 t H1 locs ht hvm hw3 hB hz1 hk1 hS => ?_)
  have hP := hP.kept (fun k q hk => hk1 q.1 (hP k q hk).lt (fun h => h))
  clear hz1 hk1 hPc
  generalize H1 = H at hP hS ht ⊢
  try dsimp only at hw3
  refine lv_iadd hx hb dX10_dearer_10 ?_
  refine lv_topi (fun z4 ez4 => ?_)
  exact W.iret (v := z4) hx hb hr (fun t ht hW => ⟨⟨z4, (fun _ => 0), rfl, trivial, trivial⟩, hS.F ht⟩) hS.2.2 dX10_dearer_11
set_option maxHeartbeats 4000000 in
set_option maxRecDepth 100000 in
theorem c_X10_byTurns (l : Launch) (dC : Nat → ClassId) (dI : Nat → Nat → Nat) (cI cZ cQ : ClassId) (h0 : Nat) (x4 : Nat) (x9 : Nat) (f_h0 : List Value) (o5 : Nat) (o6 : Nat) (o7 : Nat) (o10 : Nat) (o11 : Nat) (o12 : Nat) (nq : Nat) (nh : Nat) (f_x4 : List Value) (x6 : Nat) (ts : Nat) (f_x9 : List Value) (fts : Nat → Int32) (a3 : Nat) (a4 : Nat) (f_x6 : List Value) (fa3 : Nat → Int32) (fa4 : Nat → Int32) (fo5 : Nat → Int32) (fo6 : Nat → Int32) (fo7 : Nat → Int32) (fo10 : Nat → Int32) (fo11 : Nat → Int32) (fo12 : Nat → Int32) (q0 : Int32) (q1 : Int32) (sz : Nat) (e_h0_4 : fAt f_h0 4 = some (.ref x4)) (e_h0_9 : fAt f_h0 9 = some (.ref x9)) (e_x4_5 : fAt f_x4 5 = some (.ref o5)) (e_x4_6 : fAt f_x4 6 = some (.ref o6)) (e_x4_7 : fAt f_x4 7 = some (.ref o7)) (e_x4_10 : fAt f_x4 10 = some (.ref o10)) (e_x4_11 : fAt f_x4 11 = some (.ref o11)) (e_x4_12 : fAt f_x4 12 = some (.ref o12)) (e_x4_3 : fAt f_x4 3 = some (.int (nI nq))) (e_x4_4 : fAt f_x4 4 = some (.int (nI nh))) (e_x9_0 : fAt f_x9 0 = some (.ref x4)) (e_x9_1 : fAt f_x9 1 = some (.ref x6)) (e_x9_2 : fAt f_x9 2 = some (.ref ts)) (e_x6_3 : fAt f_x6 3 = some (.ref a3)) (e_x6_4 : fAt f_x6 4 = some (.ref a4)) (hnq : nq ≤ 8) (hnh : nh ≤ 4) : Met l yX10_byTurns wsX10_byTurns ({ frames := 4, cells := 0, slots := 0, locals := 110 }) (va_Pc [.ref h0, .int q0, .int q1] (fun U => U.heap.size = sz ∧ va_P (dC, dI) vwCl [(h0, .inr (10, f_h0)), (x4, .inr (5, f_x4)), (x9, .inr (9, f_x9)), (ts, .inl (cI, 9, .inl fts)), (x6, .inr (1, f_x6)), (a3, .inl (cI, 8, .inl fa3)), (a4, .inl (cI, 8, .inl fa4)), (o5, .inl (cI, 8, .inl fo5)), (o6, .inl (cI, 8, .inl fo6)), (o7, .inl (cI, 8, .inl fo7)), (o10, .inl (cI, 4, .inl fo10)), (o11, .inl (cI, 4, .inl fo11)), (o12, .inl (cI, 4, .inl fo12))] U.heap ∧ va_K (dC, dI) vwCl (tys0 cI cZ cQ) U ∧ va_D (fun _ => True) [(h0, .inr (10, f_h0)), (x4, .inr (5, f_x4)), (x9, .inr (9, f_x9)), (ts, .inl (cI, 9, .inl fts)), (x6, .inr (1, f_x6)), (a3, .inl (cI, 8, .inl fa3)), (a4, .inl (cI, 8, .inl fa4)), (o5, .inl (cI, 8, .inl fo5)), (o6, .inl (cI, 8, .inl fo6)), (o7, .inl (cI, 8, .inl fo7)), (o10, .inl (cI, 4, .inl fo10)), (o11, .inl (cI, 4, .inl fo11)), (o12, .inl (cI, 4, .inl fo12))] ∧ xN U)) (va_Qi (fun (r : Int32) (u : Nat → Nat) => True) (fun (_ : Nat → Nat) (t : State) => ∃ (gg0 : Nat → Int32) , va_P (dC, dI) vwCl [(h0, .inr (10, f_h0)), (x4, .inr (5, f_x4)), (x9, .inr (9, f_x9)), (ts, .inl (cI, 9, .inl gg0)), (x6, .inr (1, f_x6)), (a3, .inl (cI, 8, .inl fa3)), (a4, .inl (cI, 8, .inl fa4)), (o5, .inl (cI, 8, .inl fo5)), (o6, .inl (cI, 8, .inl fo6)), (o7, .inl (cI, 8, .inl fo7)), (o10, .inl (cI, 4, .inl fo10)), (o11, .inl (cI, 4, .inl fo11)), (o12, .inl (cI, 4, .inl fo12))] t.heap ∧ va_D (va_A [(h0, .inr (10, f_h0)), (x4, .inr (5, f_x4)), (x9, .inr (9, f_x9)), (ts, .inl (cI, 9, .inl fts)), (x6, .inr (1, f_x6)), (a3, .inl (cI, 8, .inl fa3)), (a4, .inl (cI, 8, .inl fa4)), (o5, .inl (cI, 8, .inl fo5)), (o6, .inl (cI, 8, .inl fo6)), (o7, .inl (cI, 8, .inl fo7)), (o10, .inl (cI, 4, .inl fo10)), (o11, .inl (cI, 4, .inl fo11)), (o12, .inl (cI, 4, .inl fo12))] sz) [(h0, .inr (10, f_h0)), (x4, .inr (5, f_x4)), (x9, .inr (9, f_x9)), (ts, .inl (cI, 9, .inl gg0)), (x6, .inr (1, f_x6)), (a3, .inl (cI, 8, .inl fa3)), (a4, .inl (cI, 8, .inl fa4)), (o5, .inl (cI, 8, .inl fo5)), (o6, .inl (cI, 8, .inl fo6)), (o7, .inl (cI, 8, .inl fo7)), (o10, .inl (cI, 4, .inl fo10)), (o11, .inl (cI, 4, .inl fo11)), (o12, .inl (cI, 4, .inl fo12))]) (va_A [(h0, .inr (10, f_h0)), (x4, .inr (5, f_x4)), (x9, .inr (9, f_x9)), (ts, .inl (cI, 9, .inl fts)), (x6, .inr (1, f_x6)), (a3, .inl (cI, 8, .inl fa3)), (a4, .inl (cI, 8, .inl fa4)), (o5, .inl (cI, 8, .inl fo5)), (o6, .inl (cI, 8, .inl fo6)), (o7, .inl (cI, 8, .inl fo7)), (o10, .inl (cI, 4, .inl fo10)), (o11, .inl (cI, 4, .inl fo11)), (o12, .inl (cI, 4, .inl fo12))] sz)) 0 0 (va_A [(h0, .inr (10, f_h0)), (x4, .inr (5, f_x4)), (x9, .inr (9, f_x9)), (ts, .inl (cI, 9, .inl fts)), (x6, .inr (1, f_x6)), (a3, .inl (cI, 8, .inl fa3)), (a4, .inl (cI, 8, .inl fa4)), (o5, .inl (cI, 8, .inl fo5)), (o6, .inl (cI, 8, .inl fo6)), (o7, .inl (cI, 8, .inl fo7)), (o10, .inl (cI, 4, .inl fo10)), (o11, .inl (cI, 4, .inl fo11)), (o12, .inl (cI, 4, .inl fo12))] sz) := by
  refine Met.ofW (cc := cX10_byTurns) (maxL := 3) (ret := (some .int)) (by decide) rfl ?_
  intro p e s m args below meth c s₁ B hml hv
  obtain ⟨rfl, hsz, hP, hK, hD0, hN⟩ := hv
  have hx := B.exec
  have hb := B.bytes
  have hr := B.returns
  have hts := atoms_spec (ws := wsX10_byTurns) B.pre
  have hown : s.vm.findClass RX10 = some m.cls := findClass_of_methodNamed B.named
  have hlocks := B.notSynchronized
  have hi_X10 : ∀ w ∈ u_ws RX10 TX10 14, w ∈ wsX10_byTurns := fun _ h => List.mem_cons_of_mem _ (List.mem_append_left _ (List.mem_append_left _ (List.mem_append_left _ (List.mem_append_right _ (h)))))
  subst hsz
  have hD := hD0.self (sz := s.heap.size)
  generalize hAe : va_A [(h0, .inr (10, f_h0)), (x4, .inr (5, f_x4)), (x9, .inr (9, f_x9)), (ts, .inl (cI, 9, .inl fts)), (x6, .inr (1, f_x6)), (a3, .inl (cI, 8, .inl fa3)), (a4, .inl (cI, 8, .inl fa4)), (o5, .inl (cI, 8, .inl fo5)), (o6, .inl (cI, 8, .inl fo6)), (o7, .inl (cI, 8, .inl fo7)), (o10, .inl (cI, 4, .inl fo10)), (o11, .inl (cI, 4, .inl fo11)), (o12, .inl (cI, 4, .inl fo12))] s.heap.size = A at hD ⊢
  have hA : ∀ q : Nat, s.heap.size ≤ q → A q := fun q h => by rw [← hAe]; exact Or.inr h
  have hS : va_S A s.heap s.heap [] := va_S.rf
  have hl := lv_entry ([.ref h0, .int q0, .int q1]) (n := 3) (Nat.le_of_ble_eq_true rfl)
  rw [lg_entry_eq]
  generalize (lg_sl ([.ref h0, .int q0, .int q1]) ++ List.replicate (3 - (lg_sl ([.ref h0, .int q0, .int q1])).length) Slot.unset).toArray = ls at hl ⊢
  have hl : lv_has ls 3 [(0, .ref h0), (1, .int q0), (2, .int q1)] := hl
  refine lv_aload_n hx hb dX10_byTurns_0 rfl (lv_at hl 0 rfl) ?_
  refine lv_iload_n hx hb dX10_byTurns_1 rfl (lv_at hl 1 rfl) ?_
  have hPc := hP.sub (ws' := [(h0, .inr (10, f_h0)), (x4, .inr (5, f_x4))]) [0, 1] rfl
  refine va_calli (va_runV (As := [.int q0]) (rest := []) ⟨hx, hb, hml, hown, hts⟩ (c_X10_isQuill l dC dI cI cZ cQ h0 x4 f_h0 (nI nq) f_x4 q0 s.heap.size e_h0_4 e_x4_3) (cwV 1 hts gX10_byTurns_X10_isQuill rfl rfl rfl hd_X10_isQuill_RX10 ⟨Nat.le_of_ble_eq_true rfl, Nat.le_of_ble_eq_true rfl⟩) (pv_R (va_recv hK hP (ci := 10) (q0 := 0) rfl rfl) hK hPc) rfl rfl hl.1 rfl (lv_room (Nat.le_of_ble_eq_true rfl)) dX10_byTurns_2 ⟨Nat.le_of_ble_eq_true rfl, Nat.le_of_ble_eq_true rfl⟩) hS (fun q _ h => False.elim h) (fun q h => False.elim h) (fun r1 u2 t H1 locs ht hvm hw3 hB hz1 hk1 hS => ?_)
  have hP := hP.kept (fun k q hk => hk1 q.1 (hP k q hk).lt (fun h => h))
  clear hz1 hk1 hPc
  generalize H1 = H at hP hS ht ⊢
  try dsimp only at hw3
  rcases hw3 with ⟨rfl, hw3⟩ | ⟨rfl, hw3⟩
  ·
    obtain ⟨j4, hj4, rfl⟩ := x_ix hw3 (by omega)
    refine lv_if_eq (tgt := 16) hx hb dX10_byTurns_5 (by decide) (fun c5 => ?_) (fun c5 => ?_)
    · exact absurd c5 (by decide)
    clear c5
    refine lv_aload_n hx hb dX10_byTurns_8 rfl (lv_at hl 0 rfl) ?_
    refine lv_iload_n hx hb dX10_byTurns_9 rfl (lv_at hl 2 rfl) ?_
    have hPc := hP.sub (ws' := [(h0, .inr (10, f_h0)), (x4, .inr (5, f_x4))]) [0, 1] rfl
    refine va_calli (va_runV (As := [.int q1]) (rest := []) ⟨hx, hb, hml, hown, hts⟩ (c_X10_isHand l dC dI cI cZ cQ h0 x4 f_h0 (nI nh) f_x4 q1 H.size e_h0_4 e_x4_4) (cwV 1 hts gX10_byTurns_X10_isHand rfl rfl rfl hd_X10_isHand_RX10 ⟨Nat.le_of_ble_eq_true rfl, Nat.le_of_ble_eq_true rfl⟩) (pv_R (va_recv hK hP (ci := 10) (q0 := 0) rfl rfl) hK hPc) rfl rfl hl.1 rfl (lv_room (Nat.le_of_ble_eq_true rfl)) dX10_byTurns_10 ⟨Nat.le_of_ble_eq_true rfl, Nat.le_of_ble_eq_true rfl⟩) hS (fun q _ h => False.elim h) (fun q h => False.elim h) (fun r6 u7 t H1 locs ht hvm hw8 hB hz1 hk1 hS => ?_)
    have hP := hP.kept (fun k q hk => hk1 q.1 (hP k q hk).lt (fun h => h))
    clear hz1 hk1 hPc
    generalize H1 = H at hP hS ht ⊢
    try dsimp only at hw8
    rcases hw8 with ⟨rfl, hw8⟩ | ⟨rfl, hw8⟩
    ·
      obtain ⟨j9, hj9, rfl⟩ := x_ix hw8 (by omega)
      refine lv_if_ne (tgt := 19) hx hb dX10_byTurns_13 (by decide) (fun c10 => ?_) (fun c10 => ?_)
      rotate_left
      · exact absurd c10 (by decide)
      clear c10
      refine lv_aload_n hx hb dX10_byTurns_19 rfl (lv_at hl 0 rfl) ?_
      refine va_get (D := (dC, dI)) (ci := 10) (v := .ref x9) (C := RX10) (T := TX10) (N := 14) hx hb hts hi_X10 hown hK hP 0 rfl rfl 9 (by decide) (hts (.fieldLink RX10 65 "LeftQuills" "trials" "LLeftQuills$Trials;") (wmx 2 rfl)) (fun _ h9 => h9) e_h0_9 dX10_byTurns_20 ?_
      refine lv_iload_n hx hb dX10_byTurns_23 rfl (lv_at hl 1 rfl) ?_
      refine lv_iload_n hx hb dX10_byTurns_24 rfl (lv_at hl 2 rfl) ?_
      have hc9 := va_cut (W' := [(x9, .inr (9, f_x9)), (ts, .inl (cI, 9, .inl fts)), (x4, .inr (5, f_x4)), (x6, .inr (1, f_x6)), (a3, .inl (cI, 8, .inl fa3)), (a4, .inl (cI, 8, .inl fa4)), (o5, .inl (cI, 8, .inl fo5)), (o6, .inl (cI, 8, .inl fo6)), (o7, .inl (cI, 8, .inl fo7)), (o10, .inl (cI, 4, .inl fo10)), (o11, .inl (cI, 4, .inl fo11)), (o12, .inl (cI, 4, .inl fo12))]) hP hD hS hA [2, 3, 1, 4, 5, 6, 7, 8, 9, 10, 11, 12] (by decide) rfl
      have hPc := hc9.1
      have hDc := hc9.2.1
      have hFc := hc9.2.2
      clear hc9
      refine va_calli (va_runV (As := [.int (nI j4), .int (nI j9)]) (rest := []) ⟨hx, hb, hml, hown, hts⟩ (c_X9_fewestByTurns l dC dI cI cZ cQ x9 x4 x6 ts f_x9 fts o5 o6 o7 o10 o11 o12 f_x4 a3 a4 f_x6 fa3 fa4 fo5 fo6 fo7 fo10 fo11 fo12 j4 j9 H.size e_x9_0 e_x9_1 e_x9_2 e_x4_5 e_x4_6 e_x4_7 e_x4_10 e_x4_11 e_x4_12 e_x6_3 e_x6_4 (by omega) (by omega)) (cwV 2 hts gX10_byTurns_X9_fewestByTurns rfl rfl rfl hd_X9_fewestByTurns_RX9 ⟨Nat.le_of_ble_eq_true rfl, Nat.le_of_ble_eq_true rfl⟩) ⟨fun a U g mk q => by obtain ⟨q0, q1, qP, qK, qD, qN⟩ := q; exact ⟨q0, q1, qP, va_K.moved (u := U) (U := U.calling g mk a) (Vm.Alike.refl U.vm) qK, qD, qN.calling⟩, va_recv hK hP (ci := 9) (q0 := 2) rfl rfl, fun U hU hW => ⟨rfl, by rw [hU], by rw [hU]; exact hPc, va_K.moved hW.alike hK, hDc.weaken (fun _ _ _ _ => trivial), hN.warm hW⟩⟩ rfl rfl hl.1 rfl (lv_room (Nat.le_of_ble_eq_true rfl)) dX10_byTurns_25 ⟨Nat.le_of_ble_eq_true rfl, Nat.le_of_ble_eq_true rfl⟩) hS (fun q _ h => hFc q h) hFc (fun r11 u12 t H1 locs ht hvm hw13 hB hz1 hk1 hS => ?_)
      obtain ⟨f14, hP1, hD1⟩ := hB
      replace hP1 := va_hp ht hP1
      obtain ⟨hP, hD⟩ := va_join (wr := [(h0, .inr (10, f_h0))]) (w1 := [(x9, .inr (9, f_x9)), (ts, .inl (cI, 9, .inl f14)), (x4, .inr (5, f_x4)), (x6, .inr (1, f_x6)), (a3, .inl (cI, 8, .inl fa3)), (a4, .inl (cI, 8, .inl fa4)), (o5, .inl (cI, 8, .inl fo5)), (o6, .inl (cI, 8, .inl fo6)), (o7, .inl (cI, 8, .inl fo7)), (o10, .inl (cI, 4, .inl fo10)), (o11, .inl (cI, 4, .inl fo11)), (o12, .inl (cI, 4, .inl fo12))]) hP hD [2, 3, 1, 4, 5, 6, 7, 8, 9, 10, 11, 12] [0] rfl rfl (by decide +kernel) (by decide +kernel) hk1 hFc hP1 hD1
      clear hP1 hD1
      clear hz1 hk1 hPc hDc hFc
      generalize H1 = H at hP hS ht ⊢
      have hPD : pdW (dC, dI) vwCl A [(h0, .inr (10, f_h0)), (x9, .inr (9, f_x9)), (ts, .inl (cI, 9, .inl f14)), (x4, .inr (5, f_x4)), (x6, .inr (1, f_x6)), (a3, .inl (cI, 8, .inl fa3)), (a4, .inl (cI, 8, .inl fa4)), (o5, .inl (cI, 8, .inl fo5)), (o6, .inl (cI, 8, .inl fo6)), (o7, .inl (cI, 8, .inl fo7)), (o10, .inl (cI, 4, .inl fo10)), (o11, .inl (cI, 4, .inl fo11)), (o12, .inl (cI, 4, .inl fo12))] H := ⟨hP, hD⟩
      have hP := hPD.1
      have hD := hPD.2
      clear hPD
      try dsimp only at hw13
      have hP9 := hP.sub (ws' := [(h0, .inr (10, f_h0)), (x4, .inr (5, f_x4)), (x9, .inr (9, f_x9)), (ts, .inl (cI, 9, .inl f14)), (x6, .inr (1, f_x6)), (a3, .inl (cI, 8, .inl fa3)), (a4, .inl (cI, 8, .inl fa4)), (o5, .inl (cI, 8, .inl fo5)), (o6, .inl (cI, 8, .inl fo6)), (o7, .inl (cI, 8, .inl fo7)), (o10, .inl (cI, 4, .inl fo10)), (o11, .inl (cI, 4, .inl fo11)), (o12, .inl (cI, 4, .inl fo12))]) [0, 3, 1, 2, 4, 5, 6, 7, 8, 9, 10, 11, 12] rfl
      have hD9 := hD.sub (ws' := [(h0, .inr (10, f_h0)), (x4, .inr (5, f_x4)), (x9, .inr (9, f_x9)), (ts, .inl (cI, 9, .inl f14)), (x6, .inr (1, f_x6)), (a3, .inl (cI, 8, .inl fa3)), (a4, .inl (cI, 8, .inl fa4)), (o5, .inl (cI, 8, .inl fo5)), (o6, .inl (cI, 8, .inl fo6)), (o7, .inl (cI, 8, .inl fo7)), (o10, .inl (cI, 4, .inl fo10)), (o11, .inl (cI, 4, .inl fo11)), (o12, .inl (cI, 4, .inl fo12))]) [0, 3, 1, 2, 4, 5, 6, 7, 8, 9, 10, 11, 12] (by decide +kernel) rfl
      exact W.iret (v := r11) hx hb hr (fun t ht hW => ⟨⟨r11, (fun _ => 0), rfl, trivial, ⟨f14, va_hq ht hP9, hD9⟩⟩, hS.F ht⟩) hS.2.2 dX10_byTurns_28
    ·
      refine lv_if_ne (tgt := 19) hx hb dX10_byTurns_13 (by decide) (fun c15 => ?_) (fun c15 => ?_)
      · exact absurd c15 (by decide)
      clear c15
      refine lv_ldc (v := (-1000000001)) hx hb hown (hts (.constant RX10 160 (-1000000001)) (wmx 1 rfl)) dX10_byTurns_16 ?_
      have hP9 := hP.sub (ws' := [(h0, .inr (10, f_h0)), (x4, .inr (5, f_x4)), (x9, .inr (9, f_x9)), (ts, .inl (cI, 9, .inl fts)), (x6, .inr (1, f_x6)), (a3, .inl (cI, 8, .inl fa3)), (a4, .inl (cI, 8, .inl fa4)), (o5, .inl (cI, 8, .inl fo5)), (o6, .inl (cI, 8, .inl fo6)), (o7, .inl (cI, 8, .inl fo7)), (o10, .inl (cI, 4, .inl fo10)), (o11, .inl (cI, 4, .inl fo11)), (o12, .inl (cI, 4, .inl fo12))]) [0, 1, 2, 3, 4, 5, 6, 7, 8, 9, 10, 11, 12] rfl
      have hD9 := hD.sub (ws' := [(h0, .inr (10, f_h0)), (x4, .inr (5, f_x4)), (x9, .inr (9, f_x9)), (ts, .inl (cI, 9, .inl fts)), (x6, .inr (1, f_x6)), (a3, .inl (cI, 8, .inl fa3)), (a4, .inl (cI, 8, .inl fa4)), (o5, .inl (cI, 8, .inl fo5)), (o6, .inl (cI, 8, .inl fo6)), (o7, .inl (cI, 8, .inl fo7)), (o10, .inl (cI, 4, .inl fo10)), (o11, .inl (cI, 4, .inl fo11)), (o12, .inl (cI, 4, .inl fo12))]) [0, 1, 2, 3, 4, 5, 6, 7, 8, 9, 10, 11, 12] (by decide +kernel) rfl
      exact W.iret (v := (-1000000001)) hx hb hr (fun t ht hW => ⟨⟨(-1000000001), (fun _ => 0), rfl, trivial, ⟨fts, va_hq ht hP9, hD9⟩⟩, hS.F ht⟩) hS.2.2 dX10_byTurns_18
  ·
    refine lv_if_eq (tgt := 16) hx hb dX10_byTurns_5 (by decide) (fun c16 => ?_) (fun c16 => ?_)
    rotate_left
    · exact absurd c16 (by decide)
    clear c16
    refine lv_ldc (v := (-1000000001)) hx hb hown (hts (.constant RX10 160 (-1000000001)) (wmx 1 rfl)) dX10_byTurns_16 ?_
    have hP9 := hP.sub (ws' := [(h0, .inr (10, f_h0)), (x4, .inr (5, f_x4)), (x9, .inr (9, f_x9)), (ts, .inl (cI, 9, .inl fts)), (x6, .inr (1, f_x6)), (a3, .inl (cI, 8, .inl fa3)), (a4, .inl (cI, 8, .inl fa4)), (o5, .inl (cI, 8, .inl fo5)), (o6, .inl (cI, 8, .inl fo6)), (o7, .inl (cI, 8, .inl fo7)), (o10, .inl (cI, 4, .inl fo10)), (o11, .inl (cI, 4, .inl fo11)), (o12, .inl (cI, 4, .inl fo12))]) [0, 1, 2, 3, 4, 5, 6, 7, 8, 9, 10, 11, 12] rfl
    have hD9 := hD.sub (ws' := [(h0, .inr (10, f_h0)), (x4, .inr (5, f_x4)), (x9, .inr (9, f_x9)), (ts, .inl (cI, 9, .inl fts)), (x6, .inr (1, f_x6)), (a3, .inl (cI, 8, .inl fa3)), (a4, .inl (cI, 8, .inl fa4)), (o5, .inl (cI, 8, .inl fo5)), (o6, .inl (cI, 8, .inl fo6)), (o7, .inl (cI, 8, .inl fo7)), (o10, .inl (cI, 4, .inl fo10)), (o11, .inl (cI, 4, .inl fo11)), (o12, .inl (cI, 4, .inl fo12))]) [0, 1, 2, 3, 4, 5, 6, 7, 8, 9, 10, 11, 12] (by decide +kernel) rfl
    exact W.iret (v := (-1000000001)) hx hb hr (fun t ht hW => ⟨⟨(-1000000001), (fun _ => 0), rfl, trivial, ⟨fts, va_hq ht hP9, hD9⟩⟩, hS.F ht⟩) hS.2.2 dX10_byTurns_18
set_option maxHeartbeats 4000000 in
set_option maxRecDepth 100000 in
theorem c_X10_crooked (l : Launch) (dC : Nat → ClassId) (dI : Nat → Nat → Nat) (cI cZ cQ : ClassId) (h0 : Nat) (x6 : Nat) (f_h0 : List Value) (cu : Int32) (f_x6 : List Value) (q0 : Int32) (q1 : Int32) (sz : Nat) (e_h0_6 : fAt f_h0 6 = some (.ref x6)) (e_x6_1 : fAt f_x6 1 = some (.int cu)) : Met l yX10_crooked wsX10_crooked ({ frames := 1, cells := 0, slots := 0, locals := 62 }) (va_Pc [.ref h0, .int q0, .int q1] (fun U => U.heap.size = sz ∧ va_P (dC, dI) vwCl [(h0, .inr (10, f_h0)), (x6, .inr (1, f_x6))] U.heap ∧ va_K (dC, dI) vwCl (tys0 cI cZ cQ) U)) (va_Qi (fun (r : Int32) (u : Nat → Nat) => True) (fun (_ : Nat → Nat) (_ : State) => True) (fun _ : Nat => False)) 0 0 (fun _ : Nat => False) := by
  refine Met.ofW (cc := cX10_crooked) (maxL := 7) (ret := (some .int)) (by decide) rfl ?_
  intro p e s m args below meth c s₁ B hml hv
  obtain ⟨rfl, hsz, hP, hK⟩ := hv
  have hx := B.exec
  have hb := B.bytes
  have hr := B.returns
  have hts := atoms_spec (ws := wsX10_crooked) B.pre
  have hown : s.vm.findClass RX10 = some m.cls := findClass_of_methodNamed B.named
  have hlocks := B.notSynchronized
  have hi_X1 : ∀ w ∈ u_ws RX1 TX1 8, w ∈ wsX10_crooked := fun _ h => List.mem_cons_of_mem _ (List.mem_append_right _ (h))
  have hi_X10 : ∀ w ∈ u_ws RX10 TX10 14, w ∈ wsX10_crooked := fun _ h => List.mem_cons_of_mem _ (List.mem_append_left _ (List.mem_append_right _ (h)))
  subst hsz
  have hS : va_S (fun _ : Nat => False) s.heap s.heap [] := va_S.rf
  have hl := lv_entry ([.ref h0, .int q0, .int q1]) (n := 7) (Nat.le_of_ble_eq_true rfl)
  rw [lg_entry_eq]
  generalize (lg_sl ([.ref h0, .int q0, .int q1]) ++ List.replicate (7 - (lg_sl ([.ref h0, .int q0, .int q1])).length) Slot.unset).toArray = ls at hl ⊢
  have hl : lv_has ls 7 [(0, .ref h0), (1, .int q0), (2, .int q1)] := hl
  refine lv_iload_n hx hb dX10_crooked_0 rfl (lv_at hl 1 rfl) ?_
  refine lv_iconst (v := 0) hx hb dX10_crooked_1 (by decide) ?_
  refine lv_bipush (v := 60) hx hb dX10_crooked_2 (by decide) ?_
  have hPc := hP.sub (ws' := []) [] rfl
  refine va_calli (va_runS (As := [.int q0, .int 0, .int 60]) (rest := []) ⟨hx, hb, hml, hown, hts⟩ (c_X10_within l dC dI cI cZ cQ q0 0 60 s.heap.size ) (va_cwS 3 hts gX10_crooked_X10_within rfl rfl rfl (by decide +kernel) ⟨Nat.le_of_ble_eq_true rfl, Nat.le_of_ble_eq_true rfl⟩) (ps_R hK hPc) rfl rfl hl.1 rfl (lv_room (Nat.le_of_ble_eq_true rfl)) dX10_crooked_4 ⟨Nat.le_of_ble_eq_true rfl, Nat.le_of_ble_eq_true rfl⟩) hS (fun q _ h => False.elim h) (fun q h => False.elim h) (fun r1 u2 t H1 locs ht hvm hw3 hB hz1 hk1 hS => ?_)
  have hP := hP.kept (fun k q hk => hk1 q.1 (hP k q hk).lt (fun h => h))
  clear hz1 hk1 hPc
  generalize H1 = H at hP hS ht ⊢
  try dsimp only at hw3
  rcases hw3 with ⟨rfl, hw3⟩ | ⟨rfl, hw3⟩
  ·
    obtain ⟨j4, haj4, hbj4, rfl⟩ := x_rng (a := 0) (b := 60) (by decide) (by decide) hw3
    refine lv_if_eq (tgt := 20) hx hb dX10_crooked_7 (by decide) (fun c5 => ?_) (fun c5 => ?_)
    · exact absurd c5 (by decide)
    clear c5
    refine lv_iload_n hx hb dX10_crooked_10 rfl (lv_at hl 2 rfl) ?_
    refine lv_iconst (v := 0) hx hb dX10_crooked_11 (by decide) ?_
    refine lv_bipush (v := 100) hx hb dX10_crooked_12 (by decide) ?_
    have hPc := hP.sub (ws' := []) [] rfl
    refine va_calli (va_runS (As := [.int q1, .int 0, .int 100]) (rest := []) ⟨hx, hb, hml, hown, hts⟩ (c_X10_within l dC dI cI cZ cQ q1 0 100 H.size ) (va_cwS 3 hts gX10_crooked_X10_within rfl rfl rfl (by decide +kernel) ⟨Nat.le_of_ble_eq_true rfl, Nat.le_of_ble_eq_true rfl⟩) (ps_R hK hPc) rfl rfl hl.1 rfl (lv_room (Nat.le_of_ble_eq_true rfl)) dX10_crooked_14 ⟨Nat.le_of_ble_eq_true rfl, Nat.le_of_ble_eq_true rfl⟩) hS (fun q _ h => False.elim h) (fun q h => False.elim h) (fun r6 u7 t H1 locs ht hvm hw8 hB hz1 hk1 hS => ?_)
    have hP := hP.kept (fun k q hk => hk1 q.1 (hP k q hk).lt (fun h => h))
    clear hz1 hk1 hPc
    generalize H1 = H at hP hS ht ⊢
    try dsimp only at hw8
    rcases hw8 with ⟨rfl, hw8⟩ | ⟨rfl, hw8⟩
    ·
      obtain ⟨j9, haj9, hbj9, rfl⟩ := x_rng (a := 0) (b := 100) (by decide) (by decide) hw8
      refine lv_if_ne (tgt := 23) hx hb dX10_crooked_17 (by decide) (fun c10 => ?_) (fun c10 => ?_)
      rotate_left
      · exact absurd c10 (by decide)
      clear c10
      refine lv_bipush (v := 100) hx hb dX10_crooked_23 (by decide) ?_
      refine lv_bipush (v := 100) hx hb dX10_crooked_25 (by decide) ?_
      refine lv_iload_n hx hb dX10_crooked_27 rfl (lv_at hl 2 rfl) ?_
      refine lv_iconst (v := 3) hx hb dX10_crooked_28 (by decide) ?_
      refine lv_aload_n hx hb dX10_crooked_29 rfl (lv_at hl 0 rfl) ?_
      refine va_get (D := (dC, dI)) (ci := 10) (v := .ref x6) (C := RX10) (T := TX10) (N := 14) hx hb hts hi_X10 hown hK hP 0 rfl rfl 6 (by decide) (hts (.fieldLink RX10 42 "LeftQuills" "desk" "LLeftQuills$Desk;") (wmx 2 rfl)) (fun _ h9 => h9) e_h0_6 dX10_crooked_30 ?_
      refine va_get (D := (dC, dI)) (ci := 1) (v := .int cu) (C := RX1) (T := TX1) (N := 8) hx hb hts hi_X1 hown hK hP 1 rfl rfl 1 (by decide) (hts (.fieldLink RX10 142 "LeftQuills$Desk" "cuts" "I") (wmx 3 rfl)) (fun _ h9 => h9) e_x6_1 dX10_crooked_33 ?_
      refine lv_imul hx hb dX10_crooked_36 ?_
      refine lv_topi (fun z11 ez11 => ?_)
      refine lv_iadd hx hb dX10_crooked_37 ?_
      refine lv_topi (fun z12 ez12 => ?_)
      refine va_mmin hx hb (hml.trans hl.1.symm) hown (hts (.methodLink RX10 265 Lib.Math.min.name) (wmx 4 rfl)) (hts (.static Lib.Math.min.name) (wmx 5 rfl)) (hts (.initialized "java/lang/Math") (wmx 6 rfl)) (hts (.code Lib.Math.min.name Lib.Math.min.code 2 (some .int)) (wmx 7 rfl)) (Nat.le_of_ble_eq_true rfl) (Nat.le_of_ble_eq_true rfl) (Nat.le_of_ble_eq_true rfl) (Nat.le_of_ble_eq_true rfl) dX10_crooked_38 ?_
      refine lv_topi (fun z13 ez13 => ?_)
      refine lv_isub hx hb dX10_crooked_41 ?_
      refine lv_topi (fun z14 ez14 => ?_)
      refine lv_istore_n (lv' := [(3, .int z14), (0, .ref h0), (1, .int (nI j4)), (2, .int (nI j9))]) hx hb dX10_crooked_42 rfl hl (by decide) rfl (fun ls hl => ?_)
      refine lv_ldc2 (v := 1000000000) hx hb hown (hts (.constantLong RX10 270 1000000000) (wmx 8 rfl)) dX10_crooked_43 ?_
      refine lv_lstore (lv' := [(4, .long 1000000000), (3, .int z14), (0, .ref h0), (1, .int (nI j4)), (2, .int (nI j9))]) hx hb dX10_crooked_46 hl (by decide) rfl (fun ls hl => ?_)
      refine lv_iconst (v := 0) hx hb dX10_crooked_48 (by decide) ?_
      refine lv_istore (lv' := [(6, .int 0), (4, .long 1000000000), (3, .int z14), (0, .ref h0), (1, .int (nI j4)), (2, .int (nI j9))]) hx hb dX10_crooked_49 hl (by decide) rfl (fun ls hl => ?_)
      refine (fun (K : ∀ (d51 : Nat) (k51 : Nat) (a51_4 : Int64) (H : Heap) (locs : List Loc) (ls : Array Slot), k51 + d51 = j4 → va_P (dC, dI) vwCl [(h0, .inr (10, f_h0)), (x6, .inr (1, f_x6))] H → va_S (fun _ : Nat => False) s.heap H locs → lv_has ls 7 [(6, .int (nI k51)), (4, .long a51_4), (3, .int z14), (0, .ref h0), (1, .int (nI j4)), (2, .int (nI j9))] → W p l e _ s m _ below meth c H locs _ _ _ (F0 m 51 ls [])) => K j4 0 1000000000 _ _ _ (by omega) hP hS (lv_sub hl [0, 1, 2, 3, 4, 5] rfl)) ?_
      intro d51
      induction d51 with
      | zero =>
        intro k51 a51_4 H locs ls hk51 hP hS hl
        refine lv_iload hx hb dX10_crooked_51 (lv_at hl 0 rfl) ?_
        refine lv_iload_n hx hb dX10_crooked_53 rfl (lv_at hl 4 rfl) ?_
        refine lv_icmp_ge (tgt := 74) hx hb dX10_crooked_54 (by decide) (fun c15 => ?_) (fun c15 => ?_)
        ·
          have c15 : j4 ≤ k51 := (nI_leI (a := j4) (b := k51) (by omega) (by omega)).mp c15
          refine lv_lload hx hb dX10_crooked_74 (lv_at hl 1 rfl) ?_
          refine lv_l2i hx hb dX10_crooked_76 rfl ?_
          exact W.iret (v := a51_4.toInt32) hx hb hr (fun t ht hW => ⟨⟨a51_4.toInt32, (fun _ => 0), rfl, trivial, trivial⟩, hS.F ht⟩) hS.2.2 dX10_crooked_77
        ·
          have c15 : ¬ j4 ≤ k51 := fun h => c15 ((nI_leI (a := j4) (b := k51) (by omega) (by omega)).mpr h)
          omega
      | succ d51 ih51 =>
        intro k51 a51_4 H locs ls hk51 hP hS hl
        refine lv_iload hx hb dX10_crooked_51 (lv_at hl 0 rfl) ?_
        refine lv_iload_n hx hb dX10_crooked_53 rfl (lv_at hl 4 rfl) ?_
        refine lv_icmp_ge (tgt := 74) hx hb dX10_crooked_54 (by decide) (fun c16 => ?_) (fun c16 => ?_)
        ·
          have c16 : j4 ≤ k51 := (nI_leI (a := j4) (b := k51) (by omega) (by omega)).mp c16
          omega
        ·
          have c16 : ¬ j4 ≤ k51 := fun h => c16 ((nI_leI (a := j4) (b := k51) (by omega) (by omega)).mpr h)
          refine lv_lload hx hb dX10_crooked_57 (lv_at hl 1 rfl) ?_
          refine lv_iload_n hx hb dX10_crooked_59 rfl (lv_at hl 2 rfl) ?_
          refine lv_i2l hx hb dX10_crooked_60 rfl ?_
          refine lv_lmul hx hb dX10_crooked_61 ?_
          refine lv_topl (fun z17 ez17 => ?_)
          refine lv_ldc2 (v := 100) hx hb hown (hts (.constantLong RX10 272 100) (wmx 9 rfl)) dX10_crooked_62 ?_
          refine lv_ldiv hx hb dX10_crooked_65 (by decide) ?_
          refine lv_topl (fun z18 ez18 => ?_)
          refine lv_lstore (lv' := [(4, .long z18), (6, .int (nI k51)), (3, .int z14), (0, .ref h0), (1, .int (nI j4)), (2, .int (nI j9))]) hx hb dX10_crooked_66 hl (by decide) rfl (fun ls hl => ?_)
          refine lv_iinc (v := nI (k51 + 1)) (lv' := [(6, .int (nI (k51 + 1))), (4, .long z18), (3, .int z14), (0, .ref h0), (1, .int (nI j4)), (2, .int (nI j9))]) hx hb dX10_crooked_68 hl (k := 1) rfl ((rfl : nI k51 + Int32.ofInt 1 = nI k51 + 1).trans (nI_add k51 1)) (by decide) rfl (fun ls hl => ?_)
          refine lv_goto (tgt := 51) hx hb dX10_crooked_71 (by decide) ?_
          exact ih51 (k51 + 1) z18 _ _ _ (by omega) hP hS (lv_sub hl [0, 1, 2, 3, 4, 5] rfl)
    ·
      refine lv_if_ne (tgt := 23) hx hb dX10_crooked_17 (by decide) (fun c19 => ?_) (fun c19 => ?_)
      · exact absurd c19 (by decide)
      clear c19
      refine lv_ldc (v := (-1000000002)) hx hb hown (hts (.constant RX10 103 (-1000000002)) (wmx 1 rfl)) dX10_crooked_20 ?_
      exact W.iret (v := (-1000000002)) hx hb hr (fun t ht hW => ⟨⟨(-1000000002), (fun _ => 0), rfl, trivial, trivial⟩, hS.F ht⟩) hS.2.2 dX10_crooked_22
  ·
    refine lv_if_eq (tgt := 20) hx hb dX10_crooked_7 (by decide) (fun c20 => ?_) (fun c20 => ?_)
    rotate_left
    · exact absurd c20 (by decide)
    clear c20
    refine lv_ldc (v := (-1000000002)) hx hb hown (hts (.constant RX10 103 (-1000000002)) (wmx 1 rfl)) dX10_crooked_20 ?_
    exact W.iret (v := (-1000000002)) hx hb hr (fun t ht hW => ⟨⟨(-1000000002), (fun _ => 0), rfl, trivial, trivial⟩, hS.F ht⟩) hS.2.2 dX10_crooked_22
set_option maxHeartbeats 4000000 in
set_option maxRecDepth 100000 in
theorem c_X10_whose (l : Launch) (dC : Nat → ClassId) (dI : Nat → Nat → Nat) (cI cZ cQ : ClassId) (h0 : Nat) (x12 : Nat) (f_h0 : List Value) (n : Nat) (x4 : Nat) (e2 : Nat) (e3 : Nat) (e4 : Nat) (f_x12 : List Value) (fe2 : Nat → Int32) (fe3 : Nat → Int32) (fe4 : Nat → Int32) (o5 : Nat) (o6 : Nat) (o7 : Nat) (o10 : Nat) (o11 : Nat) (o12 : Nat) (nq : Nat) (nh : Nat) (f_x4 : List Value) (fo5 : Nat → Int32) (fo6 : Nat → Int32) (fo7 : Nat → Int32) (fo10 : Nat → Int32) (fo11 : Nat → Int32) (sz : Nat) (e_h0_12 : fAt f_h0 12 = some (.ref x12)) (e_x12_0 : fAt f_x12 0 = some (.int (nI n))) (e_x12_1 : fAt f_x12 1 = some (.ref x4)) (e_x12_2 : fAt f_x12 2 = some (.ref e2)) (e_x12_3 : fAt f_x12 3 = some (.ref e3)) (e_x12_4 : fAt f_x12 4 = some (.ref e4)) (e_x4_5 : fAt f_x4 5 = some (.ref o5)) (e_x4_6 : fAt f_x4 6 = some (.ref o6)) (e_x4_7 : fAt f_x4 7 = some (.ref o7)) (e_x4_10 : fAt f_x4 10 = some (.ref o10)) (e_x4_11 : fAt f_x4 11 = some (.ref o11)) (e_x4_12 : fAt f_x4 12 = some (.ref o12)) (e_x4_3 : fAt f_x4 3 = some (.int (nI nq))) (e_x4_4 : fAt f_x4 4 = some (.int (nI nh))) (hnq : nq ≤ 8) (hnh : nh ≤ 4) (hn : n ≤ 6) (hqi : qIn fe2 n) : Met l yX10_whose wsX10_whose ({ frames := 4, cells := 0, slots := 0, locals := 129 }) (va_Pc [.ref h0] (fun U => U.heap.size = sz ∧ va_P (dC, dI) vwCl [(h0, .inr (10, f_h0)), (x12, .inr (2, f_x12)), (e2, .inl (cI, 6, .inl fe2)), (e3, .inl (cI, 6, .inl fe3)), (e4, .inl (cI, 6, .inl fe4)), (x4, .inr (5, f_x4)), (o5, .inl (cI, 8, .inl fo5)), (o6, .inl (cI, 8, .inl fo6)), (o7, .inl (cI, 8, .inl fo7)), (o10, .inl (cI, 4, .inl fo10)), (o11, .inl (cI, 4, .inl fo11))] U.heap ∧ va_K (dC, dI) vwCl (tys0 cI cZ cQ) U ∧ xN U)) (va_Qi (fun (r : Int32) (u : Nat → Nat) => True) (fun (_ : Nat → Nat) (_ : State) => True) (fun _ : Nat => False)) 0 0 (fun _ : Nat => False) := by
  refine Met.ofW (cc := cX10_whose) (maxL := 1) (ret := (some .int)) (by decide) rfl ?_
  intro p e s m args below meth c s₁ B hml hv
  obtain ⟨rfl, hsz, hP, hK, hN⟩ := hv
  have hx := B.exec
  have hb := B.bytes
  have hr := B.returns
  have hts := atoms_spec (ws := wsX10_whose) B.pre
  have hown : s.vm.findClass RX10 = some m.cls := findClass_of_methodNamed B.named
  have hlocks := B.notSynchronized
  have hi_X10 : ∀ w ∈ u_ws RX10 TX10 14, w ∈ wsX10_whose := fun _ h => List.mem_cons_of_mem _ (List.mem_append_left _ (List.mem_append_left _ (List.mem_append_right _ (h))))
  subst hsz
  have hS : va_S (fun _ : Nat => False) s.heap s.heap [] := va_S.rf
  have hl := lv_entry ([.ref h0]) (n := 1) (Nat.le_of_ble_eq_true rfl)
  rw [lg_entry_eq]
  generalize (lg_sl ([.ref h0]) ++ List.replicate (1 - (lg_sl ([.ref h0])).length) Slot.unset).toArray = ls at hl ⊢
  have hl : lv_has ls 1 [(0, .ref h0)] := hl
  refine lv_aload_n hx hb dX10_whose_0 rfl (lv_at hl 0 rfl) ?_
  refine va_get (D := (dC, dI)) (ci := 10) (v := .ref x12) (C := RX10) (T := TX10) (N := 14) hx hb hts hi_X10 hown hK hP 0 rfl rfl 12 (by decide) (hts (.fieldLink RX10 88 "LeftQuills" "evidence" "LLeftQuills$Evidence;") (wmx 1 rfl)) (fun _ h9 => h9) e_h0_12 dX10_whose_1 ?_
  have hPc := hP.sub (ws' := [(x12, .inr (2, f_x12)), (e2, .inl (cI, 6, .inl fe2)), (e3, .inl (cI, 6, .inl fe3)), (e4, .inl (cI, 6, .inl fe4)), (x4, .inr (5, f_x4)), (o5, .inl (cI, 8, .inl fo5)), (o6, .inl (cI, 8, .inl fo6)), (o7, .inl (cI, 8, .inl fo7)), (o10, .inl (cI, 4, .inl fo10)), (o11, .inl (cI, 4, .inl fo11))]) [1, 2, 3, 4, 5, 6, 7, 8, 9, 10] rfl
  refine va_calli (va_runV (As := []) (rest := []) ⟨hx, hb, hml, hown, hts⟩ (c_X2_fittingHands l dC dI cI cZ cQ x12 n x4 e2 e3 e4 f_x12 fe2 fe3 fe4 o5 o6 o7 o10 o11 o12 nh f_x4 fo5 fo6 fo7 fo10 fo11 s.heap.size e_x12_0 e_x12_1 e_x12_2 e_x12_3 e_x12_4 e_x4_5 e_x4_6 e_x4_7 e_x4_10 e_x4_11 e_x4_12 e_x4_4 (by omega) (by omega) (by first | assumption | decide)) (cwV 0 hts gX10_whose_X2_fittingHands rfl rfl rfl hd_X2_fittingHands_RX2 ⟨Nat.le_of_ble_eq_true rfl, Nat.le_of_ble_eq_true rfl⟩) ⟨fun a U g mk q => by obtain ⟨q0, q1, qP, qK, qN⟩ := q; exact ⟨q0, q1, qP, va_K.moved (u := U) (U := U.calling g mk a) (Vm.Alike.refl U.vm) qK, qN.calling⟩, va_recv hK hP (ci := 2) (q0 := 1) rfl rfl, fun U hU hW => ⟨rfl, by rw [hU], by rw [hU]; exact hPc, va_K.moved hW.alike hK, hN.warm hW⟩⟩ rfl rfl hl.1 rfl (lv_room (Nat.le_of_ble_eq_true rfl)) dX10_whose_4 ⟨Nat.le_of_ble_eq_true rfl, Nat.le_of_ble_eq_true rfl⟩) hS (fun q _ h => False.elim h) (fun q h => False.elim h) (fun r1 u2 t H1 locs ht hvm hw3 hB hz1 hk1 hS => ?_)
  have hP := hP.kept (fun k q hk => hk1 q.1 (hP k q hk).lt (fun h => h))
  clear hz1 hk1 hPc
  generalize H1 = H at hP hS ht ⊢
  try dsimp only at hw3
  exact W.iret (v := r1) hx hb hr (fun t ht hW => ⟨⟨r1, (fun _ => 0), rfl, trivial, trivial⟩, hS.F ht⟩) hS.2.2 dX10_whose_7
set_option maxHeartbeats 4000000 in
set_option maxRecDepth 100000 in
theorem c_X10_lookAt (l : Launch) (dC : Nat → ClassId) (dI : Nat → Nat → Nat) (cI cZ cQ : ClassId) (h0 : Nat) (x12 : Nat) (f_h0 : List Value) (n : Nat) (x4 : Nat) (e2 : Nat) (e3 : Nat) (e4 : Nat) (f_x12 : List Value) (fe2 : Nat → Int32) (fe3 : Nat → Int32) (fe4 : Nat → Int32) (o5 : Nat) (o6 : Nat) (o7 : Nat) (o10 : Nat) (o11 : Nat) (o12 : Nat) (nq : Nat) (nh : Nat) (f_x4 : List Value) (fo5 : Nat → Int32) (fo6 : Nat → Int32) (fo7 : Nat → Int32) (fo10 : Nat → Int32) (fo11 : Nat → Int32) (sz : Nat) (e_h0_12 : fAt f_h0 12 = some (.ref x12)) (e_x12_0 : fAt f_x12 0 = some (.int (nI n))) (e_x12_1 : fAt f_x12 1 = some (.ref x4)) (e_x12_2 : fAt f_x12 2 = some (.ref e2)) (e_x12_3 : fAt f_x12 3 = some (.ref e3)) (e_x12_4 : fAt f_x12 4 = some (.ref e4)) (e_x4_5 : fAt f_x4 5 = some (.ref o5)) (e_x4_6 : fAt f_x4 6 = some (.ref o6)) (e_x4_7 : fAt f_x4 7 = some (.ref o7)) (e_x4_10 : fAt f_x4 10 = some (.ref o10)) (e_x4_11 : fAt f_x4 11 = some (.ref o11)) (e_x4_12 : fAt f_x4 12 = some (.ref o12)) (e_x4_3 : fAt f_x4 3 = some (.int (nI nq))) (e_x4_4 : fAt f_x4 4 = some (.int (nI nh))) (hnq : nq ≤ 8) (hnh : nh ≤ 4) (hn : n ≤ 6) (hqi : qIn fe2 n) : Met l yX10_lookAt wsX10_lookAt ({ frames := 5, cells := 0, slots := 0, locals := 159 }) (va_Pc [.ref h0] (fun U => U.heap.size = sz ∧ va_P (dC, dI) vwCl [(h0, .inr (10, f_h0)), (x12, .inr (2, f_x12)), (e2, .inl (cI, 6, .inl fe2)), (e3, .inl (cI, 6, .inl fe3)), (e4, .inl (cI, 6, .inl fe4)), (x4, .inr (5, f_x4)), (o5, .inl (cI, 8, .inl fo5)), (o6, .inl (cI, 8, .inl fo6)), (o7, .inl (cI, 8, .inl fo7)), (o10, .inl (cI, 4, .inl fo10)), (o11, .inl (cI, 4, .inl fo11))] U.heap ∧ va_K (dC, dI) vwCl (tys0 cI cZ cQ) U ∧ xN U)) (va_Qi (fun (r : Int32) (u : Nat → Nat) => True) (fun (_ : Nat → Nat) (_ : State) => True) (fun _ : Nat => False)) 0 0 (fun _ : Nat => False) := by
  refine Met.ofW (cc := cX10_lookAt) (maxL := 1) (ret := (some .int)) (by decide) rfl ?_
  intro p e s m args below meth c s₁ B hml hv
  obtain ⟨rfl, hsz, hP, hK, hN⟩ := hv
  have hx := B.exec
  have hb := B.bytes
  have hr := B.returns
  have hts := atoms_spec (ws := wsX10_lookAt) B.pre
  have hown : s.vm.findClass RX10 = some m.cls := findClass_of_methodNamed B.named
  have hlocks := B.notSynchronized
  have hi_X10 : ∀ w ∈ u_ws RX10 TX10 14, w ∈ wsX10_lookAt := fun _ h => List.mem_cons_of_mem _ (List.mem_append_left _ (List.mem_append_left _ (List.mem_append_right _ (h))))
  subst hsz
  have hS : va_S (fun _ : Nat => False) s.heap s.heap [] := va_S.rf
  have hl := lv_entry ([.ref h0]) (n := 1) (Nat.le_of_ble_eq_true rfl)
  rw [lg_entry_eq]
  generalize (lg_sl ([.ref h0]) ++ List.replicate (1 - (lg_sl ([.ref h0])).length) Slot.unset).toArray = ls at hl ⊢
  have hl : lv_has ls 1 [(0, .ref h0)] := hl
  refine lv_aload_n hx hb dX10_lookAt_0 rfl (lv_at hl 0 rfl) ?_
  refine va_get (D := (dC, dI)) (ci := 10) (v := .ref x12) (C := RX10) (T := TX10) (N := 14) hx hb hts hi_X10 hown hK hP 0 rfl rfl 12 (by decide) (hts (.fieldLink RX10 88 "LeftQuills" "evidence" "LLeftQuills$Evidence;") (wmx 1 rfl)) (fun _ h9 => h9) e_h0_12 dX10_lookAt_1 ?_
  have hPc := hP.sub (ws' := [(x12, .inr (2, f_x12)), (e2, .inl (cI, 6, .inl fe2)), (e3, .inl (cI, 6, .inl fe3)), (e4, .inl (cI, 6, .inl fe4)), (x4, .inr (5, f_x4)), (o5, .inl (cI, 8, .inl fo5)), (o6, .inl (cI, 8, .inl fo6)), (o7, .inl (cI, 8, .inl fo7)), (o10, .inl (cI, 4, .inl fo10)), (o11, .inl (cI, 4, .inl fo11))]) [1, 2, 3, 4, 5, 6, 7, 8, 9, 10] rfl
  refine va_calli (va_runV (As := []) (rest := []) ⟨hx, hb, hml, hown, hts⟩ (c_X2_bestToLookAt l dC dI cI cZ cQ x12 n x4 e2 e3 e4 f_x12 fe2 fe3 fe4 o5 o6 o7 o10 o11 o12 nq nh f_x4 fo5 fo6 fo7 fo10 fo11 s.heap.size e_x12_0 e_x12_1 e_x12_2 e_x12_3 e_x12_4 e_x4_5 e_x4_6 e_x4_7 e_x4_10 e_x4_11 e_x4_12 e_x4_3 e_x4_4 (by omega) (by omega) (by omega) (by first | assumption | decide)) (cwV 0 hts gX10_lookAt_X2_bestToLookAt rfl rfl rfl hd_X2_bestToLookAt_RX2 ⟨Nat.le_of_ble_eq_true rfl, Nat.le_of_ble_eq_true rfl⟩) ⟨fun a U g mk q => by obtain ⟨q0, q1, qP, qK, qN⟩ := q; exact ⟨q0, q1, qP, va_K.moved (u := U) (U := U.calling g mk a) (Vm.Alike.refl U.vm) qK, qN.calling⟩, va_recv hK hP (ci := 2) (q0 := 1) rfl rfl, fun U hU hW => ⟨rfl, by rw [hU], by rw [hU]; exact hPc, va_K.moved hW.alike hK, hN.warm hW⟩⟩ rfl rfl hl.1 rfl (lv_room (Nat.le_of_ble_eq_true rfl)) dX10_lookAt_4 ⟨Nat.le_of_ble_eq_true rfl, Nat.le_of_ble_eq_true rfl⟩) hS (fun q _ h => False.elim h) (fun q h => False.elim h) (fun r1 u2 t H1 locs ht hvm hw3 hB hz1 hk1 hS => ?_)
  have hP := hP.kept (fun k q hk => hk1 q.1 (hP k q hk).lt (fun h => h))
  clear hz1 hk1 hPc
  generalize H1 = H at hP hS ht ⊢
  try dsimp only at hw3
  exact W.iret (v := r1) hx hb hr (fun t ht hW => ⟨⟨r1, (fun _ => 0), rfl, trivial, trivial⟩, hS.F ht⟩) hS.2.2 dX10_lookAt_7
set_option maxHeartbeats 4000000 in
set_option maxRecDepth 100000 in
theorem c_X10_judge (l : Launch) (dC : Nat → ClassId) (dI : Nat → Nat → Nat) (cI cZ cQ : ClassId) (h0 : Nat) (x6 : Nat) (x13 : Nat) (f_h0 : List Value) (n : Nat) (b1 : Nat) (b2 : Nat) (f_x13 : List Value) (fb1 : Nat → Int32) (fb2 : Nat → Int32) (a4 : Nat) (f_x6 : List Value) (fa4 : Nat → Int32) (sz : Nat) (e_h0_6 : fAt f_h0 6 = some (.ref x6)) (e_h0_13 : fAt f_h0 13 = some (.ref x13)) (e_x13_0 : fAt f_x13 0 = some (.int (nI n))) (e_x13_1 : fAt f_x13 1 = some (.ref b1)) (e_x13_2 : fAt f_x13 2 = some (.ref b2)) (e_x6_4 : fAt f_x6 4 = some (.ref a4)) (hn : n ≤ 15) (hqi : qIn fb1 n) : Met l yX10_judge wsX10_judge ({ frames := 1, cells := 0, slots := 0, locals := 62 }) (va_Pc [.ref h0] (fun U => U.heap.size = sz ∧ va_P (dC, dI) vwCl [(h0, .inr (10, f_h0)), (x13, .inr (0, f_x13)), (b1, .inl (cI, 15, .inl fb1)), (b2, .inl (cI, 15, .inl fb2)), (x6, .inr (1, f_x6)), (a4, .inl (cI, 8, .inl fa4))] U.heap ∧ va_K (dC, dI) vwCl (tys0 cI cZ cQ) U)) (va_Qi (fun (r : Int32) (u : Nat → Nat) => True) (fun (_ : Nat → Nat) (_ : State) => True) (fun _ : Nat => False)) 0 0 (fun _ : Nat => False) := by
  refine Met.ofW (cc := cX10_judge) (maxL := 1) (ret := (some .int)) (by decide) rfl ?_
  intro p e s m args below meth c s₁ B hml hv
  obtain ⟨rfl, hsz, hP, hK⟩ := hv
  have hx := B.exec
  have hb := B.bytes
  have hr := B.returns
  have hts := atoms_spec (ws := wsX10_judge) B.pre
  have hown : s.vm.findClass RX10 = some m.cls := findClass_of_methodNamed B.named
  have hlocks := B.notSynchronized
  have hi_X10 : ∀ w ∈ u_ws RX10 TX10 14, w ∈ wsX10_judge := fun _ h => List.mem_cons_of_mem _ (List.mem_append_left _ (List.mem_append_left _ (List.mem_append_right _ (h))))
  subst hsz
  have hS : va_S (fun _ : Nat => False) s.heap s.heap [] := va_S.rf
  have hl := lv_entry ([.ref h0]) (n := 1) (Nat.le_of_ble_eq_true rfl)
  rw [lg_entry_eq]
  generalize (lg_sl ([.ref h0]) ++ List.replicate (1 - (lg_sl ([.ref h0])).length) Slot.unset).toArray = ls at hl ⊢
  have hl : lv_has ls 1 [(0, .ref h0)] := hl
  refine lv_aload_n hx hb dX10_judge_0 rfl (lv_at hl 0 rfl) ?_
  refine va_get (D := (dC, dI)) (ci := 10) (v := .ref x13) (C := RX10) (T := TX10) (N := 14) hx hb hts hi_X10 hown hK hP 0 rfl rfl 13 (by decide) (hts (.fieldLink RX10 95 "LeftQuills" "book" "LLeftQuills$Book;") (wmx 1 rfl)) (fun _ h9 => h9) e_h0_13 dX10_judge_1 ?_
  refine lv_aload_n hx hb dX10_judge_4 rfl (lv_at hl 0 rfl) ?_
  refine va_get (D := (dC, dI)) (ci := 10) (v := .ref x6) (C := RX10) (T := TX10) (N := 14) hx hb hts hi_X10 hown hK hP 0 rfl rfl 6 (by decide) (hts (.fieldLink RX10 42 "LeftQuills" "desk" "LLeftQuills$Desk;") (wmx 2 rfl)) (fun _ h9 => h9) e_h0_6 dX10_judge_5 ?_
  have hPc := hP.sub (ws' := [(x13, .inr (0, f_x13)), (b1, .inl (cI, 15, .inl fb1)), (b2, .inl (cI, 15, .inl fb2)), (x6, .inr (1, f_x6)), (a4, .inl (cI, 8, .inl fa4))]) [1, 2, 3, 4, 5] rfl
  refine va_calli (va_runV (As := [.ref x6]) (rest := []) ⟨hx, hb, hml, hown, hts⟩ (c_X0_firstWrong l dC dI cI cZ cQ x13 n b1 b2 f_x13 fb1 fb2 x6 a4 f_x6 fa4 s.heap.size e_x13_0 e_x13_1 e_x13_2 e_x6_4 (by omega) (by first | assumption | decide)) (cwV 1 hts gX10_judge_X0_firstWrong rfl rfl rfl hd_X0_firstWrong_RX0 ⟨Nat.le_of_ble_eq_true rfl, Nat.le_of_ble_eq_true rfl⟩) (pv_R (va_recv hK hP (ci := 0) (q0 := 1) rfl rfl) hK hPc) rfl rfl hl.1 rfl (lv_room (Nat.le_of_ble_eq_true rfl)) dX10_judge_8 ⟨Nat.le_of_ble_eq_true rfl, Nat.le_of_ble_eq_true rfl⟩) hS (fun q _ h => False.elim h) (fun q h => False.elim h) (fun r1 u2 t H1 locs ht hvm hw3 hB hz1 hk1 hS => ?_)
  have hP := hP.kept (fun k q hk => hk1 q.1 (hP k q hk).lt (fun h => h))
  clear hz1 hk1 hPc
  generalize H1 = H at hP hS ht ⊢
  try dsimp only at hw3
  exact W.iret (v := r1) hx hb hr (fun t ht hW => ⟨⟨r1, (fun _ => 0), rfl, trivial, trivial⟩, hS.F ht⟩) hS.2.2 dX10_judge_11
set_option maxHeartbeats 4000000 in
set_option maxRecDepth 100000 in
theorem c_X10_toWhom (l : Launch) (dC : Nat → ClassId) (dI : Nat → Nat → Nat) (cI cZ cQ : ClassId) (h0 : Nat) (x4 : Nat) (x10 : Nat) (f_h0 : List Value) (o5 : Nat) (o6 : Nat) (o7 : Nat) (o10 : Nat) (o11 : Nat) (o12 : Nat) (nq : Nat) (nh : Nat) (f_x4 : List Value) (be : Int32) (s1 : Nat) (x9 : Nat) (s4 : Nat) (s5 : Nat) (x6 : Nat) (f_x9 : List Value) (a3 : Nat) (a4 : Nat) (f_x6 : List Value) (fs1 : Nat → Int32) (fs4 : Nat → Int32) (fs5 : Nat → Int32) (fa3 : Nat → Int32) (fa4 : Nat → Int32) (fo5 : Nat → Int32) (fo6 : Nat → Int32) (fo7 : Nat → Int32) (fo10 : Nat → Int32) (fo11 : Nat → Int32) (fo12 : Nat → Int32) (q0 : Int32) (sz : Nat) (e_h0_4 : fAt f_h0 4 = some (.ref x4)) (e_h0_10 : fAt f_h0 10 = some (.ref x10)) (e_x4_5 : fAt f_x4 5 = some (.ref o5)) (e_x4_6 : fAt f_x4 6 = some (.ref o6)) (e_x4_7 : fAt f_x4 7 = some (.ref o7)) (e_x4_10 : fAt f_x4 10 = some (.ref o10)) (e_x4_11 : fAt f_x4 11 = some (.ref o11)) (e_x4_12 : fAt f_x4 12 = some (.ref o12)) (e_x4_3 : fAt f_x4 3 = some (.int (nI nq))) (e_x4_4 : fAt f_x4 4 = some (.int (nI nh))) (e_x9_0 : fAt f_x9 0 = some (.ref x4)) (e_x9_1 : fAt f_x9 1 = some (.ref x6)) (e_x6_3 : fAt f_x6 3 = some (.ref a3)) (e_x6_4 : fAt f_x6 4 = some (.ref a4)) (hnq : nq ≤ 8) (hnh : nh ≤ 4) : Met l yX10_toWhom wsX10_toWhom ({ frames := 12, cells := 0, slots := 0, locals := 299 }) (va_Pc [.ref h0, .int q0] (fun U => U.heap.size = sz ∧ va_P (dC, dI) vwCl [(h0, .inr (10, f_h0)), (x4, .inr (5, f_x4)), (x10, .inr (8, [.int be, .ref s1, .ref x4, .ref x9, .ref s4, .ref s5])), (x9, .inr (9, f_x9)), (x6, .inr (1, f_x6)), (s1, .inl (cI, 4, .inl fs1)), (s4, .inl (cI, 4, .inl fs4)), (s5, .inl (cI, 32, .inl fs5)), (a3, .inl (cI, 8, .inl fa3)), (a4, .inl (cI, 8, .inl fa4)), (o5, .inl (cI, 8, .inl fo5)), (o6, .inl (cI, 8, .inl fo6)), (o7, .inl (cI, 8, .inl fo7)), (o10, .inl (cI, 4, .inl fo10)), (o11, .inl (cI, 4, .inl fo11)), (o12, .inl (cI, 4, .inl fo12))] U.heap ∧ va_K (dC, dI) vwCl (tys0 cI cZ cQ) U ∧ va_D (fun _ => True) [(h0, .inr (10, f_h0)), (x4, .inr (5, f_x4)), (x10, .inr (8, [.int be, .ref s1, .ref x4, .ref x9, .ref s4, .ref s5])), (x9, .inr (9, f_x9)), (x6, .inr (1, f_x6)), (s1, .inl (cI, 4, .inl fs1)), (s4, .inl (cI, 4, .inl fs4)), (s5, .inl (cI, 32, .inl fs5)), (a3, .inl (cI, 8, .inl fa3)), (a4, .inl (cI, 8, .inl fa4)), (o5, .inl (cI, 8, .inl fo5)), (o6, .inl (cI, 8, .inl fo6)), (o7, .inl (cI, 8, .inl fo7)), (o10, .inl (cI, 4, .inl fo10)), (o11, .inl (cI, 4, .inl fo11)), (o12, .inl (cI, 4, .inl fo12))] ∧ xN U)) (va_Qi (fun (r : Int32) (u : Nat → Nat) => True) (fun (_ : Nat → Nat) (t : State) => ∃ (gg0 gg1 gg2 : Nat → Int32) (ii0 : Int32) , va_P (dC, dI) vwCl [(h0, .inr (10, f_h0)), (x4, .inr (5, f_x4)), (x10, .inr (8, [.int ii0, .ref s1, .ref x4, .ref x9, .ref s4, .ref s5])), (x9, .inr (9, f_x9)), (x6, .inr (1, f_x6)), (s1, .inl (cI, 4, .inl gg0)), (s4, .inl (cI, 4, .inl gg1)), (s5, .inl (cI, 32, .inl gg2)), (a3, .inl (cI, 8, .inl fa3)), (a4, .inl (cI, 8, .inl fa4)), (o5, .inl (cI, 8, .inl fo5)), (o6, .inl (cI, 8, .inl fo6)), (o7, .inl (cI, 8, .inl fo7)), (o10, .inl (cI, 4, .inl fo10)), (o11, .inl (cI, 4, .inl fo11)), (o12, .inl (cI, 4, .inl fo12))] t.heap ∧ va_D (va_A [(h0, .inr (10, f_h0)), (x4, .inr (5, f_x4)), (x10, .inr (8, [.int be, .ref s1, .ref x4, .ref x9, .ref s4, .ref s5])), (x9, .inr (9, f_x9)), (x6, .inr (1, f_x6)), (s1, .inl (cI, 4, .inl fs1)), (s4, .inl (cI, 4, .inl fs4)), (s5, .inl (cI, 32, .inl fs5)), (a3, .inl (cI, 8, .inl fa3)), (a4, .inl (cI, 8, .inl fa4)), (o5, .inl (cI, 8, .inl fo5)), (o6, .inl (cI, 8, .inl fo6)), (o7, .inl (cI, 8, .inl fo7)), (o10, .inl (cI, 4, .inl fo10)), (o11, .inl (cI, 4, .inl fo11)), (o12, .inl (cI, 4, .inl fo12))] sz) [(h0, .inr (10, f_h0)), (x4, .inr (5, f_x4)), (x10, .inr (8, [.int ii0, .ref s1, .ref x4, .ref x9, .ref s4, .ref s5])), (x9, .inr (9, f_x9)), (x6, .inr (1, f_x6)), (s1, .inl (cI, 4, .inl gg0)), (s4, .inl (cI, 4, .inl gg1)), (s5, .inl (cI, 32, .inl gg2)), (a3, .inl (cI, 8, .inl fa3)), (a4, .inl (cI, 8, .inl fa4)), (o5, .inl (cI, 8, .inl fo5)), (o6, .inl (cI, 8, .inl fo6)), (o7, .inl (cI, 8, .inl fo7)), (o10, .inl (cI, 4, .inl fo10)), (o11, .inl (cI, 4, .inl fo11)), (o12, .inl (cI, 4, .inl fo12))]) (va_A [(h0, .inr (10, f_h0)), (x4, .inr (5, f_x4)), (x10, .inr (8, [.int be, .ref s1, .ref x4, .ref x9, .ref s4, .ref s5])), (x9, .inr (9, f_x9)), (x6, .inr (1, f_x6)), (s1, .inl (cI, 4, .inl fs1)), (s4, .inl (cI, 4, .inl fs4)), (s5, .inl (cI, 32, .inl fs5)), (a3, .inl (cI, 8, .inl fa3)), (a4, .inl (cI, 8, .inl fa4)), (o5, .inl (cI, 8, .inl fo5)), (o6, .inl (cI, 8, .inl fo6)), (o7, .inl (cI, 8, .inl fo7)), (o10, .inl (cI, 4, .inl fo10)), (o11, .inl (cI, 4, .inl fo11)), (o12, .inl (cI, 4, .inl fo12))] sz)) 0 0 (va_A [(h0, .inr (10, f_h0)), (x4, .inr (5, f_x4)), (x10, .inr (8, [.int be, .ref s1, .ref x4, .ref x9, .ref s4, .ref s5])), (x9, .inr (9, f_x9)), (x6, .inr (1, f_x6)), (s1, .inl (cI, 4, .inl fs1)), (s4, .inl (cI, 4, .inl fs4)), (s5, .inl (cI, 32, .inl fs5)), (a3, .inl (cI, 8, .inl fa3)), (a4, .inl (cI, 8, .inl fa4)), (o5, .inl (cI, 8, .inl fo5)), (o6, .inl (cI, 8, .inl fo6)), (o7, .inl (cI, 8, .inl fo7)), (o10, .inl (cI, 4, .inl fo10)), (o11, .inl (cI, 4, .inl fo11)), (o12, .inl (cI, 4, .inl fo12))] sz) := by
  refine Met.ofW (cc := cX10_toWhom) (maxL := 2) (ret := (some .int)) (by decide) rfl ?_
  intro p e s m args below meth c s₁ B hml hv
  obtain ⟨rfl, hsz, hP, hK, hD0, hN⟩ := hv
  have hx := B.exec
  have hb := B.bytes
  have hr := B.returns
  have hts := atoms_spec (ws := wsX10_toWhom) B.pre
  have hown : s.vm.findClass RX10 = some m.cls := findClass_of_methodNamed B.named
  have hlocks := B.notSynchronized
  have hi_X10 : ∀ w ∈ u_ws RX10 TX10 14, w ∈ wsX10_toWhom := fun _ h => List.mem_cons_of_mem _ (List.mem_append_left _ (List.mem_append_left _ (List.mem_append_left _ (List.mem_append_left _ (List.mem_append_right _ (h))))))
  have hi_X5 : ∀ w ∈ u_ws RX5 TX5 13, w ∈ wsX10_toWhom := fun _ h => List.mem_cons_of_mem _ (List.mem_append_left _ (List.mem_append_left _ (List.mem_append_left _ (List.mem_append_right _ (h)))))
  have hi_X8 : ∀ w ∈ u_ws RX8 TX8 6, w ∈ wsX10_toWhom := fun _ h => List.mem_cons_of_mem _ (List.mem_append_left _ (List.mem_append_left _ (List.mem_append_right _ (h))))
  subst hsz
  have hD := hD0.self (sz := s.heap.size)
  generalize hAe : va_A [(h0, .inr (10, f_h0)), (x4, .inr (5, f_x4)), (x10, .inr (8, [.int be, .ref s1, .ref x4, .ref x9, .ref s4, .ref s5])), (x9, .inr (9, f_x9)), (x6, .inr (1, f_x6)), (s1, .inl (cI, 4, .inl fs1)), (s4, .inl (cI, 4, .inl fs4)), (s5, .inl (cI, 32, .inl fs5)), (a3, .inl (cI, 8, .inl fa3)), (a4, .inl (cI, 8, .inl fa4)), (o5, .inl (cI, 8, .inl fo5)), (o6, .inl (cI, 8, .inl fo6)), (o7, .inl (cI, 8, .inl fo7)), (o10, .inl (cI, 4, .inl fo10)), (o11, .inl (cI, 4, .inl fo11)), (o12, .inl (cI, 4, .inl fo12))] s.heap.size = A at hD ⊢
  have hA : ∀ q : Nat, s.heap.size ≤ q → A q := fun q h => by rw [← hAe]; exact Or.inr h
  have hS : va_S A s.heap s.heap [] := va_S.rf
  have hl := lv_entry ([.ref h0, .int q0]) (n := 2) (Nat.le_of_ble_eq_true rfl)
  rw [lg_entry_eq]
  generalize (lg_sl ([.ref h0, .int q0]) ++ List.replicate (2 - (lg_sl ([.ref h0, .int q0])).length) Slot.unset).toArray = ls at hl ⊢
  have hl : lv_has ls 2 [(0, .ref h0), (1, .int q0)] := hl
  refine lv_iload_n hx hb dX10_toWhom_0 rfl (lv_at hl 1 rfl) ?_
  refine lv_iconst (v := (-1)) hx hb dX10_toWhom_1 (by decide) ?_
  refine lv_icmp_eq (tgt := 16) hx hb dX10_toWhom_2 (by decide) (fun c1 => ?_) (fun c1 => ?_)
  ·
    refine lv_aload_n hx hb dX10_toWhom_16 rfl (lv_at hl 0 rfl) ?_
    refine va_get (D := (dC, dI)) (ci := 10) (v := .ref x4) (C := RX10) (T := TX10) (N := 14) hx hb hts hi_X10 hown hK hP 0 rfl rfl 4 (by decide) (hts (.fieldLink RX10 26 "LeftQuills" "office" "LLeftQuills$Office;") (wmx 2 rfl)) (fun _ h9 => h9) e_h0_4 dX10_toWhom_17 ?_
    refine va_get (D := (dC, dI)) (ci := 5) (v := .int (nI nq)) (C := RX5) (T := TX5) (N := 13) hx hb hts hi_X5 hown hK hP 1 rfl rfl 3 (by decide) (hts (.fieldLink RX10 127 "LeftQuills$Office" "quills" "I") (wmx 3 rfl)) (fun _ h9 => h9) e_x4_3 dX10_toWhom_20 ?_
    refine lv_aload_n hx hb dX10_toWhom_23 rfl (lv_at hl 0 rfl) ?_
    refine va_get (D := (dC, dI)) (ci := 10) (v := .ref x4) (C := RX10) (T := TX10) (N := 14) hx hb hts hi_X10 hown hK hP 0 rfl rfl 4 (by decide) (hts (.fieldLink RX10 26 "LeftQuills" "office" "LLeftQuills$Office;") (wmx 2 rfl)) (fun _ h9 => h9) e_h0_4 dX10_toWhom_24 ?_
    refine va_get (D := (dC, dI)) (ci := 5) (v := .int (nI nh)) (C := RX5) (T := TX5) (N := 13) hx hb hts hi_X5 hown hK hP 1 rfl rfl 4 (by decide) (hts (.fieldLink RX10 136 "LeftQuills$Office" "hands" "I") (wmx 4 rfl)) (fun _ h9 => h9) e_x4_4 dX10_toWhom_27 ?_
    refine lv_icmp_ge (tgt := 35) hx hb dX10_toWhom_30 (by decide) (fun c2 => ?_) (fun c2 => ?_)
    ·
      have c2 : nh ≤ nq := (nI_leI (a := nh) (b := nq) (by omega) (by omega)).mp c2
      refine lv_aload_n hx hb dX10_toWhom_35 rfl (lv_at hl 0 rfl) ?_
      refine va_get (D := (dC, dI)) (ci := 10) (v := .ref x10) (C := RX10) (T := TX10) (N := 14) hx hb hts hi_X10 hown hK hP 0 rfl rfl 10 (by decide) (hts (.fieldLink RX10 74 "LeftQuills" "sharing" "LLeftQuills$Sharing;") (wmx 5 rfl)) (fun _ h9 => h9) e_h0_10 dX10_toWhom_36 ?_
      have hc9 := va_cut (W' := [(x10, .inr (8, [.int be, .ref s1, .ref x4, .ref x9, .ref s4, .ref s5])), (x4, .inr (5, f_x4)), (x9, .inr (9, f_x9)), (x6, .inr (1, f_x6)), (s1, .inl (cI, 4, .inl fs1)), (s4, .inl (cI, 4, .inl fs4)), (s5, .inl (cI, 32, .inl fs5)), (a3, .inl (cI, 8, .inl fa3)), (a4, .inl (cI, 8, .inl fa4)), (o5, .inl (cI, 8, .inl fo5)), (o6, .inl (cI, 8, .inl fo6)), (o7, .inl (cI, 8, .inl fo7)), (o10, .inl (cI, 4, .inl fo10)), (o11, .inl (cI, 4, .inl fo11)), (o12, .inl (cI, 4, .inl fo12))]) hP hD hS hA [2, 1, 3, 4, 5, 6, 7, 8, 9, 10, 11, 12, 13, 14, 15] (by decide +kernel) rfl
      have hPc := hc9.1
      have hDc := hc9.2.1
      have hFc := hc9.2.2
      clear hc9
      refine va_callv (va_runV (As := []) (rest := []) ⟨hx, hb, hml, hown, hts⟩ (c_X8_find l dC dI cI cZ cQ x10 be s1 x4 x9 s4 s5 o5 o6 o7 o10 o11 o12 nq nh f_x4 x6 f_x9 a3 a4 f_x6 fs1 fs4 fs5 fa3 fa4 fo5 fo6 fo7 fo10 fo11 fo12 s.heap.size e_x4_5 e_x4_6 e_x4_7 e_x4_10 e_x4_11 e_x4_12 e_x4_3 e_x4_4 e_x9_0 e_x9_1 e_x6_3 e_x6_4 (by omega) (by omega)) (cwV 0 hts gX10_toWhom_X8_find rfl rfl rfl hd_X8_find_RX8 ⟨Nat.le_of_ble_eq_true rfl, Nat.le_of_ble_eq_true rfl⟩) ⟨fun a U g mk q => by obtain ⟨q0, q1, qP, qK, qD, qN⟩ := q; exact ⟨q0, q1, qP, va_K.moved (u := U) (U := U.calling g mk a) (Vm.Alike.refl U.vm) qK, qD, qN.calling⟩, va_recv hK hP (ci := 8) (q0 := 2) rfl rfl, fun U hU hW => ⟨rfl, by rw [hU], by rw [hU]; exact hPc, va_K.moved hW.alike hK, hDc.weaken (fun _ _ _ _ => trivial), hN.warm hW⟩⟩ rfl rfl hl.1 rfl (lv_room (Nat.le_of_ble_eq_true rfl)) dX10_toWhom_39 ⟨Nat.le_of_ble_eq_true rfl, Nat.le_of_ble_eq_true rfl⟩) hS (fun q _ h => hFc q h) hFc (fun u4 t H1 locs ht hvm hw5 hB hz1 hk1 hS => ?_)
      obtain ⟨f6, f7, f8, i9, hP1, hD1⟩ := hB
      replace hP1 := va_hp ht hP1
      obtain ⟨hP, hD⟩ := va_join (wr := [(h0, .inr (10, f_h0))]) (w1 := [(x10, .inr (8, [.int i9, .ref s1, .ref x4, .ref x9, .ref s4, .ref s5])), (x4, .inr (5, f_x4)), (x9, .inr (9, f_x9)), (x6, .inr (1, f_x6)), (s1, .inl (cI, 4, .inl f6)), (s4, .inl (cI, 4, .inl f7)), (s5, .inl (cI, 32, .inl f8)), (a3, .inl (cI, 8, .inl fa3)), (a4, .inl (cI, 8, .inl fa4)), (o5, .inl (cI, 8, .inl fo5)), (o6, .inl (cI, 8, .inl fo6)), (o7, .inl (cI, 8, .inl fo7)), (o10, .inl (cI, 4, .inl fo10)), (o11, .inl (cI, 4, .inl fo11)), (o12, .inl (cI, 4, .inl fo12))]) hP hD [2, 1, 3, 4, 5, 6, 7, 8, 9, 10, 11, 12, 13, 14, 15] [0] rfl rfl (by decide +kernel) (by decide +kernel) hk1 hFc hP1 hD1
      clear hP1 hD1
      clear hz1 hk1 hPc hDc hFc
      generalize H1 = H at hP hS ht ⊢
      have hPD : pdW (dC, dI) vwCl A [(h0, .inr (10, f_h0)), (x10, .inr (8, [.int i9, .ref s1, .ref x4, .ref x9, .ref s4, .ref s5])), (x4, .inr (5, f_x4)), (x9, .inr (9, f_x9)), (x6, .inr (1, f_x6)), (s1, .inl (cI, 4, .inl f6)), (s4, .inl (cI, 4, .inl f7)), (s5, .inl (cI, 32, .inl f8)), (a3, .inl (cI, 8, .inl fa3)), (a4, .inl (cI, 8, .inl fa4)), (o5, .inl (cI, 8, .inl fo5)), (o6, .inl (cI, 8, .inl fo6)), (o7, .inl (cI, 8, .inl fo7)), (o10, .inl (cI, 4, .inl fo10)), (o11, .inl (cI, 4, .inl fo11)), (o12, .inl (cI, 4, .inl fo12))] H := ⟨hP, hD⟩
      have hP := hPD.1
      have hD := hPD.2
      clear hPD
      try dsimp only at hw5
      refine lv_iload_n hx hb dX10_toWhom_42 rfl (lv_at hl 1 rfl) ?_
      refine lv_iconst (v := (-1)) hx hb dX10_toWhom_43 (by decide) ?_
      refine lv_icmp_ne (tgt := 57) hx hb dX10_toWhom_44 (by decide) (fun c10 => ?_) (fun c10 => ?_)
      · exact absurd c1 c10
      refine lv_aload_n hx hb dX10_toWhom_47 rfl (lv_at hl 0 rfl) ?_
      refine va_get (D := (dC, dI)) (ci := 10) (v := .ref x10) (C := RX10) (T := TX10) (N := 14) hx hb hts hi_X10 hown hK hP 0 rfl rfl 10 (by decide) (hts (.fieldLink RX10 74 "LeftQuills" "sharing" "LLeftQuills$Sharing;") (wmx 5 rfl)) (fun _ h9 => h9) e_h0_10 dX10_toWhom_48 ?_
      refine va_get (D := (dC, dI)) (ci := 8) (v := .int i9) (C := RX8) (T := TX8) (N := 6) hx hb hts hi_X8 hown hK hP 1 rfl rfl 0 (by decide) (hts (.fieldLink RX10 244 "LeftQuills$Sharing" "best" "I") (wmx 6 rfl)) (fun _ h9 => h9) rfl dX10_toWhom_51 ?_
      refine lv_goto (tgt := 66) hx hb dX10_toWhom_54 (by decide) ?_
      have hP9 := hP.sub (ws' := [(h0, .inr (10, f_h0)), (x4, .inr (5, f_x4)), (x10, .inr (8, [.int i9, .ref s1, .ref x4, .ref x9, .ref s4, .ref s5])), (x9, .inr (9, f_x9)), (x6, .inr (1, f_x6)), (s1, .inl (cI, 4, .inl f6)), (s4, .inl (cI, 4, .inl f7)), (s5, .inl (cI, 32, .inl f8)), (a3, .inl (cI, 8, .inl fa3)), (a4, .inl (cI, 8, .inl fa4)), (o5, .inl (cI, 8, .inl fo5)), (o6, .inl (cI, 8, .inl fo6)), (o7, .inl (cI, 8, .inl fo7)), (o10, .inl (cI, 4, .inl fo10)), (o11, .inl (cI, 4, .inl fo11)), (o12, .inl (cI, 4, .inl fo12))]) [0, 2, 1, 3, 4, 5, 6, 7, 8, 9, 10, 11, 12, 13, 14, 15] rfl
      have hD9 := hD.sub (ws' := [(h0, .inr (10, f_h0)), (x4, .inr (5, f_x4)), (x10, .inr (8, [.int i9, .ref s1, .ref x4, .ref x9, .ref s4, .ref s5])), (x9, .inr (9, f_x9)), (x6, .inr (1, f_x6)), (s1, .inl (cI, 4, .inl f6)), (s4, .inl (cI, 4, .inl f7)), (s5, .inl (cI, 32, .inl f8)), (a3, .inl (cI, 8, .inl fa3)), (a4, .inl (cI, 8, .inl fa4)), (o5, .inl (cI, 8, .inl fo5)), (o6, .inl (cI, 8, .inl fo6)), (o7, .inl (cI, 8, .inl fo7)), (o10, .inl (cI, 4, .inl fo10)), (o11, .inl (cI, 4, .inl fo11)), (o12, .inl (cI, 4, .inl fo12))]) [0, 2, 1, 3, 4, 5, 6, 7, 8, 9, 10, 11, 12, 13, 14, 15] (by decide +kernel) rfl
      exact W.iret (v := i9) hx hb hr (fun t ht hW => ⟨⟨i9, (fun _ => 0), rfl, trivial, ⟨f6, f7, f8, i9, va_hq ht hP9, hD9⟩⟩, hS.F ht⟩) hS.2.2 dX10_toWhom_66
    ·
      have c2 : ¬ nh ≤ nq := fun h => c2 ((nI_leI (a := nh) (b := nq) (by omega) (by omega)).mpr h)
      refine lv_iconst (v := (-1)) hx hb dX10_toWhom_33 (by decide) ?_
      have hP9 := hP.sub (ws' := [(h0, .inr (10, f_h0)), (x4, .inr (5, f_x4)), (x10, .inr (8, [.int be, .ref s1, .ref x4, .ref x9, .ref s4, .ref s5])), (x9, .inr (9, f_x9)), (x6, .inr (1, f_x6)), (s1, .inl (cI, 4, .inl fs1)), (s4, .inl (cI, 4, .inl fs4)), (s5, .inl (cI, 32, .inl fs5)), (a3, .inl (cI, 8, .inl fa3)), (a4, .inl (cI, 8, .inl fa4)), (o5, .inl (cI, 8, .inl fo5)), (o6, .inl (cI, 8, .inl fo6)), (o7, .inl (cI, 8, .inl fo7)), (o10, .inl (cI, 4, .inl fo10)), (o11, .inl (cI, 4, .inl fo11)), (o12, .inl (cI, 4, .inl fo12))]) [0, 1, 2, 3, 4, 5, 6, 7, 8, 9, 10, 11, 12, 13, 14, 15] rfl
      have hD9 := hD.sub (ws' := [(h0, .inr (10, f_h0)), (x4, .inr (5, f_x4)), (x10, .inr (8, [.int be, .ref s1, .ref x4, .ref x9, .ref s4, .ref s5])), (x9, .inr (9, f_x9)), (x6, .inr (1, f_x6)), (s1, .inl (cI, 4, .inl fs1)), (s4, .inl (cI, 4, .inl fs4)), (s5, .inl (cI, 32, .inl fs5)), (a3, .inl (cI, 8, .inl fa3)), (a4, .inl (cI, 8, .inl fa4)), (o5, .inl (cI, 8, .inl fo5)), (o6, .inl (cI, 8, .inl fo6)), (o7, .inl (cI, 8, .inl fo7)), (o10, .inl (cI, 4, .inl fo10)), (o11, .inl (cI, 4, .inl fo11)), (o12, .inl (cI, 4, .inl fo12))]) [0, 1, 2, 3, 4, 5, 6, 7, 8, 9, 10, 11, 12, 13, 14, 15] (by decide +kernel) rfl
      exact W.iret (v := (-1)) hx hb hr (fun t ht hW => ⟨⟨(-1), (fun _ => 0), rfl, trivial, ⟨fs1, fs4, fs5, be, va_hq ht hP9, hD9⟩⟩, hS.F ht⟩) hS.2.2 dX10_toWhom_34
  ·
    refine lv_aload_n hx hb dX10_toWhom_5 rfl (lv_at hl 0 rfl) ?_
    refine lv_iload_n hx hb dX10_toWhom_6 rfl (lv_at hl 1 rfl) ?_
    have hPc := hP.sub (ws' := [(h0, .inr (10, f_h0)), (x4, .inr (5, f_x4))]) [0, 1] rfl
    refine va_calli (va_runV (As := [.int q0]) (rest := []) ⟨hx, hb, hml, hown, hts⟩ (c_X10_isHand l dC dI cI cZ cQ h0 x4 f_h0 (nI nh) f_x4 q0 s.heap.size e_h0_4 e_x4_4) (cwV 1 hts gX10_toWhom_X10_isHand rfl rfl rfl hd_X10_isHand_RX10 ⟨Nat.le_of_ble_eq_true rfl, Nat.le_of_ble_eq_true rfl⟩) (pv_R (va_recv hK hP (ci := 10) (q0 := 0) rfl rfl) hK hPc) rfl rfl hl.1 rfl (lv_room (Nat.le_of_ble_eq_true rfl)) dX10_toWhom_7 ⟨Nat.le_of_ble_eq_true rfl, Nat.le_of_ble_eq_true rfl⟩) hS (fun q _ h => False.elim h) (fun q h => False.elim h) (fun r11 u12 t H1 locs ht hvm hw13 hB hz1 hk1 hS => ?_)
    have hP := hP.kept (fun k q hk => hk1 q.1 (hP k q hk).lt (fun h => h))
    clear hz1 hk1 hPc
    generalize H1 = H at hP hS ht ⊢
    try dsimp only at hw13
    rcases hw13 with ⟨rfl, hw13⟩ | ⟨rfl, hw13⟩
    ·
      obtain ⟨j14, hj14, rfl⟩ := x_ix hw13 (by omega)
      refine lv_if_ne (tgt := 16) hx hb dX10_toWhom_10 (by decide) (fun c15 => ?_) (fun c15 => ?_)
      rotate_left
      · exact absurd c15 (by decide)
      clear c15
      refine lv_aload_n hx hb dX10_toWhom_16 rfl (lv_at hl 0 rfl) ?_
      refine va_get (D := (dC, dI)) (ci := 10) (v := .ref x4) (C := RX10) (T := TX10) (N := 14) hx hb hts hi_X10 hown hK hP 0 rfl rfl 4 (by decide) (hts (.fieldLink RX10 26 "LeftQuills" "office" "LLeftQuills$Office;") (wmx 2 rfl)) (fun _ h9 => h9) e_h0_4 dX10_toWhom_17 ?_
      refine va_get (D := (dC, dI)) (ci := 5) (v := .int (nI nq)) (C := RX5) (T := TX5) (N := 13) hx hb hts hi_X5 hown hK hP 1 rfl rfl 3 (by decide) (hts (.fieldLink RX10 127 "LeftQuills$Office" "quills" "I") (wmx 3 rfl)) (fun _ h9 => h9) e_x4_3 dX10_toWhom_20 ?_
      refine lv_aload_n hx hb dX10_toWhom_23 rfl (lv_at hl 0 rfl) ?_
      refine va_get (D := (dC, dI)) (ci := 10) (v := .ref x4) (C := RX10) (T := TX10) (N := 14) hx hb hts hi_X10 hown hK hP 0 rfl rfl 4 (by decide) (hts (.fieldLink RX10 26 "LeftQuills" "office" "LLeftQuills$Office;") (wmx 2 rfl)) (fun _ h9 => h9) e_h0_4 dX10_toWhom_24 ?_
      refine va_get (D := (dC, dI)) (ci := 5) (v := .int (nI nh)) (C := RX5) (T := TX5) (N := 13) hx hb hts hi_X5 hown hK hP 1 rfl rfl 4 (by decide) (hts (.fieldLink RX10 136 "LeftQuills$Office" "hands" "I") (wmx 4 rfl)) (fun _ h9 => h9) e_x4_4 dX10_toWhom_27 ?_
      refine lv_icmp_ge (tgt := 35) hx hb dX10_toWhom_30 (by decide) (fun c16 => ?_) (fun c16 => ?_)
      ·
        have c16 : nh ≤ nq := (nI_leI (a := nh) (b := nq) (by omega) (by omega)).mp c16
        refine lv_aload_n hx hb dX10_toWhom_35 rfl (lv_at hl 0 rfl) ?_
        refine va_get (D := (dC, dI)) (ci := 10) (v := .ref x10) (C := RX10) (T := TX10) (N := 14) hx hb hts hi_X10 hown hK hP 0 rfl rfl 10 (by decide) (hts (.fieldLink RX10 74 "LeftQuills" "sharing" "LLeftQuills$Sharing;") (wmx 5 rfl)) (fun _ h9 => h9) e_h0_10 dX10_toWhom_36 ?_
        have hc9 := va_cut (W' := [(x10, .inr (8, [.int be, .ref s1, .ref x4, .ref x9, .ref s4, .ref s5])), (x4, .inr (5, f_x4)), (x9, .inr (9, f_x9)), (x6, .inr (1, f_x6)), (s1, .inl (cI, 4, .inl fs1)), (s4, .inl (cI, 4, .inl fs4)), (s5, .inl (cI, 32, .inl fs5)), (a3, .inl (cI, 8, .inl fa3)), (a4, .inl (cI, 8, .inl fa4)), (o5, .inl (cI, 8, .inl fo5)), (o6, .inl (cI, 8, .inl fo6)), (o7, .inl (cI, 8, .inl fo7)), (o10, .inl (cI, 4, .inl fo10)), (o11, .inl (cI, 4, .inl fo11)), (o12, .inl (cI, 4, .inl fo12))]) hP hD hS hA [2, 1, 3, 4, 5, 6, 7, 8, 9, 10, 11, 12, 13, 14, 15] (by decide +kernel) rfl
        have hPc := hc9.1
        have hDc := hc9.2.1
        have hFc := hc9.2.2
        clear hc9
        refine va_callv (va_runV (As := []) (rest := []) ⟨hx, hb, hml, hown, hts⟩ (c_X8_find l dC dI cI cZ cQ x10 be s1 x4 x9 s4 s5 o5 o6 o7 o10 o11 o12 nq nh f_x4 x6 f_x9 a3 a4 f_x6 fs1 fs4 fs5 fa3 fa4 fo5 fo6 fo7 fo10 fo11 fo12 H.size e_x4_5 e_x4_6 e_x4_7 e_x4_10 e_x4_11 e_x4_12 e_x4_3 e_x4_4 e_x9_0 e_x9_1 e_x6_3 e_x6_4 (by omega) (by omega)) (cwV 0 hts gX10_toWhom_X8_find rfl rfl rfl hd_X8_find_RX8 ⟨Nat.le_of_ble_eq_true rfl, Nat.le_of_ble_eq_true rfl⟩) ⟨fun a U g mk q => by obtain ⟨q0, q1, qP, qK, qD, qN⟩ := q; exact ⟨q0, q1, qP, va_K.moved (u := U) (U := U.calling g mk a) (Vm.Alike.refl U.vm) qK, qD, qN.calling⟩, va_recv hK hP (ci := 8) (q0 := 2) rfl rfl, fun U hU hW => ⟨rfl, by rw [hU], by rw [hU]; exact hPc, va_K.moved hW.alike hK, hDc.weaken (fun _ _ _ _ => trivial), hN.warm hW⟩⟩ rfl rfl hl.1 rfl (lv_room (Nat.le_of_ble_eq_true rfl)) dX10_toWhom_39 ⟨Nat.le_of_ble_eq_true rfl, Nat.le_of_ble_eq_true rfl⟩) hS (fun q _ h => hFc q h) hFc (fun u18 t H1 locs ht hvm hw19 hB hz1 hk1 hS => ?_)
        obtain ⟨f20, f21, f22, i23, hP1, hD1⟩ := hB
        replace hP1 := va_hp ht hP1
        obtain ⟨hP, hD⟩ := va_join (wr := [(h0, .inr (10, f_h0))]) (w1 := [(x10, .inr (8, [.int i23, .ref s1, .ref x4, .ref x9, .ref s4, .ref s5])), (x4, .inr (5, f_x4)), (x9, .inr (9, f_x9)), (x6, .inr (1, f_x6)), (s1, .inl (cI, 4, .inl f20)), (s4, .inl (cI, 4, .inl f21)), (s5, .inl (cI, 32, .inl f22)), (a3, .inl (cI, 8, .inl fa3)), (a4, .inl (cI, 8, .inl fa4)), (o5, .inl (cI, 8, .inl fo5)), (o6, .inl (cI, 8, .inl fo6)), (o7, .inl (cI, 8, .inl fo7)), (o10, .inl (cI, 4, .inl fo10)), (o11, .inl (cI, 4, .inl fo11)), (o12, .inl (cI, 4, .inl fo12))]) hP hD [2, 1, 3, 4, 5, 6, 7, 8, 9, 10, 11, 12, 13, 14, 15] [0] rfl rfl (by decide +kernel) (by decide +kernel) hk1 hFc hP1 hD1
        clear hP1 hD1
        clear hz1 hk1 hPc hDc hFc
        generalize H1 = H at hP hS ht ⊢
        have hPD : pdW (dC, dI) vwCl A [(h0, .inr (10, f_h0)), (x10, .inr (8, [.int i23, .ref s1, .ref x4, .ref x9, .ref s4, .ref s5])), (x4, .inr (5, f_x4)), (x9, .inr (9, f_x9)), (x6, .inr (1, f_x6)), (s1, .inl (cI, 4, .inl f20)), (s4, .inl (cI, 4, .inl f21)), (s5, .inl (cI, 32, .inl f22)), (a3, .inl (cI, 8, .inl fa3)), (a4, .inl (cI, 8, .inl fa4)), (o5, .inl (cI, 8, .inl fo5)), (o6, .inl (cI, 8, .inl fo6)), (o7, .inl (cI, 8, .inl fo7)), (o10, .inl (cI, 4, .inl fo10)), (o11, .inl (cI, 4, .inl fo11)), (o12, .inl (cI, 4, .inl fo12))] H := ⟨hP, hD⟩
        have hP := hPD.1
        have hD := hPD.2
        clear hPD
        try dsimp only at hw19
        refine lv_iload_n hx hb dX10_toWhom_42 rfl (lv_at hl 1 rfl) ?_
        refine lv_iconst (v := (-1)) hx hb dX10_toWhom_43 (by decide) ?_
        refine lv_icmp_ne (tgt := 57) hx hb dX10_toWhom_44 (by decide) (fun c24 => ?_) (fun c24 => ?_)
        ·
          refine lv_aload_n hx hb dX10_toWhom_57 rfl (lv_at hl 0 rfl) ?_
          refine va_get (D := (dC, dI)) (ci := 10) (v := .ref x10) (C := RX10) (T := TX10) (N := 14) hx hb hts hi_X10 hown hK hP 0 rfl rfl 10 (by decide) (hts (.fieldLink RX10 74 "LeftQuills" "sharing" "LLeftQuills$Sharing;") (wmx 5 rfl)) (fun _ h9 => h9) e_h0_10 dX10_toWhom_58 ?_
          refine va_get (D := (dC, dI)) (ci := 8) (v := .ref s1) (C := RX8) (T := TX8) (N := 6) hx hb hts hi_X8 hown hK hP 1 rfl rfl 1 (by decide) (hts (.fieldLink RX10 247 "LeftQuills$Sharing" "bestQuill" "[I") (wmx 7 rfl)) (fun _ h9 => h9) rfl dX10_toWhom_61 ?_
          refine lv_iload_n hx hb dX10_toWhom_64 rfl (lv_at hl 1 rfl) ?_
          refine va_iald hx hb hK hP 5 0 rfl rfl (vp_in_nI (n := j14) (N := 4) (by omega) (by decide)) dX10_toWhom_65 ?_
          refine W.eq (g2 := F0 m 66 ls [.int (f20 j14)]) (congrArg (fun y9 => F0 m 66 ls (.int (f20 y9) :: [])) ((nI_clamp (n := j14) (by omega)))) ?_
          have hP9 := hP.sub (ws' := [(h0, .inr (10, f_h0)), (x4, .inr (5, f_x4)), (x10, .inr (8, [.int i23, .ref s1, .ref x4, .ref x9, .ref s4, .ref s5])), (x9, .inr (9, f_x9)), (x6, .inr (1, f_x6)), (s1, .inl (cI, 4, .inl f20)), (s4, .inl (cI, 4, .inl f21)), (s5, .inl (cI, 32, .inl f22)), (a3, .inl (cI, 8, .inl fa3)), (a4, .inl (cI, 8, .inl fa4)), (o5, .inl (cI, 8, .inl fo5)), (o6, .inl (cI, 8, .inl fo6)), (o7, .inl (cI, 8, .inl fo7)), (o10, .inl (cI, 4, .inl fo10)), (o11, .inl (cI, 4, .inl fo11)), (o12, .inl (cI, 4, .inl fo12))]) [0, 2, 1, 3, 4, 5, 6, 7, 8, 9, 10, 11, 12, 13, 14, 15] rfl
          have hD9 := hD.sub (ws' := [(h0, .inr (10, f_h0)), (x4, .inr (5, f_x4)), (x10, .inr (8, [.int i23, .ref s1, .ref x4, .ref x9, .ref s4, .ref s5])), (x9, .inr (9, f_x9)), (x6, .inr (1, f_x6)), (s1, .inl (cI, 4, .inl f20)), (s4, .inl (cI, 4, .inl f21)), (s5, .inl (cI, 32, .inl f22)), (a3, .inl (cI, 8, .inl fa3)), (a4, .inl (cI, 8, .inl fa4)), (o5, .inl (cI, 8, .inl fo5)), (o6, .inl (cI, 8, .inl fo6)), (o7, .inl (cI, 8, .inl fo7)), (o10, .inl (cI, 4, .inl fo10)), (o11, .inl (cI, 4, .inl fo11)), (o12, .inl (cI, 4, .inl fo12))]) [0, 2, 1, 3, 4, 5, 6, 7, 8, 9, 10, 11, 12, 13, 14, 15] (by decide +kernel) rfl
          exact W.iret (v := f20 j14) hx hb hr (fun t ht hW => ⟨⟨f20 j14, (fun _ => 0), rfl, trivial, ⟨f20, f21, f22, i23, va_hq ht hP9, hD9⟩⟩, hS.F ht⟩) hS.2.2 dX10_toWhom_66
        ·
          refine lv_aload_n hx hb dX10_toWhom_47 rfl (lv_at hl 0 rfl) ?_
          refine va_get (D := (dC, dI)) (ci := 10) (v := .ref x10) (C := RX10) (T := TX10) (N := 14) hx hb hts hi_X10 hown hK hP 0 rfl rfl 10 (by decide) (hts (.fieldLink RX10 74 "LeftQuills" "sharing" "LLeftQuills$Sharing;") (wmx 5 rfl)) (fun _ h9 => h9) e_h0_10 dX10_toWhom_48 ?_
          refine va_get (D := (dC, dI)) (ci := 8) (v := .int i23) (C := RX8) (T := TX8) (N := 6) hx hb hts hi_X8 hown hK hP 1 rfl rfl 0 (by decide) (hts (.fieldLink RX10 244 "LeftQuills$Sharing" "best" "I") (wmx 6 rfl)) (fun _ h9 => h9) rfl dX10_toWhom_51 ?_
          refine lv_goto (tgt := 66) hx hb dX10_toWhom_54 (by decide) ?_
          have hP9 := hP.sub (ws' := [(h0, .inr (10, f_h0)), (x4, .inr (5, f_x4)), (x10, .inr (8, [.int i23, .ref s1, .ref x4, .ref x9, .ref s4, .ref s5])), (x9, .inr (9, f_x9)), (x6, .inr (1, f_x6)), (s1, .inl (cI, 4, .inl f20)), (s4, .inl (cI, 4, .inl f21)), (s5, .inl (cI, 32, .inl f22)), (a3, .inl (cI, 8, .inl fa3)), (a4, .inl (cI, 8, .inl fa4)), (o5, .inl (cI, 8, .inl fo5)), (o6, .inl (cI, 8, .inl fo6)), (o7, .inl (cI, 8, .inl fo7)), (o10, .inl (cI, 4, .inl fo10)), (o11, .inl (cI, 4, .inl fo11)), (o12, .inl (cI, 4, .inl fo12))]) [0, 2, 1, 3, 4, 5, 6, 7, 8, 9, 10, 11, 12, 13, 14, 15] rfl
          have hD9 := hD.sub (ws' := [(h0, .inr (10, f_h0)), (x4, .inr (5, f_x4)), (x10, .inr (8, [.int i23, .ref s1, .ref x4, .ref x9, .ref s4, .ref s5])), (x9, .inr (9, f_x9)), (x6, .inr (1, f_x6)), (s1, .inl (cI, 4, .inl f20)), (s4, .inl (cI, 4, .inl f21)), (s5, .inl (cI, 32, .inl f22)), (a3, .inl (cI, 8, .inl fa3)), (a4, .inl (cI, 8, .inl fa4)), (o5, .inl (cI, 8, .inl fo5)), (o6, .inl (cI, 8, .inl fo6)), (o7, .inl (cI, 8, .inl fo7)), (o10, .inl (cI, 4, .inl fo10)), (o11, .inl (cI, 4, .inl fo11)), (o12, .inl (cI, 4, .inl fo12))]) [0, 2, 1, 3, 4, 5, 6, 7, 8, 9, 10, 11, 12, 13, 14, 15] (by decide +kernel) rfl
          exact W.iret (v := i23) hx hb hr (fun t ht hW => ⟨⟨i23, (fun _ => 0), rfl, trivial, ⟨f20, f21, f22, i23, va_hq ht hP9, hD9⟩⟩, hS.F ht⟩) hS.2.2 dX10_toWhom_66
      ·
        have c16 : ¬ nh ≤ nq := fun h => c16 ((nI_leI (a := nh) (b := nq) (by omega) (by omega)).mpr h)
        refine lv_iconst (v := (-1)) hx hb dX10_toWhom_33 (by decide) ?_
        have hP9 := hP.sub (ws' := [(h0, .inr (10, f_h0)), (x4, .inr (5, f_x4)), (x10, .inr (8, [.int be, .ref s1, .ref x4, .ref x9, .ref s4, .ref s5])), (x9, .inr (9, f_x9)), (x6, .inr (1, f_x6)), (s1, .inl (cI, 4, .inl fs1)), (s4, .inl (cI, 4, .inl fs4)), (s5, .inl (cI, 32, .inl fs5)), (a3, .inl (cI, 8, .inl fa3)), (a4, .inl (cI, 8, .inl fa4)), (o5, .inl (cI, 8, .inl fo5)), (o6, .inl (cI, 8, .inl fo6)), (o7, .inl (cI, 8, .inl fo7)), (o10, .inl (cI, 4, .inl fo10)), (o11, .inl (cI, 4, .inl fo11)), (o12, .inl (cI, 4, .inl fo12))]) [0, 1, 2, 3, 4, 5, 6, 7, 8, 9, 10, 11, 12, 13, 14, 15] rfl
        have hD9 := hD.sub (ws' := [(h0, .inr (10, f_h0)), (x4, .inr (5, f_x4)), (x10, .inr (8, [.int be, .ref s1, .ref x4, .ref x9, .ref s4, .ref s5])), (x9, .inr (9, f_x9)), (x6, .inr (1, f_x6)), (s1, .inl (cI, 4, .inl fs1)), (s4, .inl (cI, 4, .inl fs4)), (s5, .inl (cI, 32, .inl fs5)), (a3, .inl (cI, 8, .inl fa3)), (a4, .inl (cI, 8, .inl fa4)), (o5, .inl (cI, 8, .inl fo5)), (o6, .inl (cI, 8, .inl fo6)), (o7, .inl (cI, 8, .inl fo7)), (o10, .inl (cI, 4, .inl fo10)), (o11, .inl (cI, 4, .inl fo11)), (o12, .inl (cI, 4, .inl fo12))]) [0, 1, 2, 3, 4, 5, 6, 7, 8, 9, 10, 11, 12, 13, 14, 15] (by decide +kernel) rfl
        exact W.iret (v := (-1)) hx hb hr (fun t ht hW => ⟨⟨(-1), (fun _ => 0), rfl, trivial, ⟨fs1, fs4, fs5, be, va_hq ht hP9, hD9⟩⟩, hS.F ht⟩) hS.2.2 dX10_toWhom_34
    ·
      refine lv_if_ne (tgt := 16) hx hb dX10_toWhom_10 (by decide) (fun c25 => ?_) (fun c25 => ?_)
      · exact absurd c25 (by decide)
      clear c25
      refine lv_ldc (v := (-1000000001)) hx hb hown (hts (.constant RX10 160 (-1000000001)) (wmx 1 rfl)) dX10_toWhom_13 ?_
      have hP9 := hP.sub (ws' := [(h0, .inr (10, f_h0)), (x4, .inr (5, f_x4)), (x10, .inr (8, [.int be, .ref s1, .ref x4, .ref x9, .ref s4, .ref s5])), (x9, .inr (9, f_x9)), (x6, .inr (1, f_x6)), (s1, .inl (cI, 4, .inl fs1)), (s4, .inl (cI, 4, .inl fs4)), (s5, .inl (cI, 32, .inl fs5)), (a3, .inl (cI, 8, .inl fa3)), (a4, .inl (cI, 8, .inl fa4)), (o5, .inl (cI, 8, .inl fo5)), (o6, .inl (cI, 8, .inl fo6)), (o7, .inl (cI, 8, .inl fo7)), (o10, .inl (cI, 4, .inl fo10)), (o11, .inl (cI, 4, .inl fo11)), (o12, .inl (cI, 4, .inl fo12))]) [0, 1, 2, 3, 4, 5, 6, 7, 8, 9, 10, 11, 12, 13, 14, 15] rfl
      have hD9 := hD.sub (ws' := [(h0, .inr (10, f_h0)), (x4, .inr (5, f_x4)), (x10, .inr (8, [.int be, .ref s1, .ref x4, .ref x9, .ref s4, .ref s5])), (x9, .inr (9, f_x9)), (x6, .inr (1, f_x6)), (s1, .inl (cI, 4, .inl fs1)), (s4, .inl (cI, 4, .inl fs4)), (s5, .inl (cI, 32, .inl fs5)), (a3, .inl (cI, 8, .inl fa3)), (a4, .inl (cI, 8, .inl fa4)), (o5, .inl (cI, 8, .inl fo5)), (o6, .inl (cI, 8, .inl fo6)), (o7, .inl (cI, 8, .inl fo7)), (o10, .inl (cI, 4, .inl fo10)), (o11, .inl (cI, 4, .inl fo11)), (o12, .inl (cI, 4, .inl fo12))]) [0, 1, 2, 3, 4, 5, 6, 7, 8, 9, 10, 11, 12, 13, 14, 15] (by decide +kernel) rfl
      exact W.iret (v := (-1000000001)) hx hb hr (fun t ht hW => ⟨⟨(-1000000001), (fun _ => 0), rfl, trivial, ⟨fs1, fs4, fs5, be, va_hq ht hP9, hD9⟩⟩, hS.F ht⟩) hS.2.2 dX10_toWhom_15

