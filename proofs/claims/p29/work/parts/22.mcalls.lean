set_option maxHeartbeats 4000000 in
set_option maxRecDepth 100000 in
theorem c_X11_told (l : Launch) (dC : Nat → ClassId) (dI : Nat → Nat → Nat) (cI cZ cQ : ClassId) (h0 : Nat) (n0 : Int32) (n1 : Int32) (nq : Nat) (nh : Nat) (m10 : Nat) (tx : Nat) (un : Nat) (wm : Nat) (bk : Nat) (f_h0 : List Value) (fm10 : Nat → Int32) (q0 : Int32) (sz : Nat) (e_h0_0 : fAt f_h0 0 = some (.int n0)) (e_h0_1 : fAt f_h0 1 = some (.int n1)) (e_h0_2 : fAt f_h0 2 = some (.int (nI nq))) (e_h0_6 : fAt f_h0 6 = some (.int (nI nh))) (e_h0_10 : fAt f_h0 10 = some (.ref m10)) (e_h0_13 : fAt f_h0 13 = some (.int (nI tx))) (e_h0_29 : fAt f_h0 29 = some (.int (nI un))) (e_h0_37 : fAt f_h0 37 = some (.int (nI wm))) (e_h0_41 : fAt f_h0 41 = some (.int (nI bk))) (hnq : nq ≤ 8) (hnh : nh ≤ 4) : Met l yX11_told wsX11_told ({ frames := 1, cells := 0, slots := 0, locals := 63 }) (va_Pc [.ref h0, .int q0] (fun U => U.heap.size = sz ∧ va_P (dC, dI) vwCl [(h0, .inr (11, f_h0)), (m10, .inl (cI, 34, .inl fm10))] U.heap ∧ va_K (dC, dI) vwCl (tys0 cI cZ cQ) U)) (va_Qi (fun (r : Int32) (u : Nat → Nat) => True) (fun (_ : Nat → Nat) (_ : State) => True) (fun _ : Nat => False)) 0 0 (fun _ : Nat => False) := by
  refine Met.ofW (cc := cX11_told) (maxL := 2) (ret := (some .int)) (by decide) rfl ?_
  intro p e s m args below meth c s₁ B hml hv
  obtain ⟨rfl, hsz, hP, hK⟩ := hv
  have hx := B.exec
  have hb := B.bytes
  have hr := B.returns
  have hts := atoms_spec (ws := wsX11_told) B.pre
  have hown : s.vm.findClass RX11 = some m.cls := findClass_of_methodNamed B.named
  have hlocks := B.notSynchronized
  have hi_X11 : ∀ w ∈ u_ws RX11 TX11 46, w ∈ wsX11_told := fun _ h => List.mem_cons_of_mem _ (List.mem_append_right _ (h))
  subst hsz
  have hS : va_S (fun _ : Nat => False) s.heap s.heap [] := va_S.rf
  have hl := lv_entry ([.ref h0, .int q0]) (n := 2) (Nat.le_of_ble_eq_true rfl)
  rw [lg_entry_eq]
  generalize (lg_sl ([.ref h0, .int q0]) ++ List.replicate (2 - (lg_sl ([.ref h0, .int q0])).length) Slot.unset).toArray = ls at hl ⊢
  have hl : lv_has ls 2 [(0, .ref h0), (1, .int q0)] := hl
  refine lv_iload_n hx hb dX11_told_0 rfl (lv_at hl 1 rfl) ?_
  by_cases c1 : q0.toInt < 0 ∨ 12 < q0.toInt
  · refine lv_tableOut (tgt := 143) hx hb dX11_told_1 c1 (by decide) ?_
    refine lv_ldc (v := (-1000000002)) hx hb hown (hts (.constant RX11 111 (-1000000002)) (wmx 10 rfl)) dX11_told_143 ?_
    exact W.iret (v := (-1000000002)) hx hb hr (fun t ht hW => ⟨⟨(-1000000002), (fun _ => 0), rfl, trivial, trivial⟩, hS.F ht⟩) hS.2.2 dX11_told_145
  have h2 := x_sw_0_12 c1
  rcases h2 with h2 | h2 | h2 | h2 | h2 | h2 | h2 | h2 | h2 | h2 | h2 | h2 | h2
  · refine lv_tableIn (tgt := 68) hx hb dX11_told_1 (by rw [h2]; decide) (by rw [h2]; decide) (by rw [h2]; rfl) (by decide) ?_
    refine lv_aload_n hx hb dX11_told_68 rfl (lv_at hl 0 rfl) ?_
    refine va_get (D := (dC, dI)) (ci := 11) (v := .int n0) (C := RX11) (T := TX11) (N := 46) hx hb hts hi_X11 hown hK hP 0 rfl rfl 0 (by decide) (hts (.fieldLink RX11 96 "LeftQuillsModel" "blunt" "I") (wmx 1 rfl)) (fun _ h9 => h9) e_h0_0 dX11_told_69 ?_
    exact W.iret (v := n0) hx hb hr (fun t ht hW => ⟨⟨n0, (fun _ => 0), rfl, trivial, trivial⟩, hS.F ht⟩) hS.2.2 dX11_told_72
  · refine lv_tableIn (tgt := 73) hx hb dX11_told_1 (by rw [h2]; decide) (by rw [h2]; decide) (by rw [h2]; rfl) (by decide) ?_
    refine lv_aload_n hx hb dX11_told_73 rfl (lv_at hl 0 rfl) ?_
    refine va_get (D := (dC, dI)) (ci := 11) (v := .int n1) (C := RX11) (T := TX11) (N := 46) hx hb hts hi_X11 hown hK hP 0 rfl rfl 1 (by decide) (hts (.fieldLink RX11 159 "LeftQuillsModel" "mendTakes" "I") (wmx 2 rfl)) (fun _ h9 => h9) e_h0_1 dX11_told_74 ?_
    exact W.iret (v := n1) hx hb hr (fun t ht hW => ⟨⟨n1, (fun _ => 0), rfl, trivial, trivial⟩, hS.F ht⟩) hS.2.2 dX11_told_77
  · refine lv_tableIn (tgt := 78) hx hb dX11_told_1 (by rw [h2]; decide) (by rw [h2]; decide) (by rw [h2]; rfl) (by decide) ?_
    refine lv_aload_n hx hb dX11_told_78 rfl (lv_at hl 0 rfl) ?_
    refine va_get (D := (dC, dI)) (ci := 11) (v := .int (nI nq)) (C := RX11) (T := TX11) (N := 46) hx hb hts hi_X11 hown hK hP 0 rfl rfl 2 (by decide) (hts (.fieldLink RX11 99 "LeftQuillsModel" "quills" "I") (wmx 3 rfl)) (fun _ h9 => h9) e_h0_2 dX11_told_79 ?_
    exact W.iret (v := nI nq) hx hb hr (fun t ht hW => ⟨⟨nI nq, (fun _ => 0), rfl, trivial, trivial⟩, hS.F ht⟩) hS.2.2 dX11_told_82
  · refine lv_tableIn (tgt := 83) hx hb dX11_told_1 (by rw [h2]; decide) (by rw [h2]; decide) (by rw [h2]; rfl) (by decide) ?_
    refine lv_aload_n hx hb dX11_told_83 rfl (lv_at hl 0 rfl) ?_
    refine va_get (D := (dC, dI)) (ci := 11) (v := .int (nI nh)) (C := RX11) (T := TX11) (N := 46) hx hb hts hi_X11 hown hK hP 0 rfl rfl 6 (by decide) (hts (.fieldLink RX11 106 "LeftQuillsModel" "hands" "I") (wmx 4 rfl)) (fun _ h9 => h9) e_h0_6 dX11_told_84 ?_
    exact W.iret (v := nI nh) hx hb hr (fun t ht hW => ⟨⟨nI nh, (fun _ => 0), rfl, trivial, trivial⟩, hS.F ht⟩) hS.2.2 dX11_told_87
  · refine lv_tableIn (tgt := 88) hx hb dX11_told_1 (by rw [h2]; decide) (by rw [h2]; decide) (by rw [h2]; rfl) (by decide) ?_
    refine lv_aload_n hx hb dX11_told_88 rfl (lv_at hl 0 rfl) ?_
    refine va_get (D := (dC, dI)) (ci := 11) (v := .int (nI tx)) (C := RX11) (T := TX11) (N := 46) hx hb hts hi_X11 hown hK hP 0 rfl rfl 13 (by decide) (hts (.fieldLink RX11 112 "LeftQuillsModel" "texted" "I") (wmx 5 rfl)) (fun _ h9 => h9) e_h0_13 dX11_told_89 ?_
    exact W.iret (v := nI tx) hx hb hr (fun t ht hW => ⟨⟨nI tx, (fun _ => 0), rfl, trivial, trivial⟩, hS.F ht⟩) hS.2.2 dX11_told_92
  · refine lv_tableIn (tgt := 93) hx hb dX11_told_1 (by rw [h2]; decide) (by rw [h2]; decide) (by rw [h2]; rfl) (by decide) ?_
    refine lv_aload_n hx hb dX11_told_93 rfl (lv_at hl 0 rfl) ?_
    refine va_get (D := (dC, dI)) (ci := 11) (v := .ref m10) (C := RX11) (T := TX11) (N := 46) hx hb hts hi_X11 hown hK hP 0 rfl rfl 10 (by decide) (hts (.fieldLink RX11 28 "LeftQuillsModel" "now" "[I") (wmx 6 rfl)) (fun _ h9 => h9) e_h0_10 dX11_told_94 ?_
    refine lv_bipush (v := 32) hx hb dX11_told_97 (by decide) ?_
    refine va_iald hx hb hK hP 1 0 rfl rfl (vp_in_iff.mpr ⟨by decide, by decide⟩) dX11_told_99 ?_
    refine W.eq (g2 := F0 m 100 ls [.int (fm10 32)]) (congrArg (fun y9 => F0 m 100 ls (.int (fm10 y9) :: [])) ((show ((32 : Int32)).toNatClampNeg = 32 from by decide))) ?_
    exact W.iret (v := fm10 32) hx hb hr (fun t ht hW => ⟨⟨fm10 32, (fun _ => 0), rfl, trivial, trivial⟩, hS.F ht⟩) hS.2.2 dX11_told_100
  · refine lv_tableIn (tgt := 101) hx hb dX11_told_1 (by rw [h2]; decide) (by rw [h2]; decide) (by rw [h2]; rfl) (by decide) ?_
    refine lv_aload_n hx hb dX11_told_101 rfl (lv_at hl 0 rfl) ?_
    refine va_get (D := (dC, dI)) (ci := 11) (v := .ref m10) (C := RX11) (T := TX11) (N := 46) hx hb hts hi_X11 hown hK hP 0 rfl rfl 10 (by decide) (hts (.fieldLink RX11 28 "LeftQuillsModel" "now" "[I") (wmx 6 rfl)) (fun _ h9 => h9) e_h0_10 dX11_told_102 ?_
    refine lv_bipush (v := 33) hx hb dX11_told_105 (by decide) ?_
    refine va_iald hx hb hK hP 1 0 rfl rfl (vp_in_iff.mpr ⟨by decide, by decide⟩) dX11_told_107 ?_
    refine W.eq (g2 := F0 m 108 ls [.int (fm10 33)]) (congrArg (fun y9 => F0 m 108 ls (.int (fm10 y9) :: [])) ((show ((33 : Int32)).toNatClampNeg = 33 from by decide))) ?_
    exact W.iret (v := fm10 33) hx hb hr (fun t ht hW => ⟨⟨fm10 33, (fun _ => 0), rfl, trivial, trivial⟩, hS.F ht⟩) hS.2.2 dX11_told_108
  · refine lv_tableIn (tgt := 109) hx hb dX11_told_1 (by rw [h2]; decide) (by rw [h2]; decide) (by rw [h2]; rfl) (by decide) ?_
    refine lv_aload_n hx hb dX11_told_109 rfl (lv_at hl 0 rfl) ?_
    refine lv_bipush (v := 24) hx hb dX11_told_110 (by decide) ?_
    have hPc := hP.sub (ws' := [(h0, .inr (11, f_h0)), (m10, .inl (cI, 34, .inl fm10))]) [0, 1] rfl
    refine va_calli (va_runV (As := [.int 24]) (rest := []) ⟨hx, hb, hml, hown, hts⟩ (c_X11_sumOf l dC dI cI cZ cQ h0 nh m10 f_h0 fm10 24 s.heap.size e_h0_6 e_h0_10 (by omega) (by omega)) (cwV 1 hts gX11_told_X11_sumOf rfl rfl rfl hd_X11_sumOf_RX11 ⟨Nat.le_of_ble_eq_true rfl, Nat.le_of_ble_eq_true rfl⟩) (pv_R (va_recv hK hP (ci := 11) (q0 := 0) rfl rfl) hK hPc) rfl rfl hl.1 rfl (lv_room (Nat.le_of_ble_eq_true rfl)) dX11_told_112 ⟨Nat.le_of_ble_eq_true rfl, Nat.le_of_ble_eq_true rfl⟩) hS (fun q _ h => False.elim h) (fun q h => False.elim h) (fun r3 u4 t H1 locs ht hvm hw5 hB hz1 hk1 hS => ?_)
    have hP := hP.kept (fun k q hk => hk1 q.1 (hP k q hk).lt (fun h => h))
    clear hz1 hk1 hPc
    generalize H1 = H at hP hS ht ⊢
    try dsimp only at hw5
    exact W.iret (v := r3) hx hb hr (fun t ht hW => ⟨⟨r3, (fun _ => 0), rfl, trivial, trivial⟩, hS.F ht⟩) hS.2.2 dX11_told_115
  · refine lv_tableIn (tgt := 116) hx hb dX11_told_1 (by rw [h2]; decide) (by rw [h2]; decide) (by rw [h2]; rfl) (by decide) ?_
    refine lv_aload_n hx hb dX11_told_116 rfl (lv_at hl 0 rfl) ?_
    refine lv_bipush (v := 28) hx hb dX11_told_117 (by decide) ?_
    have hPc := hP.sub (ws' := [(h0, .inr (11, f_h0)), (m10, .inl (cI, 34, .inl fm10))]) [0, 1] rfl
    refine va_calli (va_runV (As := [.int 28]) (rest := []) ⟨hx, hb, hml, hown, hts⟩ (c_X11_sumOf l dC dI cI cZ cQ h0 nh m10 f_h0 fm10 28 s.heap.size e_h0_6 e_h0_10 (by omega) (by omega)) (cwV 1 hts gX11_told_X11_sumOf rfl rfl rfl hd_X11_sumOf_RX11 ⟨Nat.le_of_ble_eq_true rfl, Nat.le_of_ble_eq_true rfl⟩) (pv_R (va_recv hK hP (ci := 11) (q0 := 0) rfl rfl) hK hPc) rfl rfl hl.1 rfl (lv_room (Nat.le_of_ble_eq_true rfl)) dX11_told_119 ⟨Nat.le_of_ble_eq_true rfl, Nat.le_of_ble_eq_true rfl⟩) hS (fun q _ h => False.elim h) (fun q h => False.elim h) (fun r6 u7 t H1 locs ht hvm hw8 hB hz1 hk1 hS => ?_)
    have hP := hP.kept (fun k q hk => hk1 q.1 (hP k q hk).lt (fun h => h))
    clear hz1 hk1 hPc
    generalize H1 = H at hP hS ht ⊢
    try dsimp only at hw8
    exact W.iret (v := r6) hx hb hr (fun t ht hW => ⟨⟨r6, (fun _ => 0), rfl, trivial, trivial⟩, hS.F ht⟩) hS.2.2 dX11_told_122
  · refine lv_tableIn (tgt := 123) hx hb dX11_told_1 (by rw [h2]; decide) (by rw [h2]; decide) (by rw [h2]; rfl) (by decide) ?_
    refine lv_aload_n hx hb dX11_told_123 rfl (lv_at hl 0 rfl) ?_
    have hPc := hP.sub (ws' := [(h0, .inr (11, f_h0)), (m10, .inl (cI, 34, .inl fm10))]) [0, 1] rfl
    refine va_calli (va_runV (As := []) (rest := []) ⟨hx, hb, hml, hown, hts⟩ (c_X11_softOnes l dC dI cI cZ cQ h0 nq m10 f_h0 fm10 s.heap.size e_h0_2 e_h0_10 (by omega)) (cwV 0 hts gX11_told_X11_softOnes rfl rfl rfl hd_X11_softOnes_RX11 ⟨Nat.le_of_ble_eq_true rfl, Nat.le_of_ble_eq_true rfl⟩) (pv_R (va_recv hK hP (ci := 11) (q0 := 0) rfl rfl) hK hPc) rfl rfl hl.1 rfl (lv_room (Nat.le_of_ble_eq_true rfl)) dX11_told_124 ⟨Nat.le_of_ble_eq_true rfl, Nat.le_of_ble_eq_true rfl⟩) hS (fun q _ h => False.elim h) (fun q h => False.elim h) (fun r9 u10 t H1 locs ht hvm hw11 hB hz1 hk1 hS => ?_)
    have hP := hP.kept (fun k q hk => hk1 q.1 (hP k q hk).lt (fun h => h))
    clear hz1 hk1 hPc
    generalize H1 = H at hP hS ht ⊢
    try dsimp only at hw11
    exact W.iret (v := r9) hx hb hr (fun t ht hW => ⟨⟨r9, (fun _ => 0), rfl, trivial, trivial⟩, hS.F ht⟩) hS.2.2 dX11_told_127
  · refine lv_tableIn (tgt := 128) hx hb dX11_told_1 (by rw [h2]; decide) (by rw [h2]; decide) (by rw [h2]; rfl) (by decide) ?_
    refine lv_aload_n hx hb dX11_told_128 rfl (lv_at hl 0 rfl) ?_
    refine va_get (D := (dC, dI)) (ci := 11) (v := .int (nI wm)) (C := RX11) (T := TX11) (N := 46) hx hb hts hi_X11 hown hK hP 0 rfl rfl 37 (by decide) (hts (.fieldLink RX11 168 "LeftQuillsModel" "wornMany" "I") (wmx 7 rfl)) (fun _ h9 => h9) e_h0_37 dX11_told_129 ?_
    exact W.iret (v := nI wm) hx hb hr (fun t ht hW => ⟨⟨nI wm, (fun _ => 0), rfl, trivial, trivial⟩, hS.F ht⟩) hS.2.2 dX11_told_132
  · refine lv_tableIn (tgt := 133) hx hb dX11_told_1 (by rw [h2]; decide) (by rw [h2]; decide) (by rw [h2]; rfl) (by decide) ?_
    refine lv_aload_n hx hb dX11_told_133 rfl (lv_at hl 0 rfl) ?_
    refine va_get (D := (dC, dI)) (ci := 11) (v := .int (nI bk)) (C := RX11) (T := TX11) (N := 46) hx hb hts hi_X11 hown hK hP 0 rfl rfl 41 (by decide) (hts (.fieldLink RX11 171 "LeftQuillsModel" "booked" "I") (wmx 8 rfl)) (fun _ h9 => h9) e_h0_41 dX11_told_134 ?_
    exact W.iret (v := nI bk) hx hb hr (fun t ht hW => ⟨⟨nI bk, (fun _ => 0), rfl, trivial, trivial⟩, hS.F ht⟩) hS.2.2 dX11_told_137
  · refine lv_tableIn (tgt := 138) hx hb dX11_told_1 (by rw [h2]; decide) (by rw [h2]; decide) (by rw [h2]; rfl) (by decide) ?_
    refine lv_aload_n hx hb dX11_told_138 rfl (lv_at hl 0 rfl) ?_
    refine va_get (D := (dC, dI)) (ci := 11) (v := .int (nI un)) (C := RX11) (T := TX11) (N := 46) hx hb hts hi_X11 hown hK hP 0 rfl rfl 29 (by decide) (hts (.fieldLink RX11 174 "LeftQuillsModel" "undos" "I") (wmx 9 rfl)) (fun _ h9 => h9) e_h0_29 dX11_told_139 ?_
    exact W.iret (v := nI un) hx hb hr (fun t ht hW => ⟨⟨nI un, (fun _ => 0), rfl, trivial, trivial⟩, hS.F ht⟩) hS.2.2 dX11_told_142
set_option maxHeartbeats 4000000 in
set_option maxRecDepth 100000 in
theorem c_X11_quill (l : Launch) (dC : Nat → ClassId) (dI : Nat → Nat → Nat) (cI cZ cQ : ClassId) (h0 : Nat) (nq : Nat) (m3 : Nat) (m4 : Nat) (m5 : Nat) (m10 : Nat) (f_h0 : List Value) (fm3 : Nat → Int32) (fm4 : Nat → Int32) (fm5 : Nat → Int32) (fm10 : Nat → Int32) (q0 : Int32) (q1 : Int32) (sz : Nat) (e_h0_2 : fAt f_h0 2 = some (.int (nI nq))) (e_h0_3 : fAt f_h0 3 = some (.ref m3)) (e_h0_4 : fAt f_h0 4 = some (.ref m4)) (e_h0_5 : fAt f_h0 5 = some (.ref m5)) (e_h0_10 : fAt f_h0 10 = some (.ref m10)) (hnq : nq ≤ 8) (hci : cIn fm5 nq) : Met l yX11_quill wsX11_quill ({ frames := 2, cells := 0, slots := 0, locals := 86 }) (va_Pc [.ref h0, .int q0, .int q1] (fun U => U.heap.size = sz ∧ va_P (dC, dI) vwCl [(h0, .inr (11, f_h0)), (m3, .inl (cI, 8, .inl fm3)), (m4, .inl (cI, 8, .inl fm4)), (m5, .inl (cI, 8, .inl fm5)), (m10, .inl (cI, 34, .inl fm10))] U.heap ∧ va_K (dC, dI) vwCl (tys0 cI cZ cQ) U)) (va_Qi (fun (r : Int32) (u : Nat → Nat) => True) (fun (_ : Nat → Nat) (_ : State) => True) (fun _ : Nat => False)) 0 0 (fun _ : Nat => False) := by
  refine Met.ofW (cc := cX11_quill) (maxL := 3) (ret := (some .int)) (by decide) rfl ?_
  intro p e s m args below meth c s₁ B hml hv
  obtain ⟨rfl, hsz, hP, hK⟩ := hv
  have hx := B.exec
  have hb := B.bytes
  have hr := B.returns
  have hts := atoms_spec (ws := wsX11_quill) B.pre
  have hown : s.vm.findClass RX11 = some m.cls := findClass_of_methodNamed B.named
  have hlocks := B.notSynchronized
  have hi_X11 : ∀ w ∈ u_ws RX11 TX11 46, w ∈ wsX11_quill := fun _ h => List.mem_cons_of_mem _ (List.mem_append_right _ (h))
  subst hsz
  have hS : va_S (fun _ : Nat => False) s.heap s.heap [] := va_S.rf
  have hl := lv_entry ([.ref h0, .int q0, .int q1]) (n := 3) (Nat.le_of_ble_eq_true rfl)
  rw [lg_entry_eq]
  generalize (lg_sl ([.ref h0, .int q0, .int q1]) ++ List.replicate (3 - (lg_sl ([.ref h0, .int q0, .int q1])).length) Slot.unset).toArray = ls at hl ⊢
  have hl : lv_has ls 3 [(0, .ref h0), (1, .int q0), (2, .int q1)] := hl
  refine lv_aload_n hx hb dX11_quill_0 rfl (lv_at hl 0 rfl) ?_
  refine lv_iload_n hx hb dX11_quill_1 rfl (lv_at hl 1 rfl) ?_
  have hPc := hP.sub (ws' := [(h0, .inr (11, f_h0))]) [0] rfl
  refine va_calli (va_runV (As := [.int q0]) (rest := []) ⟨hx, hb, hml, hown, hts⟩ (c_X11_isQuill l dC dI cI cZ cQ h0 (nI nq) f_h0 q0 s.heap.size e_h0_2 (nI_pos' (n := nq) (by omega))) (cwV 1 hts gX11_quill_X11_isQuill rfl rfl rfl hd_X11_isQuill_RX11 ⟨Nat.le_of_ble_eq_true rfl, Nat.le_of_ble_eq_true rfl⟩) (pv_R (va_recv hK hP (ci := 11) (q0 := 0) rfl rfl) hK hPc) rfl rfl hl.1 rfl (lv_room (Nat.le_of_ble_eq_true rfl)) dX11_quill_2 ⟨Nat.le_of_ble_eq_true rfl, Nat.le_of_ble_eq_true rfl⟩) hS (fun q _ h => False.elim h) (fun q h => False.elim h) (fun r1 u2 t H1 locs ht hvm hw3 hB hz1 hk1 hS => ?_)
  have hP := hP.kept (fun k q hk => hk1 q.1 (hP k q hk).lt (fun h => h))
  clear hz1 hk1 hPc
  generalize H1 = H at hP hS ht ⊢
  try dsimp only at hw3
  rcases hw3 with ⟨rfl, hw3⟩ | ⟨rfl, hw3⟩
  ·
    obtain ⟨j4, hj4, rfl⟩ := x_ix hw3 (by omega)
    refine lv_if_ne (tgt := 11) hx hb dX11_quill_5 (by decide) (fun c5 => ?_) (fun c5 => ?_)
    rotate_left
    · exact absurd c5 (by decide)
    clear c5
    refine lv_iload_n hx hb dX11_quill_11 rfl (lv_at hl 2 rfl) ?_
    by_cases c6 : q1.toInt < 0 ∨ 6 < q1.toInt
    · refine lv_tableOut (tgt := 110) hx hb dX11_quill_12 c6 (by decide) ?_
      refine lv_ldc (v := (-1000000002)) hx hb hown (hts (.constant RX11 111 (-1000000002)) (wmx 6 rfl)) dX11_quill_110 ?_
      exact W.iret (v := (-1000000002)) hx hb hr (fun t ht hW => ⟨⟨(-1000000002), (fun _ => 0), rfl, trivial, trivial⟩, hS.F ht⟩) hS.2.2 dX11_quill_112
    have h7 := x_sw_0_6 c6
    rcases h7 with h7 | h7 | h7 | h7 | h7 | h7 | h7
    · refine lv_tableIn (tgt := 56) hx hb dX11_quill_12 (by rw [h7]; decide) (by rw [h7]; decide) (by rw [h7]; rfl) (by decide) ?_
      refine lv_aload_n hx hb dX11_quill_56 rfl (lv_at hl 0 rfl) ?_
      refine va_get (D := (dC, dI)) (ci := 11) (v := .ref m3) (C := RX11) (T := TX11) (N := 46) hx hb hts hi_X11 hown hK hP 0 rfl rfl 3 (by decide) (hts (.fieldLink RX11 7 "LeftQuillsModel" "wing" "[I") (wmx 2 rfl)) (fun _ h9 => h9) e_h0_3 dX11_quill_57 ?_
      refine lv_iload_n hx hb dX11_quill_60 rfl (lv_at hl 1 rfl) ?_
      refine va_iald hx hb hK hP 1 0 rfl rfl (vp_in_nI (n := j4) (N := 8) (by omega) (by decide)) dX11_quill_61 ?_
      refine W.eq (g2 := F0 m 62 ls [.int (fm3 j4)]) (congrArg (fun y9 => F0 m 62 ls (.int (fm3 y9) :: [])) ((nI_clamp (n := j4) (by omega)))) ?_
      exact W.iret (v := fm3 j4) hx hb hr (fun t ht hW => ⟨⟨fm3 j4, (fun _ => 0), rfl, trivial, trivial⟩, hS.F ht⟩) hS.2.2 dX11_quill_62
    · refine lv_tableIn (tgt := 63) hx hb dX11_quill_12 (by rw [h7]; decide) (by rw [h7]; decide) (by rw [h7]; rfl) (by decide) ?_
      refine lv_aload_n hx hb dX11_quill_63 rfl (lv_at hl 0 rfl) ?_
      refine va_get (D := (dC, dI)) (ci := 11) (v := .ref m4) (C := RX11) (T := TX11) (N := 46) hx hb hts hi_X11 hown hK hP 0 rfl rfl 4 (by decide) (hts (.fieldLink RX11 13 "LeftQuillsModel" "place" "[I") (wmx 3 rfl)) (fun _ h9 => h9) e_h0_4 dX11_quill_64 ?_
      refine lv_iload_n hx hb dX11_quill_67 rfl (lv_at hl 1 rfl) ?_
      refine va_iald hx hb hK hP 2 0 rfl rfl (vp_in_nI (n := j4) (N := 8) (by omega) (by decide)) dX11_quill_68 ?_
      refine W.eq (g2 := F0 m 69 ls [.int (fm4 j4)]) (congrArg (fun y9 => F0 m 69 ls (.int (fm4 y9) :: [])) ((nI_clamp (n := j4) (by omega)))) ?_
      exact W.iret (v := fm4 j4) hx hb hr (fun t ht hW => ⟨⟨fm4 j4, (fun _ => 0), rfl, trivial, trivial⟩, hS.F ht⟩) hS.2.2 dX11_quill_69
    · refine lv_tableIn (tgt := 70) hx hb dX11_quill_12 (by rw [h7]; decide) (by rw [h7]; decide) (by rw [h7]; rfl) (by decide) ?_
      refine lv_aload_n hx hb dX11_quill_70 rfl (lv_at hl 0 rfl) ?_
      refine va_get (D := (dC, dI)) (ci := 11) (v := .ref m5) (C := RX11) (T := TX11) (N := 46) hx hb hts hi_X11 hown hK hP 0 rfl rfl 5 (by decide) (hts (.fieldLink RX11 16 "LeftQuillsModel" "cooked" "[I") (wmx 4 rfl)) (fun _ h9 => h9) e_h0_5 dX11_quill_71 ?_
      refine lv_iload_n hx hb dX11_quill_74 rfl (lv_at hl 1 rfl) ?_
      refine va_iald hx hb hK hP 3 0 rfl rfl (vp_in_nI (n := j4) (N := 8) (by omega) (by decide)) dX11_quill_75 ?_
      refine W.eq (g2 := F0 m 76 ls [.int (fm5 j4)]) (congrArg (fun y9 => F0 m 76 ls (.int (fm5 y9) :: [])) ((nI_clamp (n := j4) (by omega)))) ?_
      exact W.iret (v := fm5 j4) hx hb hr (fun t ht hW => ⟨⟨fm5 j4, (fun _ => 0), rfl, trivial, trivial⟩, hS.F ht⟩) hS.2.2 dX11_quill_76
    · refine lv_tableIn (tgt := 77) hx hb dX11_quill_12 (by rw [h7]; decide) (by rw [h7]; decide) (by rw [h7]; rfl) (by decide) ?_
      refine lv_aload_n hx hb dX11_quill_77 rfl (lv_at hl 0 rfl) ?_
      refine va_get (D := (dC, dI)) (ci := 11) (v := .ref m10) (C := RX11) (T := TX11) (N := 46) hx hb hts hi_X11 hown hK hP 0 rfl rfl 10 (by decide) (hts (.fieldLink RX11 28 "LeftQuillsModel" "now" "[I") (wmx 5 rfl)) (fun _ h9 => h9) e_h0_10 dX11_quill_78 ?_
      refine lv_iload_n hx hb dX11_quill_81 rfl (lv_at hl 1 rfl) ?_
      refine va_iald hx hb hK hP 4 0 rfl rfl (vp_in_nI (n := j4) (N := 34) (by omega) (by decide)) dX11_quill_82 ?_
      refine W.eq (g2 := F0 m 83 ls [.int (fm10 j4)]) (congrArg (fun y9 => F0 m 83 ls (.int (fm10 y9) :: [])) ((nI_clamp (n := j4) (by omega)))) ?_
      exact W.iret (v := fm10 j4) hx hb hr (fun t ht hW => ⟨⟨fm10 j4, (fun _ => 0), rfl, trivial, trivial⟩, hS.F ht⟩) hS.2.2 dX11_quill_83
    · refine lv_tableIn (tgt := 84) hx hb dX11_quill_12 (by rw [h7]; decide) (by rw [h7]; decide) (by rw [h7]; rfl) (by decide) ?_
      refine lv_aload_n hx hb dX11_quill_84 rfl (lv_at hl 0 rfl) ?_
      refine va_get (D := (dC, dI)) (ci := 11) (v := .ref m10) (C := RX11) (T := TX11) (N := 46) hx hb hts hi_X11 hown hK hP 0 rfl rfl 10 (by decide) (hts (.fieldLink RX11 28 "LeftQuillsModel" "now" "[I") (wmx 5 rfl)) (fun _ h9 => h9) e_h0_10 dX11_quill_85 ?_
      refine lv_bipush (v := 8) hx hb dX11_quill_88 (by decide) ?_
      refine lv_iload_n hx hb dX11_quill_90 rfl (lv_at hl 1 rfl) ?_
      refine lv_iadd hx hb dX11_quill_91 ?_
      refine lv_topi (fun z8 ez8 => ?_)
      obtain rfl : z8 = nI (8 + j4) := ez8.trans (nI_add 8 j4)
      refine va_iald hx hb hK hP 4 0 rfl rfl (vp_in_nI (n := 8 + j4) (N := 34) (by omega) (by decide)) dX11_quill_92 ?_
      refine W.eq (g2 := F0 m 93 ls [.int (fm10 (8 + j4))]) (congrArg (fun y9 => F0 m 93 ls (.int (fm10 y9) :: [])) ((nI_clamp (n := 8 + j4) (by omega)))) ?_
      exact W.iret (v := fm10 (8 + j4)) hx hb hr (fun t ht hW => ⟨⟨fm10 (8 + j4), (fun _ => 0), rfl, trivial, trivial⟩, hS.F ht⟩) hS.2.2 dX11_quill_93
    · refine lv_tableIn (tgt := 94) hx hb dX11_quill_12 (by rw [h7]; decide) (by rw [h7]; decide) (by rw [h7]; rfl) (by decide) ?_
      refine lv_aload_n hx hb dX11_quill_94 rfl (lv_at hl 0 rfl) ?_
      refine lv_iload_n hx hb dX11_quill_95 rfl (lv_at hl 1 rfl) ?_
      have hPc := hP.sub (ws' := [(h0, .inr (11, f_h0)), (m4, .inl (cI, 8, .inl fm4)), (m5, .inl (cI, 8, .inl fm5))]) [0, 2, 3] rfl
      refine va_calli (va_runV (As := [.int (nI j4)]) (rest := []) ⟨hx, hb, hml, hown, hts⟩ (c_X11_hard l dC dI cI cZ cQ h0 m4 m5 f_h0 fm4 fm5 j4 nq H.size e_h0_4 e_h0_5 (by omega) (by first | assumption | decide) (by omega)) (cwV 1 hts gX11_quill_X11_hard rfl rfl rfl hd_X11_hard_RX11 ⟨Nat.le_of_ble_eq_true rfl, Nat.le_of_ble_eq_true rfl⟩) (pv_R (va_recv hK hP (ci := 11) (q0 := 0) rfl rfl) hK hPc) rfl rfl hl.1 rfl (lv_room (Nat.le_of_ble_eq_true rfl)) dX11_quill_96 ⟨Nat.le_of_ble_eq_true rfl, Nat.le_of_ble_eq_true rfl⟩) hS (fun q _ h => False.elim h) (fun q h => False.elim h) (fun r9 u10 t H1 locs ht hvm hw11 hB hz1 hk1 hS => ?_)
      have hP := hP.kept (fun k q hk => hk1 q.1 (hP k q hk).lt (fun h => h))
      clear hz1 hk1 hPc
      generalize H1 = H at hP hS ht ⊢
      try dsimp only at hw11
      obtain ⟨w12, haw12, hbw12, rfl⟩ := hw11
      exact W.iret (v := nI w12) hx hb hr (fun t ht hW => ⟨⟨nI w12, (fun _ => 0), rfl, trivial, trivial⟩, hS.F ht⟩) hS.2.2 dX11_quill_99
    · refine lv_tableIn (tgt := 100) hx hb dX11_quill_12 (by rw [h7]; decide) (by rw [h7]; decide) (by rw [h7]; rfl) (by decide) ?_
      refine lv_aload_n hx hb dX11_quill_100 rfl (lv_at hl 0 rfl) ?_
      refine va_get (D := (dC, dI)) (ci := 11) (v := .ref m10) (C := RX11) (T := TX11) (N := 46) hx hb hts hi_X11 hown hK hP 0 rfl rfl 10 (by decide) (hts (.fieldLink RX11 28 "LeftQuillsModel" "now" "[I") (wmx 5 rfl)) (fun _ h9 => h9) e_h0_10 dX11_quill_101 ?_
      refine lv_bipush (v := 16) hx hb dX11_quill_104 (by decide) ?_
      refine lv_iload_n hx hb dX11_quill_106 rfl (lv_at hl 1 rfl) ?_
      refine lv_iadd hx hb dX11_quill_107 ?_
      refine lv_topi (fun z13 ez13 => ?_)
      obtain rfl : z13 = nI (16 + j4) := ez13.trans (nI_add 16 j4)
      refine va_iald hx hb hK hP 4 0 rfl rfl (vp_in_nI (n := 16 + j4) (N := 34) (by omega) (by decide)) dX11_quill_108 ?_
      refine W.eq (g2 := F0 m 109 ls [.int (fm10 (16 + j4))]) (congrArg (fun y9 => F0 m 109 ls (.int (fm10 y9) :: [])) ((nI_clamp (n := 16 + j4) (by omega)))) ?_
      exact W.iret (v := fm10 (16 + j4)) hx hb hr (fun t ht hW => ⟨⟨fm10 (16 + j4), (fun _ => 0), rfl, trivial, trivial⟩, hS.F ht⟩) hS.2.2 dX11_quill_109
  ·
    refine lv_if_ne (tgt := 11) hx hb dX11_quill_5 (by decide) (fun c14 => ?_) (fun c14 => ?_)
    · exact absurd c14 (by decide)
    clear c14
    refine lv_ldc (v := (-1000000001)) hx hb hown (hts (.constant RX11 188 (-1000000001)) (wmx 1 rfl)) dX11_quill_8 ?_
    exact W.iret (v := (-1000000001)) hx hb hr (fun t ht hW => ⟨⟨(-1000000001), (fun _ => 0), rfl, trivial, trivial⟩, hS.F ht⟩) hS.2.2 dX11_quill_10
set_option maxHeartbeats 4000000 in
set_option maxRecDepth 100000 in
theorem c_X11_hand (l : Launch) (dC : Nat → ClassId) (dI : Nat → Nat → Nat) (cI cZ cQ : ClassId) (h0 : Nat) (nh : Nat) (m7 : Nat) (m8 : Nat) (m9 : Nat) (m10 : Nat) (f_h0 : List Value) (fm7 : Nat → Int32) (fm8 : Nat → Int32) (fm9 : Nat → Int32) (fm10 : Nat → Int32) (q0 : Int32) (q1 : Int32) (sz : Nat) (e_h0_6 : fAt f_h0 6 = some (.int (nI nh))) (e_h0_7 : fAt f_h0 7 = some (.ref m7)) (e_h0_8 : fAt f_h0 8 = some (.ref m8)) (e_h0_9 : fAt f_h0 9 = some (.ref m9)) (e_h0_10 : fAt f_h0 10 = some (.ref m10)) (hnh : nh ≤ 4) : Met l yX11_hand wsX11_hand ({ frames := 2, cells := 0, slots := 0, locals := 86 }) (va_Pc [.ref h0, .int q0, .int q1] (fun U => U.heap.size = sz ∧ va_P (dC, dI) vwCl [(h0, .inr (11, f_h0)), (m7, .inl (cI, 4, .inl fm7)), (m8, .inl (cI, 4, .inl fm8)), (m9, .inl (cI, 4, .inl fm9)), (m10, .inl (cI, 34, .inl fm10))] U.heap ∧ va_K (dC, dI) vwCl (tys0 cI cZ cQ) U)) (va_Qi (fun (r : Int32) (u : Nat → Nat) => True) (fun (_ : Nat → Nat) (_ : State) => True) (fun _ : Nat => False)) 0 0 (fun _ : Nat => False) := by
  refine Met.ofW (cc := cX11_hand) (maxL := 3) (ret := (some .int)) (by decide) rfl ?_
  intro p e s m args below meth c s₁ B hml hv
  obtain ⟨rfl, hsz, hP, hK⟩ := hv
  have hx := B.exec
  have hb := B.bytes
  have hr := B.returns
  have hts := atoms_spec (ws := wsX11_hand) B.pre
  have hown : s.vm.findClass RX11 = some m.cls := findClass_of_methodNamed B.named
  have hlocks := B.notSynchronized
  have hi_X11 : ∀ w ∈ u_ws RX11 TX11 46, w ∈ wsX11_hand := fun _ h => List.mem_cons_of_mem _ (List.mem_append_right _ (h))
  subst hsz
  have hS : va_S (fun _ : Nat => False) s.heap s.heap [] := va_S.rf
  have hl := lv_entry ([.ref h0, .int q0, .int q1]) (n := 3) (Nat.le_of_ble_eq_true rfl)
  rw [lg_entry_eq]
  generalize (lg_sl ([.ref h0, .int q0, .int q1]) ++ List.replicate (3 - (lg_sl ([.ref h0, .int q0, .int q1])).length) Slot.unset).toArray = ls at hl ⊢
  have hl : lv_has ls 3 [(0, .ref h0), (1, .int q0), (2, .int q1)] := hl
  refine lv_aload_n hx hb dX11_hand_0 rfl (lv_at hl 0 rfl) ?_
  refine lv_iload_n hx hb dX11_hand_1 rfl (lv_at hl 1 rfl) ?_
  have hPc := hP.sub (ws' := [(h0, .inr (11, f_h0))]) [0] rfl
  refine va_calli (va_runV (As := [.int q0]) (rest := []) ⟨hx, hb, hml, hown, hts⟩ (c_X11_isHand l dC dI cI cZ cQ h0 (nI nh) f_h0 q0 s.heap.size e_h0_6 (nI_pos' (n := nh) (by omega))) (cwV 1 hts gX11_hand_X11_isHand rfl rfl rfl hd_X11_isHand_RX11 ⟨Nat.le_of_ble_eq_true rfl, Nat.le_of_ble_eq_true rfl⟩) (pv_R (va_recv hK hP (ci := 11) (q0 := 0) rfl rfl) hK hPc) rfl rfl hl.1 rfl (lv_room (Nat.le_of_ble_eq_true rfl)) dX11_hand_2 ⟨Nat.le_of_ble_eq_true rfl, Nat.le_of_ble_eq_true rfl⟩) hS (fun q _ h => False.elim h) (fun q h => False.elim h) (fun r1 u2 t H1 locs ht hvm hw3 hB hz1 hk1 hS => ?_)
  have hP := hP.kept (fun k q hk => hk1 q.1 (hP k q hk).lt (fun h => h))
  clear hz1 hk1 hPc
  generalize H1 = H at hP hS ht ⊢
  try dsimp only at hw3
  rcases hw3 with ⟨rfl, hw3⟩ | ⟨rfl, hw3⟩
  ·
    obtain ⟨j4, hj4, rfl⟩ := x_ix hw3 (by omega)
    refine lv_if_ne (tgt := 11) hx hb dX11_hand_5 (by decide) (fun c5 => ?_) (fun c5 => ?_)
    rotate_left
    · exact absurd c5 (by decide)
    clear c5
    refine lv_iload_n hx hb dX11_hand_11 rfl (lv_at hl 2 rfl) ?_
    by_cases c6 : q1.toInt < 0 ∨ 4 < q1.toInt
    · refine lv_tableOut (tgt := 89) hx hb dX11_hand_12 c6 (by decide) ?_
      refine lv_ldc (v := (-1000000002)) hx hb hown (hts (.constant RX11 111 (-1000000002)) (wmx 6 rfl)) dX11_hand_89 ?_
      exact W.iret (v := (-1000000002)) hx hb hr (fun t ht hW => ⟨⟨(-1000000002), (fun _ => 0), rfl, trivial, trivial⟩, hS.F ht⟩) hS.2.2 dX11_hand_91
    have h7 := x_sw_0_4 c6
    rcases h7 with h7 | h7 | h7 | h7 | h7
    · refine lv_tableIn (tgt := 48) hx hb dX11_hand_12 (by rw [h7]; decide) (by rw [h7]; decide) (by rw [h7]; rfl) (by decide) ?_
      refine lv_aload_n hx hb dX11_hand_48 rfl (lv_at hl 0 rfl) ?_
      refine va_get (D := (dC, dI)) (ci := 11) (v := .ref m7) (C := RX11) (T := TX11) (N := 46) hx hb hts hi_X11 hown hK hP 0 rfl rfl 7 (by decide) (hts (.fieldLink RX11 19 "LeftQuillsModel" "side" "[I") (wmx 2 rfl)) (fun _ h9 => h9) e_h0_7 dX11_hand_49 ?_
      refine lv_iload_n hx hb dX11_hand_52 rfl (lv_at hl 1 rfl) ?_
      refine va_iald hx hb hK hP 1 0 rfl rfl (vp_in_nI (n := j4) (N := 4) (by omega) (by decide)) dX11_hand_53 ?_
      refine W.eq (g2 := F0 m 54 ls [.int (fm7 j4)]) (congrArg (fun y9 => F0 m 54 ls (.int (fm7 y9) :: [])) ((nI_clamp (n := j4) (by omega)))) ?_
      exact W.iret (v := fm7 j4) hx hb hr (fun t ht hW => ⟨⟨fm7 j4, (fun _ => 0), rfl, trivial, trivial⟩, hS.F ht⟩) hS.2.2 dX11_hand_54
    · refine lv_tableIn (tgt := 55) hx hb dX11_hand_12 (by rw [h7]; decide) (by rw [h7]; decide) (by rw [h7]; rfl) (by decide) ?_
      refine lv_aload_n hx hb dX11_hand_55 rfl (lv_at hl 0 rfl) ?_
      refine va_get (D := (dC, dI)) (ci := 11) (v := .ref m8) (C := RX11) (T := TX11) (N := 46) hx hb hts hi_X11 hown hK hP 0 rfl rfl 8 (by decide) (hts (.fieldLink RX11 22 "LeftQuillsModel" "presses" "[I") (wmx 3 rfl)) (fun _ h9 => h9) e_h0_8 dX11_hand_56 ?_
      refine lv_iload_n hx hb dX11_hand_59 rfl (lv_at hl 1 rfl) ?_
      refine va_iald hx hb hK hP 2 0 rfl rfl (vp_in_nI (n := j4) (N := 4) (by omega) (by decide)) dX11_hand_60 ?_
      refine W.eq (g2 := F0 m 61 ls [.int (fm8 j4)]) (congrArg (fun y9 => F0 m 61 ls (.int (fm8 y9) :: [])) ((nI_clamp (n := j4) (by omega)))) ?_
      exact W.iret (v := fm8 j4) hx hb hr (fun t ht hW => ⟨⟨fm8 j4, (fun _ => 0), rfl, trivial, trivial⟩, hS.F ht⟩) hS.2.2 dX11_hand_61
    · refine lv_tableIn (tgt := 62) hx hb dX11_hand_12 (by rw [h7]; decide) (by rw [h7]; decide) (by rw [h7]; rfl) (by decide) ?_
      refine lv_aload_n hx hb dX11_hand_62 rfl (lv_at hl 0 rfl) ?_
      refine va_get (D := (dC, dI)) (ci := 11) (v := .ref m9) (C := RX11) (T := TX11) (N := 46) hx hb hts hi_X11 hown hK hP 0 rfl rfl 9 (by decide) (hts (.fieldLink RX11 25 "LeftQuillsModel" "wants" "[I") (wmx 4 rfl)) (fun _ h9 => h9) e_h0_9 dX11_hand_63 ?_
      refine lv_iload_n hx hb dX11_hand_66 rfl (lv_at hl 1 rfl) ?_
      refine va_iald hx hb hK hP 3 0 rfl rfl (vp_in_nI (n := j4) (N := 4) (by omega) (by decide)) dX11_hand_67 ?_
      refine W.eq (g2 := F0 m 68 ls [.int (fm9 j4)]) (congrArg (fun y9 => F0 m 68 ls (.int (fm9 y9) :: [])) ((nI_clamp (n := j4) (by omega)))) ?_
      exact W.iret (v := fm9 j4) hx hb hr (fun t ht hW => ⟨⟨fm9 j4, (fun _ => 0), rfl, trivial, trivial⟩, hS.F ht⟩) hS.2.2 dX11_hand_68
    · refine lv_tableIn (tgt := 69) hx hb dX11_hand_12 (by rw [h7]; decide) (by rw [h7]; decide) (by rw [h7]; rfl) (by decide) ?_
      refine lv_aload_n hx hb dX11_hand_69 rfl (lv_at hl 0 rfl) ?_
      refine va_get (D := (dC, dI)) (ci := 11) (v := .ref m10) (C := RX11) (T := TX11) (N := 46) hx hb hts hi_X11 hown hK hP 0 rfl rfl 10 (by decide) (hts (.fieldLink RX11 28 "LeftQuillsModel" "now" "[I") (wmx 5 rfl)) (fun _ h9 => h9) e_h0_10 dX11_hand_70 ?_
      refine lv_bipush (v := 24) hx hb dX11_hand_73 (by decide) ?_
      refine lv_iload_n hx hb dX11_hand_75 rfl (lv_at hl 1 rfl) ?_
      refine lv_iadd hx hb dX11_hand_76 ?_
      refine lv_topi (fun z8 ez8 => ?_)
      obtain rfl : z8 = nI (24 + j4) := ez8.trans (nI_add 24 j4)
      refine va_iald hx hb hK hP 4 0 rfl rfl (vp_in_nI (n := 24 + j4) (N := 34) (by omega) (by decide)) dX11_hand_77 ?_
      refine W.eq (g2 := F0 m 78 ls [.int (fm10 (24 + j4))]) (congrArg (fun y9 => F0 m 78 ls (.int (fm10 y9) :: [])) ((nI_clamp (n := 24 + j4) (by omega)))) ?_
      exact W.iret (v := fm10 (24 + j4)) hx hb hr (fun t ht hW => ⟨⟨fm10 (24 + j4), (fun _ => 0), rfl, trivial, trivial⟩, hS.F ht⟩) hS.2.2 dX11_hand_78
    · refine lv_tableIn (tgt := 79) hx hb dX11_hand_12 (by rw [h7]; decide) (by rw [h7]; decide) (by rw [h7]; rfl) (by decide) ?_
      refine lv_aload_n hx hb dX11_hand_79 rfl (lv_at hl 0 rfl) ?_
      refine va_get (D := (dC, dI)) (ci := 11) (v := .ref m10) (C := RX11) (T := TX11) (N := 46) hx hb hts hi_X11 hown hK hP 0 rfl rfl 10 (by decide) (hts (.fieldLink RX11 28 "LeftQuillsModel" "now" "[I") (wmx 5 rfl)) (fun _ h9 => h9) e_h0_10 dX11_hand_80 ?_
      refine lv_bipush (v := 28) hx hb dX11_hand_83 (by decide) ?_
      refine lv_iload_n hx hb dX11_hand_85 rfl (lv_at hl 1 rfl) ?_
      refine lv_iadd hx hb dX11_hand_86 ?_
      refine lv_topi (fun z9 ez9 => ?_)
      obtain rfl : z9 = nI (28 + j4) := ez9.trans (nI_add 28 j4)
      refine va_iald hx hb hK hP 4 0 rfl rfl (vp_in_nI (n := 28 + j4) (N := 34) (by omega) (by decide)) dX11_hand_87 ?_
      refine W.eq (g2 := F0 m 88 ls [.int (fm10 (28 + j4))]) (congrArg (fun y9 => F0 m 88 ls (.int (fm10 y9) :: [])) ((nI_clamp (n := 28 + j4) (by omega)))) ?_
      exact W.iret (v := fm10 (28 + j4)) hx hb hr (fun t ht hW => ⟨⟨fm10 (28 + j4), (fun _ => 0), rfl, trivial, trivial⟩, hS.F ht⟩) hS.2.2 dX11_hand_88
  ·
    refine lv_if_ne (tgt := 11) hx hb dX11_hand_5 (by decide) (fun c10 => ?_) (fun c10 => ?_)
    · exact absurd c10 (by decide)
    clear c10
    refine lv_ldc (v := (-1000000001)) hx hb hown (hts (.constant RX11 188 (-1000000001)) (wmx 1 rfl)) dX11_hand_8 ?_
    exact W.iret (v := (-1000000001)) hx hb hr (fun t ht hW => ⟨⟨(-1000000001), (fun _ => 0), rfl, trivial, trivial⟩, hS.F ht⟩) hS.2.2 dX11_hand_10
