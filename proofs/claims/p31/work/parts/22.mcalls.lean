set_option maxHeartbeats 4000000 in
set_option maxRecDepth 100000 in
theorem c_X11_told (l : Launch) (dC : Nat → ClassId) (dI : Nat → Nat → Nat) (cI cZ cQ : ClassId) (h0 : Nat) (n0 : Int32) (n1 : Int32) (nq : Nat) (nh : Nat) (m10 : Nat) (tx : Nat) (un : Nat) (wm : Nat) (bk : Nat) (f_h0 : List Value) (fm10 : Nat → Int32) (q0 : Int32) (sz : Nat) (e_h0_0 : fAt f_h0 0 = some (.int n0)) (e_h0_1 : fAt f_h0 1 = some (.int n1)) (e_h0_2 : fAt f_h0 2 = some (.int (nI nq))) (e_h0_6 : fAt f_h0 6 = some (.int (nI nh))) (e_h0_10 : fAt f_h0 10 = some (.ref m10)) (e_h0_13 : fAt f_h0 13 = some (.int (nI tx))) (e_h0_29 : fAt f_h0 29 = some (.int (nI un))) (e_h0_37 : fAt f_h0 37 = some (.int (nI wm))) (e_h0_41 : fAt f_h0 41 = some (.int (nI bk))) (hnq : nq ≤ 8) (hnh : nh ≤ 4) : Met l yX11_told wsX11_told ({ frames := 1, cells := 0, slots := 0, locals := 63 }) (va_Pc [.ref h0, .int q0] (fun U => U.heap.size = sz ∧ va_P (dC, dI) vwCl [(h0, .inr (11, f_h0)), (m10, .inl (cI, 34, .inl fm10))] U.heap ∧ va_K (dC, dI) vwCl (tys0 cI cZ cQ) U)) (va_Qi (fun (r : Int32) (u : Nat → Nat) => True) (fun (_ : Nat → Nat) (_ : State) => True) (fun _ : Nat => False)) 0 0 (fun _ : Nat => False) := by
  refine Met.ofW (cc := cX11_told) (maxL := 2) (ret := (some .int)) (by decide) rfl ?_
  intro p e s m args below meth c s₁ B hml hv
  obtain ⟨rfl, hsz, hP, hK⟩ := hv
  have hx := B.exec
  have hb := B.bytes
  have hr := B.returns
  have hts := atoms_spec (ws := wsX11_told) B.pre
  have hown : s.vm.findClass RX11 = some m.cls := findClass_of_methodNamed B.named
  have hlocks := B.notSynchronized
  have hi_X11 : ∀ w ∈ u_ws RX11 TX11 46, w ∈ wsX11_told := fun _ h => List.mem_cons_of_mem _ (List.mem_append_right _ (h))
  subst hsz
  have hS : va_S (fun _ : Nat => False) s.heap s.heap [] := va_S.rf
  have hl := lv_entry ([.ref h0, .int q0]) (n := 2) (Nat.le_of_ble_eq_true rfl)
  rw [lg_entry_eq]
  generalize (lg_sl ([.ref h0, .int q0]) ++ List.replicate (2 - (lg_sl ([.ref h0, .int q0])).length) Slot.unset).toArray = ls at hl ⊢
  have hl : lv_has ls 2 [(0, .ref h0), (1, .int q0)] := hl
  refine lv_iload_n hx hb dX11_told_0 rfl (lv_at hl 1 rfl) ?_
  by_cases c1 : q0.toInt < 0 ∨ 12 < q0.toInt
  · refine lv_tableOut (tgt := 143) hx hb dX11_told_1 c1 (by decide) ?_
    refine lv_ldc (v := (-1000000002)) hx hb hown (hts (.constant RX11 111 (-1000000002)) (wmx 10 rfl)) dX11_told_143 ?_
    exact W.iret (v := (-1000000002)) hx hb hr (fun t ht hW => ⟨⟨(-1000000002), (fun _ => 0), rfl, trivial, trivial⟩, hS.F ht⟩) hS.2.2 dX11_told_145
  have h2 := x_sw_0_12 c1
  rcases h2 with h2 | h2 | h2 | h2 | h2 | h2 | h2 | h2 | h2 | h2 | h2 | h2 | h2
  · refine lv_tableIn (tgt := 68) hx hb dX11_told_1 (by rw [h2]; decide) (by rw [h2]; decide) (by rw [h2]; rfl) (by decide) ?_
    refine lv_aload_n hx hb dX11_told_68 rfl (lv_at hl 0 rfl) ?_
    refine va_get (D := (dC, dI)) (ci := 11) (v := .int n0) (C := RX11) (T := TX11) (N := 46) hx hb hts hi_X11 hown hK hP 0 rfl rfl 0 (by decide) (hts (.fieldLink RX11 96 "LeftQuillsModel" "blunt" "I") (wmx 1 rfl)) (fun _ h9 => h9) e_h0_0 dX11_told_69 ?_
    exact W.iret (v := n0) hx hb hr (fun t ht hW => ⟨⟨n0, (fun _ => 0), rfl, trivial, trivial⟩, hS.F ht⟩) hS.2.2 dX11_told_72
  · refine lv_tableIn (tgt := 73) hx hb dX11_told_1 (by rw [h2]; decide) (by rw [h2]; decide) (by rw [h2]; rfl) (by decide) ?_
    refine lv_aload_n hx hb dX11_told_73 rfl (lv_at hl 0 rfl) ?_
    refine va_get (D := (dC, dI)) (ci := 11) (v := .int n1) (C := RX11) (T := TX11) (N := 46) hx hb hts hi_X11 hown hK hP 0 rfl rfl 1 (by decide) (hts (.fieldLink RX11 159 "LeftQuillsModel" "mendTakes" "I") (wmx 2 rfl)) (fun _ h9 => h9) e_h0_1 dX11_told_74 ?_
    exact W.iret (v := n1) hx hb hr (fun t ht hW => ⟨⟨n1, (fun _ => 0), rfl, trivial, trivial⟩, hS.F ht⟩) hS.2.2 dX11_told_77
  · refine lv_tableIn (tgt := 78) hx hb dX11_told_1 (by rw [h2]; decide) (by rw [h2]; decide) (by rw [h2]; rfl) (by decide) ?_
    refine lv_aload_n hx hb dX11_told_78 rfl (lv_at hl 0 rfl) ?_
    refine va_get (D := (dC, dI)) (ci := 11) (v := .int (nI nq)) (C := RX11) (T := TX11) (N := 46) hx hb hts hi_X11 hown hK hP 0 rfl rfl 2 (by decide) (hts (.fieldLink RX11 99 "LeftQuillsModel" "quills" "I") (wmx 3 rfl)) (fun _ h9 => h9) e_h0_2 dX11_told_79 ?_
    exact W.iret (v := nI nq) hx hb hr (fun t ht hW => ⟨⟨nI nq, (fun _ => 0), rfl, trivial, trivial⟩, hS.F ht⟩) hS.2.2 dX11_told_82
  · refine lv_tableIn (tgt := 83) hx hb dX11_told_1 (by rw [h2]; decide) (by rw [h2]; decide) (by rw [h2]; rfl) (by decide) ?_
    refine lv_aload_n hx hb dX11_told_83 rfl (lv_at hl 0 rfl) ?_
    refine va_get (D := (dC, dI)) (ci := 11) (v := .int (nI nh)) (C := RX11) (T := TX11) (N := 46) hx hb hts hi_X11 hown hK hP 0 rfl rfl 6 (by decide) (hts (.fieldLink RX11 106 "LeftQuillsModel" "hands" "I") (wmx 4 rfl)) (fun _ h9 => h9) e_h0_6 dX11_told_84 ?_
    exact W.iret (v := nI nh) hx hb hr (fun t ht hW => ⟨⟨nI nh, (fun _ => 0), rfl, trivial, trivial⟩, hS.F ht⟩) hS.2.2 dX11_told_87
  · refine lv_tableIn (tgt := 88) hx hb dX11_told_1 (by rw [h2]; decide) (by rw [h2]; decide) (by rw [h2]; rfl) (by decide) ?_
    refine lv_aload_n hx hb dX11_told_88 rfl (lv_at hl 0 rfl) ?_
    refine va_get (D := (dC, dI)) (ci := 11) (v := .int (nI tx)) (C := RX11) (T := TX11) (N := 46) hx hb hts hi_X11 hown hK hP 0 rfl rfl 13 (by decide) (hts (.fieldLink RX11 112 "LeftQuillsModel" "texted" "I") (wmx 5 rfl)) (fun _ h9 => h9) e_h0_13 dX11_told_89 ?_
    exact W.iret (v := nI tx) hx hb hr (fun t ht hW => ⟨⟨nI tx, (fun _ => 0), rfl, trivial, trivial⟩, hS.F ht⟩) hS.2.2 dX11_told_92
  · refine lv_tableIn (tgt := 93) hx hb dX11_told_1 (by rw [h2]; decide) (by rw [h2]; decide) (by rw [h2]; rfl) (by decide) ?_
    refine lv_aload_n hx hb dX11_told_93 rfl (lv_at hl 0 rfl) ?_
    refine va_get (D := (dC, dI)) (ci := 11) (v := .ref m10) (C := RX11) (T := TX11) (N := 46) hx hb hts hi_X11 hown hK hP 0 rfl rfl 10 (by decide) (hts (.fieldLink RX11 28 "LeftQuillsModel" "now" "[I") (wmx 6 rfl)) (fun _ h9 => h9) e_h0_10 dX11_told_94 ?_
    refine lv_bipush (v := 32) hx hb dX11_told_97 (by decide) ?_
    refine va_iald hx hb hK hP 1 0 rfl rfl (vp_in_iff.mpr ⟨by decide, by decide⟩) dX11_told_99 ?_
    refine W.eq (g2 := F0 m 100 ls [.int (fm10 32)]) (congrArg (fun y9 => F0 m 100 ls (.int (fm10 y9) :: [])) ((show ((32 : Int32)).toNatClampNeg = 32 from by decide))) ?_
    exact W.iret (v := fm10 32) hx hb hr (fun t ht hW => ⟨⟨fm10 32, (fun _ => 0), rfl, trivial, trivial⟩, hS.F ht⟩) hS.2.2 dX11_told_100
  · refine lv_tableIn (tgt := 101) hx hb dX11_told_1 (by rw [h2]; decide) (by rw [h2]; decide) (by rw [h2]; rfl) (by decide) ?_
    refine lv_aload_n hx hb dX11_told_101 rfl (lv_at hl 0 rfl) ?_
    refine va_get (D := (dC, dI)) (ci := 11) (v := .ref m10) (C := RX11) (T := TX11) (N := 46) hx hb hts hi_X11 hown hK hP 0 rfl rfl 10 (by decide) (hts (.fieldLink RX11 28 "LeftQuillsModel" "now" "[I") (wmx 6 rfl)) (fun _ h9 => h9) e_h0_10 dX11_told_102 ?_
    refine lv_bipush (v := 33) hx hb dX11_told_105 (by decide) ?_
    refine va_iald hx hb hK hP 1 0 rfl rfl (vp_in_iff.mpr ⟨by decide, by decide⟩) dX11_told_107 ?_
    refine W.eq (g2 := F0 m 108 ls [.int (fm10 33)]) (congrArg (fun y9 => F0 m 108 ls (.int (fm10 y9) :: [])) ((show ((33 : Int32)).toNatClampNeg = 33 from by decide))) ?_
    exact W.iret (v := fm10 33) hx hb hr (fun t ht hW => ⟨⟨fm10 33, (fun _ => 0), rfl, trivial, trivial⟩, hS.F ht⟩) hS.2.2 dX11_told_108
  · refine lv_tableIn (tgt := 109) hx hb dX11_told_1 (by rw [h2]; decide) (by rw [h2]; decide) (by rw [h2]; rfl) (by decide) ?_
    refine lv_aload_n hx hb dX11_told_109 rfl (lv_at hl 0 rfl) ?_
    refine lv_bipush (v := 24) hx hb dX11_told_110 (by decide) ?_
    have hPc := hP.sub (ws' := [(h0, .inr (11, f_h0)), (m10, .inl (cI, 34, .inl fm10))]) [0, 1] rfl
    refine va_calli (va_runV (As := [.int 24]) (rest := []) ⟨hx, hb, hml, hown, hts⟩ (c_X11_sumOf l dC dI cI cZ cQ h0 nh m10 f_h0 fm10 24 s.heap.size e_h0_6 e_h0_10 (by omega) (by omega)) (cwV 1 hts gX11_told_X11_sumOf rfl rfl rfl hd_X11_sumOf_RX11 ⟨Nat.le_of_ble_eq_true rfl, Nat.le_of_ble_eq_true rfl⟩) (pv_R (va_recv hK hP (ci := 11) (q0 := 0) rfl rfl) hK hPc) rfl rfl hl.1 rfl (lv_room (Nat.le_of_ble_eq_true rfl)) dX11_told_112 ⟨Nat.le_of_ble_eq_true rfl, Nat.le_of_ble_eq_true rfl⟩) hS (fun q _ h => False.elim h) (fun q h => False.elim h) (fun r3 u4 t H1 locs ht hvm hw5 hB hz1 hk1 hS => ?_)
    have hP := hP.kept (fun k q hk => hk1 q.1 (hP k q hk).lt (fun h => h))
    clear hz1 hk1 hPc
    generalize H1 = H at hP hS ht ⊢
    try dsimp only at hw5
    exact W.iret (v := r3) hx hb hr (fun t ht hW => ⟨⟨r3, (fun _ => 0), rfl, trivial, trivial⟩, hS.F ht⟩) hS.2.2 dX11_told_115
  · refine lv_tableIn (tgt := 116) hx hb dX11_told_1 (by rw [h2]; decide) (by rw [h2]; decide) (by rw [h2]; rfl) (by decide) ?_
    refine lv_aload_n hx hb dX11_told_116 rfl (lv_at hl 0 rfl) ?_
    refine lv_bipush (v := 28) hx hb dX11_told_117 (by decide) ?_
    have hPc := hP.sub (ws' := [(h0, .inr (11, f_h0)), (m10, .inl (cI, 34, .inl fm10))]) [0, 1] rfl
    refine va_calli (va_runV (As := [.int 28]) (rest := []) ⟨hx, hb, hml, hown, hts⟩ (c_X11_sumOf l dC dI cI cZ cQ h0 nh m10 f_h0 fm10 28 s.heap.size e_h0_6 e_h0_10 (by omega) (by omega)) (cwV 1 hts gX11_told_X11_sumOf rfl rfl rfl hd_X11_sumOf_RX11 ⟨Nat.le_of_ble_eq_true rfl, Nat.le_of_ble_eq_true rfl⟩) (pv_R (va_recv hK hP (ci := 11) (q0 := 0) rfl rfl) hK hPc) rfl rfl hl.1 rfl (lv_room (Nat.le_of_ble_eq_true rfl)) dX11_told_119 ⟨Nat.le_of_ble_eq_true rfl, Nat.le_of_ble_eq_true rfl⟩) hS (fun q _ h => False.elim h) (fun q h => False.elim h) (fun r6 u7 t H1 locs ht hvm hw8 hB hz1 hk1 hS => ?_)
    have hP := hP.kept (fun k q hk => hk1 q.1 (hP k q hk).lt (fun h => h))
    clear hz1 hk1 hPc
    generalize H1 = H at hP hS ht ⊢
    try dsimp only at hw8
    exact W.iret (v := r6) hx hb hr (fun t ht hW => ⟨⟨r6, (fun _ => 0), rfl, trivial, trivial⟩, hS.F ht⟩) hS.2.2 dX11_told_122
  · refine lv_tableIn (tgt := 123) hx hb dX11_told_1 (by rw [h2]; decide) (by rw [h2]; decide) (by rw [h2]; rfl) (by decide) ?_
    refine lv_aload_n hx hb dX11_told_123 rfl (lv_at hl 0 rfl) ?_
    have hPc := hP.sub (ws' := [(h0, .inr (11, f_h0)), (m10, .inl (cI, 34, .inl fm10))]) [0, 1] rfl
    refine va_calli (va_runV (As := []) (rest := []) ⟨hx, hb, hml, hown, hts⟩ (c_X11_softOnes l dC dI cI cZ cQ h0 nq m10 f_h0 fm10 s.heap.size e_h0_2 e_h0_10 (by omega)) (cwV 0 hts gX11_told_X11_softOnes rfl rfl rfl hd_X11_softOnes_RX11 ⟨Nat.le_of_ble_eq_true rfl, Nat.le_of_ble_eq_true rfl⟩) (pv_R (va_recv hK hP (ci := 11) (q0 := 0) rfl rfl) hK hPc) rfl rfl hl.1 rfl (lv_room (Nat.le_of_ble_eq_true rfl)) dX11_told_124 ⟨Nat.le_of_ble_eq_true rfl, Nat.le_of_ble_eq_true rfl⟩) hS (fun q _ h => False.elim h) (fun q h => False.elim h) (fun r9 u10 t H1 locs ht hvm hw11 hB hz1 hk1 hS => ?_)
    have hP := hP.kept (fun k q hk => hk1 q.1 (hP k q hk).lt (fun h => h))
    clear hz1 hk1 hPc
    generalize H1 = H at hP hS ht ⊢
    try dsimp only at hw11
    exact W.iret (v := r9) hx hb hr (fun t ht hW => ⟨⟨r9, (fun _ => 0), rfl, trivial, trivial⟩, hS.F ht⟩) hS.2.2 dX11_told_127
  · refine lv_tableIn (tgt := 128) hx hb dX11_told_1 (by rw [h2]; decide) (by rw [h2]; decide) (by rw [h2]; rfl) (by decide) ?_
    refine lv_aload_n hx hb dX11_told_128 rfl (lv_at hl 0 rfl) ?_
    refine va_get (D := (dC, dI)) (ci := 11) (v := .int (nI wm)) (C := RX11) (T := TX11) (N := 46) hx hb hts hi_X11 hown hK hP 0 rfl rfl 37 (by decide) (hts (.fieldLink RX11 168 "LeftQuillsModel" "wornMany" "I") (wmx 7 rfl)) (fun _ h9 => h9) e_h0_37 dX11_told_129 ?_
    exact W.iret (v := nI wm) hx hb hr (fun t ht hW => ⟨⟨nI wm, (fun _ => 0), rfl, trivial, trivial⟩, hS.F ht⟩) hS.2.2 dX11_told_132
  · refine lv_tableIn (tgt := 133) hx hb dX11_told_1 (by rw [h2]; decide) (by rw [h2]; decide) (by rw [h2]; rfl) (by decide) ?_
    refine lv_aload_n hx hb dX11_told_133 rfl (lv_at hl 0 rfl) ?_
    refine va_get (D := (dC, dI)) (ci := 11) (v := .int (nI bk)) (C := RX11) (T := TX11) (N := 46) hx hb hts hi_X11 hown hK hP 0 rfl rfl 41 (by decide) (hts (.fieldLink RX11 171 "LeftQuillsModel" "booked" "I") (wmx 8 rfl)) (fun _ h9 => h9) e_h0_41 dX11_told_134 ?_
    exact W.iret (v := nI bk) hx hb hr (fun t ht hW => ⟨⟨nI bk, (fun _ => 0), rfl, trivial, trivial⟩, hS.F ht⟩) hS.2.2 dX11_told_137
  · refine lv_tableIn (tgt := 138) hx hb dX11_told_1 (by rw [h2]; decide) (by rw [h2]; decide) (by rw [h2]; rfl) (by decide) ?_
    refine lv_aload_n hx hb dX11_told_138 rfl (lv_at hl 0 rfl) ?_
    refine va_get (D := (dC, dI)) (ci := 11) (v := .int (nI un)) (C := RX11) (T := TX11) (N := 46) hx hb hts hi_X11 hown hK hP 0 rfl rfl 29 (by decide) (hts (.fieldLink RX11 174 "LeftQuillsModel" "undos" "I") (wmx 9 rfl)) (fun _ h9 => h9) e_h0_29 dX11_told_139 ?_
    exact W.iret (v := nI un) hx hb hr (fun t ht hW => ⟨⟨nI un, (fun _ => 0), rfl, trivial, trivial⟩, hS.F ht⟩) hS.2.2 dX11_told_142
set_option maxHeartbeats 4000000 in
set_option maxRecDepth 100000 in
theorem c_X11_quill (l : Launch) (dC : Nat → ClassId) (dI : Nat → Nat → Nat) (cI cZ cQ : ClassId) (h0 : Nat) (nq : Nat) (m3 : Nat) (m4 : Nat) (m5 : Nat) (m10 : Nat) (f_h0 : List Value) (fm3 : Nat → Int32) (fm4 : Nat → Int32) (fm5 : Nat → Int32) (fm10 : Nat → Int32) (q0 : Int32) (q1 : Int32) (sz : Nat) (e_h0_2 : fAt f_h0 2 = some (.int (nI nq))) (e_h0_3 : fAt f_h0 3 = some (.ref m3)) (e_h0_4 : fAt f_h0 4 = some (.ref m4)) (e_h0_5 : fAt f_h0 5 = some (.ref m5)) (e_h0_10 : fAt f_h0 10 = some (.ref m10)) (hnq : nq ≤ 8) (hci : cIn fm5 nq) : Met l yX11_quill wsX11_quill ({ frames := 2, cells := 0, slots := 0, locals := 86 }) (va_Pc [.ref h0, .int q0, .int q1] (fun U => U.heap.size = sz ∧ va_P (dC, dI) vwCl [(h0, .inr (11, f_h0)), (m3, .inl (cI, 8, .inl fm3)), (m4, .inl (cI, 8, .inl fm4)), (m5, .inl (cI, 8, .inl fm5)), (m10, .inl (cI, 34, .inl fm10))] U.heap ∧ va_K (dC, dI) vwCl (tys0 cI cZ cQ) U)) (va_Qi (fun (r : Int32) (u : Nat → Nat) => True) (fun (_ : Nat → Nat) (_ : State) => True) (fun _ : Nat => False)) 0 0 (fun _ : Nat => False) := by
  refine Met.ofW (cc := cX11_quill) (maxL := 3) (ret := (some .int)) (by decide) rfl ?_
  intro p e s m args below meth c s₁ B hml hv
  obtain ⟨rfl, hsz, hP, hK⟩ := hv
  have hx := B.exec
  have hb := B.bytes
  have hr := B.returns
  have hts := atoms_spec (ws := wsX11_quill) B.pre
  have hown : s.vm.findClass RX11 = some m.cls := findClass_of_methodNamed B.named
  have hlocks := B.notSynchronized
  have hi_X11 : ∀ w ∈ u_ws RX11 TX11 46, w ∈ wsX11_quill := fun _ h => List.mem_cons_of_mem _ (List.mem_append_right _ (h))
  subst hsz
  have hS : va_S (fun _ : Nat => False) s.heap s.heap [] := va_S.rf
  have hl := lv_entry ([.ref h0, .int q0, .int q1]) (n := 3) (Nat.le_of_ble_eq_true rfl)
  rw [lg_entry_eq]
  generalize (lg_sl ([.ref h0, .int q0, .int q1]) ++ List.replicate (3 - (lg_sl ([.ref h0, .int q0, .int q1])).length) Slot.unset).toArray = ls at hl ⊢
  have hl : lv_has ls 3 [(0, .ref h0), (1, .int q0), (2, .int q1)] := hl
  refine lv_aload_n hx hb dX11_quill_0 rfl (lv_at hl 0 rfl) ?_
  refine lv_iload_n hx hb dX11_quill_1 rfl (lv_at hl 1 rfl) ?_
  have hPc := hP.sub (ws' := [(h0, .inr (11, f_h0))]) [0] rfl
  refine va_calli (va_runV (As := [.int q0]) (rest := []) ⟨hx, hb, hml, hown, hts⟩ (c_X11_isQuill l dC dI cI cZ cQ h0 (nI nq) f_h0 q0 s.heap.size e_h0_2 (nI_pos' (n := nq) (by omega))) (cwV 1 hts gX11_quill_X11_isQuill rfl rfl rfl hd_X11_isQuill_RX11 ⟨Nat.le_of_ble_eq_true rfl, Nat.le_of_ble_eq_true rfl⟩) (pv_R (va_recv hK hP (ci := 11) (q0 := 0) rfl rfl) hK hPc) rfl rfl hl.1 rfl (lv_room (Nat.le_of_ble_eq_true rfl)) dX11_quill_2 ⟨Nat.le_of_ble_eq_true rfl, Nat.le_of_ble_eq_true rfl⟩) hS (fun q _ h => False.elim h) (fun q h => False.elim h) (fun r1 u2 t H1 locs ht hvm hw3 hB hz1 hk1 hS => ?_)
  have hP := hP.kept (fun k q hk => hk1 q.1 (hP k q hk).lt (fun h => h))
  clear hz1 hk1 hPc
  generalize H1 = H at hP hS ht ⊢
  try dsimp only at hw3
  rcases hw3 with ⟨rfl, hw3⟩ | ⟨rfl, hw3⟩
  ·
    obtain ⟨j4, hj4, rfl⟩ := x_ix hw3 (by omega)
    refine lv_if_ne (tgt := 11) hx hb dX11_quill_5 (by decide) (fun c5 => ?_) (fun c5 => ?_)
    rotate_left
    · exact absurd c5 (by decide)
    clear c5
    refine lv_iload_n hx hb dX11_quill_11 rfl (lv_at hl 2 rfl) ?_
    by_cases c6 : q1.toInt < 0 ∨ 6 < q1.toInt
    · refine lv_tableOut (tgt := 110) hx hb dX11_quill_12 c6 (by decide) ?_
      refine lv_ldc (v := (-1000000002)) hx hb hown (hts (.constant RX11 111 (-1000000002)) (wmx 6 rfl)) dX11_quill_110 ?_
      exact W.iret (v := (-1000000002)) hx hb hr (fun t ht hW => ⟨⟨(-1000000002), (fun _ => 0), rfl, trivial, trivial⟩, hS.F ht⟩) hS.2.2 dX11_quill_112
    have h7 := x_sw_0_6 c6
    rcases h7 with h7 | h7 | h7 | h7 | h7 | h7 | h7
    · refine lv_tableIn (tgt := 56) hx hb dX11_quill_12 (by rw [h7]; decide) (by rw [h7]; decide) (by rw [h7]; rfl) (by decide) ?_
      refine lv_aload_n hx hb dX11_quill_56 rfl (lv_at hl 0 rfl) ?_
      refine va_get (D := (dC, dI)) (ci := 11) (v := .ref m3) (C := RX11) (T := TX11) (N := 46) hx hb hts hi_X11 hown hK hP 0 rfl rfl 3 (by decide) (hts (.fieldLink RX11 7 "LeftQuillsModel" "wing" "[I") (wmx 2 rfl)) (fun _ h9 => h9) e_h0_3 dX11_quill_57 ?_
      refine lv_iload_n hx hb dX11_quill_60 rfl (lv_at hl 1 rfl) ?_
      refine va_iald hx hb hK hP 1 0 rfl rfl (vp_in_nI (n := j4) (N := 8) (by omega) (by decide)) dX11_quill_61 ?_
      refine W.eq (g2 := F0 m 62 ls [.int (fm3 j4)]) (congrArg (fun y9 => F0 m 62 ls (.int (fm3 y9) :: [])) ((nI_clamp (n := j4) (by omega)))) ?_
      exact W.iret (v := fm3 j4) hx hb hr (fun t ht hW => ⟨⟨fm3 j4, (fun _ => 0), rfl, trivial, trivial⟩, hS.F ht⟩) hS.2.2 dX11_quill_62
    · refine lv_tableIn (tgt := 63) hx hb dX11_quill_12 (by rw [h7]; decide) (by rw [h7]; decide) (by rw [h7]; rfl) (by decide) ?_
      refine lv_aload_n hx hb dX11_quill_63 rfl (lv_at hl 0 rfl) ?_
      refine va_get (D := (dC, dI)) (ci := 11) (v := .ref m4) (C := RX11) (T := TX11) (N := 46) hx hb hts hi_X11 hown hK hP 0 rfl rfl 4 (by decide) (hts (.fieldLink RX11 13 "LeftQuillsModel" "place" "[I") (wmx 3 rfl)) (fun _ h9 => h9) e_h0_4 dX11_quill_64 ?_
      refine lv_iload_n hx hb dX11_quill_67 rfl (lv_at hl 1 rfl) ?_
      refine va_iald hx hb hK hP 2 0 rfl rfl (vp_in_nI (n := j4) (N := 8) (by omega) (by decide)) dX11_quill_68 ?_
      refine W.eq (g2 := F0 m 69 ls [.int (fm4 j4)]) (congrArg (fun y9 => F0 m 69 ls (.int (fm4 y9) :: [])) ((nI_clamp (n := j4) (by omega)))) ?_
      exact W.iret (v := fm4 j4) hx hb hr (fun t ht hW => ⟨⟨fm4 j4, (fun _ => 0), rfl, trivial, trivial⟩, hS.F ht⟩) hS.2.2 dX11_quill_69
    · refine lv_tableIn (tgt := 70) hx hb dX11_quill_12 (by rw [h7]; decide) (by rw [h7]; decide) (by rw [h7]; rfl) (by decide) ?_
      refine lv_aload_n hx hb dX11_quill_70 rfl (lv_at hl 0 rfl) ?_
      refine va_get (D := (dC, dI)) (ci := 11) (v := .ref m5) (C := RX11) (T := TX11) (N := 46) hx hb hts hi_X11 hown hK hP 0 rfl rfl 5 (by decide) (hts (.fieldLink RX11 16 "LeftQuillsModel" "cooked" "[I") (wmx 4 rfl)) (fun _ h9 => h9) e_h0_5 dX11_quill_71 ?_
      refine lv_iload_n hx hb dX11_quill_74 rfl (lv_at hl 1 rfl) ?_
      refine va_iald hx hb hK hP 3 0 rfl rfl (vp_in_nI (n := j4) (N := 8) (by omega) (by decide)) dX11_quill_75 ?_
      refine W.eq (g2 := F0 m 76 ls [.int (fm5 j4)]) (congrArg (fun y9 => F0 m 76 ls (.int (fm5 y9) :: [])) ((nI_clamp (n := j4) (by omega)))) ?_
      exact W.iret (v := fm5 j4) hx hb hr (fun t ht hW => ⟨⟨fm5 j4, (fun _ => 0), rfl, trivial, trivial⟩, hS.F ht⟩) hS.2.2 dX11_quill_76
    · refine lv_tableIn (tgt := 77) hx hb dX11_quill_12 (by rw [h7]; decide) (by rw [h7]; decide) (by rw [h7]; rfl) (by decide) ?_
      refine lv_aload_n hx hb dX11_quill_77 rfl (lv_at hl 0 rfl) ?_
      refine va_get (D := (dC, dI)) (ci := 11) (v := .ref m10) (C := RX11) (T := TX11) (N := 46) hx hb hts hi_X11 hown hK hP 0 rfl rfl 10 (by decide) (hts (.fieldLink RX11 28 "LeftQuillsModel" "now" "[I") (wmx 5 rfl)) (fun _ h9 => h9) e_h0_10 dX11_quill_78 ?_
      refine lv_iload_n hx hb dX11_quill_81 rfl (lv_at hl 1 rfl) ?_
      refine va_iald hx hb hK hP 4 0 rfl rfl (vp_in_nI (n := j4) (N := 34) (by omega) (by decide)) dX11_quill_82 ?_
      refine W.eq (g2 := F0 m 83 ls [.int (fm10 j4)]) (congrArg (fun y9 => F0 m 83 ls (.int (fm10 y9) :: [])) ((nI_clamp (n := j4) (by omega)))) ?_
      exact W.iret (v := fm10 j4) hx hb hr (fun t ht hW => ⟨⟨fm10 j4, (fun _ => 0), rfl, trivial, trivial⟩, hS.F ht⟩) hS.2.2 dX11_quill_83
    · refine lv_tableIn (tgt := 84) hx hb dX11_quill_12 (by rw [h7]; decide) (by rw [h7]; decide) (by rw [h7]; rfl) (by decide) ?_
      refine lv_aload_n hx hb dX11_quill_84 rfl (lv_at hl 0 rfl) ?_
      refine va_get (D := (dC, dI)) (ci := 11) (v := .ref m10) (C := RX11) (T := TX11) (N := 46) hx hb hts hi_X11 hown hK hP 0 rfl rfl 10 (by decide) (hts (.fieldLink RX11 28 "LeftQuillsModel" "now" "[I") (wmx 5 rfl)) (fun _ h9 => h9) e_h0_10 dX11_quill_85 ?_
      refine lv_bipush (v := 8) hx hb dX11_quill_88 (by decide) ?_
      refine lv_iload_n hx hb dX11_quill_90 rfl (lv_at hl 1 rfl) ?_
      refine lv_iadd hx hb dX11_quill_91 ?_
      refine lv_topi (fun z8 ez8 => ?_)
      obtain rfl : z8 = nI (8 + j4) := ez8.trans (nI_add 8 j4)
      refine va_iald hx hb hK hP 4 0 rfl rfl (vp_in_nI (n := 8 + j4) (N := 34) (by omega) (by decide)) dX11_quill_92 ?_
      refine W.eq (g2 := F0 m 93 ls [.int (fm10 (8 + j4))]) (congrArg (fun y9 => F0 m 93 ls (.int (fm10 y9) :: [])) ((nI_clamp (n := 8 + j4) (by omega)))) ?_
      exact W.iret (v := fm10 (8 + j4)) hx hb hr (fun t ht hW => ⟨⟨fm10 (8 + j4), (fun _ => 0), rfl, trivial, trivial⟩, hS.F ht⟩) hS.2.2 dX11_quill_93
    · refine lv_tableIn (tgt := 94) hx hb dX11_quill_12 (by rw [h7]; decide) (by rw [h7]; decide) (by rw [h7]; rfl) (by decide) ?_
      refine lv_aload_n hx hb dX11_quill_94 rfl (lv_at hl 0 rfl) ?_
      refine lv_iload_n hx hb dX11_quill_95 rfl (lv_at hl 1 rfl) ?_
      have hPc := hP.sub (ws' := [(h0, .inr (11, f_h0)), (m4, .inl (cI, 8, .inl fm4)), (m5, .inl (cI, 8, .inl fm5))]) [0, 2, 3] rfl
      refine va_calli (va_runV (As := [.int (nI j4)]) (rest := []) ⟨hx, hb, hml, hown, hts⟩ (c_X11_hard l dC dI cI cZ cQ h0 m4 m5 f_h0 fm4 fm5 j4 nq H.size e_h0_4 e_h0_5 (by omega) (by first | assumption | decide) (by omega)) (cwV 1 hts gX11_quill_X11_hard rfl rfl rfl hd_X11_hard_RX11 ⟨Nat.le_of_ble_eq_true rfl, Nat.le_of_ble_eq_true rfl⟩) (pv_R (va_recv hK hP (ci := 11) (q0 := 0) rfl rfl) hK hPc) rfl rfl hl.1 rfl (lv_room (Nat.le_of_ble_eq_true rfl)) dX11_quill_96 ⟨Nat.le_of_ble_eq_true rfl, Nat.le_of_ble_eq_true rfl⟩) hS (fun q _ h => False.elim h) (fun q h => False.elim h) (fun r9 u10 t H1 locs ht hvm hw11 hB hz1 hk1 hS => ?_)
      have hP := hP.kept (fun k q hk => hk1 q.1 (hP k q hk).lt (fun h => h))
      clear hz1 hk1 hPc
      generalize H1 = H at hP hS ht ⊢
      try dsimp only at hw11
      obtain ⟨w12, haw12, hbw12, rfl⟩ := hw11
      exact W.iret (v := nI w12) hx hb hr (fun t ht hW => ⟨⟨nI w12, (fun _ => 0), rfl, trivial, trivial⟩, hS.F ht⟩) hS.2.2 dX11_quill_99
    · refine lv_tableIn (tgt := 100) hx hb dX11_quill_12 (by rw [h7]; decide) (by rw [h7]; decide) (by rw [h7]; rfl) (by decide) ?_
      refine lv_aload_n hx hb dX11_quill_100 rfl (lv_at hl 0 rfl) ?_
      refine va_get (D := (dC, dI)) (ci := 11) (v := .ref m10) (C := RX11) (T := TX11) (N := 46) hx hb hts hi_X11 hown hK hP 0 rfl rfl 10 (by decide) (hts (.fieldLink RX11 28 "LeftQuillsModel" "now" "[I") (wmx 5 rfl)) (fun _ h9 => h9) e_h0_10 dX11_quill_101 ?_
      refine lv_bipush (v := 16) hx hb dX11_quill_104 (by decide) ?_
      refine lv_iload_n hx hb dX11_quill_106 rfl (lv_at hl 1 rfl) ?_
      refine lv_iadd hx hb dX11_quill_107 ?_
      refine lv_topi (fun z13 ez13 => ?_)
      obtain rfl : z13 = nI (16 + j4) := ez13.trans (nI_add 16 j4)
      refine va_iald hx hb hK hP 4 0 rfl rfl (vp_in_nI (n := 16 + j4) (N := 34) (by omega) (by decide)) dX11_quill_108 ?_
      refine W.eq (g2 := F0 m 109 ls [.int (fm10 (16 + j4))]) (congrArg (fun y9 => F0 m 109 ls (.int (fm10 y9) :: [])) ((nI_clamp (n := 16 + j4) (by omega)))) ?_
      exact W.iret (v := fm10 (16 + j4)) hx hb hr (fun t ht hW => ⟨⟨fm10 (16 + j4), (fun _ => 0), rfl, trivial, trivial⟩, hS.F ht⟩) hS.2.2 dX11_quill_109
  ·
    refine lv_if_ne (tgt := 11) hx hb dX11_quill_5 (by decide) (fun c14 => ?_) (fun c14 => ?_)
    · exact absurd c14 (by decide)
    clear c14
    refine lv_ldc (v := (-1000000001)) hx hb hown (hts (.constant RX11 188 (-1000000001)) (wmx 1 rfl)) dX11_quill_8 ?_
    exact W.iret (v := (-1000000001)) hx hb hr (fun t ht hW => ⟨⟨(-1000000001), (fun _ => 0), rfl, trivial, trivial⟩, hS.F ht⟩) hS.2.2 dX11_quill_10
set_option maxHeartbeats 4000000 in
set_option maxRecDepth 100000 in
theorem c_X11_hand (l : Launch) (dC : Nat → ClassId) (dI : Nat → Nat → Nat) (cI cZ cQ : ClassId) (h0 : Nat) (nh : Nat) (m7 : Nat) (m8 : Nat) (m9 : Nat) (m10 : Nat) (f_h0 : List Value) (fm7 : Nat → Int32) (fm8 : Nat → Int32) (fm9 : Nat → Int32) (fm10 : Nat → Int32) (q0 : Int32) (q1 : Int32) (sz : Nat) (e_h0_6 : fAt f_h0 6 = some (.int (nI nh))) (e_h0_7 : fAt f_h0 7 = some (.ref m7)) (e_h0_8 : fAt f_h0 8 = some (.ref m8)) (e_h0_9 : fAt f_h0 9 = some (.ref m9)) (e_h0_10 : fAt f_h0 10 = some (.ref m10)) (hnh : nh ≤ 4) : Met l yX11_hand wsX11_hand ({ frames := 2, cells := 0, slots := 0, locals := 86 }) (va_Pc [.ref h0, .int q0, .int q1] (fun U => U.heap.size = sz ∧ va_P (dC, dI) vwCl [(h0, .inr (11, f_h0)), (m7, .inl (cI, 4, .inl fm7)), (m8, .inl (cI, 4, .inl fm8)), (m9, .inl (cI, 4, .inl fm9)), (m10, .inl (cI, 34, .inl fm10))] U.heap ∧ va_K (dC, dI) vwCl (tys0 cI cZ cQ) U)) (va_Qi (fun (r : Int32) (u : Nat → Nat) => True) (fun (_ : Nat → Nat) (_ : State) => True) (fun _ : Nat => False)) 0 0 (fun _ : Nat => False) := by
  refine Met.ofW (cc := cX11_hand) (maxL := 3) (ret := (some .int)) (by decide) rfl ?_
  intro p e s m args below meth c s₁ B hml hv
  obtain ⟨rfl, hsz, hP, hK⟩ := hv
  have hx := B.exec
  have hb := B.bytes
  have hr := B.returns
  have hts := atoms_spec (ws := wsX11_hand) B.pre
  have hown : s.vm.findClass RX11 = some m.cls := findClass_of_methodNamed B.named
  have hlocks := B.notSynchronized
  have hi_X11 : ∀ w ∈ u_ws RX11 TX11 46, w ∈ wsX11_hand := fun _ h => List.mem_cons_of_mem _ (List.mem_append_right _ (h))
  subst hsz
  have hS : va_S (fun _ : Nat => False) s.heap s.heap [] := va_S.rf
  have hl := lv_entry ([.ref h0, .int q0, .int q1]) (n := 3) (Nat.le_of_ble_eq_true rfl)
  rw [lg_entry_eq]
  generalize (lg_sl ([.ref h0, .int q0, .int q1]) ++ List.replicate (3 - (lg_sl ([.ref h0, .int q0, .int q1])).length) Slot.unset).toArray = ls at hl ⊢
  have hl : lv_has ls 3 [(0, .ref h0), (1, .int q0), (2, .int q1)] := hl
  refine lv_aload_n hx hb dX11_hand_0 rfl (lv_at hl 0 rfl) ?_
  refine lv_iload_n hx hb dX11_hand_1 rfl (lv_at hl 1 rfl) ?_
  have hPc := hP.sub (ws' := [(h0, .inr (11, f_h0))]) [0] rfl
  refine va_calli (va_runV (As := [.int q0]) (rest := []) ⟨hx, hb, hml, hown, hts⟩ (c_X11_isHand l dC dI cI cZ cQ h0 (nI nh) f_h0 q0 s.heap.size e_h0_6 (nI_pos' (n := nh) (by omega))) (cwV 1 hts gX11_hand_X11_isHand rfl rfl rfl hd_X11_isHand_RX11 ⟨Nat.le_of_ble_eq_true rfl, Nat.le_of_ble_eq_true rfl⟩) (pv_R (va_recv hK hP (ci := 11) (q0 := 0) rfl rfl) hK hPc) rfl rfl hl.1 rfl (lv_room (Nat.le_of_ble_eq_true rfl)) dX11_hand_2 ⟨Nat.le_of_ble_eq_true rfl, Nat.le_of_ble_eq_true rfl⟩) hS (fun q _ h => False.elim h) (fun q h => False.elim h) (fun r1 u2 t H1 locs ht hvm hw3 hB hz1 hk1 hS => ?_)
  have hP := hP.kept (fun k q hk => hk1 q.1 (hP k q hk).lt (fun h => h))
  clear hz1 hk1 hPc
  generalize H1 = H at hP hS ht ⊢
  try dsimp only at hw3
  rcases hw3 with ⟨rfl, hw3⟩ | ⟨rfl, hw3⟩
  ·
    obtain ⟨j4, hj4, rfl⟩ := x_ix hw3 (by omega)
    refine lv_if_ne (tgt := 11) hx hb dX11_hand_5 (by decide) (fun c5 => ?_) (fun c5 => ?_)
    rotate_left
    · exact absurd c5 (by decide)
    clear c5
    refine lv_iload_n hx hb dX11_hand_11 rfl (lv_at hl 2 rfl) ?_
    by_cases c6 : q1.toInt < 0 ∨ 4 < q1.toInt
    · refine lv_tableOut (tgt := 89) hx hb dX11_hand_12 c6 (by decide) ?_
      refine lv_ldc (v := (-1000000002)) hx hb hown (hts (.constant RX11 111 (-1000000002)) (wmx 6 rfl)) dX11_hand_89 ?_
      exact W.iret (v := (-1000000002)) hx hb hr (fun t ht hW => ⟨⟨(-1000000002), (fun _ => 0), rfl, trivial, trivial⟩, hS.F ht⟩) hS.2.2 dX11_hand_91
    have h7 := x_sw_0_4 c6
    rcases h7 with h7 | h7 | h7 | h7 | h7
    · refine lv_tableIn (tgt := 48) hx hb dX11_hand_12 (by rw [h7]; decide) (by rw [h7]; decide) (by rw [h7]; rfl) (by decide) ?_
      refine lv_aload_n hx hb dX11_hand_48 rfl (lv_at hl 0 rfl) ?_
      refine va_get (D := (dC, dI)) (ci := 11) (v := .ref m7) (C := RX11) (T := TX11) (N := 46) hx hb hts hi_X11 hown hK hP 0 rfl rfl 7 (by decide) (hts (.fieldLink RX11 19 "LeftQuillsModel" "side" "[I") (wmx 2 rfl)) (fun _ h9 => h9) e_h0_7 dX11_hand_49 ?_
      refine lv_iload_n hx hb dX11_hand_52 rfl (lv_at hl 1 rfl) ?_
      refine va_iald hx hb hK hP 1 0 rfl rfl (vp_in_nI (n := j4) (N := 4) (by omega) (by decide)) dX11_hand_53 ?_
      refine W.eq (g2 := F0 m 54 ls [.int (fm7 j4)]) (congrArg (fun y9 => F0 m 54 ls (.int (fm7 y9) :: [])) ((nI_clamp (n := j4) (by omega)))) ?_
      exact W.iret (v := fm7 j4) hx hb hr (fun t ht hW => ⟨⟨fm7 j4, (fun _ => 0), rfl, trivial, trivial⟩, hS.F ht⟩) hS.2.2 dX11_hand_54
    · refine lv_tableIn (tgt := 55) hx hb dX11_hand_12 (by rw [h7]; decide) (by rw [h7]; decide) (by rw [h7]; rfl) (by decide) ?_
      refine lv_aload_n hx hb dX11_hand_55 rfl (lv_at hl 0 rfl) ?_
      refine va_get (D := (dC, dI)) (ci := 11) (v := .ref m8) (C := RX11) (T := TX11) (N := 46) hx hb hts hi_X11 hown hK hP 0 rfl rfl 8 (by decide) (hts (.fieldLink RX11 22 "LeftQuillsModel" "presses" "[I") (wmx 3 rfl)) (fun _ h9 => h9) e_h0_8 dX11_hand_56 ?_
      refine lv_iload_n hx hb dX11_hand_59 rfl (lv_at hl 1 rfl) ?_
      refine va_iald hx hb hK hP 2 0 rfl rfl (vp_in_nI (n := j4) (N := 4) (by omega) (by decide)) dX11_hand_60 ?_
      refine W.eq (g2 := F0 m 61 ls [.int (fm8 j4)]) (congrArg (fun y9 => F0 m 61 ls (.int (fm8 y9) :: [])) ((nI_clamp (n := j4) (by omega)))) ?_
      exact W.iret (v := fm8 j4) hx hb hr (fun t ht hW => ⟨⟨fm8 j4, (fun _ => 0), rfl, trivial, trivial⟩, hS.F ht⟩) hS.2.2 dX11_hand_61
    · refine lv_tableIn (tgt := 62) hx hb dX11_hand_12 (by rw [h7]; decide) (by rw [h7]; decide) (by rw [h7]; rfl) (by decide) ?_
      refine lv_aload_n hx hb dX11_hand_62 rfl (lv_at hl 0 rfl) ?_
      refine va_get (D := (dC, dI)) (ci := 11) (v := .ref m9) (C := RX11) (T := TX11) (N := 46) hx hb hts hi_X11 hown hK hP 0 rfl rfl 9 (by decide) (hts (.fieldLink RX11 25 "LeftQuillsModel" "wants" "[I") (wmx 4 rfl)) (fun _ h9 => h9) e_h0_9 dX11_hand_63 ?_
      refine lv_iload_n hx hb dX11_hand_66 rfl (lv_at hl 1 rfl) ?_
      refine va_iald hx hb hK hP 3 0 rfl rfl (vp_in_nI (n := j4) (N := 4) (by omega) (by decide)) dX11_hand_67 ?_
      refine W.eq (g2 := F0 m 68 ls [.int (fm9 j4)]) (congrArg (fun y9 => F0 m 68 ls (.int (fm9 y9) :: [])) ((nI_clamp (n := j4) (by omega)))) ?_
      exact W.iret (v := fm9 j4) hx hb hr (fun t ht hW => ⟨⟨fm9 j4, (fun _ => 0), rfl, trivial, trivial⟩, hS.F ht⟩) hS.2.2 dX11_hand_68
    · refine lv_tableIn (tgt := 69) hx hb dX11_hand_12 (by rw [h7]; decide) (by rw [h7]; decide) (by rw [h7]; rfl) (by decide) ?_
      refine lv_aload_n hx hb dX11_hand_69 rfl (lv_at hl 0 rfl) ?_
      refine va_get (D := (dC, dI)) (ci := 11) (v := .ref m10) (C := RX11) (T := TX11) (N := 46) hx hb hts hi_X11 hown hK hP 0 rfl rfl 10 (by decide) (hts (.fieldLink RX11 28 "LeftQuillsModel" "now" "[I") (wmx 5 rfl)) (fun _ h9 => h9) e_h0_10 dX11_hand_70 ?_
      refine lv_bipush (v := 24) hx hb dX11_hand_73 (by decide) ?_
      refine lv_iload_n hx hb dX11_hand_75 rfl (lv_at hl 1 rfl) ?_
      refine lv_iadd hx hb dX11_hand_76 ?_
      refine lv_topi (fun z8 ez8 => ?_)
      obtain rfl : z8 = nI (24 + j4) := ez8.trans (nI_add 24 j4)
      refine va_iald hx hb hK hP 4 0 rfl rfl (vp_in_nI (n := 24 + j4) (N := 34) (by omega) (by decide)) dX11_hand_77 ?_
      refine W.eq (g2 := F0 m 78 ls [.int (fm10 (24 + j4))]) (congrArg (fun y9 => F0 m 78 ls (.int (fm10 y9) :: [])) ((nI_clamp (n := 24 + j4) (by omega)))) ?_
      exact W.iret (v := fm10 (24 + j4)) hx hb hr (fun t ht hW => ⟨⟨fm10 (24 + j4), (fun _ => 0), rfl, trivial, trivial⟩, hS.F ht⟩) hS.2.2 dX11_hand_78
    · refine lv_tableIn (tgt := 79) hx hb dX11_hand_12 (by rw [h7]; decide) (by rw [h7]; decide) (by rw [h7]; rfl) (by decide) ?_
      refine lv_aload_n hx hb dX11_hand_79 rfl (lv_at hl 0 rfl) ?_
      refine va_get (D := (dC, dI)) (ci := 11) (v := .ref m10) (C := RX11) (T := TX11) (N := 46) hx hb hts hi_X11 hown hK hP 0 rfl rfl 10 (by decide) (hts (.fieldLink RX11 28 "LeftQuillsModel" "now" "[I") (wmx 5 rfl)) (fun _ h9 => h9) e_h0_10 dX11_hand_80 ?_
      refine lv_bipush (v := 28) hx hb dX11_hand_83 (by decide) ?_
      refine lv_iload_n hx hb dX11_hand_85 rfl (lv_at hl 1 rfl) ?_
      refine lv_iadd hx hb dX11_hand_86 ?_
      refine lv_topi (fun z9 ez9 => ?_)
      obtain rfl : z9 = nI (28 + j4) := ez9.trans (nI_add 28 j4)
      refine va_iald hx hb hK hP 4 0 rfl rfl (vp_in_nI (n := 28 + j4) (N := 34) (by omega) (by decide)) dX11_hand_87 ?_
      refine W.eq (g2 := F0 m 88 ls [.int (fm10 (28 + j4))]) (congrArg (fun y9 => F0 m 88 ls (.int (fm10 y9) :: [])) ((nI_clamp (n := 28 + j4) (by omega)))) ?_
      exact W.iret (v := fm10 (28 + j4)) hx hb hr (fun t ht hW => ⟨⟨fm10 (28 + j4), (fun _ => 0), rfl, trivial, trivial⟩, hS.F ht⟩) hS.2.2 dX11_hand_88
  ·
    refine lv_if_ne (tgt := 11) hx hb dX11_hand_5 (by decide) (fun c10 => ?_) (fun c10 => ?_)
    · exact absurd c10 (by decide)
    clear c10
    refine lv_ldc (v := (-1000000001)) hx hb hown (hts (.constant RX11 188 (-1000000001)) (wmx 1 rfl)) dX11_hand_8 ?_
    exact W.iret (v := (-1000000001)) hx hb hr (fun t ht hW => ⟨⟨(-1000000001), (fun _ => 0), rfl, trivial, trivial⟩, hS.F ht⟩) hS.2.2 dX11_hand_10
set_option maxHeartbeats 4000000 in
set_option maxRecDepth 100000 in
theorem c_X11_write (l : Launch) (dC : Nat → ClassId) (dI : Nat → Nat → Nat) (cI cZ cQ : ClassId) (h0 : Nat) (n0 : Int32) (n1 : Int32) (nq : Nat) (m3 : Nat) (m4 : Nat) (m5 : Nat) (nh : Nat) (m7 : Nat) (m8 : Nat) (m9 : Nat) (m10 : Nat) (sd : Nat) (m12 : Nat) (tx : Nat) (n14 : Int32) (at9 : Nat) (n16 : Int32) (n17 : Int32) (m18 : Nat) (rq : Nat) (m20 : Nat) (m21 : Nat) (m22 : Nat) (m23 : Nat) (m24 : Nat) (rh : Nat) (m26 : Nat) (m27 : Nat) (m28 : Nat) (un : Nat) (m30 : Nat) (n31 : Int32) (n32 : Int32) (m33 : Nat) (n34 : Int32) (n35 : Int32) (m36 : Nat) (wm : Nat) (m38 : Nat) (m39 : Nat) (m40 : Nat) (bk : Nat) (m42 : Nat) (m43 : Nat) (m44 : Nat) (m45 : Nat) (fm3 : Nat → Int32) (fm4 : Nat → Int32) (fm5 : Nat → Int32) (fm7 : Nat → Int32) (fm8 : Nat → Int32) (fm9 : Nat → Int32) (fm10 : Nat → Int32) (fm30 : Nat → Int32) (q0 : Int32) (q1 : Int32) (q2 : Int32) (sz : Nat) (hnq : nq ≤ 8) (hci : cIn fm5 nq) (hnh : nh ≤ 4) (hun : un ≤ 20) : Met l yX11_write wsX11_write ({ frames := 5, cells := 0, slots := 0, locals := 154 }) (va_Pc [.ref h0, .int q0, .int q1, .int q2] (fun U => U.heap.size = sz ∧ va_P (dC, dI) vwCl [(h0, .inr (11, (.int n0 :: .int n1 :: .int (nI nq) :: .ref m3 :: .ref m4 :: .ref m5 :: .int (nI nh) :: .ref m7 :: .ref m8 :: .ref m9 :: .ref m10 :: .int (nI sd) :: .ref m12 :: .int (nI tx) :: .int n14 :: .int (nI at9) :: .int n16 :: .int n17 :: .ref m18 :: .int (nI rq) :: .ref m20 :: .ref m21 :: .ref m22 :: .ref m23 :: .ref m24 :: .int (nI rh) :: .ref m26 :: .ref m27 :: .ref m28 :: .int (nI un) :: .ref m30 :: .int n31 :: .int n32 :: .ref m33 :: .int n34 :: .int n35 :: .ref m36 :: .int (nI wm) :: .ref m38 :: .ref m39 :: .ref m40 :: .int (nI bk) :: .ref m42 :: .ref m43 :: .ref m44 :: .ref m45 :: []))), (m3, .inl (cI, 8, .inl fm3)), (m4, .inl (cI, 8, .inl fm4)), (m5, .inl (cI, 8, .inl fm5)), (m7, .inl (cI, 4, .inl fm7)), (m8, .inl (cI, 4, .inl fm8)), (m9, .inl (cI, 4, .inl fm9)), (m10, .inl (cI, 34, .inl fm10)), (m30, .inl (cI, 680, .inl fm30))] U.heap ∧ va_K (dC, dI) vwCl (tys0 cI cZ cQ) U ∧ va_D (fun _ => True) [(h0, .inr (11, (.int n0 :: .int n1 :: .int (nI nq) :: .ref m3 :: .ref m4 :: .ref m5 :: .int (nI nh) :: .ref m7 :: .ref m8 :: .ref m9 :: .ref m10 :: .int (nI sd) :: .ref m12 :: .int (nI tx) :: .int n14 :: .int (nI at9) :: .int n16 :: .int n17 :: .ref m18 :: .int (nI rq) :: .ref m20 :: .ref m21 :: .ref m22 :: .ref m23 :: .ref m24 :: .int (nI rh) :: .ref m26 :: .ref m27 :: .ref m28 :: .int (nI un) :: .ref m30 :: .int n31 :: .int n32 :: .ref m33 :: .int n34 :: .int n35 :: .ref m36 :: .int (nI wm) :: .ref m38 :: .ref m39 :: .ref m40 :: .int (nI bk) :: .ref m42 :: .ref m43 :: .ref m44 :: .ref m45 :: []))), (m3, .inl (cI, 8, .inl fm3)), (m4, .inl (cI, 8, .inl fm4)), (m5, .inl (cI, 8, .inl fm5)), (m7, .inl (cI, 4, .inl fm7)), (m8, .inl (cI, 4, .inl fm8)), (m9, .inl (cI, 4, .inl fm9)), (m10, .inl (cI, 34, .inl fm10)), (m30, .inl (cI, 680, .inl fm30))])) (va_Qi (fun (r : Int32) (u : Nat → Nat) => True) (fun (_ : Nat → Nat) (t : State) => ∃ (gg0 gg1 : Nat → Int32) (kk0 : Nat), kk0 ≤ 20 ∧ va_P (dC, dI) vwCl [(h0, .inr (11, (.int n0 :: .int n1 :: .int (nI nq) :: .ref m3 :: .ref m4 :: .ref m5 :: .int (nI nh) :: .ref m7 :: .ref m8 :: .ref m9 :: .ref m10 :: .int (nI sd) :: .ref m12 :: .int (nI tx) :: .int n14 :: .int (nI at9) :: .int n16 :: .int n17 :: .ref m18 :: .int (nI rq) :: .ref m20 :: .ref m21 :: .ref m22 :: .ref m23 :: .ref m24 :: .int (nI rh) :: .ref m26 :: .ref m27 :: .ref m28 :: .int (nI kk0) :: .ref m30 :: .int n31 :: .int n32 :: .ref m33 :: .int n34 :: .int n35 :: .ref m36 :: .int (nI wm) :: .ref m38 :: .ref m39 :: .ref m40 :: .int (nI bk) :: .ref m42 :: .ref m43 :: .ref m44 :: .ref m45 :: []))), (m3, .inl (cI, 8, .inl fm3)), (m4, .inl (cI, 8, .inl fm4)), (m5, .inl (cI, 8, .inl fm5)), (m7, .inl (cI, 4, .inl fm7)), (m8, .inl (cI, 4, .inl fm8)), (m9, .inl (cI, 4, .inl fm9)), (m10, .inl (cI, 34, .inl gg0)), (m30, .inl (cI, 680, .inl gg1))] t.heap ∧ va_D (va_A [(h0, .inr (11, (.int n0 :: .int n1 :: .int (nI nq) :: .ref m3 :: .ref m4 :: .ref m5 :: .int (nI nh) :: .ref m7 :: .ref m8 :: .ref m9 :: .ref m10 :: .int (nI sd) :: .ref m12 :: .int (nI tx) :: .int n14 :: .int (nI at9) :: .int n16 :: .int n17 :: .ref m18 :: .int (nI rq) :: .ref m20 :: .ref m21 :: .ref m22 :: .ref m23 :: .ref m24 :: .int (nI rh) :: .ref m26 :: .ref m27 :: .ref m28 :: .int (nI un) :: .ref m30 :: .int n31 :: .int n32 :: .ref m33 :: .int n34 :: .int n35 :: .ref m36 :: .int (nI wm) :: .ref m38 :: .ref m39 :: .ref m40 :: .int (nI bk) :: .ref m42 :: .ref m43 :: .ref m44 :: .ref m45 :: []))), (m3, .inl (cI, 8, .inl fm3)), (m4, .inl (cI, 8, .inl fm4)), (m5, .inl (cI, 8, .inl fm5)), (m7, .inl (cI, 4, .inl fm7)), (m8, .inl (cI, 4, .inl fm8)), (m9, .inl (cI, 4, .inl fm9)), (m10, .inl (cI, 34, .inl fm10)), (m30, .inl (cI, 680, .inl fm30))] sz) [(h0, .inr (11, (.int n0 :: .int n1 :: .int (nI nq) :: .ref m3 :: .ref m4 :: .ref m5 :: .int (nI nh) :: .ref m7 :: .ref m8 :: .ref m9 :: .ref m10 :: .int (nI sd) :: .ref m12 :: .int (nI tx) :: .int n14 :: .int (nI at9) :: .int n16 :: .int n17 :: .ref m18 :: .int (nI rq) :: .ref m20 :: .ref m21 :: .ref m22 :: .ref m23 :: .ref m24 :: .int (nI rh) :: .ref m26 :: .ref m27 :: .ref m28 :: .int (nI kk0) :: .ref m30 :: .int n31 :: .int n32 :: .ref m33 :: .int n34 :: .int n35 :: .ref m36 :: .int (nI wm) :: .ref m38 :: .ref m39 :: .ref m40 :: .int (nI bk) :: .ref m42 :: .ref m43 :: .ref m44 :: .ref m45 :: []))), (m3, .inl (cI, 8, .inl fm3)), (m4, .inl (cI, 8, .inl fm4)), (m5, .inl (cI, 8, .inl fm5)), (m7, .inl (cI, 4, .inl fm7)), (m8, .inl (cI, 4, .inl fm8)), (m9, .inl (cI, 4, .inl fm9)), (m10, .inl (cI, 34, .inl gg0)), (m30, .inl (cI, 680, .inl gg1))]) (va_A [(h0, .inr (11, (.int n0 :: .int n1 :: .int (nI nq) :: .ref m3 :: .ref m4 :: .ref m5 :: .int (nI nh) :: .ref m7 :: .ref m8 :: .ref m9 :: .ref m10 :: .int (nI sd) :: .ref m12 :: .int (nI tx) :: .int n14 :: .int (nI at9) :: .int n16 :: .int n17 :: .ref m18 :: .int (nI rq) :: .ref m20 :: .ref m21 :: .ref m22 :: .ref m23 :: .ref m24 :: .int (nI rh) :: .ref m26 :: .ref m27 :: .ref m28 :: .int (nI un) :: .ref m30 :: .int n31 :: .int n32 :: .ref m33 :: .int n34 :: .int n35 :: .ref m36 :: .int (nI wm) :: .ref m38 :: .ref m39 :: .ref m40 :: .int (nI bk) :: .ref m42 :: .ref m43 :: .ref m44 :: .ref m45 :: []))), (m3, .inl (cI, 8, .inl fm3)), (m4, .inl (cI, 8, .inl fm4)), (m5, .inl (cI, 8, .inl fm5)), (m7, .inl (cI, 4, .inl fm7)), (m8, .inl (cI, 4, .inl fm8)), (m9, .inl (cI, 4, .inl fm9)), (m10, .inl (cI, 34, .inl fm10)), (m30, .inl (cI, 680, .inl fm30))] sz)) 0 0 (va_A [(h0, .inr (11, (.int n0 :: .int n1 :: .int (nI nq) :: .ref m3 :: .ref m4 :: .ref m5 :: .int (nI nh) :: .ref m7 :: .ref m8 :: .ref m9 :: .ref m10 :: .int (nI sd) :: .ref m12 :: .int (nI tx) :: .int n14 :: .int (nI at9) :: .int n16 :: .int n17 :: .ref m18 :: .int (nI rq) :: .ref m20 :: .ref m21 :: .ref m22 :: .ref m23 :: .ref m24 :: .int (nI rh) :: .ref m26 :: .ref m27 :: .ref m28 :: .int (nI un) :: .ref m30 :: .int n31 :: .int n32 :: .ref m33 :: .int n34 :: .int n35 :: .ref m36 :: .int (nI wm) :: .ref m38 :: .ref m39 :: .ref m40 :: .int (nI bk) :: .ref m42 :: .ref m43 :: .ref m44 :: .ref m45 :: []))), (m3, .inl (cI, 8, .inl fm3)), (m4, .inl (cI, 8, .inl fm4)), (m5, .inl (cI, 8, .inl fm5)), (m7, .inl (cI, 4, .inl fm7)), (m8, .inl (cI, 4, .inl fm8)), (m9, .inl (cI, 4, .inl fm9)), (m10, .inl (cI, 34, .inl fm10)), (m30, .inl (cI, 680, .inl fm30))] sz) := by
  refine Met.ofW (cc := cX11_write) (maxL := 6) (ret := (some .int)) (by decide) rfl ?_
  intro p e s m args below meth c s₁ B hml hv
  obtain ⟨rfl, hsz, hP, hK, hD0⟩ := hv
  have hx := B.exec
  have hb := B.bytes
  have hr := B.returns
  have hts := atoms_spec (ws := wsX11_write) B.pre
  have hown : s.vm.findClass RX11 = some m.cls := findClass_of_methodNamed B.named
  have hlocks := B.notSynchronized
  have hi_X11 : ∀ w ∈ u_ws RX11 TX11 46, w ∈ wsX11_write := fun _ h => List.mem_cons_of_mem _ (List.mem_append_right _ (h))
  subst hsz
  have hD := hD0.self (sz := s.heap.size)
  generalize hAe : va_A [(h0, .inr (11, (.int n0 :: .int n1 :: .int (nI nq) :: .ref m3 :: .ref m4 :: .ref m5 :: .int (nI nh) :: .ref m7 :: .ref m8 :: .ref m9 :: .ref m10 :: .int (nI sd) :: .ref m12 :: .int (nI tx) :: .int n14 :: .int (nI at9) :: .int n16 :: .int n17 :: .ref m18 :: .int (nI rq) :: .ref m20 :: .ref m21 :: .ref m22 :: .ref m23 :: .ref m24 :: .int (nI rh) :: .ref m26 :: .ref m27 :: .ref m28 :: .int (nI un) :: .ref m30 :: .int n31 :: .int n32 :: .ref m33 :: .int n34 :: .int n35 :: .ref m36 :: .int (nI wm) :: .ref m38 :: .ref m39 :: .ref m40 :: .int (nI bk) :: .ref m42 :: .ref m43 :: .ref m44 :: .ref m45 :: []))), (m3, .inl (cI, 8, .inl fm3)), (m4, .inl (cI, 8, .inl fm4)), (m5, .inl (cI, 8, .inl fm5)), (m7, .inl (cI, 4, .inl fm7)), (m8, .inl (cI, 4, .inl fm8)), (m9, .inl (cI, 4, .inl fm9)), (m10, .inl (cI, 34, .inl fm10)), (m30, .inl (cI, 680, .inl fm30))] s.heap.size = A at hD ⊢
  have hA : ∀ q : Nat, s.heap.size ≤ q → A q := fun q h => by rw [← hAe]; exact Or.inr h
  have hS : va_S A s.heap s.heap [] := va_S.rf
  have hl := lv_entry ([.ref h0, .int q0, .int q1, .int q2]) (n := 6) (Nat.le_of_ble_eq_true rfl)
  rw [lg_entry_eq]
  generalize (lg_sl ([.ref h0, .int q0, .int q1, .int q2]) ++ List.replicate (6 - (lg_sl ([.ref h0, .int q0, .int q1, .int q2])).length) Slot.unset).toArray = ls at hl ⊢
  have hl : lv_has ls 6 [(0, .ref h0), (1, .int q0), (2, .int q1), (3, .int q2)] := hl
  refine lv_aload_n hx hb dX11_write_0 rfl (lv_at hl 0 rfl) ?_
  refine lv_iload_n hx hb dX11_write_1 rfl (lv_at hl 1 rfl) ?_
  have hPc := hP.sub (ws' := [(h0, .inr (11, (.int n0 :: .int n1 :: .int (nI nq) :: .ref m3 :: .ref m4 :: .ref m5 :: .int (nI nh) :: .ref m7 :: .ref m8 :: .ref m9 :: .ref m10 :: .int (nI sd) :: .ref m12 :: .int (nI tx) :: .int n14 :: .int (nI at9) :: .int n16 :: .int n17 :: .ref m18 :: .int (nI rq) :: .ref m20 :: .ref m21 :: .ref m22 :: .ref m23 :: .ref m24 :: .int (nI rh) :: .ref m26 :: .ref m27 :: .ref m28 :: .int (nI un) :: .ref m30 :: .int n31 :: .int n32 :: .ref m33 :: .int n34 :: .int n35 :: .ref m36 :: .int (nI wm) :: .ref m38 :: .ref m39 :: .ref m40 :: .int (nI bk) :: .ref m42 :: .ref m43 :: .ref m44 :: .ref m45 :: [])))]) [0] rfl
  refine va_calli (va_runV (As := [.int q0]) (rest := []) ⟨hx, hb, hml, hown, hts⟩ (c_X11_isQuill l dC dI cI cZ cQ h0 (nI nq) ((.int n0 :: .int n1 :: .int (nI nq) :: .ref m3 :: .ref m4 :: .ref m5 :: .int (nI nh) :: .ref m7 :: .ref m8 :: .ref m9 :: .ref m10 :: .int (nI sd) :: .ref m12 :: .int (nI tx) :: .int n14 :: .int (nI at9) :: .int n16 :: .int n17 :: .ref m18 :: .int (nI rq) :: .ref m20 :: .ref m21 :: .ref m22 :: .ref m23 :: .ref m24 :: .int (nI rh) :: .ref m26 :: .ref m27 :: .ref m28 :: .int (nI un) :: .ref m30 :: .int n31 :: .int n32 :: .ref m33 :: .int n34 :: .int n35 :: .ref m36 :: .int (nI wm) :: .ref m38 :: .ref m39 :: .ref m40 :: .int (nI bk) :: .ref m42 :: .ref m43 :: .ref m44 :: .ref m45 :: [])) q0 s.heap.size rfl (nI_pos' (n := nq) (by omega))) (cwV 1 hts gX11_write_X11_isQuill rfl rfl rfl hd_X11_isQuill_RX11 ⟨Nat.le_of_ble_eq_true rfl, Nat.le_of_ble_eq_true rfl⟩) (pv_R (va_recv hK hP (ci := 11) (q0 := 0) rfl rfl) hK hPc) rfl rfl hl.1 rfl (lv_room (Nat.le_of_ble_eq_true rfl)) dX11_write_2 ⟨Nat.le_of_ble_eq_true rfl, Nat.le_of_ble_eq_true rfl⟩) hS (fun q _ h => False.elim h) (fun q h => False.elim h) (fun r1 u2 t H1 locs ht hvm hw3 hB hz1 hk1 hS => ?_)
  have hP := hP.kept (fun k q hk => hk1 q.1 (hP k q hk).lt (fun h => h))
  clear hz1 hk1 hPc
  generalize H1 = H at hP hS ht ⊢
  try dsimp only at hw3
  rcases hw3 with ⟨rfl, hw3⟩ | ⟨rfl, hw3⟩
  ·
    obtain ⟨j4, hj4, rfl⟩ := x_ix hw3 (by omega)
    refine lv_if_eq (tgt := 16) hx hb dX11_write_5 (by decide) (fun c5 => ?_) (fun c5 => ?_)
    · exact absurd c5 (by decide)
    clear c5
    refine lv_aload_n hx hb dX11_write_8 rfl (lv_at hl 0 rfl) ?_
    refine lv_iload_n hx hb dX11_write_9 rfl (lv_at hl 2 rfl) ?_
    have hPc := hP.sub (ws' := [(h0, .inr (11, (.int n0 :: .int n1 :: .int (nI nq) :: .ref m3 :: .ref m4 :: .ref m5 :: .int (nI nh) :: .ref m7 :: .ref m8 :: .ref m9 :: .ref m10 :: .int (nI sd) :: .ref m12 :: .int (nI tx) :: .int n14 :: .int (nI at9) :: .int n16 :: .int n17 :: .ref m18 :: .int (nI rq) :: .ref m20 :: .ref m21 :: .ref m22 :: .ref m23 :: .ref m24 :: .int (nI rh) :: .ref m26 :: .ref m27 :: .ref m28 :: .int (nI un) :: .ref m30 :: .int n31 :: .int n32 :: .ref m33 :: .int n34 :: .int n35 :: .ref m36 :: .int (nI wm) :: .ref m38 :: .ref m39 :: .ref m40 :: .int (nI bk) :: .ref m42 :: .ref m43 :: .ref m44 :: .ref m45 :: [])))]) [0] rfl
    refine va_calli (va_runV (As := [.int q1]) (rest := []) ⟨hx, hb, hml, hown, hts⟩ (c_X11_isHand l dC dI cI cZ cQ h0 (nI nh) ((.int n0 :: .int n1 :: .int (nI nq) :: .ref m3 :: .ref m4 :: .ref m5 :: .int (nI nh) :: .ref m7 :: .ref m8 :: .ref m9 :: .ref m10 :: .int (nI sd) :: .ref m12 :: .int (nI tx) :: .int n14 :: .int (nI at9) :: .int n16 :: .int n17 :: .ref m18 :: .int (nI rq) :: .ref m20 :: .ref m21 :: .ref m22 :: .ref m23 :: .ref m24 :: .int (nI rh) :: .ref m26 :: .ref m27 :: .ref m28 :: .int (nI un) :: .ref m30 :: .int n31 :: .int n32 :: .ref m33 :: .int n34 :: .int n35 :: .ref m36 :: .int (nI wm) :: .ref m38 :: .ref m39 :: .ref m40 :: .int (nI bk) :: .ref m42 :: .ref m43 :: .ref m44 :: .ref m45 :: [])) q1 H.size rfl (nI_pos' (n := nh) (by omega))) (cwV 1 hts gX11_write_X11_isHand rfl rfl rfl hd_X11_isHand_RX11 ⟨Nat.le_of_ble_eq_true rfl, Nat.le_of_ble_eq_true rfl⟩) (pv_R (va_recv hK hP (ci := 11) (q0 := 0) rfl rfl) hK hPc) rfl rfl hl.1 rfl (lv_room (Nat.le_of_ble_eq_true rfl)) dX11_write_10 ⟨Nat.le_of_ble_eq_true rfl, Nat.le_of_ble_eq_true rfl⟩) hS (fun q _ h => False.elim h) (fun q h => False.elim h) (fun r6 u7 t H1 locs ht hvm hw8 hB hz1 hk1 hS => ?_)
    have hP := hP.kept (fun k q hk => hk1 q.1 (hP k q hk).lt (fun h => h))
    clear hz1 hk1 hPc
    generalize H1 = H at hP hS ht ⊢
    try dsimp only at hw8
    rcases hw8 with ⟨rfl, hw8⟩ | ⟨rfl, hw8⟩
    ·
      obtain ⟨j9, hj9, rfl⟩ := x_ix hw8 (by omega)
      refine lv_if_ne (tgt := 19) hx hb dX11_write_13 (by decide) (fun c10 => ?_) (fun c10 => ?_)
      rotate_left
      · exact absurd c10 (by decide)
      clear c10
      refine lv_iload_n hx hb dX11_write_19 rfl (lv_at hl 3 rfl) ?_
      refine lv_i2l hx hb dX11_write_20 rfl ?_
      refine lv_lconst (v := 1) hx hb dX11_write_21 (by decide) ?_
      refine lv_topl (fun z11 ez11 => ?_)
      obtain rfl : z11 = (1 : Int32).toInt64 := ez11.trans (by decide)
      refine lv_ldc2 (v := 40) hx hb hown (hts (.constantLong RX11 219 40) (wmx 2 rfl)) dX11_write_22 ?_
      refine lv_topl (fun z12 ez12 => ?_)
      obtain rfl : z12 = (40 : Int32).toInt64 := ez12.trans (by decide)
      have hPc := hP.sub (ws' := []) [] rfl
      refine va_calli (va_runS (As := [.long q2.toInt64, .long ((1 : Int32).toInt64), .long ((40 : Int32).toInt64)]) (rest := []) ⟨hx, hb, hml, hown, hts⟩ (c_X11_in l dC dI cI cZ cQ q2 1 40 H.size ) (va_cwS 3 hts gX11_write_X11_in rfl rfl rfl (by decide +kernel) ⟨Nat.le_of_ble_eq_true rfl, Nat.le_of_ble_eq_true rfl⟩) (ps_R hK hPc) rfl rfl hl.1 rfl (lv_room (Nat.le_of_ble_eq_true rfl)) dX11_write_25 ⟨Nat.le_of_ble_eq_true rfl, Nat.le_of_ble_eq_true rfl⟩) hS (fun q _ h => False.elim h) (fun q h => False.elim h) (fun r13 u14 t H1 locs ht hvm hw15 hB hz1 hk1 hS => ?_)
      have hP := hP.kept (fun k q hk => hk1 q.1 (hP k q hk).lt (fun h => h))
      clear hz1 hk1 hPc
      generalize H1 = H at hP hS ht ⊢
      try dsimp only at hw15
      rcases hw15 with ⟨rfl, hw15⟩ | ⟨rfl, hw15⟩
      ·
        obtain ⟨j16, haj16, hbj16, rfl⟩ := x_rng (a := 1) (b := 40) (by decide) (by decide) hw15
        refine lv_if_ne (tgt := 34) hx hb dX11_write_28 (by decide) (fun c17 => ?_) (fun c17 => ?_)
        rotate_left
        · exact absurd c17 (by decide)
        clear c17
        refine lv_aload_n hx hb dX11_write_34 rfl (lv_at hl 0 rfl) ?_
        refine va_get (D := (dC, dI)) (ci := 11) (v := .ref m10) (C := RX11) (T := TX11) (N := 46) hx hb hts hi_X11 hown hK hP 0 rfl rfl 10 (by decide) (hts (.fieldLink RX11 28 "LeftQuillsModel" "now" "[I") (wmx 4 rfl)) (fun _ h9 => h9) rfl dX11_write_35 ?_
        refine lv_bipush (v := 32) hx hb dX11_write_38 (by decide) ?_
        refine va_iald hx hb hK hP 7 0 rfl rfl (vp_in_iff.mpr ⟨by decide, by decide⟩) dX11_write_40 ?_
        refine W.eq (g2 := F0 m 41 ls [.int (fm10 32)]) (congrArg (fun y9 => F0 m 41 ls (.int (fm10 y9) :: [])) ((show ((32 : Int32)).toNatClampNeg = 32 from by decide))) ?_
        refine lv_ldc (v := 90000) hx hb hown (hts (.constant RX11 221 90000) (wmx 5 rfl)) dX11_write_41 ?_
        refine lv_icmp_le (tgt := 49) hx hb dX11_write_43 (by decide) (fun c18 => ?_) (fun c18 => ?_)
        ·
          refine lv_aload_n hx hb dX11_write_49 rfl (lv_at hl 0 rfl) ?_
          have hc9 := va_cut (W' := [(h0, .inr (11, (.int n0 :: .int n1 :: .int (nI nq) :: .ref m3 :: .ref m4 :: .ref m5 :: .int (nI nh) :: .ref m7 :: .ref m8 :: .ref m9 :: .ref m10 :: .int (nI sd) :: .ref m12 :: .int (nI tx) :: .int n14 :: .int (nI at9) :: .int n16 :: .int n17 :: .ref m18 :: .int (nI rq) :: .ref m20 :: .ref m21 :: .ref m22 :: .ref m23 :: .ref m24 :: .int (nI rh) :: .ref m26 :: .ref m27 :: .ref m28 :: .int (nI un) :: .ref m30 :: .int n31 :: .int n32 :: .ref m33 :: .int n34 :: .int n35 :: .ref m36 :: .int (nI wm) :: .ref m38 :: .ref m39 :: .ref m40 :: .int (nI bk) :: .ref m42 :: .ref m43 :: .ref m44 :: .ref m45 :: []))), (m10, .inl (cI, 34, .inl fm10)), (m30, .inl (cI, 680, .inl fm30))]) hP hD hS hA [0, 7, 8] (by decide) rfl
          have hPc := hc9.1
          have hDc := hc9.2.1
          have hFc := hc9.2.2
          clear hc9
          refine va_callv (va_runV (As := []) (rest := []) ⟨hx, hb, hml, hown, hts⟩ (c_X11_remember l dC dI cI cZ cQ h0 n0 n1 nq m3 m4 m5 nh m7 m8 m9 m10 sd m12 tx n14 at9 n16 n17 m18 rq m20 m21 m22 m23 m24 rh m26 m27 m28 un m30 n31 n32 m33 n34 n35 m36 wm m38 m39 m40 bk m42 m43 m44 m45 fm10 fm30 H.size (by omega)) (cwV 0 hts gX11_write_X11_remember rfl rfl rfl hd_X11_remember_RX11 ⟨Nat.le_of_ble_eq_true rfl, Nat.le_of_ble_eq_true rfl⟩) (pv_D (va_recv hK hP (ci := 11) (q0 := 0) rfl rfl) hK hPc hDc) rfl rfl hl.1 rfl (lv_room (Nat.le_of_ble_eq_true rfl)) dX11_write_50 ⟨Nat.le_of_ble_eq_true rfl, Nat.le_of_ble_eq_true rfl⟩) hS (fun q _ h => hFc q h) hFc (fun u20 t H1 locs ht hvm hw21 hB hz1 hk1 hS => ?_)
          obtain ⟨f22, k23, hk23, hP1, hD1⟩ := hB
          replace hP1 := va_hp ht hP1
          obtain ⟨hP, hD⟩ := va_join (wr := [(m3, .inl (cI, 8, .inl fm3)), (m4, .inl (cI, 8, .inl fm4)), (m5, .inl (cI, 8, .inl fm5)), (m7, .inl (cI, 4, .inl fm7)), (m8, .inl (cI, 4, .inl fm8)), (m9, .inl (cI, 4, .inl fm9))]) (w1 := [(h0, .inr (11, (.int n0 :: .int n1 :: .int (nI nq) :: .ref m3 :: .ref m4 :: .ref m5 :: .int (nI nh) :: .ref m7 :: .ref m8 :: .ref m9 :: .ref m10 :: .int (nI sd) :: .ref m12 :: .int (nI tx) :: .int n14 :: .int (nI at9) :: .int n16 :: .int n17 :: .ref m18 :: .int (nI rq) :: .ref m20 :: .ref m21 :: .ref m22 :: .ref m23 :: .ref m24 :: .int (nI rh) :: .ref m26 :: .ref m27 :: .ref m28 :: .int (nI k23) :: .ref m30 :: .int n31 :: .int n32 :: .ref m33 :: .int n34 :: .int n35 :: .ref m36 :: .int (nI wm) :: .ref m38 :: .ref m39 :: .ref m40 :: .int (nI bk) :: .ref m42 :: .ref m43 :: .ref m44 :: .ref m45 :: []))), (m10, .inl (cI, 34, .inl fm10)), (m30, .inl (cI, 680, .inl f22))]) hP hD [0, 7, 8] [1, 2, 3, 4, 5, 6] rfl rfl (by decide +kernel) (by decide +kernel) hk1 hFc hP1 hD1
          clear hP1 hD1
          clear hz1 hk1 hPc hDc hFc
          generalize H1 = H at hP hS ht ⊢
          have hPD : pdW (dC, dI) vwCl A [(m3, .inl (cI, 8, .inl fm3)), (m4, .inl (cI, 8, .inl fm4)), (m5, .inl (cI, 8, .inl fm5)), (m7, .inl (cI, 4, .inl fm7)), (m8, .inl (cI, 4, .inl fm8)), (m9, .inl (cI, 4, .inl fm9)), (h0, .inr (11, (.int n0 :: .int n1 :: .int (nI nq) :: .ref m3 :: .ref m4 :: .ref m5 :: .int (nI nh) :: .ref m7 :: .ref m8 :: .ref m9 :: .ref m10 :: .int (nI sd) :: .ref m12 :: .int (nI tx) :: .int n14 :: .int (nI at9) :: .int n16 :: .int n17 :: .ref m18 :: .int (nI rq) :: .ref m20 :: .ref m21 :: .ref m22 :: .ref m23 :: .ref m24 :: .int (nI rh) :: .ref m26 :: .ref m27 :: .ref m28 :: .int (nI k23) :: .ref m30 :: .int n31 :: .int n32 :: .ref m33 :: .int n34 :: .int n35 :: .ref m36 :: .int (nI wm) :: .ref m38 :: .ref m39 :: .ref m40 :: .int (nI bk) :: .ref m42 :: .ref m43 :: .ref m44 :: .ref m45 :: []))), (m10, .inl (cI, 34, .inl fm10)), (m30, .inl (cI, 680, .inl f22))] H := ⟨hP, hD⟩
          have hP := hPD.1
          have hD := hPD.2
          clear hPD
          try dsimp only at hw21
          refine lv_aload_n hx hb dX11_write_53 rfl (lv_at hl 0 rfl) ?_
          refine va_get (D := (dC, dI)) (ci := 11) (v := .ref m10) (C := RX11) (T := TX11) (N := 46) hx hb hts hi_X11 hown hK hP 6 rfl rfl 10 (by decide) (hts (.fieldLink RX11 28 "LeftQuillsModel" "now" "[I") (wmx 4 rfl)) (fun _ h9 => h9) rfl dX11_write_54 ?_
          refine lv_bipush (v := 28) hx hb dX11_write_57 (by decide) ?_
          refine lv_iload_n hx hb dX11_write_59 rfl (lv_at hl 2 rfl) ?_
          refine lv_iadd hx hb dX11_write_60 ?_
          refine lv_topi (fun z24 ez24 => ?_)
          obtain rfl : z24 = nI (28 + j9) := ez24.trans (nI_add 28 j9)
          refine va_iald hx hb hK hP 7 0 rfl rfl (vp_in_nI (n := 28 + j9) (N := 34) (by omega) (by decide)) dX11_write_61 ?_
          refine W.eq (g2 := F0 m 62 ls [.int (fm10 (28 + j9))]) (congrArg (fun y9 => F0 m 62 ls (.int (fm10 y9) :: [])) ((nI_clamp (n := 28 + j9) (by omega)))) ?_
          refine lv_istore (lv' := [(4, .int (fm10 (28 + j9))), (0, .ref h0), (1, .int (nI j4)), (2, .int (nI j9)), (3, .int (nI j16))]) hx hb dX11_write_62 hl (by decide) rfl (fun ls hl => ?_)
          refine lv_iconst (v := 0) hx hb dX11_write_64 (by decide) ?_
          refine lv_istore (lv' := [(5, .int 0), (4, .int (fm10 (28 + j9))), (0, .ref h0), (1, .int (nI j4)), (2, .int (nI j9)), (3, .int (nI j16))]) hx hb dX11_write_65 hl (by decide) rfl (fun ls hl => ?_)
          refine (fun (K : ∀ (d67 : Nat) (k67 : Nat) (f67_m10 : Nat → Int32) (H : Heap) (locs : List Loc) (ls : Array Slot), k67 + d67 = j16 → va_P (dC, dI) vwCl [(m3, .inl (cI, 8, .inl fm3)), (m4, .inl (cI, 8, .inl fm4)), (m5, .inl (cI, 8, .inl fm5)), (m7, .inl (cI, 4, .inl fm7)), (m8, .inl (cI, 4, .inl fm8)), (m9, .inl (cI, 4, .inl fm9)), (h0, .inr (11, (.int n0 :: .int n1 :: .int (nI nq) :: .ref m3 :: .ref m4 :: .ref m5 :: .int (nI nh) :: .ref m7 :: .ref m8 :: .ref m9 :: .ref m10 :: .int (nI sd) :: .ref m12 :: .int (nI tx) :: .int n14 :: .int (nI at9) :: .int n16 :: .int n17 :: .ref m18 :: .int (nI rq) :: .ref m20 :: .ref m21 :: .ref m22 :: .ref m23 :: .ref m24 :: .int (nI rh) :: .ref m26 :: .ref m27 :: .ref m28 :: .int (nI k23) :: .ref m30 :: .int n31 :: .int n32 :: .ref m33 :: .int n34 :: .int n35 :: .ref m36 :: .int (nI wm) :: .ref m38 :: .ref m39 :: .ref m40 :: .int (nI bk) :: .ref m42 :: .ref m43 :: .ref m44 :: .ref m45 :: []))), (m10, .inl (cI, 34, .inl f67_m10)), (m30, .inl (cI, 680, .inl f22))] H → va_D A [(m3, .inl (cI, 8, .inl fm3)), (m4, .inl (cI, 8, .inl fm4)), (m5, .inl (cI, 8, .inl fm5)), (m7, .inl (cI, 4, .inl fm7)), (m8, .inl (cI, 4, .inl fm8)), (m9, .inl (cI, 4, .inl fm9)), (h0, .inr (11, (.int n0 :: .int n1 :: .int (nI nq) :: .ref m3 :: .ref m4 :: .ref m5 :: .int (nI nh) :: .ref m7 :: .ref m8 :: .ref m9 :: .ref m10 :: .int (nI sd) :: .ref m12 :: .int (nI tx) :: .int n14 :: .int (nI at9) :: .int n16 :: .int n17 :: .ref m18 :: .int (nI rq) :: .ref m20 :: .ref m21 :: .ref m22 :: .ref m23 :: .ref m24 :: .int (nI rh) :: .ref m26 :: .ref m27 :: .ref m28 :: .int (nI k23) :: .ref m30 :: .int n31 :: .int n32 :: .ref m33 :: .int n34 :: .int n35 :: .ref m36 :: .int (nI wm) :: .ref m38 :: .ref m39 :: .ref m40 :: .int (nI bk) :: .ref m42 :: .ref m43 :: .ref m44 :: .ref m45 :: []))), (m10, .inl (cI, 34, .inl f67_m10)), (m30, .inl (cI, 680, .inl f22))] → va_S A s.heap H locs → lv_has ls 6 [(5, .int (nI k67)), (4, .int (fm10 (28 + j9))), (0, .ref h0), (1, .int (nI j4)), (2, .int (nI j9)), (3, .int (nI j16))] → W p l e _ s m _ below meth c H locs _ _ _ (F0 m 67 ls [])) => K j16 0 fm10 _ _ _ (by omega) hP hD hS (lv_sub hl [0, 1, 2, 3, 4, 5] rfl)) ?_
          intro d67
          induction d67 with
          | zero =>
            intro k67 f67_m10 H locs ls hk67 hP hD hS hl
            refine lv_iload hx hb dX11_write_67 (lv_at hl 0 rfl) ?_
            refine lv_iload_n hx hb dX11_write_69 rfl (lv_at hl 5 rfl) ?_
            refine lv_icmp_ge (tgt := 85) hx hb dX11_write_70 (by decide) (fun c25 => ?_) (fun c25 => ?_)
            ·
              have c25 : j16 ≤ k67 := (nI_leI (a := j16) (b := k67) (by omega) (by omega)).mp c25
              refine lv_aload_n hx hb dX11_write_85 rfl (lv_at hl 2 rfl) ?_
              refine va_get (D := (dC, dI)) (ci := 11) (v := .ref m10) (C := RX11) (T := TX11) (N := 46) hx hb hts hi_X11 hown hK hP 6 rfl rfl 10 (by decide) (hts (.fieldLink RX11 28 "LeftQuillsModel" "now" "[I") (wmx 4 rfl)) (fun _ h9 => h9) rfl dX11_write_86 ?_
              refine lv_bipush (v := 28) hx hb dX11_write_89 (by decide) ?_
              refine lv_iload_n hx hb dX11_write_91 rfl (lv_at hl 4 rfl) ?_
              refine lv_iadd hx hb dX11_write_92 ?_
              refine lv_topi (fun z26 ez26 => ?_)
              obtain rfl : z26 = nI (28 + j9) := ez26.trans (nI_add 28 j9)
              refine va_iald hx hb hK hP 7 0 rfl rfl (vp_in_nI (n := 28 + j9) (N := 34) (by omega) (by decide)) dX11_write_93 ?_
              refine W.eq (g2 := F0 m 94 ls [.int (f67_m10 (28 + j9))]) (congrArg (fun y9 => F0 m 94 ls (.int (f67_m10 y9) :: [])) ((nI_clamp (n := 28 + j9) (by omega)))) ?_
              refine lv_iload hx hb dX11_write_94 (lv_at hl 1 rfl) ?_
              refine lv_isub hx hb dX11_write_96 ?_
              refine lv_topi (fun z27 ez27 => ?_)
              have hP9 := hP.sub (ws' := [(h0, .inr (11, (.int n0 :: .int n1 :: .int (nI nq) :: .ref m3 :: .ref m4 :: .ref m5 :: .int (nI nh) :: .ref m7 :: .ref m8 :: .ref m9 :: .ref m10 :: .int (nI sd) :: .ref m12 :: .int (nI tx) :: .int n14 :: .int (nI at9) :: .int n16 :: .int n17 :: .ref m18 :: .int (nI rq) :: .ref m20 :: .ref m21 :: .ref m22 :: .ref m23 :: .ref m24 :: .int (nI rh) :: .ref m26 :: .ref m27 :: .ref m28 :: .int (nI k23) :: .ref m30 :: .int n31 :: .int n32 :: .ref m33 :: .int n34 :: .int n35 :: .ref m36 :: .int (nI wm) :: .ref m38 :: .ref m39 :: .ref m40 :: .int (nI bk) :: .ref m42 :: .ref m43 :: .ref m44 :: .ref m45 :: []))), (m3, .inl (cI, 8, .inl fm3)), (m4, .inl (cI, 8, .inl fm4)), (m5, .inl (cI, 8, .inl fm5)), (m7, .inl (cI, 4, .inl fm7)), (m8, .inl (cI, 4, .inl fm8)), (m9, .inl (cI, 4, .inl fm9)), (m10, .inl (cI, 34, .inl f67_m10)), (m30, .inl (cI, 680, .inl f22))]) [6, 0, 1, 2, 3, 4, 5, 7, 8] rfl
              have hD9 := hD.sub (ws' := [(h0, .inr (11, (.int n0 :: .int n1 :: .int (nI nq) :: .ref m3 :: .ref m4 :: .ref m5 :: .int (nI nh) :: .ref m7 :: .ref m8 :: .ref m9 :: .ref m10 :: .int (nI sd) :: .ref m12 :: .int (nI tx) :: .int n14 :: .int (nI at9) :: .int n16 :: .int n17 :: .ref m18 :: .int (nI rq) :: .ref m20 :: .ref m21 :: .ref m22 :: .ref m23 :: .ref m24 :: .int (nI rh) :: .ref m26 :: .ref m27 :: .ref m28 :: .int (nI k23) :: .ref m30 :: .int n31 :: .int n32 :: .ref m33 :: .int n34 :: .int n35 :: .ref m36 :: .int (nI wm) :: .ref m38 :: .ref m39 :: .ref m40 :: .int (nI bk) :: .ref m42 :: .ref m43 :: .ref m44 :: .ref m45 :: []))), (m3, .inl (cI, 8, .inl fm3)), (m4, .inl (cI, 8, .inl fm4)), (m5, .inl (cI, 8, .inl fm5)), (m7, .inl (cI, 4, .inl fm7)), (m8, .inl (cI, 4, .inl fm8)), (m9, .inl (cI, 4, .inl fm9)), (m10, .inl (cI, 34, .inl f67_m10)), (m30, .inl (cI, 680, .inl f22))]) [6, 0, 1, 2, 3, 4, 5, 7, 8] (by decide +kernel) rfl
              exact W.iret (v := z27) hx hb hr (fun t ht hW => ⟨⟨z27, (fun _ => 0), rfl, trivial, ⟨f67_m10, f22, k23, by omega, va_hq ht hP9, hD9⟩⟩, hS.F ht⟩) hS.2.2 dX11_write_97
            ·
              have c25 : ¬ j16 ≤ k67 := fun h => c25 ((nI_leI (a := j16) (b := k67) (by omega) (by omega)).mpr h)
              omega
          | succ d67 ih67 =>
            intro k67 f67_m10 H locs ls hk67 hP hD hS hl
            refine lv_iload hx hb dX11_write_67 (lv_at hl 0 rfl) ?_
            refine lv_iload_n hx hb dX11_write_69 rfl (lv_at hl 5 rfl) ?_
            refine lv_icmp_ge (tgt := 85) hx hb dX11_write_70 (by decide) (fun c28 => ?_) (fun c28 => ?_)
            ·
              have c28 : j16 ≤ k67 := (nI_leI (a := j16) (b := k67) (by omega) (by omega)).mp c28
              omega
            ·
              have c28 : ¬ j16 ≤ k67 := fun h => c28 ((nI_leI (a := j16) (b := k67) (by omega) (by omega)).mpr h)
              refine lv_aload_n hx hb dX11_write_73 rfl (lv_at hl 2 rfl) ?_
              refine lv_iload_n hx hb dX11_write_74 rfl (lv_at hl 3 rfl) ?_
              refine lv_iload_n hx hb dX11_write_75 rfl (lv_at hl 4 rfl) ?_
              have hc9 := va_cut (W' := [(h0, .inr (11, (.int n0 :: .int n1 :: .int (nI nq) :: .ref m3 :: .ref m4 :: .ref m5 :: .int (nI nh) :: .ref m7 :: .ref m8 :: .ref m9 :: .ref m10 :: .int (nI sd) :: .ref m12 :: .int (nI tx) :: .int n14 :: .int (nI at9) :: .int n16 :: .int n17 :: .ref m18 :: .int (nI rq) :: .ref m20 :: .ref m21 :: .ref m22 :: .ref m23 :: .ref m24 :: .int (nI rh) :: .ref m26 :: .ref m27 :: .ref m28 :: .int (nI k23) :: .ref m30 :: .int n31 :: .int n32 :: .ref m33 :: .int n34 :: .int n35 :: .ref m36 :: .int (nI wm) :: .ref m38 :: .ref m39 :: .ref m40 :: .int (nI bk) :: .ref m42 :: .ref m43 :: .ref m44 :: .ref m45 :: []))), (m3, .inl (cI, 8, .inl fm3)), (m4, .inl (cI, 8, .inl fm4)), (m5, .inl (cI, 8, .inl fm5)), (m7, .inl (cI, 4, .inl fm7)), (m8, .inl (cI, 4, .inl fm8)), (m9, .inl (cI, 4, .inl fm9)), (m10, .inl (cI, 34, .inl f67_m10))]) hP hD hS hA [6, 0, 1, 2, 3, 4, 5, 7] (by decide) rfl
              have hPc := hc9.1
              have hDc := hc9.2.1
              have hFc := hc9.2.2
              clear hc9
              refine va_callv (va_runV (As := [.int (nI j4), .int (nI j9)]) (rest := []) ⟨hx, hb, hml, hown, hts⟩ (c_X11_pageOf l dC dI cI cZ cQ h0 m3 m4 m5 m7 m8 m9 m10 ((.int n0 :: .int n1 :: .int (nI nq) :: .ref m3 :: .ref m4 :: .ref m5 :: .int (nI nh) :: .ref m7 :: .ref m8 :: .ref m9 :: .ref m10 :: .int (nI sd) :: .ref m12 :: .int (nI tx) :: .int n14 :: .int (nI at9) :: .int n16 :: .int n17 :: .ref m18 :: .int (nI rq) :: .ref m20 :: .ref m21 :: .ref m22 :: .ref m23 :: .ref m24 :: .int (nI rh) :: .ref m26 :: .ref m27 :: .ref m28 :: .int (nI k23) :: .ref m30 :: .int n31 :: .int n32 :: .ref m33 :: .int n34 :: .int n35 :: .ref m36 :: .int (nI wm) :: .ref m38 :: .ref m39 :: .ref m40 :: .int (nI bk) :: .ref m42 :: .ref m43 :: .ref m44 :: .ref m45 :: [])) fm3 fm4 fm5 fm7 fm8 fm9 f67_m10 j4 j9 nq H.size rfl rfl rfl rfl rfl rfl rfl (by omega) (by first | assumption | decide) (by omega) (by omega)) (cwV 2 hts gX11_write_X11_pageOf rfl rfl rfl hd_X11_pageOf_RX11 ⟨Nat.le_of_ble_eq_true rfl, Nat.le_of_ble_eq_true rfl⟩) (pv_D (va_recv hK hP (ci := 11) (q0 := 6) rfl rfl) hK hPc hDc) rfl rfl hl.1 rfl (lv_room (Nat.le_of_ble_eq_true rfl)) dX11_write_76 ⟨Nat.le_of_ble_eq_true rfl, Nat.le_of_ble_eq_true rfl⟩) hS (fun q _ h => hFc q h) hFc (fun u30 t H1 locs ht hvm hw31 hB hz1 hk1 hS => ?_)
              obtain ⟨f32, hP1, hD1⟩ := hB
              replace hP1 := va_hp ht hP1
              obtain ⟨hP, hD⟩ := va_join (wr := [(m30, .inl (cI, 680, .inl f22))]) (w1 := [(h0, .inr (11, (.int n0 :: .int n1 :: .int (nI nq) :: .ref m3 :: .ref m4 :: .ref m5 :: .int (nI nh) :: .ref m7 :: .ref m8 :: .ref m9 :: .ref m10 :: .int (nI sd) :: .ref m12 :: .int (nI tx) :: .int n14 :: .int (nI at9) :: .int n16 :: .int n17 :: .ref m18 :: .int (nI rq) :: .ref m20 :: .ref m21 :: .ref m22 :: .ref m23 :: .ref m24 :: .int (nI rh) :: .ref m26 :: .ref m27 :: .ref m28 :: .int (nI k23) :: .ref m30 :: .int n31 :: .int n32 :: .ref m33 :: .int n34 :: .int n35 :: .ref m36 :: .int (nI wm) :: .ref m38 :: .ref m39 :: .ref m40 :: .int (nI bk) :: .ref m42 :: .ref m43 :: .ref m44 :: .ref m45 :: []))), (m3, .inl (cI, 8, .inl fm3)), (m4, .inl (cI, 8, .inl fm4)), (m5, .inl (cI, 8, .inl fm5)), (m7, .inl (cI, 4, .inl fm7)), (m8, .inl (cI, 4, .inl fm8)), (m9, .inl (cI, 4, .inl fm9)), (m10, .inl (cI, 34, .inl f32))]) hP hD [6, 0, 1, 2, 3, 4, 5, 7] [8] rfl rfl (by decide +kernel) (by decide +kernel) hk1 hFc hP1 hD1
              clear hP1 hD1
              clear hz1 hk1 hPc hDc hFc
              generalize H1 = H at hP hS ht ⊢
              have hPD : pdW (dC, dI) vwCl A [(m30, .inl (cI, 680, .inl f22)), (h0, .inr (11, (.int n0 :: .int n1 :: .int (nI nq) :: .ref m3 :: .ref m4 :: .ref m5 :: .int (nI nh) :: .ref m7 :: .ref m8 :: .ref m9 :: .ref m10 :: .int (nI sd) :: .ref m12 :: .int (nI tx) :: .int n14 :: .int (nI at9) :: .int n16 :: .int n17 :: .ref m18 :: .int (nI rq) :: .ref m20 :: .ref m21 :: .ref m22 :: .ref m23 :: .ref m24 :: .int (nI rh) :: .ref m26 :: .ref m27 :: .ref m28 :: .int (nI k23) :: .ref m30 :: .int n31 :: .int n32 :: .ref m33 :: .int n34 :: .int n35 :: .ref m36 :: .int (nI wm) :: .ref m38 :: .ref m39 :: .ref m40 :: .int (nI bk) :: .ref m42 :: .ref m43 :: .ref m44 :: .ref m45 :: []))), (m3, .inl (cI, 8, .inl fm3)), (m4, .inl (cI, 8, .inl fm4)), (m5, .inl (cI, 8, .inl fm5)), (m7, .inl (cI, 4, .inl fm7)), (m8, .inl (cI, 4, .inl fm8)), (m9, .inl (cI, 4, .inl fm9)), (m10, .inl (cI, 34, .inl f32))] H := ⟨hP, hD⟩
              have hP := hPD.1
              have hD := hPD.2
              clear hPD
              try dsimp only at hw31
              refine lv_iinc (v := nI (k67 + 1)) (lv' := [(5, .int (nI (k67 + 1))), (4, .int (fm10 (28 + j9))), (0, .ref h0), (1, .int (nI j4)), (2, .int (nI j9)), (3, .int (nI j16))]) hx hb dX11_write_79 hl (k := 0) rfl ((rfl : nI k67 + Int32.ofInt 1 = nI k67 + 1).trans (nI_add k67 1)) (by decide) rfl (fun ls hl => ?_)
              refine lv_goto (tgt := 67) hx hb dX11_write_82 (by decide) ?_
              exact ih67 (k67 + 1) f32 _ _ _ (by omega) (hP.sub [2, 3, 4, 5, 6, 7, 1, 8, 0] rfl) (hD.sub [2, 3, 4, 5, 6, 7, 1, 8, 0] (by decide +kernel) rfl) hS (lv_sub hl [0, 1, 2, 3, 4, 5] rfl)
        ·
          refine lv_ldc (v := (-1000000004)) hx hb hown (hts (.constant RX11 115 (-1000000004)) (wmx 6 rfl)) dX11_write_46 ?_
          have hP9 := hP.sub (ws' := [(h0, .inr (11, (.int n0 :: .int n1 :: .int (nI nq) :: .ref m3 :: .ref m4 :: .ref m5 :: .int (nI nh) :: .ref m7 :: .ref m8 :: .ref m9 :: .ref m10 :: .int (nI sd) :: .ref m12 :: .int (nI tx) :: .int n14 :: .int (nI at9) :: .int n16 :: .int n17 :: .ref m18 :: .int (nI rq) :: .ref m20 :: .ref m21 :: .ref m22 :: .ref m23 :: .ref m24 :: .int (nI rh) :: .ref m26 :: .ref m27 :: .ref m28 :: .int (nI un) :: .ref m30 :: .int n31 :: .int n32 :: .ref m33 :: .int n34 :: .int n35 :: .ref m36 :: .int (nI wm) :: .ref m38 :: .ref m39 :: .ref m40 :: .int (nI bk) :: .ref m42 :: .ref m43 :: .ref m44 :: .ref m45 :: []))), (m3, .inl (cI, 8, .inl fm3)), (m4, .inl (cI, 8, .inl fm4)), (m5, .inl (cI, 8, .inl fm5)), (m7, .inl (cI, 4, .inl fm7)), (m8, .inl (cI, 4, .inl fm8)), (m9, .inl (cI, 4, .inl fm9)), (m10, .inl (cI, 34, .inl fm10)), (m30, .inl (cI, 680, .inl fm30))]) [0, 1, 2, 3, 4, 5, 6, 7, 8] rfl
          have hD9 := hD.sub (ws' := [(h0, .inr (11, (.int n0 :: .int n1 :: .int (nI nq) :: .ref m3 :: .ref m4 :: .ref m5 :: .int (nI nh) :: .ref m7 :: .ref m8 :: .ref m9 :: .ref m10 :: .int (nI sd) :: .ref m12 :: .int (nI tx) :: .int n14 :: .int (nI at9) :: .int n16 :: .int n17 :: .ref m18 :: .int (nI rq) :: .ref m20 :: .ref m21 :: .ref m22 :: .ref m23 :: .ref m24 :: .int (nI rh) :: .ref m26 :: .ref m27 :: .ref m28 :: .int (nI un) :: .ref m30 :: .int n31 :: .int n32 :: .ref m33 :: .int n34 :: .int n35 :: .ref m36 :: .int (nI wm) :: .ref m38 :: .ref m39 :: .ref m40 :: .int (nI bk) :: .ref m42 :: .ref m43 :: .ref m44 :: .ref m45 :: []))), (m3, .inl (cI, 8, .inl fm3)), (m4, .inl (cI, 8, .inl fm4)), (m5, .inl (cI, 8, .inl fm5)), (m7, .inl (cI, 4, .inl fm7)), (m8, .inl (cI, 4, .inl fm8)), (m9, .inl (cI, 4, .inl fm9)), (m10, .inl (cI, 34, .inl fm10)), (m30, .inl (cI, 680, .inl fm30))]) [0, 1, 2, 3, 4, 5, 6, 7, 8] (by decide +kernel) rfl
          exact W.iret (v := (-1000000004)) hx hb hr (fun t ht hW => ⟨⟨(-1000000004), (fun _ => 0), rfl, trivial, ⟨fm10, fm30, un, by omega, va_hq ht hP9, hD9⟩⟩, hS.F ht⟩) hS.2.2 dX11_write_48
      ·
        refine lv_if_ne (tgt := 34) hx hb dX11_write_28 (by decide) (fun c33 => ?_) (fun c33 => ?_)
        · exact absurd c33 (by decide)
        clear c33
        refine lv_ldc (v := (-1000000002)) hx hb hown (hts (.constant RX11 111 (-1000000002)) (wmx 3 rfl)) dX11_write_31 ?_
        have hP9 := hP.sub (ws' := [(h0, .inr (11, (.int n0 :: .int n1 :: .int (nI nq) :: .ref m3 :: .ref m4 :: .ref m5 :: .int (nI nh) :: .ref m7 :: .ref m8 :: .ref m9 :: .ref m10 :: .int (nI sd) :: .ref m12 :: .int (nI tx) :: .int n14 :: .int (nI at9) :: .int n16 :: .int n17 :: .ref m18 :: .int (nI rq) :: .ref m20 :: .ref m21 :: .ref m22 :: .ref m23 :: .ref m24 :: .int (nI rh) :: .ref m26 :: .ref m27 :: .ref m28 :: .int (nI un) :: .ref m30 :: .int n31 :: .int n32 :: .ref m33 :: .int n34 :: .int n35 :: .ref m36 :: .int (nI wm) :: .ref m38 :: .ref m39 :: .ref m40 :: .int (nI bk) :: .ref m42 :: .ref m43 :: .ref m44 :: .ref m45 :: []))), (m3, .inl (cI, 8, .inl fm3)), (m4, .inl (cI, 8, .inl fm4)), (m5, .inl (cI, 8, .inl fm5)), (m7, .inl (cI, 4, .inl fm7)), (m8, .inl (cI, 4, .inl fm8)), (m9, .inl (cI, 4, .inl fm9)), (m10, .inl (cI, 34, .inl fm10)), (m30, .inl (cI, 680, .inl fm30))]) [0, 1, 2, 3, 4, 5, 6, 7, 8] rfl
        have hD9 := hD.sub (ws' := [(h0, .inr (11, (.int n0 :: .int n1 :: .int (nI nq) :: .ref m3 :: .ref m4 :: .ref m5 :: .int (nI nh) :: .ref m7 :: .ref m8 :: .ref m9 :: .ref m10 :: .int (nI sd) :: .ref m12 :: .int (nI tx) :: .int n14 :: .int (nI at9) :: .int n16 :: .int n17 :: .ref m18 :: .int (nI rq) :: .ref m20 :: .ref m21 :: .ref m22 :: .ref m23 :: .ref m24 :: .int (nI rh) :: .ref m26 :: .ref m27 :: .ref m28 :: .int (nI un) :: .ref m30 :: .int n31 :: .int n32 :: .ref m33 :: .int n34 :: .int n35 :: .ref m36 :: .int (nI wm) :: .ref m38 :: .ref m39 :: .ref m40 :: .int (nI bk) :: .ref m42 :: .ref m43 :: .ref m44 :: .ref m45 :: []))), (m3, .inl (cI, 8, .inl fm3)), (m4, .inl (cI, 8, .inl fm4)), (m5, .inl (cI, 8, .inl fm5)), (m7, .inl (cI, 4, .inl fm7)), (m8, .inl (cI, 4, .inl fm8)), (m9, .inl (cI, 4, .inl fm9)), (m10, .inl (cI, 34, .inl fm10)), (m30, .inl (cI, 680, .inl fm30))]) [0, 1, 2, 3, 4, 5, 6, 7, 8] (by decide +kernel) rfl
        exact W.iret (v := (-1000000002)) hx hb hr (fun t ht hW => ⟨⟨(-1000000002), (fun _ => 0), rfl, trivial, ⟨fm10, fm30, un, by omega, va_hq ht hP9, hD9⟩⟩, hS.F ht⟩) hS.2.2 dX11_write_33
    ·
      refine lv_if_ne (tgt := 19) hx hb dX11_write_13 (by decide) (fun c34 => ?_) (fun c34 => ?_)
      · exact absurd c34 (by decide)
      clear c34
      refine lv_ldc (v := (-1000000001)) hx hb hown (hts (.constant RX11 188 (-1000000001)) (wmx 1 rfl)) dX11_write_16 ?_
      have hP9 := hP.sub (ws' := [(h0, .inr (11, (.int n0 :: .int n1 :: .int (nI nq) :: .ref m3 :: .ref m4 :: .ref m5 :: .int (nI nh) :: .ref m7 :: .ref m8 :: .ref m9 :: .ref m10 :: .int (nI sd) :: .ref m12 :: .int (nI tx) :: .int n14 :: .int (nI at9) :: .int n16 :: .int n17 :: .ref m18 :: .int (nI rq) :: .ref m20 :: .ref m21 :: .ref m22 :: .ref m23 :: .ref m24 :: .int (nI rh) :: .ref m26 :: .ref m27 :: .ref m28 :: .int (nI un) :: .ref m30 :: .int n31 :: .int n32 :: .ref m33 :: .int n34 :: .int n35 :: .ref m36 :: .int (nI wm) :: .ref m38 :: .ref m39 :: .ref m40 :: .int (nI bk) :: .ref m42 :: .ref m43 :: .ref m44 :: .ref m45 :: []))), (m3, .inl (cI, 8, .inl fm3)), (m4, .inl (cI, 8, .inl fm4)), (m5, .inl (cI, 8, .inl fm5)), (m7, .inl (cI, 4, .inl fm7)), (m8, .inl (cI, 4, .inl fm8)), (m9, .inl (cI, 4, .inl fm9)), (m10, .inl (cI, 34, .inl fm10)), (m30, .inl (cI, 680, .inl fm30))]) [0, 1, 2, 3, 4, 5, 6, 7, 8] rfl
      have hD9 := hD.sub (ws' := [(h0, .inr (11, (.int n0 :: .int n1 :: .int (nI nq) :: .ref m3 :: .ref m4 :: .ref m5 :: .int (nI nh) :: .ref m7 :: .ref m8 :: .ref m9 :: .ref m10 :: .int (nI sd) :: .ref m12 :: .int (nI tx) :: .int n14 :: .int (nI at9) :: .int n16 :: .int n17 :: .ref m18 :: .int (nI rq) :: .ref m20 :: .ref m21 :: .ref m22 :: .ref m23 :: .ref m24 :: .int (nI rh) :: .ref m26 :: .ref m27 :: .ref m28 :: .int (nI un) :: .ref m30 :: .int n31 :: .int n32 :: .ref m33 :: .int n34 :: .int n35 :: .ref m36 :: .int (nI wm) :: .ref m38 :: .ref m39 :: .ref m40 :: .int (nI bk) :: .ref m42 :: .ref m43 :: .ref m44 :: .ref m45 :: []))), (m3, .inl (cI, 8, .inl fm3)), (m4, .inl (cI, 8, .inl fm4)), (m5, .inl (cI, 8, .inl fm5)), (m7, .inl (cI, 4, .inl fm7)), (m8, .inl (cI, 4, .inl fm8)), (m9, .inl (cI, 4, .inl fm9)), (m10, .inl (cI, 34, .inl fm10)), (m30, .inl (cI, 680, .inl fm30))]) [0, 1, 2, 3, 4, 5, 6, 7, 8] (by decide +kernel) rfl
      exact W.iret (v := (-1000000001)) hx hb hr (fun t ht hW => ⟨⟨(-1000000001), (fun _ => 0), rfl, trivial, ⟨fm10, fm30, un, by omega, va_hq ht hP9, hD9⟩⟩, hS.F ht⟩) hS.2.2 dX11_write_18
  ·
    refine lv_if_eq (tgt := 16) hx hb dX11_write_5 (by decide) (fun c35 => ?_) (fun c35 => ?_)
    rotate_left
    · exact absurd c35 (by decide)
    clear c35
    refine lv_ldc (v := (-1000000001)) hx hb hown (hts (.constant RX11 188 (-1000000001)) (wmx 1 rfl)) dX11_write_16 ?_
    have hP9 := hP.sub (ws' := [(h0, .inr (11, (.int n0 :: .int n1 :: .int (nI nq) :: .ref m3 :: .ref m4 :: .ref m5 :: .int (nI nh) :: .ref m7 :: .ref m8 :: .ref m9 :: .ref m10 :: .int (nI sd) :: .ref m12 :: .int (nI tx) :: .int n14 :: .int (nI at9) :: .int n16 :: .int n17 :: .ref m18 :: .int (nI rq) :: .ref m20 :: .ref m21 :: .ref m22 :: .ref m23 :: .ref m24 :: .int (nI rh) :: .ref m26 :: .ref m27 :: .ref m28 :: .int (nI un) :: .ref m30 :: .int n31 :: .int n32 :: .ref m33 :: .int n34 :: .int n35 :: .ref m36 :: .int (nI wm) :: .ref m38 :: .ref m39 :: .ref m40 :: .int (nI bk) :: .ref m42 :: .ref m43 :: .ref m44 :: .ref m45 :: []))), (m3, .inl (cI, 8, .inl fm3)), (m4, .inl (cI, 8, .inl fm4)), (m5, .inl (cI, 8, .inl fm5)), (m7, .inl (cI, 4, .inl fm7)), (m8, .inl (cI, 4, .inl fm8)), (m9, .inl (cI, 4, .inl fm9)), (m10, .inl (cI, 34, .inl fm10)), (m30, .inl (cI, 680, .inl fm30))]) [0, 1, 2, 3, 4, 5, 6, 7, 8] rfl
    have hD9 := hD.sub (ws' := [(h0, .inr (11, (.int n0 :: .int n1 :: .int (nI nq) :: .ref m3 :: .ref m4 :: .ref m5 :: .int (nI nh) :: .ref m7 :: .ref m8 :: .ref m9 :: .ref m10 :: .int (nI sd) :: .ref m12 :: .int (nI tx) :: .int n14 :: .int (nI at9) :: .int n16 :: .int n17 :: .ref m18 :: .int (nI rq) :: .ref m20 :: .ref m21 :: .ref m22 :: .ref m23 :: .ref m24 :: .int (nI rh) :: .ref m26 :: .ref m27 :: .ref m28 :: .int (nI un) :: .ref m30 :: .int n31 :: .int n32 :: .ref m33 :: .int n34 :: .int n35 :: .ref m36 :: .int (nI wm) :: .ref m38 :: .ref m39 :: .ref m40 :: .int (nI bk) :: .ref m42 :: .ref m43 :: .ref m44 :: .ref m45 :: []))), (m3, .inl (cI, 8, .inl fm3)), (m4, .inl (cI, 8, .inl fm4)), (m5, .inl (cI, 8, .inl fm5)), (m7, .inl (cI, 4, .inl fm7)), (m8, .inl (cI, 4, .inl fm8)), (m9, .inl (cI, 4, .inl fm9)), (m10, .inl (cI, 34, .inl fm10)), (m30, .inl (cI, 680, .inl fm30))]) [0, 1, 2, 3, 4, 5, 6, 7, 8] (by decide +kernel) rfl
    exact W.iret (v := (-1000000001)) hx hb hr (fun t ht hW => ⟨⟨(-1000000001), (fun _ => 0), rfl, trivial, ⟨fm10, fm30, un, by omega, va_hq ht hP9, hD9⟩⟩, hS.F ht⟩) hS.2.2 dX11_write_18
set_option maxHeartbeats 4000000 in
set_option maxRecDepth 100000 in
theorem c_X11_dry (l : Launch) (dC : Nat → ClassId) (dI : Nat → Nat → Nat) (cI cZ cQ : ClassId) (h0 : Nat) (n0 : Int32) (n1 : Int32) (nq : Nat) (m3 : Nat) (m4 : Nat) (m5 : Nat) (nh : Nat) (m7 : Nat) (m8 : Nat) (m9 : Nat) (m10 : Nat) (sd : Nat) (m12 : Nat) (tx : Nat) (n14 : Int32) (at9 : Nat) (n16 : Int32) (n17 : Int32) (m18 : Nat) (rq : Nat) (m20 : Nat) (m21 : Nat) (m22 : Nat) (m23 : Nat) (m24 : Nat) (rh : Nat) (m26 : Nat) (m27 : Nat) (m28 : Nat) (un : Nat) (m30 : Nat) (n31 : Int32) (n32 : Int32) (m33 : Nat) (n34 : Int32) (n35 : Int32) (m36 : Nat) (wm : Nat) (m38 : Nat) (m39 : Nat) (m40 : Nat) (bk : Nat) (m42 : Nat) (m43 : Nat) (m44 : Nat) (m45 : Nat) (fm10 : Nat → Int32) (fm30 : Nat → Int32) (q0 : Int32) (q1 : Int32) (sz : Nat) (hnq : nq ≤ 8) (hun : un ≤ 20) : Met l yX11_dry wsX11_dry ({ frames := 2, cells := 0, slots := 0, locals := 86 }) (va_Pc [.ref h0, .int q0, .int q1] (fun U => U.heap.size = sz ∧ va_P (dC, dI) vwCl [(h0, .inr (11, (.int n0 :: .int n1 :: .int (nI nq) :: .ref m3 :: .ref m4 :: .ref m5 :: .int (nI nh) :: .ref m7 :: .ref m8 :: .ref m9 :: .ref m10 :: .int (nI sd) :: .ref m12 :: .int (nI tx) :: .int n14 :: .int (nI at9) :: .int n16 :: .int n17 :: .ref m18 :: .int (nI rq) :: .ref m20 :: .ref m21 :: .ref m22 :: .ref m23 :: .ref m24 :: .int (nI rh) :: .ref m26 :: .ref m27 :: .ref m28 :: .int (nI un) :: .ref m30 :: .int n31 :: .int n32 :: .ref m33 :: .int n34 :: .int n35 :: .ref m36 :: .int (nI wm) :: .ref m38 :: .ref m39 :: .ref m40 :: .int (nI bk) :: .ref m42 :: .ref m43 :: .ref m44 :: .ref m45 :: []))), (m10, .inl (cI, 34, .inl fm10)), (m30, .inl (cI, 680, .inl fm30))] U.heap ∧ va_K (dC, dI) vwCl (tys0 cI cZ cQ) U ∧ va_D (fun _ => True) [(h0, .inr (11, (.int n0 :: .int n1 :: .int (nI nq) :: .ref m3 :: .ref m4 :: .ref m5 :: .int (nI nh) :: .ref m7 :: .ref m8 :: .ref m9 :: .ref m10 :: .int (nI sd) :: .ref m12 :: .int (nI tx) :: .int n14 :: .int (nI at9) :: .int n16 :: .int n17 :: .ref m18 :: .int (nI rq) :: .ref m20 :: .ref m21 :: .ref m22 :: .ref m23 :: .ref m24 :: .int (nI rh) :: .ref m26 :: .ref m27 :: .ref m28 :: .int (nI un) :: .ref m30 :: .int n31 :: .int n32 :: .ref m33 :: .int n34 :: .int n35 :: .ref m36 :: .int (nI wm) :: .ref m38 :: .ref m39 :: .ref m40 :: .int (nI bk) :: .ref m42 :: .ref m43 :: .ref m44 :: .ref m45 :: []))), (m10, .inl (cI, 34, .inl fm10)), (m30, .inl (cI, 680, .inl fm30))])) (va_Qi (fun (r : Int32) (u : Nat → Nat) => True) (fun (_ : Nat → Nat) (t : State) => ∃ (gg0 gg1 : Nat → Int32) (kk0 : Nat), kk0 ≤ 20 ∧ va_P (dC, dI) vwCl [(h0, .inr (11, (.int n0 :: .int n1 :: .int (nI nq) :: .ref m3 :: .ref m4 :: .ref m5 :: .int (nI nh) :: .ref m7 :: .ref m8 :: .ref m9 :: .ref m10 :: .int (nI sd) :: .ref m12 :: .int (nI tx) :: .int n14 :: .int (nI at9) :: .int n16 :: .int n17 :: .ref m18 :: .int (nI rq) :: .ref m20 :: .ref m21 :: .ref m22 :: .ref m23 :: .ref m24 :: .int (nI rh) :: .ref m26 :: .ref m27 :: .ref m28 :: .int (nI kk0) :: .ref m30 :: .int n31 :: .int n32 :: .ref m33 :: .int n34 :: .int n35 :: .ref m36 :: .int (nI wm) :: .ref m38 :: .ref m39 :: .ref m40 :: .int (nI bk) :: .ref m42 :: .ref m43 :: .ref m44 :: .ref m45 :: []))), (m10, .inl (cI, 34, .inl gg0)), (m30, .inl (cI, 680, .inl gg1))] t.heap ∧ va_D (va_A [(h0, .inr (11, (.int n0 :: .int n1 :: .int (nI nq) :: .ref m3 :: .ref m4 :: .ref m5 :: .int (nI nh) :: .ref m7 :: .ref m8 :: .ref m9 :: .ref m10 :: .int (nI sd) :: .ref m12 :: .int (nI tx) :: .int n14 :: .int (nI at9) :: .int n16 :: .int n17 :: .ref m18 :: .int (nI rq) :: .ref m20 :: .ref m21 :: .ref m22 :: .ref m23 :: .ref m24 :: .int (nI rh) :: .ref m26 :: .ref m27 :: .ref m28 :: .int (nI un) :: .ref m30 :: .int n31 :: .int n32 :: .ref m33 :: .int n34 :: .int n35 :: .ref m36 :: .int (nI wm) :: .ref m38 :: .ref m39 :: .ref m40 :: .int (nI bk) :: .ref m42 :: .ref m43 :: .ref m44 :: .ref m45 :: []))), (m10, .inl (cI, 34, .inl fm10)), (m30, .inl (cI, 680, .inl fm30))] sz) [(h0, .inr (11, (.int n0 :: .int n1 :: .int (nI nq) :: .ref m3 :: .ref m4 :: .ref m5 :: .int (nI nh) :: .ref m7 :: .ref m8 :: .ref m9 :: .ref m10 :: .int (nI sd) :: .ref m12 :: .int (nI tx) :: .int n14 :: .int (nI at9) :: .int n16 :: .int n17 :: .ref m18 :: .int (nI rq) :: .ref m20 :: .ref m21 :: .ref m22 :: .ref m23 :: .ref m24 :: .int (nI rh) :: .ref m26 :: .ref m27 :: .ref m28 :: .int (nI kk0) :: .ref m30 :: .int n31 :: .int n32 :: .ref m33 :: .int n34 :: .int n35 :: .ref m36 :: .int (nI wm) :: .ref m38 :: .ref m39 :: .ref m40 :: .int (nI bk) :: .ref m42 :: .ref m43 :: .ref m44 :: .ref m45 :: []))), (m10, .inl (cI, 34, .inl gg0)), (m30, .inl (cI, 680, .inl gg1))]) (va_A [(h0, .inr (11, (.int n0 :: .int n1 :: .int (nI nq) :: .ref m3 :: .ref m4 :: .ref m5 :: .int (nI nh) :: .ref m7 :: .ref m8 :: .ref m9 :: .ref m10 :: .int (nI sd) :: .ref m12 :: .int (nI tx) :: .int n14 :: .int (nI at9) :: .int n16 :: .int n17 :: .ref m18 :: .int (nI rq) :: .ref m20 :: .ref m21 :: .ref m22 :: .ref m23 :: .ref m24 :: .int (nI rh) :: .ref m26 :: .ref m27 :: .ref m28 :: .int (nI un) :: .ref m30 :: .int n31 :: .int n32 :: .ref m33 :: .int n34 :: .int n35 :: .ref m36 :: .int (nI wm) :: .ref m38 :: .ref m39 :: .ref m40 :: .int (nI bk) :: .ref m42 :: .ref m43 :: .ref m44 :: .ref m45 :: []))), (m10, .inl (cI, 34, .inl fm10)), (m30, .inl (cI, 680, .inl fm30))] sz)) 0 0 (va_A [(h0, .inr (11, (.int n0 :: .int n1 :: .int (nI nq) :: .ref m3 :: .ref m4 :: .ref m5 :: .int (nI nh) :: .ref m7 :: .ref m8 :: .ref m9 :: .ref m10 :: .int (nI sd) :: .ref m12 :: .int (nI tx) :: .int n14 :: .int (nI at9) :: .int n16 :: .int n17 :: .ref m18 :: .int (nI rq) :: .ref m20 :: .ref m21 :: .ref m22 :: .ref m23 :: .ref m24 :: .int (nI rh) :: .ref m26 :: .ref m27 :: .ref m28 :: .int (nI un) :: .ref m30 :: .int n31 :: .int n32 :: .ref m33 :: .int n34 :: .int n35 :: .ref m36 :: .int (nI wm) :: .ref m38 :: .ref m39 :: .ref m40 :: .int (nI bk) :: .ref m42 :: .ref m43 :: .ref m44 :: .ref m45 :: []))), (m10, .inl (cI, 34, .inl fm10)), (m30, .inl (cI, 680, .inl fm30))] sz) := by
  refine Met.ofW (cc := cX11_dry) (maxL := 3) (ret := (some .int)) (by decide) rfl ?_
  intro p e s m args below meth c s₁ B hml hv
  obtain ⟨rfl, hsz, hP, hK, hD0⟩ := hv
  have hx := B.exec
  have hb := B.bytes
  have hr := B.returns
  have hts := atoms_spec (ws := wsX11_dry) B.pre
  have hown : s.vm.findClass RX11 = some m.cls := findClass_of_methodNamed B.named
  have hlocks := B.notSynchronized
  have hi_X11 : ∀ w ∈ u_ws RX11 TX11 46, w ∈ wsX11_dry := fun _ h => List.mem_cons_of_mem _ (List.mem_append_right _ (h))
  subst hsz
  have hD := hD0.self (sz := s.heap.size)
  generalize hAe : va_A [(h0, .inr (11, (.int n0 :: .int n1 :: .int (nI nq) :: .ref m3 :: .ref m4 :: .ref m5 :: .int (nI nh) :: .ref m7 :: .ref m8 :: .ref m9 :: .ref m10 :: .int (nI sd) :: .ref m12 :: .int (nI tx) :: .int n14 :: .int (nI at9) :: .int n16 :: .int n17 :: .ref m18 :: .int (nI rq) :: .ref m20 :: .ref m21 :: .ref m22 :: .ref m23 :: .ref m24 :: .int (nI rh) :: .ref m26 :: .ref m27 :: .ref m28 :: .int (nI un) :: .ref m30 :: .int n31 :: .int n32 :: .ref m33 :: .int n34 :: .int n35 :: .ref m36 :: .int (nI wm) :: .ref m38 :: .ref m39 :: .ref m40 :: .int (nI bk) :: .ref m42 :: .ref m43 :: .ref m44 :: .ref m45 :: []))), (m10, .inl (cI, 34, .inl fm10)), (m30, .inl (cI, 680, .inl fm30))] s.heap.size = A at hD ⊢
  have hA : ∀ q : Nat, s.heap.size ≤ q → A q := fun q h => by rw [← hAe]; exact Or.inr h
  have hS : va_S A s.heap s.heap [] := va_S.rf
  have hl := lv_entry ([.ref h0, .int q0, .int q1]) (n := 3) (Nat.le_of_ble_eq_true rfl)
  rw [lg_entry_eq]
  generalize (lg_sl ([.ref h0, .int q0, .int q1]) ++ List.replicate (3 - (lg_sl ([.ref h0, .int q0, .int q1])).length) Slot.unset).toArray = ls at hl ⊢
  have hl : lv_has ls 3 [(0, .ref h0), (1, .int q0), (2, .int q1)] := hl
  refine lv_aload_n hx hb dX11_dry_0 rfl (lv_at hl 0 rfl) ?_
  refine lv_iload_n hx hb dX11_dry_1 rfl (lv_at hl 1 rfl) ?_
  have hPc := hP.sub (ws' := [(h0, .inr (11, (.int n0 :: .int n1 :: .int (nI nq) :: .ref m3 :: .ref m4 :: .ref m5 :: .int (nI nh) :: .ref m7 :: .ref m8 :: .ref m9 :: .ref m10 :: .int (nI sd) :: .ref m12 :: .int (nI tx) :: .int n14 :: .int (nI at9) :: .int n16 :: .int n17 :: .ref m18 :: .int (nI rq) :: .ref m20 :: .ref m21 :: .ref m22 :: .ref m23 :: .ref m24 :: .int (nI rh) :: .ref m26 :: .ref m27 :: .ref m28 :: .int (nI un) :: .ref m30 :: .int n31 :: .int n32 :: .ref m33 :: .int n34 :: .int n35 :: .ref m36 :: .int (nI wm) :: .ref m38 :: .ref m39 :: .ref m40 :: .int (nI bk) :: .ref m42 :: .ref m43 :: .ref m44 :: .ref m45 :: [])))]) [0] rfl
  refine va_calli (va_runV (As := [.int q0]) (rest := []) ⟨hx, hb, hml, hown, hts⟩ (c_X11_isQuill l dC dI cI cZ cQ h0 (nI nq) ((.int n0 :: .int n1 :: .int (nI nq) :: .ref m3 :: .ref m4 :: .ref m5 :: .int (nI nh) :: .ref m7 :: .ref m8 :: .ref m9 :: .ref m10 :: .int (nI sd) :: .ref m12 :: .int (nI tx) :: .int n14 :: .int (nI at9) :: .int n16 :: .int n17 :: .ref m18 :: .int (nI rq) :: .ref m20 :: .ref m21 :: .ref m22 :: .ref m23 :: .ref m24 :: .int (nI rh) :: .ref m26 :: .ref m27 :: .ref m28 :: .int (nI un) :: .ref m30 :: .int n31 :: .int n32 :: .ref m33 :: .int n34 :: .int n35 :: .ref m36 :: .int (nI wm) :: .ref m38 :: .ref m39 :: .ref m40 :: .int (nI bk) :: .ref m42 :: .ref m43 :: .ref m44 :: .ref m45 :: [])) q0 s.heap.size rfl (nI_pos' (n := nq) (by omega))) (cwV 1 hts gX11_dry_X11_isQuill rfl rfl rfl hd_X11_isQuill_RX11 ⟨Nat.le_of_ble_eq_true rfl, Nat.le_of_ble_eq_true rfl⟩) (pv_R (va_recv hK hP (ci := 11) (q0 := 0) rfl rfl) hK hPc) rfl rfl hl.1 rfl (lv_room (Nat.le_of_ble_eq_true rfl)) dX11_dry_2 ⟨Nat.le_of_ble_eq_true rfl, Nat.le_of_ble_eq_true rfl⟩) hS (fun q _ h => False.elim h) (fun q h => False.elim h) (fun r1 u2 t H1 locs ht hvm hw3 hB hz1 hk1 hS => ?_)
  have hP := hP.kept (fun k q hk => hk1 q.1 (hP k q hk).lt (fun h => h))
  clear hz1 hk1 hPc
  generalize H1 = H at hP hS ht ⊢
  try dsimp only at hw3
  rcases hw3 with ⟨rfl, hw3⟩ | ⟨rfl, hw3⟩
  ·
    obtain ⟨j4, hj4, rfl⟩ := x_ix hw3 (by omega)
    refine lv_if_ne (tgt := 11) hx hb dX11_dry_5 (by decide) (fun c5 => ?_) (fun c5 => ?_)
    rotate_left
    · exact absurd c5 (by decide)
    clear c5
    refine lv_iload_n hx hb dX11_dry_11 rfl (lv_at hl 2 rfl) ?_
    refine lv_i2l hx hb dX11_dry_12 rfl ?_
    refine lv_lconst (v := 1) hx hb dX11_dry_13 (by decide) ?_
    refine lv_topl (fun z6 ez6 => ?_)
    obtain rfl : z6 = (1 : Int32).toInt64 := ez6.trans (by decide)
    refine lv_ldc2 (v := 9) hx hb hown (hts (.constantLong RX11 229 9) (wmx 2 rfl)) dX11_dry_14 ?_
    refine lv_topl (fun z7 ez7 => ?_)
    obtain rfl : z7 = (9 : Int32).toInt64 := ez7.trans (by decide)
    have hPc := hP.sub (ws' := []) [] rfl
    refine va_calli (va_runS (As := [.long q1.toInt64, .long ((1 : Int32).toInt64), .long ((9 : Int32).toInt64)]) (rest := []) ⟨hx, hb, hml, hown, hts⟩ (c_X11_in l dC dI cI cZ cQ q1 1 9 H.size ) (va_cwS 3 hts gX11_dry_X11_in rfl rfl rfl (by decide +kernel) ⟨Nat.le_of_ble_eq_true rfl, Nat.le_of_ble_eq_true rfl⟩) (ps_R hK hPc) rfl rfl hl.1 rfl (lv_room (Nat.le_of_ble_eq_true rfl)) dX11_dry_17 ⟨Nat.le_of_ble_eq_true rfl, Nat.le_of_ble_eq_true rfl⟩) hS (fun q _ h => False.elim h) (fun q h => False.elim h) (fun r8 u9 t H1 locs ht hvm hw10 hB hz1 hk1 hS => ?_)
    have hP := hP.kept (fun k q hk => hk1 q.1 (hP k q hk).lt (fun h => h))
    clear hz1 hk1 hPc
    generalize H1 = H at hP hS ht ⊢
    try dsimp only at hw10
    rcases hw10 with ⟨rfl, hw10⟩ | ⟨rfl, hw10⟩
    ·
      refine lv_if_ne (tgt := 26) hx hb dX11_dry_20 (by decide) (fun c11 => ?_) (fun c11 => ?_)
      rotate_left
      · exact absurd c11 (by decide)
      clear c11
      refine lv_aload_n hx hb dX11_dry_26 rfl (lv_at hl 0 rfl) ?_
      have hc9 := va_cut (W' := [(h0, .inr (11, (.int n0 :: .int n1 :: .int (nI nq) :: .ref m3 :: .ref m4 :: .ref m5 :: .int (nI nh) :: .ref m7 :: .ref m8 :: .ref m9 :: .ref m10 :: .int (nI sd) :: .ref m12 :: .int (nI tx) :: .int n14 :: .int (nI at9) :: .int n16 :: .int n17 :: .ref m18 :: .int (nI rq) :: .ref m20 :: .ref m21 :: .ref m22 :: .ref m23 :: .ref m24 :: .int (nI rh) :: .ref m26 :: .ref m27 :: .ref m28 :: .int (nI un) :: .ref m30 :: .int n31 :: .int n32 :: .ref m33 :: .int n34 :: .int n35 :: .ref m36 :: .int (nI wm) :: .ref m38 :: .ref m39 :: .ref m40 :: .int (nI bk) :: .ref m42 :: .ref m43 :: .ref m44 :: .ref m45 :: []))), (m10, .inl (cI, 34, .inl fm10)), (m30, .inl (cI, 680, .inl fm30))]) hP hD hS hA [0, 1, 2] (by decide) rfl
      have hPc := hc9.1
      have hDc := hc9.2.1
      have hFc := hc9.2.2
      clear hc9
      refine va_callv (va_runV (As := []) (rest := []) ⟨hx, hb, hml, hown, hts⟩ (c_X11_remember l dC dI cI cZ cQ h0 n0 n1 nq m3 m4 m5 nh m7 m8 m9 m10 sd m12 tx n14 at9 n16 n17 m18 rq m20 m21 m22 m23 m24 rh m26 m27 m28 un m30 n31 n32 m33 n34 n35 m36 wm m38 m39 m40 bk m42 m43 m44 m45 fm10 fm30 H.size (by omega)) (cwV 0 hts gX11_dry_X11_remember rfl rfl rfl hd_X11_remember_RX11 ⟨Nat.le_of_ble_eq_true rfl, Nat.le_of_ble_eq_true rfl⟩) (pv_D (va_recv hK hP (ci := 11) (q0 := 0) rfl rfl) hK hPc hDc) rfl rfl hl.1 rfl (lv_room (Nat.le_of_ble_eq_true rfl)) dX11_dry_27 ⟨Nat.le_of_ble_eq_true rfl, Nat.le_of_ble_eq_true rfl⟩) hS (fun q _ h => hFc q h) hFc (fun u13 t H1 locs ht hvm hw14 hB hz1 hk1 hS => ?_)
      obtain ⟨f15, k16, hk16, hP1, hD1⟩ := hB
      replace hP1 := va_hp ht hP1
      obtain ⟨hP, hD⟩ := va_join (wr := []) (w1 := [(h0, .inr (11, (.int n0 :: .int n1 :: .int (nI nq) :: .ref m3 :: .ref m4 :: .ref m5 :: .int (nI nh) :: .ref m7 :: .ref m8 :: .ref m9 :: .ref m10 :: .int (nI sd) :: .ref m12 :: .int (nI tx) :: .int n14 :: .int (nI at9) :: .int n16 :: .int n17 :: .ref m18 :: .int (nI rq) :: .ref m20 :: .ref m21 :: .ref m22 :: .ref m23 :: .ref m24 :: .int (nI rh) :: .ref m26 :: .ref m27 :: .ref m28 :: .int (nI k16) :: .ref m30 :: .int n31 :: .int n32 :: .ref m33 :: .int n34 :: .int n35 :: .ref m36 :: .int (nI wm) :: .ref m38 :: .ref m39 :: .ref m40 :: .int (nI bk) :: .ref m42 :: .ref m43 :: .ref m44 :: .ref m45 :: []))), (m10, .inl (cI, 34, .inl fm10)), (m30, .inl (cI, 680, .inl f15))]) hP hD [0, 1, 2] [] rfl rfl (by decide +kernel) (by decide +kernel) hk1 hFc hP1 hD1
      clear hP1 hD1
      clear hz1 hk1 hPc hDc hFc
      generalize H1 = H at hP hS ht ⊢
      have hPD : pdW (dC, dI) vwCl A [(h0, .inr (11, (.int n0 :: .int n1 :: .int (nI nq) :: .ref m3 :: .ref m4 :: .ref m5 :: .int (nI nh) :: .ref m7 :: .ref m8 :: .ref m9 :: .ref m10 :: .int (nI sd) :: .ref m12 :: .int (nI tx) :: .int n14 :: .int (nI at9) :: .int n16 :: .int n17 :: .ref m18 :: .int (nI rq) :: .ref m20 :: .ref m21 :: .ref m22 :: .ref m23 :: .ref m24 :: .int (nI rh) :: .ref m26 :: .ref m27 :: .ref m28 :: .int (nI k16) :: .ref m30 :: .int n31 :: .int n32 :: .ref m33 :: .int n34 :: .int n35 :: .ref m36 :: .int (nI wm) :: .ref m38 :: .ref m39 :: .ref m40 :: .int (nI bk) :: .ref m42 :: .ref m43 :: .ref m44 :: .ref m45 :: []))), (m10, .inl (cI, 34, .inl fm10)), (m30, .inl (cI, 680, .inl f15))] H := ⟨hP, hD⟩
      have hP := hPD.1
      have hD := hPD.2
      clear hPD
      try dsimp only at hw14
      refine lv_aload_n hx hb dX11_dry_30 rfl (lv_at hl 0 rfl) ?_
      refine va_get (D := (dC, dI)) (ci := 11) (v := .ref m10) (C := RX11) (T := TX11) (N := 46) hx hb hts hi_X11 hown hK hP 0 rfl rfl 10 (by decide) (hts (.fieldLink RX11 28 "LeftQuillsModel" "now" "[I") (wmx 4 rfl)) (fun _ h9 => h9) rfl dX11_dry_31 ?_
      refine lv_bipush (v := 16) hx hb dX11_dry_34 (by decide) ?_
      refine lv_iload_n hx hb dX11_dry_36 rfl (lv_at hl 1 rfl) ?_
      refine lv_iadd hx hb dX11_dry_37 ?_
      refine lv_topi (fun z17 ez17 => ?_)
      obtain rfl : z17 = nI (16 + j4) := ez17.trans (nI_add 16 j4)
      refine lv_aload_n hx hb dX11_dry_38 rfl (lv_at hl 0 rfl) ?_
      refine va_get (D := (dC, dI)) (ci := 11) (v := .ref m10) (C := RX11) (T := TX11) (N := 46) hx hb hts hi_X11 hown hK hP 0 rfl rfl 10 (by decide) (hts (.fieldLink RX11 28 "LeftQuillsModel" "now" "[I") (wmx 4 rfl)) (fun _ h9 => h9) rfl dX11_dry_39 ?_
      refine lv_bipush (v := 16) hx hb dX11_dry_42 (by decide) ?_
      refine lv_iload_n hx hb dX11_dry_44 rfl (lv_at hl 1 rfl) ?_
      refine lv_iadd hx hb dX11_dry_45 ?_
      refine lv_topi (fun z18 ez18 => ?_)
      obtain rfl : z18 = nI (16 + j4) := ez18.trans (nI_add 16 j4)
      refine va_iald hx hb hK hP 1 0 rfl rfl (vp_in_nI (n := 16 + j4) (N := 34) (by omega) (by decide)) dX11_dry_46 ?_
      refine W.eq (g2 := F0 m 47 ls [.int (fm10 (16 + j4)), .int (nI (16 + j4)), .ref m10]) (congrArg (fun y9 => F0 m 47 ls (.int (fm10 y9) :: [.int (nI (16 + j4)), .ref m10])) ((nI_clamp (n := 16 + j4) (by omega)))) ?_
      refine lv_iload_n hx hb dX11_dry_47 rfl (lv_at hl 2 rfl) ?_
      have hPc := hP.sub (ws' := []) [] rfl
      refine va_calli (va_runS (As := [.int (fm10 (16 + j4)), .int q1]) (rest := [.int (nI (16 + j4)), .ref m10]) ⟨hx, hb, hml, hown, hts⟩ (c_X11_driedBy l dC dI cI cZ cQ (fm10 (16 + j4)) q1 H.size ) (va_cwS 2 hts gX11_dry_X11_driedBy rfl rfl rfl (by decide +kernel) ⟨Nat.le_of_ble_eq_true rfl, Nat.le_of_ble_eq_true rfl⟩) (ps_R hK hPc) rfl rfl hl.1 rfl (lv_room (Nat.le_of_ble_eq_true rfl)) dX11_dry_48 ⟨Nat.le_of_ble_eq_true rfl, Nat.le_of_ble_eq_true rfl⟩) hS (fun q _ h => False.elim h) (fun q h => False.elim h) (fun r19 u20 t H1 locs ht hvm hw21 hB hz1 hk1 hS => ?_)
      have hP := hP.kept (fun k q hk => hk1 q.1 (hP k q hk).lt (fun h => h))
      clear hz1 hk1 hPc
      generalize H1 = H at hP hS ht ⊢
      try dsimp only at hw21
      refine va_iast hx hb hK hP hD hS 1 0 rfl rfl (vp_in_nI (n := 16 + j4) (N := 34) (by omega) (by decide)) dX11_dry_51 (fun H locs hP hD hS => ?_)
      generalize hgf22 : upd fm10 ((nI (16 + j4)).toNatClampNeg) r19 = f22 at hP hD
      have hPD : pdW (dC, dI) vwCl A [(h0, .inr (11, (.int n0 :: .int n1 :: .int (nI nq) :: .ref m3 :: .ref m4 :: .ref m5 :: .int (nI nh) :: .ref m7 :: .ref m8 :: .ref m9 :: .ref m10 :: .int (nI sd) :: .ref m12 :: .int (nI tx) :: .int n14 :: .int (nI at9) :: .int n16 :: .int n17 :: .ref m18 :: .int (nI rq) :: .ref m20 :: .ref m21 :: .ref m22 :: .ref m23 :: .ref m24 :: .int (nI rh) :: .ref m26 :: .ref m27 :: .ref m28 :: .int (nI k16) :: .ref m30 :: .int n31 :: .int n32 :: .ref m33 :: .int n34 :: .int n35 :: .ref m36 :: .int (nI wm) :: .ref m38 :: .ref m39 :: .ref m40 :: .int (nI bk) :: .ref m42 :: .ref m43 :: .ref m44 :: .ref m45 :: []))), (m10, .inl (cI, 34, .inl f22)), (m30, .inl (cI, 680, .inl f15))] H := ⟨hP, hD⟩
      have hP := hPD.1
      have hD := hPD.2
      clear hPD
      refine lv_aload_n hx hb dX11_dry_52 rfl (lv_at hl 0 rfl) ?_
      refine va_get (D := (dC, dI)) (ci := 11) (v := .ref m10) (C := RX11) (T := TX11) (N := 46) hx hb hts hi_X11 hown hK hP 0 rfl rfl 10 (by decide) (hts (.fieldLink RX11 28 "LeftQuillsModel" "now" "[I") (wmx 4 rfl)) (fun _ h9 => h9) rfl dX11_dry_53 ?_
      refine lv_bipush (v := 16) hx hb dX11_dry_56 (by decide) ?_
      refine lv_iload_n hx hb dX11_dry_58 rfl (lv_at hl 1 rfl) ?_
      refine lv_iadd hx hb dX11_dry_59 ?_
      refine lv_topi (fun z23 ez23 => ?_)
      obtain rfl : z23 = nI (16 + j4) := ez23.trans (nI_add 16 j4)
      refine va_iald hx hb hK hP 1 0 rfl rfl (vp_in_nI (n := 16 + j4) (N := 34) (by omega) (by decide)) dX11_dry_60 ?_
      refine W.eq (g2 := F0 m 61 ls [.int (f22 (16 + j4))]) (congrArg (fun y9 => F0 m 61 ls (.int (f22 y9) :: [])) ((nI_clamp (n := 16 + j4) (by omega)))) ?_
      have hP9 := hP.sub (ws' := [(h0, .inr (11, (.int n0 :: .int n1 :: .int (nI nq) :: .ref m3 :: .ref m4 :: .ref m5 :: .int (nI nh) :: .ref m7 :: .ref m8 :: .ref m9 :: .ref m10 :: .int (nI sd) :: .ref m12 :: .int (nI tx) :: .int n14 :: .int (nI at9) :: .int n16 :: .int n17 :: .ref m18 :: .int (nI rq) :: .ref m20 :: .ref m21 :: .ref m22 :: .ref m23 :: .ref m24 :: .int (nI rh) :: .ref m26 :: .ref m27 :: .ref m28 :: .int (nI k16) :: .ref m30 :: .int n31 :: .int n32 :: .ref m33 :: .int n34 :: .int n35 :: .ref m36 :: .int (nI wm) :: .ref m38 :: .ref m39 :: .ref m40 :: .int (nI bk) :: .ref m42 :: .ref m43 :: .ref m44 :: .ref m45 :: []))), (m10, .inl (cI, 34, .inl f22)), (m30, .inl (cI, 680, .inl f15))]) [0, 1, 2] rfl
      have hD9 := hD.sub (ws' := [(h0, .inr (11, (.int n0 :: .int n1 :: .int (nI nq) :: .ref m3 :: .ref m4 :: .ref m5 :: .int (nI nh) :: .ref m7 :: .ref m8 :: .ref m9 :: .ref m10 :: .int (nI sd) :: .ref m12 :: .int (nI tx) :: .int n14 :: .int (nI at9) :: .int n16 :: .int n17 :: .ref m18 :: .int (nI rq) :: .ref m20 :: .ref m21 :: .ref m22 :: .ref m23 :: .ref m24 :: .int (nI rh) :: .ref m26 :: .ref m27 :: .ref m28 :: .int (nI k16) :: .ref m30 :: .int n31 :: .int n32 :: .ref m33 :: .int n34 :: .int n35 :: .ref m36 :: .int (nI wm) :: .ref m38 :: .ref m39 :: .ref m40 :: .int (nI bk) :: .ref m42 :: .ref m43 :: .ref m44 :: .ref m45 :: []))), (m10, .inl (cI, 34, .inl f22)), (m30, .inl (cI, 680, .inl f15))]) [0, 1, 2] (by decide +kernel) rfl
      exact W.iret (v := f22 (16 + j4)) hx hb hr (fun t ht hW => ⟨⟨f22 (16 + j4), (fun _ => 0), rfl, trivial, ⟨f22, f15, k16, by omega, va_hq ht hP9, hD9⟩⟩, hS.F ht⟩) hS.2.2 dX11_dry_61
    ·
      refine lv_if_ne (tgt := 26) hx hb dX11_dry_20 (by decide) (fun c24 => ?_) (fun c24 => ?_)
      · exact absurd c24 (by decide)
      clear c24
      refine lv_ldc (v := (-1000000002)) hx hb hown (hts (.constant RX11 111 (-1000000002)) (wmx 3 rfl)) dX11_dry_23 ?_
      have hP9 := hP.sub (ws' := [(h0, .inr (11, (.int n0 :: .int n1 :: .int (nI nq) :: .ref m3 :: .ref m4 :: .ref m5 :: .int (nI nh) :: .ref m7 :: .ref m8 :: .ref m9 :: .ref m10 :: .int (nI sd) :: .ref m12 :: .int (nI tx) :: .int n14 :: .int (nI at9) :: .int n16 :: .int n17 :: .ref m18 :: .int (nI rq) :: .ref m20 :: .ref m21 :: .ref m22 :: .ref m23 :: .ref m24 :: .int (nI rh) :: .ref m26 :: .ref m27 :: .ref m28 :: .int (nI un) :: .ref m30 :: .int n31 :: .int n32 :: .ref m33 :: .int n34 :: .int n35 :: .ref m36 :: .int (nI wm) :: .ref m38 :: .ref m39 :: .ref m40 :: .int (nI bk) :: .ref m42 :: .ref m43 :: .ref m44 :: .ref m45 :: []))), (m10, .inl (cI, 34, .inl fm10)), (m30, .inl (cI, 680, .inl fm30))]) [0, 1, 2] rfl
      have hD9 := hD.sub (ws' := [(h0, .inr (11, (.int n0 :: .int n1 :: .int (nI nq) :: .ref m3 :: .ref m4 :: .ref m5 :: .int (nI nh) :: .ref m7 :: .ref m8 :: .ref m9 :: .ref m10 :: .int (nI sd) :: .ref m12 :: .int (nI tx) :: .int n14 :: .int (nI at9) :: .int n16 :: .int n17 :: .ref m18 :: .int (nI rq) :: .ref m20 :: .ref m21 :: .ref m22 :: .ref m23 :: .ref m24 :: .int (nI rh) :: .ref m26 :: .ref m27 :: .ref m28 :: .int (nI un) :: .ref m30 :: .int n31 :: .int n32 :: .ref m33 :: .int n34 :: .int n35 :: .ref m36 :: .int (nI wm) :: .ref m38 :: .ref m39 :: .ref m40 :: .int (nI bk) :: .ref m42 :: .ref m43 :: .ref m44 :: .ref m45 :: []))), (m10, .inl (cI, 34, .inl fm10)), (m30, .inl (cI, 680, .inl fm30))]) [0, 1, 2] (by decide +kernel) rfl
      exact W.iret (v := (-1000000002)) hx hb hr (fun t ht hW => ⟨⟨(-1000000002), (fun _ => 0), rfl, trivial, ⟨fm10, fm30, un, by omega, va_hq ht hP9, hD9⟩⟩, hS.F ht⟩) hS.2.2 dX11_dry_25
  ·
    refine lv_if_ne (tgt := 11) hx hb dX11_dry_5 (by decide) (fun c25 => ?_) (fun c25 => ?_)
    · exact absurd c25 (by decide)
    clear c25
    refine lv_ldc (v := (-1000000001)) hx hb hown (hts (.constant RX11 188 (-1000000001)) (wmx 1 rfl)) dX11_dry_8 ?_
    have hP9 := hP.sub (ws' := [(h0, .inr (11, (.int n0 :: .int n1 :: .int (nI nq) :: .ref m3 :: .ref m4 :: .ref m5 :: .int (nI nh) :: .ref m7 :: .ref m8 :: .ref m9 :: .ref m10 :: .int (nI sd) :: .ref m12 :: .int (nI tx) :: .int n14 :: .int (nI at9) :: .int n16 :: .int n17 :: .ref m18 :: .int (nI rq) :: .ref m20 :: .ref m21 :: .ref m22 :: .ref m23 :: .ref m24 :: .int (nI rh) :: .ref m26 :: .ref m27 :: .ref m28 :: .int (nI un) :: .ref m30 :: .int n31 :: .int n32 :: .ref m33 :: .int n34 :: .int n35 :: .ref m36 :: .int (nI wm) :: .ref m38 :: .ref m39 :: .ref m40 :: .int (nI bk) :: .ref m42 :: .ref m43 :: .ref m44 :: .ref m45 :: []))), (m10, .inl (cI, 34, .inl fm10)), (m30, .inl (cI, 680, .inl fm30))]) [0, 1, 2] rfl
    have hD9 := hD.sub (ws' := [(h0, .inr (11, (.int n0 :: .int n1 :: .int (nI nq) :: .ref m3 :: .ref m4 :: .ref m5 :: .int (nI nh) :: .ref m7 :: .ref m8 :: .ref m9 :: .ref m10 :: .int (nI sd) :: .ref m12 :: .int (nI tx) :: .int n14 :: .int (nI at9) :: .int n16 :: .int n17 :: .ref m18 :: .int (nI rq) :: .ref m20 :: .ref m21 :: .ref m22 :: .ref m23 :: .ref m24 :: .int (nI rh) :: .ref m26 :: .ref m27 :: .ref m28 :: .int (nI un) :: .ref m30 :: .int n31 :: .int n32 :: .ref m33 :: .int n34 :: .int n35 :: .ref m36 :: .int (nI wm) :: .ref m38 :: .ref m39 :: .ref m40 :: .int (nI bk) :: .ref m42 :: .ref m43 :: .ref m44 :: .ref m45 :: []))), (m10, .inl (cI, 34, .inl fm10)), (m30, .inl (cI, 680, .inl fm30))]) [0, 1, 2] (by decide +kernel) rfl
    exact W.iret (v := (-1000000001)) hx hb hr (fun t ht hW => ⟨⟨(-1000000001), (fun _ => 0), rfl, trivial, ⟨fm10, fm30, un, by omega, va_hq ht hP9, hD9⟩⟩, hS.F ht⟩) hS.2.2 dX11_dry_10
set_option maxHeartbeats 4000000 in
set_option maxRecDepth 100000 in
theorem c_X11_mend (l : Launch) (dC : Nat → ClassId) (dI : Nat → Nat → Nat) (cI cZ cQ : ClassId) (h0 : Nat) (n0 : Int32) (n1 : Int32) (nq : Nat) (m3 : Nat) (m4 : Nat) (m5 : Nat) (nh : Nat) (m7 : Nat) (m8 : Nat) (m9 : Nat) (m10 : Nat) (sd : Nat) (m12 : Nat) (tx : Nat) (n14 : Int32) (at9 : Nat) (n16 : Int32) (n17 : Int32) (m18 : Nat) (rq : Nat) (m20 : Nat) (m21 : Nat) (m22 : Nat) (m23 : Nat) (m24 : Nat) (rh : Nat) (m26 : Nat) (m27 : Nat) (m28 : Nat) (un : Nat) (m30 : Nat) (n31 : Int32) (n32 : Int32) (m33 : Nat) (n34 : Int32) (n35 : Int32) (m36 : Nat) (wm : Nat) (m38 : Nat) (m39 : Nat) (m40 : Nat) (bk : Nat) (m42 : Nat) (m43 : Nat) (m44 : Nat) (m45 : Nat) (fm10 : Nat → Int32) (fm30 : Nat → Int32) (q0 : Int32) (sz : Nat) (hnq : nq ≤ 8) (hun : un ≤ 20) : Met l yX11_mend wsX11_mend ({ frames := 2, cells := 0, slots := 0, locals := 86 }) (va_Pc [.ref h0, .int q0] (fun U => U.heap.size = sz ∧ va_P (dC, dI) vwCl [(h0, .inr (11, (.int n0 :: .int n1 :: .int (nI nq) :: .ref m3 :: .ref m4 :: .ref m5 :: .int (nI nh) :: .ref m7 :: .ref m8 :: .ref m9 :: .ref m10 :: .int (nI sd) :: .ref m12 :: .int (nI tx) :: .int n14 :: .int (nI at9) :: .int n16 :: .int n17 :: .ref m18 :: .int (nI rq) :: .ref m20 :: .ref m21 :: .ref m22 :: .ref m23 :: .ref m24 :: .int (nI rh) :: .ref m26 :: .ref m27 :: .ref m28 :: .int (nI un) :: .ref m30 :: .int n31 :: .int n32 :: .ref m33 :: .int n34 :: .int n35 :: .ref m36 :: .int (nI wm) :: .ref m38 :: .ref m39 :: .ref m40 :: .int (nI bk) :: .ref m42 :: .ref m43 :: .ref m44 :: .ref m45 :: []))), (m10, .inl (cI, 34, .inl fm10)), (m30, .inl (cI, 680, .inl fm30))] U.heap ∧ va_K (dC, dI) vwCl (tys0 cI cZ cQ) U ∧ va_D (fun _ => True) [(h0, .inr (11, (.int n0 :: .int n1 :: .int (nI nq) :: .ref m3 :: .ref m4 :: .ref m5 :: .int (nI nh) :: .ref m7 :: .ref m8 :: .ref m9 :: .ref m10 :: .int (nI sd) :: .ref m12 :: .int (nI tx) :: .int n14 :: .int (nI at9) :: .int n16 :: .int n17 :: .ref m18 :: .int (nI rq) :: .ref m20 :: .ref m21 :: .ref m22 :: .ref m23 :: .ref m24 :: .int (nI rh) :: .ref m26 :: .ref m27 :: .ref m28 :: .int (nI un) :: .ref m30 :: .int n31 :: .int n32 :: .ref m33 :: .int n34 :: .int n35 :: .ref m36 :: .int (nI wm) :: .ref m38 :: .ref m39 :: .ref m40 :: .int (nI bk) :: .ref m42 :: .ref m43 :: .ref m44 :: .ref m45 :: []))), (m10, .inl (cI, 34, .inl fm10)), (m30, .inl (cI, 680, .inl fm30))])) (va_Qi (fun (r : Int32) (u : Nat → Nat) => True) (fun (_ : Nat → Nat) (t : State) => ∃ (gg0 gg1 : Nat → Int32) (kk0 : Nat), kk0 ≤ 20 ∧ va_P (dC, dI) vwCl [(h0, .inr (11, (.int n0 :: .int n1 :: .int (nI nq) :: .ref m3 :: .ref m4 :: .ref m5 :: .int (nI nh) :: .ref m7 :: .ref m8 :: .ref m9 :: .ref m10 :: .int (nI sd) :: .ref m12 :: .int (nI tx) :: .int n14 :: .int (nI at9) :: .int n16 :: .int n17 :: .ref m18 :: .int (nI rq) :: .ref m20 :: .ref m21 :: .ref m22 :: .ref m23 :: .ref m24 :: .int (nI rh) :: .ref m26 :: .ref m27 :: .ref m28 :: .int (nI kk0) :: .ref m30 :: .int n31 :: .int n32 :: .ref m33 :: .int n34 :: .int n35 :: .ref m36 :: .int (nI wm) :: .ref m38 :: .ref m39 :: .ref m40 :: .int (nI bk) :: .ref m42 :: .ref m43 :: .ref m44 :: .ref m45 :: []))), (m10, .inl (cI, 34, .inl gg0)), (m30, .inl (cI, 680, .inl gg1))] t.heap ∧ va_D (va_A [(h0, .inr (11, (.int n0 :: .int n1 :: .int (nI nq) :: .ref m3 :: .ref m4 :: .ref m5 :: .int (nI nh) :: .ref m7 :: .ref m8 :: .ref m9 :: .ref m10 :: .int (nI sd) :: .ref m12 :: .int (nI tx) :: .int n14 :: .int (nI at9) :: .int n16 :: .int n17 :: .ref m18 :: .int (nI rq) :: .ref m20 :: .ref m21 :: .ref m22 :: .ref m23 :: .ref m24 :: .int (nI rh) :: .ref m26 :: .ref m27 :: .ref m28 :: .int (nI un) :: .ref m30 :: .int n31 :: .int n32 :: .ref m33 :: .int n34 :: .int n35 :: .ref m36 :: .int (nI wm) :: .ref m38 :: .ref m39 :: .ref m40 :: .int (nI bk) :: .ref m42 :: .ref m43 :: .ref m44 :: .ref m45 :: []))), (m10, .inl (cI, 34, .inl fm10)), (m30, .inl (cI, 680, .inl fm30))] sz) [(h0, .inr (11, (.int n0 :: .int n1 :: .int (nI nq) :: .ref m3 :: .ref m4 :: .ref m5 :: .int (nI nh) :: .ref m7 :: .ref m8 :: .ref m9 :: .ref m10 :: .int (nI sd) :: .ref m12 :: .int (nI tx) :: .int n14 :: .int (nI at9) :: .int n16 :: .int n17 :: .ref m18 :: .int (nI rq) :: .ref m20 :: .ref m21 :: .ref m22 :: .ref m23 :: .ref m24 :: .int (nI rh) :: .ref m26 :: .ref m27 :: .ref m28 :: .int (nI kk0) :: .ref m30 :: .int n31 :: .int n32 :: .ref m33 :: .int n34 :: .int n35 :: .ref m36 :: .int (nI wm) :: .ref m38 :: .ref m39 :: .ref m40 :: .int (nI bk) :: .ref m42 :: .ref m43 :: .ref m44 :: .ref m45 :: []))), (m10, .inl (cI, 34, .inl gg0)), (m30, .inl (cI, 680, .inl gg1))]) (va_A [(h0, .inr (11, (.int n0 :: .int n1 :: .int (nI nq) :: .ref m3 :: .ref m4 :: .ref m5 :: .int (nI nh) :: .ref m7 :: .ref m8 :: .ref m9 :: .ref m10 :: .int (nI sd) :: .ref m12 :: .int (nI tx) :: .int n14 :: .int (nI at9) :: .int n16 :: .int n17 :: .ref m18 :: .int (nI rq) :: .ref m20 :: .ref m21 :: .ref m22 :: .ref m23 :: .ref m24 :: .int (nI rh) :: .ref m26 :: .ref m27 :: .ref m28 :: .int (nI un) :: .ref m30 :: .int n31 :: .int n32 :: .ref m33 :: .int n34 :: .int n35 :: .ref m36 :: .int (nI wm) :: .ref m38 :: .ref m39 :: .ref m40 :: .int (nI bk) :: .ref m42 :: .ref m43 :: .ref m44 :: .ref m45 :: []))), (m10, .inl (cI, 34, .inl fm10)), (m30, .inl (cI, 680, .inl fm30))] sz)) 0 0 (va_A [(h0, .inr (11, (.int n0 :: .int n1 :: .int (nI nq) :: .ref m3 :: .ref m4 :: .ref m5 :: .int (nI nh) :: .ref m7 :: .ref m8 :: .ref m9 :: .ref m10 :: .int (nI sd) :: .ref m12 :: .int (nI tx) :: .int n14 :: .int (nI at9) :: .int n16 :: .int n17 :: .ref m18 :: .int (nI rq) :: .ref m20 :: .ref m21 :: .ref m22 :: .ref m23 :: .ref m24 :: .int (nI rh) :: .ref m26 :: .ref m27 :: .ref m28 :: .int (nI un) :: .ref m30 :: .int n31 :: .int n32 :: .ref m33 :: .int n34 :: .int n35 :: .ref m36 :: .int (nI wm) :: .ref m38 :: .ref m39 :: .ref m40 :: .int (nI bk) :: .ref m42 :: .ref m43 :: .ref m44 :: .ref m45 :: []))), (m10, .inl (cI, 34, .inl fm10)), (m30, .inl (cI, 680, .inl fm30))] sz) := by
  refine Met.ofW (cc := cX11_mend) (maxL := 2) (ret := (some .int)) (by decide) rfl ?_
  intro p e s m args below meth c s₁ B hml hv
  obtain ⟨rfl, hsz, hP, hK, hD0⟩ := hv
  have hx := B.exec
  have hb := B.bytes
  have hr := B.returns
  have hts := atoms_spec (ws := wsX11_mend) B.pre
  have hown : s.vm.findClass RX11 = some m.cls := findClass_of_methodNamed B.named
  have hlocks := B.notSynchronized
  have hi_X11 : ∀ w ∈ u_ws RX11 TX11 46, w ∈ wsX11_mend := fun _ h => List.mem_cons_of_mem _ (List.mem_append_right _ (h))
  subst hsz
  have hD := hD0.self (sz := s.heap.size)
  generalize hAe : va_A [(h0, .inr (11, (.int n0 :: .int n1 :: .int (nI nq) :: .ref m3 :: .ref m4 :: .ref m5 :: .int (nI nh) :: .ref m7 :: .ref m8 :: .ref m9 :: .ref m10 :: .int (nI sd) :: .ref m12 :: .int (nI tx) :: .int n14 :: .int (nI at9) :: .int n16 :: .int n17 :: .ref m18 :: .int (nI rq) :: .ref m20 :: .ref m21 :: .ref m22 :: .ref m23 :: .ref m24 :: .int (nI rh) :: .ref m26 :: .ref m27 :: .ref m28 :: .int (nI un) :: .ref m30 :: .int n31 :: .int n32 :: .ref m33 :: .int n34 :: .int n35 :: .ref m36 :: .int (nI wm) :: .ref m38 :: .ref m39 :: .ref m40 :: .int (nI bk) :: .ref m42 :: .ref m43 :: .ref m44 :: .ref m45 :: []))), (m10, .inl (cI, 34, .inl fm10)), (m30, .inl (cI, 680, .inl fm30))] s.heap.size = A at hD ⊢
  have hA : ∀ q : Nat, s.heap.size ≤ q → A q := fun q h => by rw [← hAe]; exact Or.inr h
  have hS : va_S A s.heap s.heap [] := va_S.rf
  have hl := lv_entry ([.ref h0, .int q0]) (n := 2) (Nat.le_of_ble_eq_true rfl)
  rw [lg_entry_eq]
  generalize (lg_sl ([.ref h0, .int q0]) ++ List.replicate (2 - (lg_sl ([.ref h0, .int q0])).length) Slot.unset).toArray = ls at hl ⊢
  have hl : lv_has ls 2 [(0, .ref h0), (1, .int q0)] := hl
  refine lv_aload_n hx hb dX11_mend_0 rfl (lv_at hl 0 rfl) ?_
  refine lv_iload_n hx hb dX11_mend_1 rfl (lv_at hl 1 rfl) ?_
  have hPc := hP.sub (ws' := [(h0, .inr (11, (.int n0 :: .int n1 :: .int (nI nq) :: .ref m3 :: .ref m4 :: .ref m5 :: .int (nI nh) :: .ref m7 :: .ref m8 :: .ref m9 :: .ref m10 :: .int (nI sd) :: .ref m12 :: .int (nI tx) :: .int n14 :: .int (nI at9) :: .int n16 :: .int n17 :: .ref m18 :: .int (nI rq) :: .ref m20 :: .ref m21 :: .ref m22 :: .ref m23 :: .ref m24 :: .int (nI rh) :: .ref m26 :: .ref m27 :: .ref m28 :: .int (nI un) :: .ref m30 :: .int n31 :: .int n32 :: .ref m33 :: .int n34 :: .int n35 :: .ref m36 :: .int (nI wm) :: .ref m38 :: .ref m39 :: .ref m40 :: .int (nI bk) :: .ref m42 :: .ref m43 :: .ref m44 :: .ref m45 :: [])))]) [0] rfl
  refine va_calli (va_runV (As := [.int q0]) (rest := []) ⟨hx, hb, hml, hown, hts⟩ (c_X11_isQuill l dC dI cI cZ cQ h0 (nI nq) ((.int n0 :: .int n1 :: .int (nI nq) :: .ref m3 :: .ref m4 :: .ref m5 :: .int (nI nh) :: .ref m7 :: .ref m8 :: .ref m9 :: .ref m10 :: .int (nI sd) :: .ref m12 :: .int (nI tx) :: .int n14 :: .int (nI at9) :: .int n16 :: .int n17 :: .ref m18 :: .int (nI rq) :: .ref m20 :: .ref m21 :: .ref m22 :: .ref m23 :: .ref m24 :: .int (nI rh) :: .ref m26 :: .ref m27 :: .ref m28 :: .int (nI un) :: .ref m30 :: .int n31 :: .int n32 :: .ref m33 :: .int n34 :: .int n35 :: .ref m36 :: .int (nI wm) :: .ref m38 :: .ref m39 :: .ref m40 :: .int (nI bk) :: .ref m42 :: .ref m43 :: .ref m44 :: .ref m45 :: [])) q0 s.heap.size rfl (nI_pos' (n := nq) (by omega))) (cwV 1 hts gX11_mend_X11_isQuill rfl rfl rfl hd_X11_isQuill_RX11 ⟨Nat.le_of_ble_eq_true rfl, Nat.le_of_ble_eq_true rfl⟩) (pv_R (va_recv hK hP (ci := 11) (q0 := 0) rfl rfl) hK hPc) rfl rfl hl.1 rfl (lv_room (Nat.le_of_ble_eq_true rfl)) dX11_mend_2 ⟨Nat.le_of_ble_eq_true rfl, Nat.le_of_ble_eq_true rfl⟩) hS (fun q _ h => False.elim h) (fun q h => False.elim h) (fun r1 u2 t H1 locs ht hvm hw3 hB hz1 hk1 hS => ?_)
  have hP := hP.kept (fun k q hk => hk1 q.1 (hP k q hk).lt (fun h => h))
  clear hz1 hk1 hPc
  generalize H1 = H at hP hS ht ⊢
  try dsimp only at hw3
  rcases hw3 with ⟨rfl, hw3⟩ | ⟨rfl, hw3⟩
  ·
    obtain ⟨j4, hj4, rfl⟩ := x_ix hw3 (by omega)
    refine lv_if_ne (tgt := 11) hx hb dX11_mend_5 (by decide) (fun c5 => ?_) (fun c5 => ?_)
    rotate_left
    · exact absurd c5 (by decide)
    clear c5
    refine lv_aload_n hx hb dX11_mend_11 rfl (lv_at hl 0 rfl) ?_
    refine lv_iload_n hx hb dX11_mend_12 rfl (lv_at hl 1 rfl) ?_
    have hPc := hP.sub (ws' := [(h0, .inr (11, (.int n0 :: .int n1 :: .int (nI nq) :: .ref m3 :: .ref m4 :: .ref m5 :: .int (nI nh) :: .ref m7 :: .ref m8 :: .ref m9 :: .ref m10 :: .int (nI sd) :: .ref m12 :: .int (nI tx) :: .int n14 :: .int (nI at9) :: .int n16 :: .int n17 :: .ref m18 :: .int (nI rq) :: .ref m20 :: .ref m21 :: .ref m22 :: .ref m23 :: .ref m24 :: .int (nI rh) :: .ref m26 :: .ref m27 :: .ref m28 :: .int (nI un) :: .ref m30 :: .int n31 :: .int n32 :: .ref m33 :: .int n34 :: .int n35 :: .ref m36 :: .int (nI wm) :: .ref m38 :: .ref m39 :: .ref m40 :: .int (nI bk) :: .ref m42 :: .ref m43 :: .ref m44 :: .ref m45 :: []))), (m10, .inl (cI, 34, .inl fm10))]) [0, 1] rfl
    refine va_calli (va_runV (As := [.int (nI j4)]) (rest := []) ⟨hx, hb, hml, hown, hts⟩ (c_X11_mayMend l dC dI cI cZ cQ h0 n0 m10 ((.int n0 :: .int n1 :: .int (nI nq) :: .ref m3 :: .ref m4 :: .ref m5 :: .int (nI nh) :: .ref m7 :: .ref m8 :: .ref m9 :: .ref m10 :: .int (nI sd) :: .ref m12 :: .int (nI tx) :: .int n14 :: .int (nI at9) :: .int n16 :: .int n17 :: .ref m18 :: .int (nI rq) :: .ref m20 :: .ref m21 :: .ref m22 :: .ref m23 :: .ref m24 :: .int (nI rh) :: .ref m26 :: .ref m27 :: .ref m28 :: .int (nI un) :: .ref m30 :: .int n31 :: .int n32 :: .ref m33 :: .int n34 :: .int n35 :: .ref m36 :: .int (nI wm) :: .ref m38 :: .ref m39 :: .ref m40 :: .int (nI bk) :: .ref m42 :: .ref m43 :: .ref m44 :: .ref m45 :: [])) fm10 j4 H.size rfl rfl (by omega)) (cwV 1 hts gX11_mend_X11_mayMend rfl rfl rfl hd_X11_mayMend_RX11 ⟨Nat.le_of_ble_eq_true rfl, Nat.le_of_ble_eq_true rfl⟩) (pv_R (va_recv hK hP (ci := 11) (q0 := 0) rfl rfl) hK hPc) rfl rfl hl.1 rfl (lv_room (Nat.le_of_ble_eq_true rfl)) dX11_mend_13 ⟨Nat.le_of_ble_eq_true rfl, Nat.le_of_ble_eq_true rfl⟩) hS (fun q _ h => False.elim h) (fun q h => False.elim h) (fun r6 u7 t H1 locs ht hvm hw8 hB hz1 hk1 hS => ?_)
    have hP := hP.kept (fun k q hk => hk1 q.1 (hP k q hk).lt (fun h => h))
    clear hz1 hk1 hPc
    generalize H1 = H at hP hS ht ⊢
    try dsimp only at hw8
    rcases hw8 with rfl | rfl
    ·
      refine lv_if_ne (tgt := 22) hx hb dX11_mend_16 (by decide) (fun c9 => ?_) (fun c9 => ?_)
      rotate_left
      · exact absurd c9 (by decide)
      clear c9
      refine lv_aload_n hx hb dX11_mend_22 rfl (lv_at hl 0 rfl) ?_
      refine va_get (D := (dC, dI)) (ci := 11) (v := .ref m10) (C := RX11) (T := TX11) (N := 46) hx hb hts hi_X11 hown hK hP 0 rfl rfl 10 (by decide) (hts (.fieldLink RX11 28 "LeftQuillsModel" "now" "[I") (wmx 3 rfl)) (fun _ h9 => h9) rfl dX11_mend_23 ?_
      refine lv_bipush (v := 32) hx hb dX11_mend_26 (by decide) ?_
      refine va_iald hx hb hK hP 1 0 rfl rfl (vp_in_iff.mpr ⟨by decide, by decide⟩) dX11_mend_28 ?_
      refine W.eq (g2 := F0 m 29 ls [.int (fm10 32)]) (congrArg (fun y9 => F0 m 29 ls (.int (fm10 y9) :: [])) ((show ((32 : Int32)).toNatClampNeg = 32 from by decide))) ?_
      refine lv_ldc (v := 90000) hx hb hown (hts (.constant RX11 221 90000) (wmx 4 rfl)) dX11_mend_29 ?_
      refine lv_icmp_le (tgt := 37) hx hb dX11_mend_31 (by decide) (fun c10 => ?_) (fun c10 => ?_)
      ·
        refine lv_aload_n hx hb dX11_mend_37 rfl (lv_at hl 0 rfl) ?_
        have hc9 := va_cut (W' := [(h0, .inr (11, (.int n0 :: .int n1 :: .int (nI nq) :: .ref m3 :: .ref m4 :: .ref m5 :: .int (nI nh) :: .ref m7 :: .ref m8 :: .ref m9 :: .ref m10 :: .int (nI sd) :: .ref m12 :: .int (nI tx) :: .int n14 :: .int (nI at9) :: .int n16 :: .int n17 :: .ref m18 :: .int (nI rq) :: .ref m20 :: .ref m21 :: .ref m22 :: .ref m23 :: .ref m24 :: .int (nI rh) :: .ref m26 :: .ref m27 :: .ref m28 :: .int (nI un) :: .ref m30 :: .int n31 :: .int n32 :: .ref m33 :: .int n34 :: .int n35 :: .ref m36 :: .int (nI wm) :: .ref m38 :: .ref m39 :: .ref m40 :: .int (nI bk) :: .ref m42 :: .ref m43 :: .ref m44 :: .ref m45 :: []))), (m10, .inl (cI, 34, .inl fm10)), (m30, .inl (cI, 680, .inl fm30))]) hP hD hS hA [0, 1, 2] (by decide) rfl
        have hPc := hc9.1
        have hDc := hc9.2.1
        have hFc := hc9.2.2
        clear hc9
        refine va_callv (va_runV (As := []) (rest := []) ⟨hx, hb, hml, hown, hts⟩ (c_X11_remember l dC dI cI cZ cQ h0 n0 n1 nq m3 m4 m5 nh m7 m8 m9 m10 sd m12 tx n14 at9 n16 n17 m18 rq m20 m21 m22 m23 m24 rh m26 m27 m28 un m30 n31 n32 m33 n34 n35 m36 wm m38 m39 m40 bk m42 m43 m44 m45 fm10 fm30 H.size (by omega)) (cwV 0 hts gX11_mend_X11_remember rfl rfl rfl hd_X11_remember_RX11 ⟨Nat.le_of_ble_eq_true rfl, Nat.le_of_ble_eq_true rfl⟩) (pv_D (va_recv hK hP (ci := 11) (q0 := 0) rfl rfl) hK hPc hDc) rfl rfl hl.1 rfl (lv_room (Nat.le_of_ble_eq_true rfl)) dX11_mend_38 ⟨Nat.le_of_ble_eq_true rfl, Nat.le_of_ble_eq_true rfl⟩) hS (fun q _ h => hFc q h) hFc (fun u12 t H1 locs ht hvm hw13 hB hz1 hk1 hS => ?_)
        obtain ⟨f14, k15, hk15, hP1, hD1⟩ := hB
        replace hP1 := va_hp ht hP1
        obtain ⟨hP, hD⟩ := va_join (wr := []) (w1 := [(h0, .inr (11, (.int n0 :: .int n1 :: .int (nI nq) :: .ref m3 :: .ref m4 :: .ref m5 :: .int (nI nh) :: .ref m7 :: .ref m8 :: .ref m9 :: .ref m10 :: .int (nI sd) :: .ref m12 :: .int (nI tx) :: .int n14 :: .int (nI at9) :: .int n16 :: .int n17 :: .ref m18 :: .int (nI rq) :: .ref m20 :: .ref m21 :: .ref m22 :: .ref m23 :: .ref m24 :: .int (nI rh) :: .ref m26 :: .ref m27 :: .ref m28 :: .int (nI k15) :: .ref m30 :: .int n31 :: .int n32 :: .ref m33 :: .int n34 :: .int n35 :: .ref m36 :: .int (nI wm) :: .ref m38 :: .ref m39 :: .ref m40 :: .int (nI bk) :: .ref m42 :: .ref m43 :: .ref m44 :: .ref m45 :: []))), (m10, .inl (cI, 34, .inl fm10)), (m30, .inl (cI, 680, .inl f14))]) hP hD [0, 1, 2] [] rfl rfl (by decide +kernel) (by decide +kernel) hk1 hFc hP1 hD1
        clear hP1 hD1
        clear hz1 hk1 hPc hDc hFc
        generalize H1 = H at hP hS ht ⊢
        have hPD : pdW (dC, dI) vwCl A [(h0, .inr (11, (.int n0 :: .int n1 :: .int (nI nq) :: .ref m3 :: .ref m4 :: .ref m5 :: .int (nI nh) :: .ref m7 :: .ref m8 :: .ref m9 :: .ref m10 :: .int (nI sd) :: .ref m12 :: .int (nI tx) :: .int n14 :: .int (nI at9) :: .int n16 :: .int n17 :: .ref m18 :: .int (nI rq) :: .ref m20 :: .ref m21 :: .ref m22 :: .ref m23 :: .ref m24 :: .int (nI rh) :: .ref m26 :: .ref m27 :: .ref m28 :: .int (nI k15) :: .ref m30 :: .int n31 :: .int n32 :: .ref m33 :: .int n34 :: .int n35 :: .ref m36 :: .int (nI wm) :: .ref m38 :: .ref m39 :: .ref m40 :: .int (nI bk) :: .ref m42 :: .ref m43 :: .ref m44 :: .ref m45 :: []))), (m10, .inl (cI, 34, .inl fm10)), (m30, .inl (cI, 680, .inl f14))] H := ⟨hP, hD⟩
        have hP := hPD.1
        have hD := hPD.2
        clear hPD
        try dsimp only at hw13
        refine lv_aload_n hx hb dX11_mend_41 rfl (lv_at hl 0 rfl) ?_
        refine lv_iload_n hx hb dX11_mend_42 rfl (lv_at hl 1 rfl) ?_
        have hc9 := va_cut (W' := [(h0, .inr (11, (.int n0 :: .int n1 :: .int (nI nq) :: .ref m3 :: .ref m4 :: .ref m5 :: .int (nI nh) :: .ref m7 :: .ref m8 :: .ref m9 :: .ref m10 :: .int (nI sd) :: .ref m12 :: .int (nI tx) :: .int n14 :: .int (nI at9) :: .int n16 :: .int n17 :: .ref m18 :: .int (nI rq) :: .ref m20 :: .ref m21 :: .ref m22 :: .ref m23 :: .ref m24 :: .int (nI rh) :: .ref m26 :: .ref m27 :: .ref m28 :: .int (nI k15) :: .ref m30 :: .int n31 :: .int n32 :: .ref m33 :: .int n34 :: .int n35 :: .ref m36 :: .int (nI wm) :: .ref m38 :: .ref m39 :: .ref m40 :: .int (nI bk) :: .ref m42 :: .ref m43 :: .ref m44 :: .ref m45 :: []))), (m10, .inl (cI, 34, .inl fm10))]) hP hD hS hA [0, 1] (by decide) rfl
        have hPc := hc9.1
        have hDc := hc9.2.1
        have hFc := hc9.2.2
        clear hc9
        refine va_callv (va_runV (As := [.int (nI j4)]) (rest := []) ⟨hx, hb, hml, hown, hts⟩ (c_X11_mendNow l dC dI cI cZ cQ h0 n0 n1 m10 ((.int n0 :: .int n1 :: .int (nI nq) :: .ref m3 :: .ref m4 :: .ref m5 :: .int (nI nh) :: .ref m7 :: .ref m8 :: .ref m9 :: .ref m10 :: .int (nI sd) :: .ref m12 :: .int (nI tx) :: .int n14 :: .int (nI at9) :: .int n16 :: .int n17 :: .ref m18 :: .int (nI rq) :: .ref m20 :: .ref m21 :: .ref m22 :: .ref m23 :: .ref m24 :: .int (nI rh) :: .ref m26 :: .ref m27 :: .ref m28 :: .int (nI k15) :: .ref m30 :: .int n31 :: .int n32 :: .ref m33 :: .int n34 :: .int n35 :: .ref m36 :: .int (nI wm) :: .ref m38 :: .ref m39 :: .ref m40 :: .int (nI bk) :: .ref m42 :: .ref m43 :: .ref m44 :: .ref m45 :: [])) fm10 j4 H.size rfl rfl rfl (by omega)) (cwV 1 hts gX11_mend_X11_mendNow rfl rfl rfl hd_X11_mendNow_RX11 ⟨Nat.le_of_ble_eq_true rfl, Nat.le_of_ble_eq_true rfl⟩) (pv_D (va_recv hK hP (ci := 11) (q0 := 0) rfl rfl) hK hPc hDc) rfl rfl hl.1 rfl (lv_room (Nat.le_of_ble_eq_true rfl)) dX11_mend_43 ⟨Nat.le_of_ble_eq_true rfl, Nat.le_of_ble_eq_true rfl⟩) hS (fun q _ h => hFc q h) hFc (fun u17 t H1 locs ht hvm hw18 hB hz1 hk1 hS => ?_)
        obtain ⟨f19, hP1, hD1⟩ := hB
        replace hP1 := va_hp ht hP1
        obtain ⟨hP, hD⟩ := va_join (wr := [(m30, .inl (cI, 680, .inl f14))]) (w1 := [(h0, .inr (11, (.int n0 :: .int n1 :: .int (nI nq) :: .ref m3 :: .ref m4 :: .ref m5 :: .int (nI nh) :: .ref m7 :: .ref m8 :: .ref m9 :: .ref m10 :: .int (nI sd) :: .ref m12 :: .int (nI tx) :: .int n14 :: .int (nI at9) :: .int n16 :: .int n17 :: .ref m18 :: .int (nI rq) :: .ref m20 :: .ref m21 :: .ref m22 :: .ref m23 :: .ref m24 :: .int (nI rh) :: .ref m26 :: .ref m27 :: .ref m28 :: .int (nI k15) :: .ref m30 :: .int n31 :: .int n32 :: .ref m33 :: .int n34 :: .int n35 :: .ref m36 :: .int (nI wm) :: .ref m38 :: .ref m39 :: .ref m40 :: .int (nI bk) :: .ref m42 :: .ref m43 :: .ref m44 :: .ref m45 :: []))), (m10, .inl (cI, 34, .inl f19))]) hP hD [0, 1] [2] rfl rfl (by decide +kernel) (by decide +kernel) hk1 hFc hP1 hD1
        clear hP1 hD1
        clear hz1 hk1 hPc hDc hFc
        generalize H1 = H at hP hS ht ⊢
        have hPD : pdW (dC, dI) vwCl A [(m30, .inl (cI, 680, .inl f14)), (h0, .inr (11, (.int n0 :: .int n1 :: .int (nI nq) :: .ref m3 :: .ref m4 :: .ref m5 :: .int (nI nh) :: .ref m7 :: .ref m8 :: .ref m9 :: .ref m10 :: .int (nI sd) :: .ref m12 :: .int (nI tx) :: .int n14 :: .int (nI at9) :: .int n16 :: .int n17 :: .ref m18 :: .int (nI rq) :: .ref m20 :: .ref m21 :: .ref m22 :: .ref m23 :: .ref m24 :: .int (nI rh) :: .ref m26 :: .ref m27 :: .ref m28 :: .int (nI k15) :: .ref m30 :: .int n31 :: .int n32 :: .ref m33 :: .int n34 :: .int n35 :: .ref m36 :: .int (nI wm) :: .ref m38 :: .ref m39 :: .ref m40 :: .int (nI bk) :: .ref m42 :: .ref m43 :: .ref m44 :: .ref m45 :: []))), (m10, .inl (cI, 34, .inl f19))] H := ⟨hP, hD⟩
        have hP := hPD.1
        have hD := hPD.2
        clear hPD
        try dsimp only at hw18
        refine lv_aload_n hx hb dX11_mend_46 rfl (lv_at hl 0 rfl) ?_
        refine va_get (D := (dC, dI)) (ci := 11) (v := .ref m10) (C := RX11) (T := TX11) (N := 46) hx hb hts hi_X11 hown hK hP 1 rfl rfl 10 (by decide) (hts (.fieldLink RX11 28 "LeftQuillsModel" "now" "[I") (wmx 3 rfl)) (fun _ h9 => h9) rfl dX11_mend_47 ?_
        refine lv_iload_n hx hb dX11_mend_50 rfl (lv_at hl 1 rfl) ?_
        refine va_iald hx hb hK hP 2 0 rfl rfl (vp_in_nI (n := j4) (N := 34) (by omega) (by decide)) dX11_mend_51 ?_
        refine W.eq (g2 := F0 m 52 ls [.int (f19 j4)]) (congrArg (fun y9 => F0 m 52 ls (.int (f19 y9) :: [])) ((nI_clamp (n := j4) (by omega)))) ?_
        have hP9 := hP.sub (ws' := [(h0, .inr (11, (.int n0 :: .int n1 :: .int (nI nq) :: .ref m3 :: .ref m4 :: .ref m5 :: .int (nI nh) :: .ref m7 :: .ref m8 :: .ref m9 :: .ref m10 :: .int (nI sd) :: .ref m12 :: .int (nI tx) :: .int n14 :: .int (nI at9) :: .int n16 :: .int n17 :: .ref m18 :: .int (nI rq) :: .ref m20 :: .ref m21 :: .ref m22 :: .ref m23 :: .ref m24 :: .int (nI rh) :: .ref m26 :: .ref m27 :: .ref m28 :: .int (nI k15) :: .ref m30 :: .int n31 :: .int n32 :: .ref m33 :: .int n34 :: .int n35 :: .ref m36 :: .int (nI wm) :: .ref m38 :: .ref m39 :: .ref m40 :: .int (nI bk) :: .ref m42 :: .ref m43 :: .ref m44 :: .ref m45 :: []))), (m10, .inl (cI, 34, .inl f19)), (m30, .inl (cI, 680, .inl f14))]) [1, 2, 0] rfl
        have hD9 := hD.sub (ws' := [(h0, .inr (11, (.int n0 :: .int n1 :: .int (nI nq) :: .ref m3 :: .ref m4 :: .ref m5 :: .int (nI nh) :: .ref m7 :: .ref m8 :: .ref m9 :: .ref m10 :: .int (nI sd) :: .ref m12 :: .int (nI tx) :: .int n14 :: .int (nI at9) :: .int n16 :: .int n17 :: .ref m18 :: .int (nI rq) :: .ref m20 :: .ref m21 :: .ref m22 :: .ref m23 :: .ref m24 :: .int (nI rh) :: .ref m26 :: .ref m27 :: .ref m28 :: .int (nI k15) :: .ref m30 :: .int n31 :: .int n32 :: .ref m33 :: .int n34 :: .int n35 :: .ref m36 :: .int (nI wm) :: .ref m38 :: .ref m39 :: .ref m40 :: .int (nI bk) :: .ref m42 :: .ref m43 :: .ref m44 :: .ref m45 :: []))), (m10, .inl (cI, 34, .inl f19)), (m30, .inl (cI, 680, .inl f14))]) [1, 2, 0] (by decide +kernel) rfl
        exact W.iret (v := f19 j4) hx hb hr (fun t ht hW => ⟨⟨f19 j4, (fun _ => 0), rfl, trivial, ⟨f19, f14, k15, by omega, va_hq ht hP9, hD9⟩⟩, hS.F ht⟩) hS.2.2 dX11_mend_52
      ·
        refine lv_ldc (v := (-1000000004)) hx hb hown (hts (.constant RX11 115 (-1000000004)) (wmx 5 rfl)) dX11_mend_34 ?_
        have hP9 := hP.sub (ws' := [(h0, .inr (11, (.int n0 :: .int n1 :: .int (nI nq) :: .ref m3 :: .ref m4 :: .ref m5 :: .int (nI nh) :: .ref m7 :: .ref m8 :: .ref m9 :: .ref m10 :: .int (nI sd) :: .ref m12 :: .int (nI tx) :: .int n14 :: .int (nI at9) :: .int n16 :: .int n17 :: .ref m18 :: .int (nI rq) :: .ref m20 :: .ref m21 :: .ref m22 :: .ref m23 :: .ref m24 :: .int (nI rh) :: .ref m26 :: .ref m27 :: .ref m28 :: .int (nI un) :: .ref m30 :: .int n31 :: .int n32 :: .ref m33 :: .int n34 :: .int n35 :: .ref m36 :: .int (nI wm) :: .ref m38 :: .ref m39 :: .ref m40 :: .int (nI bk) :: .ref m42 :: .ref m43 :: .ref m44 :: .ref m45 :: []))), (m10, .inl (cI, 34, .inl fm10)), (m30, .inl (cI, 680, .inl fm30))]) [0, 1, 2] rfl
        have hD9 := hD.sub (ws' := [(h0, .inr (11, (.int n0 :: .int n1 :: .int (nI nq) :: .ref m3 :: .ref m4 :: .ref m5 :: .int (nI nh) :: .ref m7 :: .ref m8 :: .ref m9 :: .ref m10 :: .int (nI sd) :: .ref m12 :: .int (nI tx) :: .int n14 :: .int (nI at9) :: .int n16 :: .int n17 :: .ref m18 :: .int (nI rq) :: .ref m20 :: .ref m21 :: .ref m22 :: .ref m23 :: .ref m24 :: .int (nI rh) :: .ref m26 :: .ref m27 :: .ref m28 :: .int (nI un) :: .ref m30 :: .int n31 :: .int n32 :: .ref m33 :: .int n34 :: .int n35 :: .ref m36 :: .int (nI wm) :: .ref m38 :: .ref m39 :: .ref m40 :: .int (nI bk) :: .ref m42 :: .ref m43 :: .ref m44 :: .ref m45 :: []))), (m10, .inl (cI, 34, .inl fm10)), (m30, .inl (cI, 680, .inl fm30))]) [0, 1, 2] (by decide +kernel) rfl
        exact W.iret (v := (-1000000004)) hx hb hr (fun t ht hW => ⟨⟨(-1000000004), (fun _ => 0), rfl, trivial, ⟨fm10, fm30, un, by omega, va_hq ht hP9, hD9⟩⟩, hS.F ht⟩) hS.2.2 dX11_mend_36
    ·
      refine lv_if_ne (tgt := 22) hx hb dX11_mend_16 (by decide) (fun c20 => ?_) (fun c20 => ?_)
      · exact absurd c20 (by decide)
      clear c20
      refine lv_ldc (v := (-1000000003)) hx hb hown (hts (.constant RX11 237 (-1000000003)) (wmx 2 rfl)) dX11_mend_19 ?_
      have hP9 := hP.sub (ws' := [(h0, .inr (11, (.int n0 :: .int n1 :: .int (nI nq) :: .ref m3 :: .ref m4 :: .ref m5 :: .int (nI nh) :: .ref m7 :: .ref m8 :: .ref m9 :: .ref m10 :: .int (nI sd) :: .ref m12 :: .int (nI tx) :: .int n14 :: .int (nI at9) :: .int n16 :: .int n17 :: .ref m18 :: .int (nI rq) :: .ref m20 :: .ref m21 :: .ref m22 :: .ref m23 :: .ref m24 :: .int (nI rh) :: .ref m26 :: .ref m27 :: .ref m28 :: .int (nI un) :: .ref m30 :: .int n31 :: .int n32 :: .ref m33 :: .int n34 :: .int n35 :: .ref m36 :: .int (nI wm) :: .ref m38 :: .ref m39 :: .ref m40 :: .int (nI bk) :: .ref m42 :: .ref m43 :: .ref m44 :: .ref m45 :: []))), (m10, .inl (cI, 34, .inl fm10)), (m30, .inl (cI, 680, .inl fm30))]) [0, 1, 2] rfl
      have hD9 := hD.sub (ws' := [(h0, .inr (11, (.int n0 :: .int n1 :: .int (nI nq) :: .ref m3 :: .ref m4 :: .ref m5 :: .int (nI nh) :: .ref m7 :: .ref m8 :: .ref m9 :: .ref m10 :: .int (nI sd) :: .ref m12 :: .int (nI tx) :: .int n14 :: .int (nI at9) :: .int n16 :: .int n17 :: .ref m18 :: .int (nI rq) :: .ref m20 :: .ref m21 :: .ref m22 :: .ref m23 :: .ref m24 :: .int (nI rh) :: .ref m26 :: .ref m27 :: .ref m28 :: .int (nI un) :: .ref m30 :: .int n31 :: .int n32 :: .ref m33 :: .int n34 :: .int n35 :: .ref m36 :: .int (nI wm) :: .ref m38 :: .ref m39 :: .ref m40 :: .int (nI bk) :: .ref m42 :: .ref m43 :: .ref m44 :: .ref m45 :: []))), (m10, .inl (cI, 34, .inl fm10)), (m30, .inl (cI, 680, .inl fm30))]) [0, 1, 2] (by decide +kernel) rfl
      exact W.iret (v := (-1000000003)) hx hb hr (fun t ht hW => ⟨⟨(-1000000003), (fun _ => 0), rfl, trivial, ⟨fm10, fm30, un, by omega, va_hq ht hP9, hD9⟩⟩, hS.F ht⟩) hS.2.2 dX11_mend_21
  ·
    refine lv_if_ne (tgt := 11) hx hb dX11_mend_5 (by decide) (fun c21 => ?_) (fun c21 => ?_)
    · exact absurd c21 (by decide)
    clear c21
    refine lv_ldc (v := (-1000000001)) hx hb hown (hts (.constant RX11 188 (-1000000001)) (wmx 1 rfl)) dX11_mend_8 ?_
    have hP9 := hP.sub (ws' := [(h0, .inr (11, (.int n0 :: .int n1 :: .int (nI nq) :: .ref m3 :: .ref m4 :: .ref m5 :: .int (nI nh) :: .ref m7 :: .ref m8 :: .ref m9 :: .ref m10 :: .int (nI sd) :: .ref m12 :: .int (nI tx) :: .int n14 :: .int (nI at9) :: .int n16 :: .int n17 :: .ref m18 :: .int (nI rq) :: .ref m20 :: .ref m21 :: .ref m22 :: .ref m23 :: .ref m24 :: .int (nI rh) :: .ref m26 :: .ref m27 :: .ref m28 :: .int (nI un) :: .ref m30 :: .int n31 :: .int n32 :: .ref m33 :: .int n34 :: .int n35 :: .ref m36 :: .int (nI wm) :: .ref m38 :: .ref m39 :: .ref m40 :: .int (nI bk) :: .ref m42 :: .ref m43 :: .ref m44 :: .ref m45 :: []))), (m10, .inl (cI, 34, .inl fm10)), (m30, .inl (cI, 680, .inl fm30))]) [0, 1, 2] rfl
    have hD9 := hD.sub (ws' := [(h0, .inr (11, (.int n0 :: .int n1 :: .int (nI nq) :: .ref m3 :: .ref m4 :: .ref m5 :: .int (nI nh) :: .ref m7 :: .ref m8 :: .ref m9 :: .ref m10 :: .int (nI sd) :: .ref m12 :: .int (nI tx) :: .int n14 :: .int (nI at9) :: .int n16 :: .int n17 :: .ref m18 :: .int (nI rq) :: .ref m20 :: .ref m21 :: .ref m22 :: .ref m23 :: .ref m24 :: .int (nI rh) :: .ref m26 :: .ref m27 :: .ref m28 :: .int (nI un) :: .ref m30 :: .int n31 :: .int n32 :: .ref m33 :: .int n34 :: .int n35 :: .ref m36 :: .int (nI wm) :: .ref m38 :: .ref m39 :: .ref m40 :: .int (nI bk) :: .ref m42 :: .ref m43 :: .ref m44 :: .ref m45 :: []))), (m10, .inl (cI, 34, .inl fm10)), (m30, .inl (cI, 680, .inl fm30))]) [0, 1, 2] (by decide +kernel) rfl
    exact W.iret (v := (-1000000001)) hx hb hr (fun t ht hW => ⟨⟨(-1000000001), (fun _ => 0), rfl, trivial, ⟨fm10, fm30, un, by omega, va_hq ht hP9, hD9⟩⟩, hS.F ht⟩) hS.2.2 dX11_mend_10
set_option maxHeartbeats 4000000 in
set_option maxRecDepth 100000 in
theorem c_X11_broaden (l : Launch) (dC : Nat → ClassId) (dI : Nat → Nat → Nat) (cI cZ cQ : ClassId) (h0 : Nat) (n0 : Int32) (n1 : Int32) (nq : Nat) (m3 : Nat) (m4 : Nat) (m5 : Nat) (nh : Nat) (m7 : Nat) (m8 : Nat) (m9 : Nat) (m10 : Nat) (sd : Nat) (m12 : Nat) (tx : Nat) (n14 : Int32) (at9 : Nat) (n16 : Int32) (n17 : Int32) (m18 : Nat) (rq : Nat) (m20 : Nat) (m21 : Nat) (m22 : Nat) (m23 : Nat) (m24 : Nat) (rh : Nat) (m26 : Nat) (m27 : Nat) (m28 : Nat) (un : Nat) (m30 : Nat) (n31 : Int32) (n32 : Int32) (m33 : Nat) (n34 : Int32) (n35 : Int32) (m36 : Nat) (wm : Nat) (m38 : Nat) (m39 : Nat) (m40 : Nat) (bk : Nat) (m42 : Nat) (m43 : Nat) (m44 : Nat) (m45 : Nat) (fm10 : Nat → Int32) (fm30 : Nat → Int32) (q0 : Int32) (sz : Nat) (hnq : nq ≤ 8) (hun : un ≤ 20) : Met l yX11_broaden wsX11_broaden ({ frames := 2, cells := 0, slots := 0, locals := 86 }) (va_Pc [.ref h0, .int q0] (fun U => U.heap.size = sz ∧ va_P (dC, dI) vwCl [(h0, .inr (11, (.int n0 :: .int n1 :: .int (nI nq) :: .ref m3 :: .ref m4 :: .ref m5 :: .int (nI nh) :: .ref m7 :: .ref m8 :: .ref m9 :: .ref m10 :: .int (nI sd) :: .ref m12 :: .int (nI tx) :: .int n14 :: .int (nI at9) :: .int n16 :: .int n17 :: .ref m18 :: .int (nI rq) :: .ref m20 :: .ref m21 :: .ref m22 :: .ref m23 :: .ref m24 :: .int (nI rh) :: .ref m26 :: .ref m27 :: .ref m28 :: .int (nI un) :: .ref m30 :: .int n31 :: .int n32 :: .ref m33 :: .int n34 :: .int n35 :: .ref m36 :: .int (nI wm) :: .ref m38 :: .ref m39 :: .ref m40 :: .int (nI bk) :: .ref m42 :: .ref m43 :: .ref m44 :: .ref m45 :: []))), (m10, .inl (cI, 34, .inl fm10)), (m30, .inl (cI, 680, .inl fm30))] U.heap ∧ va_K (dC, dI) vwCl (tys0 cI cZ cQ) U ∧ va_D (fun _ => True) [(h0, .inr (11, (.int n0 :: .int n1 :: .int (nI nq) :: .ref m3 :: .ref m4 :: .ref m5 :: .int (nI nh) :: .ref m7 :: .ref m8 :: .ref m9 :: .ref m10 :: .int (nI sd) :: .ref m12 :: .int (nI tx) :: .int n14 :: .int (nI at9) :: .int n16 :: .int n17 :: .ref m18 :: .int (nI rq) :: .ref m20 :: .ref m21 :: .ref m22 :: .ref m23 :: .ref m24 :: .int (nI rh) :: .ref m26 :: .ref m27 :: .ref m28 :: .int (nI un) :: .ref m30 :: .int n31 :: .int n32 :: .ref m33 :: .int n34 :: .int n35 :: .ref m36 :: .int (nI wm) :: .ref m38 :: .ref m39 :: .ref m40 :: .int (nI bk) :: .ref m42 :: .ref m43 :: .ref m44 :: .ref m45 :: []))), (m10, .inl (cI, 34, .inl fm10)), (m30, .inl (cI, 680, .inl fm30))])) (va_Qi (fun (r : Int32) (u : Nat → Nat) => True) (fun (_ : Nat → Nat) (t : State) => ∃ (gg0 gg1 : Nat → Int32) (kk0 : Nat), kk0 ≤ 20 ∧ va_P (dC, dI) vwCl [(h0, .inr (11, (.int n0 :: .int n1 :: .int (nI nq) :: .ref m3 :: .ref m4 :: .ref m5 :: .int (nI nh) :: .ref m7 :: .ref m8 :: .ref m9 :: .ref m10 :: .int (nI sd) :: .ref m12 :: .int (nI tx) :: .int n14 :: .int (nI at9) :: .int n16 :: .int n17 :: .ref m18 :: .int (nI rq) :: .ref m20 :: .ref m21 :: .ref m22 :: .ref m23 :: .ref m24 :: .int (nI rh) :: .ref m26 :: .ref m27 :: .ref m28 :: .int (nI kk0) :: .ref m30 :: .int n31 :: .int n32 :: .ref m33 :: .int n34 :: .int n35 :: .ref m36 :: .int (nI wm) :: .ref m38 :: .ref m39 :: .ref m40 :: .int (nI bk) :: .ref m42 :: .ref m43 :: .ref m44 :: .ref m45 :: []))), (m10, .inl (cI, 34, .inl gg0)), (m30, .inl (cI, 680, .inl gg1))] t.heap ∧ va_D (va_A [(h0, .inr (11, (.int n0 :: .int n1 :: .int (nI nq) :: .ref m3 :: .ref m4 :: .ref m5 :: .int (nI nh) :: .ref m7 :: .ref m8 :: .ref m9 :: .ref m10 :: .int (nI sd) :: .ref m12 :: .int (nI tx) :: .int n14 :: .int (nI at9) :: .int n16 :: .int n17 :: .ref m18 :: .int (nI rq) :: .ref m20 :: .ref m21 :: .ref m22 :: .ref m23 :: .ref m24 :: .int (nI rh) :: .ref m26 :: .ref m27 :: .ref m28 :: .int (nI un) :: .ref m30 :: .int n31 :: .int n32 :: .ref m33 :: .int n34 :: .int n35 :: .ref m36 :: .int (nI wm) :: .ref m38 :: .ref m39 :: .ref m40 :: .int (nI bk) :: .ref m42 :: .ref m43 :: .ref m44 :: .ref m45 :: []))), (m10, .inl (cI, 34, .inl fm10)), (m30, .inl (cI, 680, .inl fm30))] sz) [(h0, .inr (11, (.int n0 :: .int n1 :: .int (nI nq) :: .ref m3 :: .ref m4 :: .ref m5 :: .int (nI nh) :: .ref m7 :: .ref m8 :: .ref m9 :: .ref m10 :: .int (nI sd) :: .ref m12 :: .int (nI tx) :: .int n14 :: .int (nI at9) :: .int n16 :: .int n17 :: .ref m18 :: .int (nI rq) :: .ref m20 :: .ref m21 :: .ref m22 :: .ref m23 :: .ref m24 :: .int (nI rh) :: .ref m26 :: .ref m27 :: .ref m28 :: .int (nI kk0) :: .ref m30 :: .int n31 :: .int n32 :: .ref m33 :: .int n34 :: .int n35 :: .ref m36 :: .int (nI wm) :: .ref m38 :: .ref m39 :: .ref m40 :: .int (nI bk) :: .ref m42 :: .ref m43 :: .ref m44 :: .ref m45 :: []))), (m10, .inl (cI, 34, .inl gg0)), (m30, .inl (cI, 680, .inl gg1))]) (va_A [(h0, .inr (11, (.int n0 :: .int n1 :: .int (nI nq) :: .ref m3 :: .ref m4 :: .ref m5 :: .int (nI nh) :: .ref m7 :: .ref m8 :: .ref m9 :: .ref m10 :: .int (nI sd) :: .ref m12 :: .int (nI tx) :: .int n14 :: .int (nI at9) :: .int n16 :: .int n17 :: .ref m18 :: .int (nI rq) :: .ref m20 :: .ref m21 :: .ref m22 :: .ref m23 :: .ref m24 :: .int (nI rh) :: .ref m26 :: .ref m27 :: .ref m28 :: .int (nI un) :: .ref m30 :: .int n31 :: .int n32 :: .ref m33 :: .int n34 :: .int n35 :: .ref m36 :: .int (nI wm) :: .ref m38 :: .ref m39 :: .ref m40 :: .int (nI bk) :: .ref m42 :: .ref m43 :: .ref m44 :: .ref m45 :: []))), (m10, .inl (cI, 34, .inl fm10)), (m30, .inl (cI, 680, .inl fm30))] sz)) 0 0 (va_A [(h0, .inr (11, (.int n0 :: .int n1 :: .int (nI nq) :: .ref m3 :: .ref m4 :: .ref m5 :: .int (nI nh) :: .ref m7 :: .ref m8 :: .ref m9 :: .ref m10 :: .int (nI sd) :: .ref m12 :: .int (nI tx) :: .int n14 :: .int (nI at9) :: .int n16 :: .int n17 :: .ref m18 :: .int (nI rq) :: .ref m20 :: .ref m21 :: .ref m22 :: .ref m23 :: .ref m24 :: .int (nI rh) :: .ref m26 :: .ref m27 :: .ref m28 :: .int (nI un) :: .ref m30 :: .int n31 :: .int n32 :: .ref m33 :: .int n34 :: .int n35 :: .ref m36 :: .int (nI wm) :: .ref m38 :: .ref m39 :: .ref m40 :: .int (nI bk) :: .ref m42 :: .ref m43 :: .ref m44 :: .ref m45 :: []))), (m10, .inl (cI, 34, .inl fm10)), (m30, .inl (cI, 680, .inl fm30))] sz) := by
  refine Met.ofW (cc := cX11_broaden) (maxL := 2) (ret := (some .int)) (by decide) rfl ?_
  intro p e s m args below meth c s₁ B hml hv
  obtain ⟨rfl, hsz, hP, hK, hD0⟩ := hv
  have hx := B.exec
  have hb := B.bytes
  have hr := B.returns
  have hts := atoms_spec (ws := wsX11_broaden) B.pre
  have hown : s.vm.findClass RX11 = some m.cls := findClass_of_methodNamed B.named
  have hlocks := B.notSynchronized
  have hi_X11 : ∀ w ∈ u_ws RX11 TX11 46, w ∈ wsX11_broaden := fun _ h => List.mem_cons_of_mem _ (List.mem_append_right _ (h))
  subst hsz
  have hD := hD0.self (sz := s.heap.size)
  generalize hAe : va_A [(h0, .inr (11, (.int n0 :: .int n1 :: .int (nI nq) :: .ref m3 :: .ref m4 :: .ref m5 :: .int (nI nh) :: .ref m7 :: .ref m8 :: .ref m9 :: .ref m10 :: .int (nI sd) :: .ref m12 :: .int (nI tx) :: .int n14 :: .int (nI at9) :: .int n16 :: .int n17 :: .ref m18 :: .int (nI rq) :: .ref m20 :: .ref m21 :: .ref m22 :: .ref m23 :: .ref m24 :: .int (nI rh) :: .ref m26 :: .ref m27 :: .ref m28 :: .int (nI un) :: .ref m30 :: .int n31 :: .int n32 :: .ref m33 :: .int n34 :: .int n35 :: .ref m36 :: .int (nI wm) :: .ref m38 :: .ref m39 :: .ref m40 :: .int (nI bk) :: .ref m42 :: .ref m43 :: .ref m44 :: .ref m45 :: []))), (m10, .inl (cI, 34, .inl fm10)), (m30, .inl (cI, 680, .inl fm30))] s.heap.size = A at hD ⊢
  have hA : ∀ q : Nat, s.heap.size ≤ q → A q := fun q h => by rw [← hAe]; exact Or.inr h
  have hS : va_S A s.heap s.heap [] := va_S.rf
  have hl := lv_entry ([.ref h0, .int q0]) (n := 2) (Nat.le_of_ble_eq_true rfl)
  rw [lg_entry_eq]
  generalize (lg_sl ([.ref h0, .int q0]) ++ List.replicate (2 - (lg_sl ([.ref h0, .int q0])).length) Slot.unset).toArray = ls at hl ⊢
  have hl : lv_has ls 2 [(0, .ref h0), (1, .int q0)] := hl
  refine lv_aload_n hx hb dX11_broaden_0 rfl (lv_at hl 0 rfl) ?_
  refine lv_iload_n hx hb dX11_broaden_1 rfl (lv_at hl 1 rfl) ?_
  have hPc := hP.sub (ws' := [(h0, .inr (11, (.int n0 :: .int n1 :: .int (nI nq) :: .ref m3 :: .ref m4 :: .ref m5 :: .int (nI nh) :: .ref m7 :: .ref m8 :: .ref m9 :: .ref m10 :: .int (nI sd) :: .ref m12 :: .int (nI tx) :: .int n14 :: .int (nI at9) :: .int n16 :: .int n17 :: .ref m18 :: .int (nI rq) :: .ref m20 :: .ref m21 :: .ref m22 :: .ref m23 :: .ref m24 :: .int (nI rh) :: .ref m26 :: .ref m27 :: .ref m28 :: .int (nI un) :: .ref m30 :: .int n31 :: .int n32 :: .ref m33 :: .int n34 :: .int n35 :: .ref m36 :: .int (nI wm) :: .ref m38 :: .ref m39 :: .ref m40 :: .int (nI bk) :: .ref m42 :: .ref m43 :: .ref m44 :: .ref m45 :: [])))]) [0] rfl
  refine va_calli (va_runV (As := [.int q0]) (rest := []) ⟨hx, hb, hml, hown, hts⟩ (c_X11_isQuill l dC dI cI cZ cQ h0 (nI nq) ((.int n0 :: .int n1 :: .int (nI nq) :: .ref m3 :: .ref m4 :: .ref m5 :: .int (nI nh) :: .ref m7 :: .ref m8 :: .ref m9 :: .ref m10 :: .int (nI sd) :: .ref m12 :: .int (nI tx) :: .int n14 :: .int (nI at9) :: .int n16 :: .int n17 :: .ref m18 :: .int (nI rq) :: .ref m20 :: .ref m21 :: .ref m22 :: .ref m23 :: .ref m24 :: .int (nI rh) :: .ref m26 :: .ref m27 :: .ref m28 :: .int (nI un) :: .ref m30 :: .int n31 :: .int n32 :: .ref m33 :: .int n34 :: .int n35 :: .ref m36 :: .int (nI wm) :: .ref m38 :: .ref m39 :: .ref m40 :: .int (nI bk) :: .ref m42 :: .ref m43 :: .ref m44 :: .ref m45 :: [])) q0 s.heap.size rfl (nI_pos' (n := nq) (by omega))) (cwV 1 hts gX11_broaden_X11_isQuill rfl rfl rfl hd_X11_isQuill_RX11 ⟨Nat.le_of_ble_eq_true rfl, Nat.le_of_ble_eq_true rfl⟩) (pv_R (va_recv hK hP (ci := 11) (q0 := 0) rfl rfl) hK hPc) rfl rfl hl.1 rfl (lv_room (Nat.le_of_ble_eq_true rfl)) dX11_broaden_2 ⟨Nat.le_of_ble_eq_true rfl, Nat.le_of_ble_eq_true rfl⟩) hS (fun q _ h => False.elim h) (fun q h => False.elim h) (fun r1 u2 t H1 locs ht hvm hw3 hB hz1 hk1 hS => ?_)
  have hP := hP.kept (fun k q hk => hk1 q.1 (hP k q hk).lt (fun h => h))
  clear hz1 hk1 hPc
  generalize H1 = H at hP hS ht ⊢
  try dsimp only at hw3
  rcases hw3 with ⟨rfl, hw3⟩ | ⟨rfl, hw3⟩
  ·
    obtain ⟨j4, hj4, rfl⟩ := x_ix hw3 (by omega)
    refine lv_if_ne (tgt := 11) hx hb dX11_broaden_5 (by decide) (fun c5 => ?_) (fun c5 => ?_)
    rotate_left
    · exact absurd c5 (by decide)
    clear c5
    refine lv_aload_n hx hb dX11_broaden_11 rfl (lv_at hl 0 rfl) ?_
    refine va_get (D := (dC, dI)) (ci := 11) (v := .ref m10) (C := RX11) (T := TX11) (N := 46) hx hb hts hi_X11 hown hK hP 0 rfl rfl 10 (by decide) (hts (.fieldLink RX11 28 "LeftQuillsModel" "now" "[I") (wmx 2 rfl)) (fun _ h9 => h9) rfl dX11_broaden_12 ?_
    refine lv_bipush (v := 8) hx hb dX11_broaden_15 (by decide) ?_
    refine lv_iload_n hx hb dX11_broaden_17 rfl (lv_at hl 1 rfl) ?_
    refine lv_iadd hx hb dX11_broaden_18 ?_
    refine lv_topi (fun z6 ez6 => ?_)
    obtain rfl : z6 = nI (8 + j4) := ez6.trans (nI_add 8 j4)
    refine va_iald hx hb hK hP 1 0 rfl rfl (vp_in_nI (n := 8 + j4) (N := 34) (by omega) (by decide)) dX11_broaden_19 ?_
    refine W.eq (g2 := F0 m 20 ls [.int (fm10 (8 + j4))]) (congrArg (fun y9 => F0 m 20 ls (.int (fm10 y9) :: [])) ((nI_clamp (n := 8 + j4) (by omega)))) ?_
    refine lv_bipush (v := 9) hx hb dX11_broaden_20 (by decide) ?_
    refine lv_icmp_ne (tgt := 28) hx hb dX11_broaden_22 (by decide) (fun c7 => ?_) (fun c7 => ?_)
    ·
      refine lv_aload_n hx hb dX11_broaden_28 rfl (lv_at hl 0 rfl) ?_
      have hc9 := va_cut (W' := [(h0, .inr (11, (.int n0 :: .int n1 :: .int (nI nq) :: .ref m3 :: .ref m4 :: .ref m5 :: .int (nI nh) :: .ref m7 :: .ref m8 :: .ref m9 :: .ref m10 :: .int (nI sd) :: .ref m12 :: .int (nI tx) :: .int n14 :: .int (nI at9) :: .int n16 :: .int n17 :: .ref m18 :: .int (nI rq) :: .ref m20 :: .ref m21 :: .ref m22 :: .ref m23 :: .ref m24 :: .int (nI rh) :: .ref m26 :: .ref m27 :: .ref m28 :: .int (nI un) :: .ref m30 :: .int n31 :: .int n32 :: .ref m33 :: .int n34 :: .int n35 :: .ref m36 :: .int (nI wm) :: .ref m38 :: .ref m39 :: .ref m40 :: .int (nI bk) :: .ref m42 :: .ref m43 :: .ref m44 :: .ref m45 :: []))), (m10, .inl (cI, 34, .inl fm10)), (m30, .inl (cI, 680, .inl fm30))]) hP hD hS hA [0, 1, 2] (by decide) rfl
      have hPc := hc9.1
      have hDc := hc9.2.1
      have hFc := hc9.2.2
      clear hc9
      refine va_callv (va_runV (As := []) (rest := []) ⟨hx, hb, hml, hown, hts⟩ (c_X11_remember l dC dI cI cZ cQ h0 n0 n1 nq m3 m4 m5 nh m7 m8 m9 m10 sd m12 tx n14 at9 n16 n17 m18 rq m20 m21 m22 m23 m24 rh m26 m27 m28 un m30 n31 n32 m33 n34 n35 m36 wm m38 m39 m40 bk m42 m43 m44 m45 fm10 fm30 H.size (by omega)) (cwV 0 hts gX11_broaden_X11_remember rfl rfl rfl hd_X11_remember_RX11 ⟨Nat.le_of_ble_eq_true rfl, Nat.le_of_ble_eq_true rfl⟩) (pv_D (va_recv hK hP (ci := 11) (q0 := 0) rfl rfl) hK hPc hDc) rfl rfl hl.1 rfl (lv_room (Nat.le_of_ble_eq_true rfl)) dX11_broaden_29 ⟨Nat.le_of_ble_eq_true rfl, Nat.le_of_ble_eq_true rfl⟩) hS (fun q _ h => hFc q h) hFc (fun u9 t H1 locs ht hvm hw10 hB hz1 hk1 hS => ?_)
      obtain ⟨f11, k12, hk12, hP1, hD1⟩ := hB
      replace hP1 := va_hp ht hP1
      obtain ⟨hP, hD⟩ := va_join (wr := []) (w1 := [(h0, .inr (11, (.int n0 :: .int n1 :: .int (nI nq) :: .ref m3 :: .ref m4 :: .ref m5 :: .int (nI nh) :: .ref m7 :: .ref m8 :: .ref m9 :: .ref m10 :: .int (nI sd) :: .ref m12 :: .int (nI tx) :: .int n14 :: .int (nI at9) :: .int n16 :: .int n17 :: .ref m18 :: .int (nI rq) :: .ref m20 :: .ref m21 :: .ref m22 :: .ref m23 :: .ref m24 :: .int (nI rh) :: .ref m26 :: .ref m27 :: .ref m28 :: .int (nI k12) :: .ref m30 :: .int n31 :: .int n32 :: .ref m33 :: .int n34 :: .int n35 :: .ref m36 :: .int (nI wm) :: .ref m38 :: .ref m39 :: .ref m40 :: .int (nI bk) :: .ref m42 :: .ref m43 :: .ref m44 :: .ref m45 :: []))), (m10, .inl (cI, 34, .inl fm10)), (m30, .inl (cI, 680, .inl f11))]) hP hD [0, 1, 2] [] rfl rfl (by decide +kernel) (by decide +kernel) hk1 hFc hP1 hD1
      clear hP1 hD1
      clear hz1 hk1 hPc hDc hFc
      generalize H1 = H at hP hS ht ⊢
      have hPD : pdW (dC, dI) vwCl A [(h0, .inr (11, (.int n0 :: .int n1 :: .int (nI nq) :: .ref m3 :: .ref m4 :: .ref m5 :: .int (nI nh) :: .ref m7 :: .ref m8 :: .ref m9 :: .ref m10 :: .int (nI sd) :: .ref m12 :: .int (nI tx) :: .int n14 :: .int (nI at9) :: .int n16 :: .int n17 :: .ref m18 :: .int (nI rq) :: .ref m20 :: .ref m21 :: .ref m22 :: .ref m23 :: .ref m24 :: .int (nI rh) :: .ref m26 :: .ref m27 :: .ref m28 :: .int (nI k12) :: .ref m30 :: .int n31 :: .int n32 :: .ref m33 :: .int n34 :: .int n35 :: .ref m36 :: .int (nI wm) :: .ref m38 :: .ref m39 :: .ref m40 :: .int (nI bk) :: .ref m42 :: .ref m43 :: .ref m44 :: .ref m45 :: []))), (m10, .inl (cI, 34, .inl fm10)), (m30, .inl (cI, 680, .inl f11))] H := ⟨hP, hD⟩
      have hP := hPD.1
      have hD := hPD.2
      clear hPD
      try dsimp only at hw10
      refine lv_aload_n hx hb dX11_broaden_32 rfl (lv_at hl 0 rfl) ?_
      refine lv_iload_n hx hb dX11_broaden_33 rfl (lv_at hl 1 rfl) ?_
      have hc9 := va_cut (W' := [(h0, .inr (11, (.int n0 :: .int n1 :: .int (nI nq) :: .ref m3 :: .ref m4 :: .ref m5 :: .int (nI nh) :: .ref m7 :: .ref m8 :: .ref m9 :: .ref m10 :: .int (nI sd) :: .ref m12 :: .int (nI tx) :: .int n14 :: .int (nI at9) :: .int n16 :: .int n17 :: .ref m18 :: .int (nI rq) :: .ref m20 :: .ref m21 :: .ref m22 :: .ref m23 :: .ref m24 :: .int (nI rh) :: .ref m26 :: .ref m27 :: .ref m28 :: .int (nI k12) :: .ref m30 :: .int n31 :: .int n32 :: .ref m33 :: .int n34 :: .int n35 :: .ref m36 :: .int (nI wm) :: .ref m38 :: .ref m39 :: .ref m40 :: .int (nI bk) :: .ref m42 :: .ref m43 :: .ref m44 :: .ref m45 :: []))), (m10, .inl (cI, 34, .inl fm10))]) hP hD hS hA [0, 1] (by decide) rfl
      have hPc := hc9.1
      have hDc := hc9.2.1
      have hFc := hc9.2.2
      clear hc9
      refine va_callv (va_runV (As := [.int (nI j4)]) (rest := []) ⟨hx, hb, hml, hown, hts⟩ (c_X11_broadenNow l dC dI cI cZ cQ h0 m10 ((.int n0 :: .int n1 :: .int (nI nq) :: .ref m3 :: .ref m4 :: .ref m5 :: .int (nI nh) :: .ref m7 :: .ref m8 :: .ref m9 :: .ref m10 :: .int (nI sd) :: .ref m12 :: .int (nI tx) :: .int n14 :: .int (nI at9) :: .int n16 :: .int n17 :: .ref m18 :: .int (nI rq) :: .ref m20 :: .ref m21 :: .ref m22 :: .ref m23 :: .ref m24 :: .int (nI rh) :: .ref m26 :: .ref m27 :: .ref m28 :: .int (nI k12) :: .ref m30 :: .int n31 :: .int n32 :: .ref m33 :: .int n34 :: .int n35 :: .ref m36 :: .int (nI wm) :: .ref m38 :: .ref m39 :: .ref m40 :: .int (nI bk) :: .ref m42 :: .ref m43 :: .ref m44 :: .ref m45 :: [])) fm10 j4 H.size rfl (by omega)) (cwV 1 hts gX11_broaden_X11_broadenNow rfl rfl rfl hd_X11_broadenNow_RX11 ⟨Nat.le_of_ble_eq_true rfl, Nat.le_of_ble_eq_true rfl⟩) (pv_D (va_recv hK hP (ci := 11) (q0 := 0) rfl rfl) hK hPc hDc) rfl rfl hl.1 rfl (lv_room (Nat.le_of_ble_eq_true rfl)) dX11_broaden_34 ⟨Nat.le_of_ble_eq_true rfl, Nat.le_of_ble_eq_true rfl⟩) hS (fun q _ h => hFc q h) hFc (fun u14 t H1 locs ht hvm hw15 hB hz1 hk1 hS => ?_)
      obtain ⟨f16, hP1, hD1⟩ := hB
      replace hP1 := va_hp ht hP1
      obtain ⟨hP, hD⟩ := va_join (wr := [(m30, .inl (cI, 680, .inl f11))]) (w1 := [(h0, .inr (11, (.int n0 :: .int n1 :: .int (nI nq) :: .ref m3 :: .ref m4 :: .ref m5 :: .int (nI nh) :: .ref m7 :: .ref m8 :: .ref m9 :: .ref m10 :: .int (nI sd) :: .ref m12 :: .int (nI tx) :: .int n14 :: .int (nI at9) :: .int n16 :: .int n17 :: .ref m18 :: .int (nI rq) :: .ref m20 :: .ref m21 :: .ref m22 :: .ref m23 :: .ref m24 :: .int (nI rh) :: .ref m26 :: .ref m27 :: .ref m28 :: .int (nI k12) :: .ref m30 :: .int n31 :: .int n32 :: .ref m33 :: .int n34 :: .int n35 :: .ref m36 :: .int (nI wm) :: .ref m38 :: .ref m39 :: .ref m40 :: .int (nI bk) :: .ref m42 :: .ref m43 :: .ref m44 :: .ref m45 :: []))), (m10, .inl (cI, 34, .inl f16))]) hP hD [0, 1] [2] rfl rfl (by decide +kernel) (by decide +kernel) hk1 hFc hP1 hD1
      clear hP1 hD1
      clear hz1 hk1 hPc hDc hFc
      generalize H1 = H at hP hS ht ⊢
      have hPD : pdW (dC, dI) vwCl A [(m30, .inl (cI, 680, .inl f11)), (h0, .inr (11, (.int n0 :: .int n1 :: .int (nI nq) :: .ref m3 :: .ref m4 :: .ref m5 :: .int (nI nh) :: .ref m7 :: .ref m8 :: .ref m9 :: .ref m10 :: .int (nI sd) :: .ref m12 :: .int (nI tx) :: .int n14 :: .int (nI at9) :: .int n16 :: .int n17 :: .ref m18 :: .int (nI rq) :: .ref m20 :: .ref m21 :: .ref m22 :: .ref m23 :: .ref m24 :: .int (nI rh) :: .ref m26 :: .ref m27 :: .ref m28 :: .int (nI k12) :: .ref m30 :: .int n31 :: .int n32 :: .ref m33 :: .int n34 :: .int n35 :: .ref m36 :: .int (nI wm) :: .ref m38 :: .ref m39 :: .ref m40 :: .int (nI bk) :: .ref m42 :: .ref m43 :: .ref m44 :: .ref m45 :: []))), (m10, .inl (cI, 34, .inl f16))] H := ⟨hP, hD⟩
      have hP := hPD.1
      have hD := hPD.2
      clear hPD
      try dsimp only at hw15
      refine lv_aload_n hx hb dX11_broaden_37 rfl (lv_at hl 0 rfl) ?_
      refine va_get (D := (dC, dI)) (ci := 11) (v := .ref m10) (C := RX11) (T := TX11) (N := 46) hx hb hts hi_X11 hown hK hP 1 rfl rfl 10 (by decide) (hts (.fieldLink RX11 28 "LeftQuillsModel" "now" "[I") (wmx 2 rfl)) (fun _ h9 => h9) rfl dX11_broaden_38 ?_
      refine lv_bipush (v := 33) hx hb dX11_broaden_41 (by decide) ?_
      refine lv_dup2_11 hx hb dX11_broaden_43 rfl rfl ?_
      refine va_iald hx hb hK hP 2 0 rfl rfl (vp_in_iff.mpr ⟨by decide, by decide⟩) dX11_broaden_44 ?_
      refine W.eq (g2 := F0 m 45 ls [.int (f16 33), .int 33, .ref m10]) (congrArg (fun y9 => F0 m 45 ls (.int (f16 y9) :: [.int 33, .ref m10])) ((show ((33 : Int32)).toNatClampNeg = 33 from by decide))) ?_
      refine lv_iconst (v := 1) hx hb dX11_broaden_45 (by decide) ?_
      refine lv_iadd hx hb dX11_broaden_46 ?_
      refine lv_topi (fun z17 ez17 => ?_)
      refine va_iast hx hb hK hP hD hS 2 0 rfl rfl (vp_in_iff.mpr ⟨by decide, by decide⟩) dX11_broaden_47 (fun H locs hP hD hS => ?_)
      generalize hgf18 : upd f16 ((33 : Int32).toNatClampNeg) z17 = f18 at hP hD
      have hPD : pdW (dC, dI) vwCl A [(m30, .inl (cI, 680, .inl f11)), (h0, .inr (11, (.int n0 :: .int n1 :: .int (nI nq) :: .ref m3 :: .ref m4 :: .ref m5 :: .int (nI nh) :: .ref m7 :: .ref m8 :: .ref m9 :: .ref m10 :: .int (nI sd) :: .ref m12 :: .int (nI tx) :: .int n14 :: .int (nI at9) :: .int n16 :: .int n17 :: .ref m18 :: .int (nI rq) :: .ref m20 :: .ref m21 :: .ref m22 :: .ref m23 :: .ref m24 :: .int (nI rh) :: .ref m26 :: .ref m27 :: .ref m28 :: .int (nI k12) :: .ref m30 :: .int n31 :: .int n32 :: .ref m33 :: .int n34 :: .int n35 :: .ref m36 :: .int (nI wm) :: .ref m38 :: .ref m39 :: .ref m40 :: .int (nI bk) :: .ref m42 :: .ref m43 :: .ref m44 :: .ref m45 :: []))), (m10, .inl (cI, 34, .inl f18))] H := ⟨hP, hD⟩
      have hP := hPD.1
      have hD := hPD.2
      clear hPD
      refine lv_aload_n hx hb dX11_broaden_48 rfl (lv_at hl 0 rfl) ?_
      refine va_get (D := (dC, dI)) (ci := 11) (v := .ref m10) (C := RX11) (T := TX11) (N := 46) hx hb hts hi_X11 hown hK hP 1 rfl rfl 10 (by decide) (hts (.fieldLink RX11 28 "LeftQuillsModel" "now" "[I") (wmx 2 rfl)) (fun _ h9 => h9) rfl dX11_broaden_49 ?_
      refine lv_bipush (v := 8) hx hb dX11_broaden_52 (by decide) ?_
      refine lv_iload_n hx hb dX11_broaden_54 rfl (lv_at hl 1 rfl) ?_
      refine lv_iadd hx hb dX11_broaden_55 ?_
      refine lv_topi (fun z19 ez19 => ?_)
      obtain rfl : z19 = nI (8 + j4) := ez19.trans (nI_add 8 j4)
      refine va_iald hx hb hK hP 2 0 rfl rfl (vp_in_nI (n := 8 + j4) (N := 34) (by omega) (by decide)) dX11_broaden_56 ?_
      refine W.eq (g2 := F0 m 57 ls [.int (f18 (8 + j4))]) (congrArg (fun y9 => F0 m 57 ls (.int (f18 y9) :: [])) ((nI_clamp (n := 8 + j4) (by omega)))) ?_
      have hP9 := hP.sub (ws' := [(h0, .inr (11, (.int n0 :: .int n1 :: .int (nI nq) :: .ref m3 :: .ref m4 :: .ref m5 :: .int (nI nh) :: .ref m7 :: .ref m8 :: .ref m9 :: .ref m10 :: .int (nI sd) :: .ref m12 :: .int (nI tx) :: .int n14 :: .int (nI at9) :: .int n16 :: .int n17 :: .ref m18 :: .int (nI rq) :: .ref m20 :: .ref m21 :: .ref m22 :: .ref m23 :: .ref m24 :: .int (nI rh) :: .ref m26 :: .ref m27 :: .ref m28 :: .int (nI k12) :: .ref m30 :: .int n31 :: .int n32 :: .ref m33 :: .int n34 :: .int n35 :: .ref m36 :: .int (nI wm) :: .ref m38 :: .ref m39 :: .ref m40 :: .int (nI bk) :: .ref m42 :: .ref m43 :: .ref m44 :: .ref m45 :: []))), (m10, .inl (cI, 34, .inl f18)), (m30, .inl (cI, 680, .inl f11))]) [1, 2, 0] rfl
      have hD9 := hD.sub (ws' := [(h0, .inr (11, (.int n0 :: .int n1 :: .int (nI nq) :: .ref m3 :: .ref m4 :: .ref m5 :: .int (nI nh) :: .ref m7 :: .ref m8 :: .ref m9 :: .ref m10 :: .int (nI sd) :: .ref m12 :: .int (nI tx) :: .int n14 :: .int (nI at9) :: .int n16 :: .int n17 :: .ref m18 :: .int (nI rq) :: .ref m20 :: .ref m21 :: .ref m22 :: .ref m23 :: .ref m24 :: .int (nI rh) :: .ref m26 :: .ref m27 :: .ref m28 :: .int (nI k12) :: .ref m30 :: .int n31 :: .int n32 :: .ref m33 :: .int n34 :: .int n35 :: .ref m36 :: .int (nI wm) :: .ref m38 :: .ref m39 :: .ref m40 :: .int (nI bk) :: .ref m42 :: .ref m43 :: .ref m44 :: .ref m45 :: []))), (m10, .inl (cI, 34, .inl f18)), (m30, .inl (cI, 680, .inl f11))]) [1, 2, 0] (by decide +kernel) rfl
      exact W.iret (v := f18 (8 + j4)) hx hb hr (fun t ht hW => ⟨⟨f18 (8 + j4), (fun _ => 0), rfl, trivial, ⟨f18, f11, k12, by omega, va_hq ht hP9, hD9⟩⟩, hS.F ht⟩) hS.2.2 dX11_broaden_57
    ·
      refine lv_ldc (v := (-1000000003)) hx hb hown (hts (.constant RX11 237 (-1000000003)) (wmx 3 rfl)) dX11_broaden_25 ?_
      have hP9 := hP.sub (ws' := [(h0, .inr (11, (.int n0 :: .int n1 :: .int (nI nq) :: .ref m3 :: .ref m4 :: .ref m5 :: .int (nI nh) :: .ref m7 :: .ref m8 :: .ref m9 :: .ref m10 :: .int (nI sd) :: .ref m12 :: .int (nI tx) :: .int n14 :: .int (nI at9) :: .int n16 :: .int n17 :: .ref m18 :: .int (nI rq) :: .ref m20 :: .ref m21 :: .ref m22 :: .ref m23 :: .ref m24 :: .int (nI rh) :: .ref m26 :: .ref m27 :: .ref m28 :: .int (nI un) :: .ref m30 :: .int n31 :: .int n32 :: .ref m33 :: .int n34 :: .int n35 :: .ref m36 :: .int (nI wm) :: .ref m38 :: .ref m39 :: .ref m40 :: .int (nI bk) :: .ref m42 :: .ref m43 :: .ref m44 :: .ref m45 :: []))), (m10, .inl (cI, 34, .inl fm10)), (m30, .inl (cI, 680, .inl fm30))]) [0, 1, 2] rfl
      have hD9 := hD.sub (ws' := [(h0, .inr (11, (.int n0 :: .int n1 :: .int (nI nq) :: .ref m3 :: .ref m4 :: .ref m5 :: .int (nI nh) :: .ref m7 :: .ref m8 :: .ref m9 :: .ref m10 :: .int (nI sd) :: .ref m12 :: .int (nI tx) :: .int n14 :: .int (nI at9) :: .int n16 :: .int n17 :: .ref m18 :: .int (nI rq) :: .ref m20 :: .ref m21 :: .ref m22 :: .ref m23 :: .ref m24 :: .int (nI rh) :: .ref m26 :: .ref m27 :: .ref m28 :: .int (nI un) :: .ref m30 :: .int n31 :: .int n32 :: .ref m33 :: .int n34 :: .int n35 :: .ref m36 :: .int (nI wm) :: .ref m38 :: .ref m39 :: .ref m40 :: .int (nI bk) :: .ref m42 :: .ref m43 :: .ref m44 :: .ref m45 :: []))), (m10, .inl (cI, 34, .inl fm10)), (m30, .inl (cI, 680, .inl fm30))]) [0, 1, 2] (by decide +kernel) rfl
      exact W.iret (v := (-1000000003)) hx hb hr (fun t ht hW => ⟨⟨(-1000000003), (fun _ => 0), rfl, trivial, ⟨fm10, fm30, un, by omega, va_hq ht hP9, hD9⟩⟩, hS.F ht⟩) hS.2.2 dX11_broaden_27
  ·
    refine lv_if_ne (tgt := 11) hx hb dX11_broaden_5 (by decide) (fun c20 => ?_) (fun c20 => ?_)
    · exact absurd c20 (by decide)
    clear c20
    refine lv_ldc (v := (-1000000001)) hx hb hown (hts (.constant RX11 188 (-1000000001)) (wmx 1 rfl)) dX11_broaden_8 ?_
    have hP9 := hP.sub (ws' := [(h0, .inr (11, (.int n0 :: .int n1 :: .int (nI nq) :: .ref m3 :: .ref m4 :: .ref m5 :: .int (nI nh) :: .ref m7 :: .ref m8 :: .ref m9 :: .ref m10 :: .int (nI sd) :: .ref m12 :: .int (nI tx) :: .int n14 :: .int (nI at9) :: .int n16 :: .int n17 :: .ref m18 :: .int (nI rq) :: .ref m20 :: .ref m21 :: .ref m22 :: .ref m23 :: .ref m24 :: .int (nI rh) :: .ref m26 :: .ref m27 :: .ref m28 :: .int (nI un) :: .ref m30 :: .int n31 :: .int n32 :: .ref m33 :: .int n34 :: .int n35 :: .ref m36 :: .int (nI wm) :: .ref m38 :: .ref m39 :: .ref m40 :: .int (nI bk) :: .ref m42 :: .ref m43 :: .ref m44 :: .ref m45 :: []))), (m10, .inl (cI, 34, .inl fm10)), (m30, .inl (cI, 680, .inl fm30))]) [0, 1, 2] rfl
    have hD9 := hD.sub (ws' := [(h0, .inr (11, (.int n0 :: .int n1 :: .int (nI nq) :: .ref m3 :: .ref m4 :: .ref m5 :: .int (nI nh) :: .ref m7 :: .ref m8 :: .ref m9 :: .ref m10 :: .int (nI sd) :: .ref m12 :: .int (nI tx) :: .int n14 :: .int (nI at9) :: .int n16 :: .int n17 :: .ref m18 :: .int (nI rq) :: .ref m20 :: .ref m21 :: .ref m22 :: .ref m23 :: .ref m24 :: .int (nI rh) :: .ref m26 :: .ref m27 :: .ref m28 :: .int (nI un) :: .ref m30 :: .int n31 :: .int n32 :: .ref m33 :: .int n34 :: .int n35 :: .ref m36 :: .int (nI wm) :: .ref m38 :: .ref m39 :: .ref m40 :: .int (nI bk) :: .ref m42 :: .ref m43 :: .ref m44 :: .ref m45 :: []))), (m10, .inl (cI, 34, .inl fm10)), (m30, .inl (cI, 680, .inl fm30))]) [0, 1, 2] (by decide +kernel) rfl
    exact W.iret (v := (-1000000001)) hx hb hr (fun t ht hW => ⟨⟨(-1000000001), (fun _ => 0), rfl, trivial, ⟨fm10, fm30, un, by omega, va_hq ht hP9, hD9⟩⟩, hS.F ht⟩) hS.2.2 dX11_broaden_10
set_option maxHeartbeats 4000000 in
set_option maxRecDepth 100000 in
theorem c_X11_whet (l : Launch) (dC : Nat → ClassId) (dI : Nat → Nat → Nat) (cI cZ cQ : ClassId) (h0 : Nat) (n0 : Int32) (n1 : Int32) (nq : Nat) (m3 : Nat) (m4 : Nat) (m5 : Nat) (nh : Nat) (m7 : Nat) (m8 : Nat) (m9 : Nat) (m10 : Nat) (sd : Nat) (m12 : Nat) (tx : Nat) (n14 : Int32) (at9 : Nat) (n16 : Int32) (n17 : Int32) (m18 : Nat) (rq : Nat) (m20 : Nat) (m21 : Nat) (m22 : Nat) (m23 : Nat) (m24 : Nat) (rh : Nat) (m26 : Nat) (m27 : Nat) (m28 : Nat) (un : Nat) (m30 : Nat) (n31 : Int32) (n32 : Int32) (m33 : Nat) (n34 : Int32) (n35 : Int32) (m36 : Nat) (wm : Nat) (m38 : Nat) (m39 : Nat) (m40 : Nat) (bk : Nat) (m42 : Nat) (m43 : Nat) (m44 : Nat) (m45 : Nat) (fm10 : Nat → Int32) (fm30 : Nat → Int32) (sz : Nat) (hun : un ≤ 20) : Met l yX11_whet wsX11_whet ({ frames := 1, cells := 0, slots := 0, locals := 61 }) (va_Pc [.ref h0] (fun U => U.heap.size = sz ∧ va_P (dC, dI) vwCl [(h0, .inr (11, (.int n0 :: .int n1 :: .int (nI nq) :: .ref m3 :: .ref m4 :: .ref m5 :: .int (nI nh) :: .ref m7 :: .ref m8 :: .ref m9 :: .ref m10 :: .int (nI sd) :: .ref m12 :: .int (nI tx) :: .int n14 :: .int (nI at9) :: .int n16 :: .int n17 :: .ref m18 :: .int (nI rq) :: .ref m20 :: .ref m21 :: .ref m22 :: .ref m23 :: .ref m24 :: .int (nI rh) :: .ref m26 :: .ref m27 :: .ref m28 :: .int (nI un) :: .ref m30 :: .int n31 :: .int n32 :: .ref m33 :: .int n34 :: .int n35 :: .ref m36 :: .int (nI wm) :: .ref m38 :: .ref m39 :: .ref m40 :: .int (nI bk) :: .ref m42 :: .ref m43 :: .ref m44 :: .ref m45 :: []))), (m10, .inl (cI, 34, .inl fm10)), (m30, .inl (cI, 680, .inl fm30))] U.heap ∧ va_K (dC, dI) vwCl (tys0 cI cZ cQ) U ∧ va_D (fun _ => True) [(h0, .inr (11, (.int n0 :: .int n1 :: .int (nI nq) :: .ref m3 :: .ref m4 :: .ref m5 :: .int (nI nh) :: .ref m7 :: .ref m8 :: .ref m9 :: .ref m10 :: .int (nI sd) :: .ref m12 :: .int (nI tx) :: .int n14 :: .int (nI at9) :: .int n16 :: .int n17 :: .ref m18 :: .int (nI rq) :: .ref m20 :: .ref m21 :: .ref m22 :: .ref m23 :: .ref m24 :: .int (nI rh) :: .ref m26 :: .ref m27 :: .ref m28 :: .int (nI un) :: .ref m30 :: .int n31 :: .int n32 :: .ref m33 :: .int n34 :: .int n35 :: .ref m36 :: .int (nI wm) :: .ref m38 :: .ref m39 :: .ref m40 :: .int (nI bk) :: .ref m42 :: .ref m43 :: .ref m44 :: .ref m45 :: []))), (m10, .inl (cI, 34, .inl fm10)), (m30, .inl (cI, 680, .inl fm30))])) (va_Qi (fun (r : Int32) (u : Nat → Nat) => True) (fun (_ : Nat → Nat) (t : State) => ∃ (gg0 gg1 : Nat → Int32) (kk0 : Nat), kk0 ≤ 20 ∧ va_P (dC, dI) vwCl [(h0, .inr (11, (.int n0 :: .int n1 :: .int (nI nq) :: .ref m3 :: .ref m4 :: .ref m5 :: .int (nI nh) :: .ref m7 :: .ref m8 :: .ref m9 :: .ref m10 :: .int (nI sd) :: .ref m12 :: .int (nI tx) :: .int n14 :: .int (nI at9) :: .int n16 :: .int n17 :: .ref m18 :: .int (nI rq) :: .ref m20 :: .ref m21 :: .ref m22 :: .ref m23 :: .ref m24 :: .int (nI rh) :: .ref m26 :: .ref m27 :: .ref m28 :: .int (nI kk0) :: .ref m30 :: .int n31 :: .int n32 :: .ref m33 :: .int n34 :: .int n35 :: .ref m36 :: .int (nI wm) :: .ref m38 :: .ref m39 :: .ref m40 :: .int (nI bk) :: .ref m42 :: .ref m43 :: .ref m44 :: .ref m45 :: []))), (m10, .inl (cI, 34, .inl gg0)), (m30, .inl (cI, 680, .inl gg1))] t.heap ∧ va_D (va_A [(h0, .inr (11, (.int n0 :: .int n1 :: .int (nI nq) :: .ref m3 :: .ref m4 :: .ref m5 :: .int (nI nh) :: .ref m7 :: .ref m8 :: .ref m9 :: .ref m10 :: .int (nI sd) :: .ref m12 :: .int (nI tx) :: .int n14 :: .int (nI at9) :: .int n16 :: .int n17 :: .ref m18 :: .int (nI rq) :: .ref m20 :: .ref m21 :: .ref m22 :: .ref m23 :: .ref m24 :: .int (nI rh) :: .ref m26 :: .ref m27 :: .ref m28 :: .int (nI un) :: .ref m30 :: .int n31 :: .int n32 :: .ref m33 :: .int n34 :: .int n35 :: .ref m36 :: .int (nI wm) :: .ref m38 :: .ref m39 :: .ref m40 :: .int (nI bk) :: .ref m42 :: .ref m43 :: .ref m44 :: .ref m45 :: []))), (m10, .inl (cI, 34, .inl fm10)), (m30, .inl (cI, 680, .inl fm30))] sz) [(h0, .inr (11, (.int n0 :: .int n1 :: .int (nI nq) :: .ref m3 :: .ref m4 :: .ref m5 :: .int (nI nh) :: .ref m7 :: .ref m8 :: .ref m9 :: .ref m10 :: .int (nI sd) :: .ref m12 :: .int (nI tx) :: .int n14 :: .int (nI at9) :: .int n16 :: .int n17 :: .ref m18 :: .int (nI rq) :: .ref m20 :: .ref m21 :: .ref m22 :: .ref m23 :: .ref m24 :: .int (nI rh) :: .ref m26 :: .ref m27 :: .ref m28 :: .int (nI kk0) :: .ref m30 :: .int n31 :: .int n32 :: .ref m33 :: .int n34 :: .int n35 :: .ref m36 :: .int (nI wm) :: .ref m38 :: .ref m39 :: .ref m40 :: .int (nI bk) :: .ref m42 :: .ref m43 :: .ref m44 :: .ref m45 :: []))), (m10, .inl (cI, 34, .inl gg0)), (m30, .inl (cI, 680, .inl gg1))]) (va_A [(h0, .inr (11, (.int n0 :: .int n1 :: .int (nI nq) :: .ref m3 :: .ref m4 :: .ref m5 :: .int (nI nh) :: .ref m7 :: .ref m8 :: .ref m9 :: .ref m10 :: .int (nI sd) :: .ref m12 :: .int (nI tx) :: .int n14 :: .int (nI at9) :: .int n16 :: .int n17 :: .ref m18 :: .int (nI rq) :: .ref m20 :: .ref m21 :: .ref m22 :: .ref m23 :: .ref m24 :: .int (nI rh) :: .ref m26 :: .ref m27 :: .ref m28 :: .int (nI un) :: .ref m30 :: .int n31 :: .int n32 :: .ref m33 :: .int n34 :: .int n35 :: .ref m36 :: .int (nI wm) :: .ref m38 :: .ref m39 :: .ref m40 :: .int (nI bk) :: .ref m42 :: .ref m43 :: .ref m44 :: .ref m45 :: []))), (m10, .inl (cI, 34, .inl fm10)), (m30, .inl (cI, 680, .inl fm30))] sz)) 0 0 (va_A [(h0, .inr (11, (.int n0 :: .int n1 :: .int (nI nq) :: .ref m3 :: .ref m4 :: .ref m5 :: .int (nI nh) :: .ref m7 :: .ref m8 :: .ref m9 :: .ref m10 :: .int (nI sd) :: .ref m12 :: .int (nI tx) :: .int n14 :: .int (nI at9) :: .int n16 :: .int n17 :: .ref m18 :: .int (nI rq) :: .ref m20 :: .ref m21 :: .ref m22 :: .ref m23 :: .ref m24 :: .int (nI rh) :: .ref m26 :: .ref m27 :: .ref m28 :: .int (nI un) :: .ref m30 :: .int n31 :: .int n32 :: .ref m33 :: .int n34 :: .int n35 :: .ref m36 :: .int (nI wm) :: .ref m38 :: .ref m39 :: .ref m40 :: .int (nI bk) :: .ref m42 :: .ref m43 :: .ref m44 :: .ref m45 :: []))), (m10, .inl (cI, 34, .inl fm10)), (m30, .inl (cI, 680, .inl fm30))] sz) := by
  refine Met.ofW (cc := cX11_whet) (maxL := 2) (ret := (some .int)) (by decide) rfl ?_
  intro p e s m args below meth c s₁ B hml hv
  obtain ⟨rfl, hsz, hP, hK, hD0⟩ := hv
  have hx := B.exec
  have hb := B.bytes
  have hr := B.returns
  have hts := atoms_spec (ws := wsX11_whet) B.pre
  have hown : s.vm.findClass RX11 = some m.cls := findClass_of_methodNamed B.named
  have hlocks := B.notSynchronized
  have hi_X11 : ∀ w ∈ u_ws RX11 TX11 46, w ∈ wsX11_whet := fun _ h => List.mem_cons_of_mem _ (List.mem_append_right _ (h))
  subst hsz
  have hD := hD0.self (sz := s.heap.size)
  generalize hAe : va_A [(h0, .inr (11, (.int n0 :: .int n1 :: .int (nI nq) :: .ref m3 :: .ref m4 :: .ref m5 :: .int (nI nh) :: .ref m7 :: .ref m8 :: .ref m9 :: .ref m10 :: .int (nI sd) :: .ref m12 :: .int (nI tx) :: .int n14 :: .int (nI at9) :: .int n16 :: .int n17 :: .ref m18 :: .int (nI rq) :: .ref m20 :: .ref m21 :: .ref m22 :: .ref m23 :: .ref m24 :: .int (nI rh) :: .ref m26 :: .ref m27 :: .ref m28 :: .int (nI un) :: .ref m30 :: .int n31 :: .int n32 :: .ref m33 :: .int n34 :: .int n35 :: .ref m36 :: .int (nI wm) :: .ref m38 :: .ref m39 :: .ref m40 :: .int (nI bk) :: .ref m42 :: .ref m43 :: .ref m44 :: .ref m45 :: []))), (m10, .inl (cI, 34, .inl fm10)), (m30, .inl (cI, 680, .inl fm30))] s.heap.size = A at hD ⊢
  have hA : ∀ q : Nat, s.heap.size ≤ q → A q := fun q h => by rw [← hAe]; exact Or.inr h
  have hS : va_S A s.heap s.heap [] := va_S.rf
  have hl := lv_entry ([.ref h0]) (n := 2) (Nat.le_of_ble_eq_true rfl)
  rw [lg_entry_eq]
  generalize (lg_sl ([.ref h0]) ++ List.replicate (2 - (lg_sl ([.ref h0])).length) Slot.unset).toArray = ls at hl ⊢
  have hl : lv_has ls 2 [(0, .ref h0)] := hl
  refine lv_aload_n hx hb dX11_whet_0 rfl (lv_at hl 0 rfl) ?_
  refine va_get (D := (dC, dI)) (ci := 11) (v := .int n0) (C := RX11) (T := TX11) (N := 46) hx hb hts hi_X11 hown hK hP 0 rfl rfl 0 (by decide) (hts (.fieldLink RX11 96 "LeftQuillsModel" "blunt" "I") (wmx 1 rfl)) (fun _ h9 => h9) rfl dX11_whet_1 ?_
  refine lv_if_ne (tgt := 10) hx hb dX11_whet_4 (by decide) (fun c1 => ?_) (fun c1 => ?_)
  ·
    refine lv_aload_n hx hb dX11_whet_10 rfl (lv_at hl 0 rfl) ?_
    refine va_get (D := (dC, dI)) (ci := 11) (v := .ref m10) (C := RX11) (T := TX11) (N := 46) hx hb hts hi_X11 hown hK hP 0 rfl rfl 10 (by decide) (hts (.fieldLink RX11 28 "LeftQuillsModel" "now" "[I") (wmx 3 rfl)) (fun _ h9 => h9) rfl dX11_whet_11 ?_
    refine lv_bipush (v := 32) hx hb dX11_whet_14 (by decide) ?_
    refine va_iald hx hb hK hP 1 0 rfl rfl (vp_in_iff.mpr ⟨by decide, by decide⟩) dX11_whet_16 ?_
    refine W.eq (g2 := F0 m 17 ls [.int (fm10 32)]) (congrArg (fun y9 => F0 m 17 ls (.int (fm10 y9) :: [])) ((show ((32 : Int32)).toNatClampNeg = 32 from by decide))) ?_
    refine lv_ldc (v := 90000) hx hb hown (hts (.constant RX11 221 90000) (wmx 4 rfl)) dX11_whet_17 ?_
    refine lv_icmp_le (tgt := 25) hx hb dX11_whet_19 (by decide) (fun c2 => ?_) (fun c2 => ?_)
    ·
      refine lv_aload_n hx hb dX11_whet_25 rfl (lv_at hl 0 rfl) ?_
      have hc9 := va_cut (W' := [(h0, .inr (11, (.int n0 :: .int n1 :: .int (nI nq) :: .ref m3 :: .ref m4 :: .ref m5 :: .int (nI nh) :: .ref m7 :: .ref m8 :: .ref m9 :: .ref m10 :: .int (nI sd) :: .ref m12 :: .int (nI tx) :: .int n14 :: .int (nI at9) :: .int n16 :: .int n17 :: .ref m18 :: .int (nI rq) :: .ref m20 :: .ref m21 :: .ref m22 :: .ref m23 :: .ref m24 :: .int (nI rh) :: .ref m26 :: .ref m27 :: .ref m28 :: .int (nI un) :: .ref m30 :: .int n31 :: .int n32 :: .ref m33 :: .int n34 :: .int n35 :: .ref m36 :: .int (nI wm) :: .ref m38 :: .ref m39 :: .ref m40 :: .int (nI bk) :: .ref m42 :: .ref m43 :: .ref m44 :: .ref m45 :: []))), (m10, .inl (cI, 34, .inl fm10)), (m30, .inl (cI, 680, .inl fm30))]) hP hD hS hA [0, 1, 2] (by decide) rfl
      have hPc := hc9.1
      have hDc := hc9.2.1
      have hFc := hc9.2.2
      clear hc9
      refine va_callv (va_runV (As := []) (rest := []) ⟨hx, hb, hml, hown, hts⟩ (c_X11_remember l dC dI cI cZ cQ h0 n0 n1 nq m3 m4 m5 nh m7 m8 m9 m10 sd m12 tx n14 at9 n16 n17 m18 rq m20 m21 m22 m23 m24 rh m26 m27 m28 un m30 n31 n32 m33 n34 n35 m36 wm m38 m39 m40 bk m42 m43 m44 m45 fm10 fm30 s.heap.size (by omega)) (cwV 0 hts gX11_whet_X11_remember rfl rfl rfl hd_X11_remember_RX11 ⟨Nat.le_of_ble_eq_true rfl, Nat.le_of_ble_eq_true rfl⟩) (pv_D (va_recv hK hP (ci := 11) (q0 := 0) rfl rfl) hK hPc hDc) rfl rfl hl.1 rfl (lv_room (Nat.le_of_ble_eq_true rfl)) dX11_whet_26 ⟨Nat.le_of_ble_eq_true rfl, Nat.le_of_ble_eq_true rfl⟩) hS (fun q _ h => hFc q h) hFc (fun u4 t H1 locs ht hvm hw5 hB hz1 hk1 hS => ?_)
      obtain ⟨f6, k7, hk7, hP1, hD1⟩ := hB
      replace hP1 := va_hp ht hP1
      obtain ⟨hP, hD⟩ := va_join (wr := []) (w1 := [(h0, .inr (11, (.int n0 :: .int n1 :: .int (nI nq) :: .ref m3 :: .ref m4 :: .ref m5 :: .int (nI nh) :: .ref m7 :: .ref m8 :: .ref m9 :: .ref m10 :: .int (nI sd) :: .ref m12 :: .int (nI tx) :: .int n14 :: .int (nI at9) :: .int n16 :: .int n17 :: .ref m18 :: .int (nI rq) :: .ref m20 :: .ref m21 :: .ref m22 :: .ref m23 :: .ref m24 :: .int (nI rh) :: .ref m26 :: .ref m27 :: .ref m28 :: .int (nI k7) :: .ref m30 :: .int n31 :: .int n32 :: .ref m33 :: .int n34 :: .int n35 :: .ref m36 :: .int (nI wm) :: .ref m38 :: .ref m39 :: .ref m40 :: .int (nI bk) :: .ref m42 :: .ref m43 :: .ref m44 :: .ref m45 :: []))), (m10, .inl (cI, 34, .inl fm10)), (m30, .inl (cI, 680, .inl f6))]) hP hD [0, 1, 2] [] rfl rfl (by decide +kernel) (by decide +kernel) hk1 hFc hP1 hD1
      clear hP1 hD1
      clear hz1 hk1 hPc hDc hFc
      generalize H1 = H at hP hS ht ⊢
      have hPD : pdW (dC, dI) vwCl A [(h0, .inr (11, (.int n0 :: .int n1 :: .int (nI nq) :: .ref m3 :: .ref m4 :: .ref m5 :: .int (nI nh) :: .ref m7 :: .ref m8 :: .ref m9 :: .ref m10 :: .int (nI sd) :: .ref m12 :: .int (nI tx) :: .int n14 :: .int (nI at9) :: .int n16 :: .int n17 :: .ref m18 :: .int (nI rq) :: .ref m20 :: .ref m21 :: .ref m22 :: .ref m23 :: .ref m24 :: .int (nI rh) :: .ref m26 :: .ref m27 :: .ref m28 :: .int (nI k7) :: .ref m30 :: .int n31 :: .int n32 :: .ref m33 :: .int n34 :: .int n35 :: .ref m36 :: .int (nI wm) :: .ref m38 :: .ref m39 :: .ref m40 :: .int (nI bk) :: .ref m42 :: .ref m43 :: .ref m44 :: .ref m45 :: []))), (m10, .inl (cI, 34, .inl fm10)), (m30, .inl (cI, 680, .inl f6))] H := ⟨hP, hD⟩
      have hP := hPD.1
      have hD := hPD.2
      clear hPD
      try dsimp only at hw5
      refine lv_aload_n hx hb dX11_whet_29 rfl (lv_at hl 0 rfl) ?_
      refine va_get (D := (dC, dI)) (ci := 11) (v := .ref m10) (C := RX11) (T := TX11) (N := 46) hx hb hts hi_X11 hown hK hP 0 rfl rfl 10 (by decide) (hts (.fieldLink RX11 28 "LeftQuillsModel" "now" "[I") (wmx 3 rfl)) (fun _ h9 => h9) rfl dX11_whet_30 ?_
      refine lv_bipush (v := 33) hx hb dX11_whet_33 (by decide) ?_
      refine va_iald hx hb hK hP 1 0 rfl rfl (vp_in_iff.mpr ⟨by decide, by decide⟩) dX11_whet_35 ?_
      refine W.eq (g2 := F0 m 36 ls [.int (fm10 33)]) (congrArg (fun y9 => F0 m 36 ls (.int (fm10 y9) :: [])) ((show ((33 : Int32)).toNatClampNeg = 33 from by decide))) ?_
      refine lv_istore_n (lv' := [(1, .int (fm10 33)), (0, .ref h0)]) hx hb dX11_whet_36 rfl hl (by decide) rfl (fun ls hl => ?_)
      refine lv_aload_n hx hb dX11_whet_37 rfl (lv_at hl 1 rfl) ?_
      refine va_get (D := (dC, dI)) (ci := 11) (v := .ref m10) (C := RX11) (T := TX11) (N := 46) hx hb hts hi_X11 hown hK hP 0 rfl rfl 10 (by decide) (hts (.fieldLink RX11 28 "LeftQuillsModel" "now" "[I") (wmx 3 rfl)) (fun _ h9 => h9) rfl dX11_whet_38 ?_
      refine lv_bipush (v := 33) hx hb dX11_whet_41 (by decide) ?_
      refine lv_iconst (v := 0) hx hb dX11_whet_43 (by decide) ?_
      refine va_iast hx hb hK hP hD hS 1 0 rfl rfl (vp_in_iff.mpr ⟨by decide, by decide⟩) dX11_whet_44 (fun H locs hP hD hS => ?_)
      generalize hgf8 : upd fm10 ((33 : Int32).toNatClampNeg) 0 = f8 at hP hD
      have hPD : pdW (dC, dI) vwCl A [(h0, .inr (11, (.int n0 :: .int n1 :: .int (nI nq) :: .ref m3 :: .ref m4 :: .ref m5 :: .int (nI nh) :: .ref m7 :: .ref m8 :: .ref m9 :: .ref m10 :: .int (nI sd) :: .ref m12 :: .int (nI tx) :: .int n14 :: .int (nI at9) :: .int n16 :: .int n17 :: .ref m18 :: .int (nI rq) :: .ref m20 :: .ref m21 :: .ref m22 :: .ref m23 :: .ref m24 :: .int (nI rh) :: .ref m26 :: .ref m27 :: .ref m28 :: .int (nI k7) :: .ref m30 :: .int n31 :: .int n32 :: .ref m33 :: .int n34 :: .int n35 :: .ref m36 :: .int (nI wm) :: .ref m38 :: .ref m39 :: .ref m40 :: .int (nI bk) :: .ref m42 :: .ref m43 :: .ref m44 :: .ref m45 :: []))), (m10, .inl (cI, 34, .inl f8)), (m30, .inl (cI, 680, .inl f6))] H := ⟨hP, hD⟩
      have hP := hPD.1
      have hD := hPD.2
      clear hPD
      refine lv_aload_n hx hb dX11_whet_45 rfl (lv_at hl 1 rfl) ?_
      refine va_get (D := (dC, dI)) (ci := 11) (v := .ref m10) (C := RX11) (T := TX11) (N := 46) hx hb hts hi_X11 hown hK hP 0 rfl rfl 10 (by decide) (hts (.fieldLink RX11 28 "LeftQuillsModel" "now" "[I") (wmx 3 rfl)) (fun _ h9 => h9) rfl dX11_whet_46 ?_
      refine lv_bipush (v := 32) hx hb dX11_whet_49 (by decide) ?_
      refine lv_dup2_11 hx hb dX11_whet_51 rfl rfl ?_
      refine va_iald hx hb hK hP 1 0 rfl rfl (vp_in_iff.mpr ⟨by decide, by decide⟩) dX11_whet_52 ?_
      refine W.eq (g2 := F0 m 53 ls [.int (f8 32), .int 32, .ref m10]) (congrArg (fun y9 => F0 m 53 ls (.int (f8 y9) :: [.int 32, .ref m10])) ((show ((32 : Int32)).toNatClampNeg = 32 from by decide))) ?_
      refine lv_iconst (v := 5) hx hb dX11_whet_53 (by decide) ?_
      refine lv_iadd hx hb dX11_whet_54 ?_
      refine lv_topi (fun z9 ez9 => ?_)
      refine va_iast hx hb hK hP hD hS 1 0 rfl rfl (vp_in_iff.mpr ⟨by decide, by decide⟩) dX11_whet_55 (fun H locs hP hD hS => ?_)
      generalize hgf10 : upd f8 ((32 : Int32).toNatClampNeg) z9 = f10 at hP hD
      have hPD : pdW (dC, dI) vwCl A [(h0, .inr (11, (.int n0 :: .int n1 :: .int (nI nq) :: .ref m3 :: .ref m4 :: .ref m5 :: .int (nI nh) :: .ref m7 :: .ref m8 :: .ref m9 :: .ref m10 :: .int (nI sd) :: .ref m12 :: .int (nI tx) :: .int n14 :: .int (nI at9) :: .int n16 :: .int n17 :: .ref m18 :: .int (nI rq) :: .ref m20 :: .ref m21 :: .ref m22 :: .ref m23 :: .ref m24 :: .int (nI rh) :: .ref m26 :: .ref m27 :: .ref m28 :: .int (nI k7) :: .ref m30 :: .int n31 :: .int n32 :: .ref m33 :: .int n34 :: .int n35 :: .ref m36 :: .int (nI wm) :: .ref m38 :: .ref m39 :: .ref m40 :: .int (nI bk) :: .ref m42 :: .ref m43 :: .ref m44 :: .ref m45 :: []))), (m10, .inl (cI, 34, .inl f10)), (m30, .inl (cI, 680, .inl f6))] H := ⟨hP, hD⟩
      have hP := hPD.1
      have hD := hPD.2
      clear hPD
      refine lv_iload_n hx hb dX11_whet_56 rfl (lv_at hl 0 rfl) ?_
      have hP9 := hP.sub (ws' := [(h0, .inr (11, (.int n0 :: .int n1 :: .int (nI nq) :: .ref m3 :: .ref m4 :: .ref m5 :: .int (nI nh) :: .ref m7 :: .ref m8 :: .ref m9 :: .ref m10 :: .int (nI sd) :: .ref m12 :: .int (nI tx) :: .int n14 :: .int (nI at9) :: .int n16 :: .int n17 :: .ref m18 :: .int (nI rq) :: .ref m20 :: .ref m21 :: .ref m22 :: .ref m23 :: .ref m24 :: .int (nI rh) :: .ref m26 :: .ref m27 :: .ref m28 :: .int (nI k7) :: .ref m30 :: .int n31 :: .int n32 :: .ref m33 :: .int n34 :: .int n35 :: .ref m36 :: .int (nI wm) :: .ref m38 :: .ref m39 :: .ref m40 :: .int (nI bk) :: .ref m42 :: .ref m43 :: .ref m44 :: .ref m45 :: []))), (m10, .inl (cI, 34, .inl f10)), (m30, .inl (cI, 680, .inl f6))]) [0, 1, 2] rfl
      have hD9 := hD.sub (ws' := [(h0, .inr (11, (.int n0 :: .int n1 :: .int (nI nq) :: .ref m3 :: .ref m4 :: .ref m5 :: .int (nI nh) :: .ref m7 :: .ref m8 :: .ref m9 :: .ref m10 :: .int (nI sd) :: .ref m12 :: .int (nI tx) :: .int n14 :: .int (nI at9) :: .int n16 :: .int n17 :: .ref m18 :: .int (nI rq) :: .ref m20 :: .ref m21 :: .ref m22 :: .ref m23 :: .ref m24 :: .int (nI rh) :: .ref m26 :: .ref m27 :: .ref m28 :: .int (nI k7) :: .ref m30 :: .int n31 :: .int n32 :: .ref m33 :: .int n34 :: .int n35 :: .ref m36 :: .int (nI wm) :: .ref m38 :: .ref m39 :: .ref m40 :: .int (nI bk) :: .ref m42 :: .ref m43 :: .ref m44 :: .ref m45 :: []))), (m10, .inl (cI, 34, .inl f10)), (m30, .inl (cI, 680, .inl f6))]) [0, 1, 2] (by decide +kernel) rfl
      exact W.iret (v := fm10 33) hx hb hr (fun t ht hW => ⟨⟨fm10 33, (fun _ => 0), rfl, trivial, ⟨f10, f6, k7, by omega, va_hq ht hP9, hD9⟩⟩, hS.F ht⟩) hS.2.2 dX11_whet_57
    ·
      refine lv_ldc (v := (-1000000004)) hx hb hown (hts (.constant RX11 115 (-1000000004)) (wmx 5 rfl)) dX11_whet_22 ?_
      have hP9 := hP.sub (ws' := [(h0, .inr (11, (.int n0 :: .int n1 :: .int (nI nq) :: .ref m3 :: .ref m4 :: .ref m5 :: .int (nI nh) :: .ref m7 :: .ref m8 :: .ref m9 :: .ref m10 :: .int (nI sd) :: .ref m12 :: .int (nI tx) :: .int n14 :: .int (nI at9) :: .int n16 :: .int n17 :: .ref m18 :: .int (nI rq) :: .ref m20 :: .ref m21 :: .ref m22 :: .ref m23 :: .ref m24 :: .int (nI rh) :: .ref m26 :: .ref m27 :: .ref m28 :: .int (nI un) :: .ref m30 :: .int n31 :: .int n32 :: .ref m33 :: .int n34 :: .int n35 :: .ref m36 :: .int (nI wm) :: .ref m38 :: .ref m39 :: .ref m40 :: .int (nI bk) :: .ref m42 :: .ref m43 :: .ref m44 :: .ref m45 :: []))), (m10, .inl (cI, 34, .inl fm10)), (m30, .inl (cI, 680, .inl fm30))]) [0, 1, 2] rfl
      have hD9 := hD.sub (ws' := [(h0, .inr (11, (.int n0 :: .int n1 :: .int (nI nq) :: .ref m3 :: .ref m4 :: .ref m5 :: .int (nI nh) :: .ref m7 :: .ref m8 :: .ref m9 :: .ref m10 :: .int (nI sd) :: .ref m12 :: .int (nI tx) :: .int n14 :: .int (nI at9) :: .int n16 :: .int n17 :: .ref m18 :: .int (nI rq) :: .ref m20 :: .ref m21 :: .ref m22 :: .ref m23 :: .ref m24 :: .int (nI rh) :: .ref m26 :: .ref m27 :: .ref m28 :: .int (nI un) :: .ref m30 :: .int n31 :: .int n32 :: .ref m33 :: .int n34 :: .int n35 :: .ref m36 :: .int (nI wm) :: .ref m38 :: .ref m39 :: .ref m40 :: .int (nI bk) :: .ref m42 :: .ref m43 :: .ref m44 :: .ref m45 :: []))), (m10, .inl (cI, 34, .inl fm10)), (m30, .inl (cI, 680, .inl fm30))]) [0, 1, 2] (by decide +kernel) rfl
      exact W.iret (v := (-1000000004)) hx hb hr (fun t ht hW => ⟨⟨(-1000000004), (fun _ => 0), rfl, trivial, ⟨fm10, fm30, un, by omega, va_hq ht hP9, hD9⟩⟩, hS.F ht⟩) hS.2.2 dX11_whet_24
  ·
    refine lv_ldc (v := (-1000000003)) hx hb hown (hts (.constant RX11 237 (-1000000003)) (wmx 2 rfl)) dX11_whet_7 ?_
    have hP9 := hP.sub (ws' := [(h0, .inr (11, (.int n0 :: .int n1 :: .int (nI nq) :: .ref m3 :: .ref m4 :: .ref m5 :: .int (nI nh) :: .ref m7 :: .ref m8 :: .ref m9 :: .ref m10 :: .int (nI sd) :: .ref m12 :: .int (nI tx) :: .int n14 :: .int (nI at9) :: .int n16 :: .int n17 :: .ref m18 :: .int (nI rq) :: .ref m20 :: .ref m21 :: .ref m22 :: .ref m23 :: .ref m24 :: .int (nI rh) :: .ref m26 :: .ref m27 :: .ref m28 :: .int (nI un) :: .ref m30 :: .int n31 :: .int n32 :: .ref m33 :: .int n34 :: .int n35 :: .ref m36 :: .int (nI wm) :: .ref m38 :: .ref m39 :: .ref m40 :: .int (nI bk) :: .ref m42 :: .ref m43 :: .ref m44 :: .ref m45 :: []))), (m10, .inl (cI, 34, .inl fm10)), (m30, .inl (cI, 680, .inl fm30))]) [0, 1, 2] rfl
    have hD9 := hD.sub (ws' := [(h0, .inr (11, (.int n0 :: .int n1 :: .int (nI nq) :: .ref m3 :: .ref m4 :: .ref m5 :: .int (nI nh) :: .ref m7 :: .ref m8 :: .ref m9 :: .ref m10 :: .int (nI sd) :: .ref m12 :: .int (nI tx) :: .int n14 :: .int (nI at9) :: .int n16 :: .int n17 :: .ref m18 :: .int (nI rq) :: .ref m20 :: .ref m21 :: .ref m22 :: .ref m23 :: .ref m24 :: .int (nI rh) :: .ref m26 :: .ref m27 :: .ref m28 :: .int (nI un) :: .ref m30 :: .int n31 :: .int n32 :: .ref m33 :: .int n34 :: .int n35 :: .ref m36 :: .int (nI wm) :: .ref m38 :: .ref m39 :: .ref m40 :: .int (nI bk) :: .ref m42 :: .ref m43 :: .ref m44 :: .ref m45 :: []))), (m10, .inl (cI, 34, .inl fm10)), (m30, .inl (cI, 680, .inl fm30))]) [0, 1, 2] (by decide +kernel) rfl
    exact W.iret (v := (-1000000003)) hx hb hr (fun t ht hW => ⟨⟨(-1000000003), (fun _ => 0), rfl, trivial, ⟨fm10, fm30, un, by omega, va_hq ht hP9, hD9⟩⟩, hS.F ht⟩) hS.2.2 dX11_whet_9
set_option maxHeartbeats 4000000 in
set_option maxRecDepth 100000 in
theorem c_X11_draw (l : Launch) (dC : Nat → ClassId) (dI : Nat → Nat → Nat) (cI cZ cQ : ClassId) (h0 : Nat) (n0 : Int32) (n1 : Int32) (nq : Nat) (m3 : Nat) (m4 : Nat) (m5 : Nat) (nh : Nat) (m7 : Nat) (m8 : Nat) (m9 : Nat) (m10 : Nat) (sd : Nat) (m12 : Nat) (tx : Nat) (n14 : Int32) (at9 : Nat) (n16 : Int32) (n17 : Int32) (m18 : Nat) (rq : Nat) (m20 : Nat) (m21 : Nat) (m22 : Nat) (m23 : Nat) (m24 : Nat) (rh : Nat) (m26 : Nat) (m27 : Nat) (m28 : Nat) (un : Nat) (m30 : Nat) (n31 : Int32) (n32 : Int32) (m33 : Nat) (n34 : Int32) (n35 : Int32) (m36 : Nat) (wm : Nat) (m38 : Nat) (m39 : Nat) (m40 : Nat) (bk : Nat) (m42 : Nat) (m43 : Nat) (m44 : Nat) (m45 : Nat) (k : Nat) (sz : Nat) (hk0 : 0 < k) (hk : k < 100) (hsd : sd ≤ 2147483647) : Met l yX11_draw wsX11_draw ({ frames := 0, cells := 0, slots := 0, locals := 40 }) (va_Pc [.ref h0, .int (nI k)] (fun U => U.heap.size = sz ∧ va_P (dC, dI) vwCl [(h0, .inr (11, (.int n0 :: .int n1 :: .int (nI nq) :: .ref m3 :: .ref m4 :: .ref m5 :: .int (nI nh) :: .ref m7 :: .ref m8 :: .ref m9 :: .ref m10 :: .int (nI sd) :: .ref m12 :: .int (nI tx) :: .int n14 :: .int (nI at9) :: .int n16 :: .int n17 :: .ref m18 :: .int (nI rq) :: .ref m20 :: .ref m21 :: .ref m22 :: .ref m23 :: .ref m24 :: .int (nI rh) :: .ref m26 :: .ref m27 :: .ref m28 :: .int (nI un) :: .ref m30 :: .int n31 :: .int n32 :: .ref m33 :: .int n34 :: .int n35 :: .ref m36 :: .int (nI wm) :: .ref m38 :: .ref m39 :: .ref m40 :: .int (nI bk) :: .ref m42 :: .ref m43 :: .ref m44 :: .ref m45 :: [])))] U.heap ∧ va_K (dC, dI) vwCl (tys0 cI cZ cQ) U ∧ va_D (fun _ => True) [(h0, .inr (11, (.int n0 :: .int n1 :: .int (nI nq) :: .ref m3 :: .ref m4 :: .ref m5 :: .int (nI nh) :: .ref m7 :: .ref m8 :: .ref m9 :: .ref m10 :: .int (nI sd) :: .ref m12 :: .int (nI tx) :: .int n14 :: .int (nI at9) :: .int n16 :: .int n17 :: .ref m18 :: .int (nI rq) :: .ref m20 :: .ref m21 :: .ref m22 :: .ref m23 :: .ref m24 :: .int (nI rh) :: .ref m26 :: .ref m27 :: .ref m28 :: .int (nI un) :: .ref m30 :: .int n31 :: .int n32 :: .ref m33 :: .int n34 :: .int n35 :: .ref m36 :: .int (nI wm) :: .ref m38 :: .ref m39 :: .ref m40 :: .int (nI bk) :: .ref m42 :: .ref m43 :: .ref m44 :: .ref m45 :: [])))])) (va_Qi (fun (r : Int32) (u : Nat → Nat) => ∃ w : Nat, w < k ∧ r = nI w) (fun (_ : Nat → Nat) (t : State) => ∃ (kk0 : Nat), kk0 ≤ 2147483647 ∧ va_P (dC, dI) vwCl [(h0, .inr (11, (.int n0 :: .int n1 :: .int (nI nq) :: .ref m3 :: .ref m4 :: .ref m5 :: .int (nI nh) :: .ref m7 :: .ref m8 :: .ref m9 :: .ref m10 :: .int (nI kk0) :: .ref m12 :: .int (nI tx) :: .int n14 :: .int (nI at9) :: .int n16 :: .int n17 :: .ref m18 :: .int (nI rq) :: .ref m20 :: .ref m21 :: .ref m22 :: .ref m23 :: .ref m24 :: .int (nI rh) :: .ref m26 :: .ref m27 :: .ref m28 :: .int (nI un) :: .ref m30 :: .int n31 :: .int n32 :: .ref m33 :: .int n34 :: .int n35 :: .ref m36 :: .int (nI wm) :: .ref m38 :: .ref m39 :: .ref m40 :: .int (nI bk) :: .ref m42 :: .ref m43 :: .ref m44 :: .ref m45 :: [])))] t.heap ∧ va_D (va_A [(h0, .inr (11, (.int n0 :: .int n1 :: .int (nI nq) :: .ref m3 :: .ref m4 :: .ref m5 :: .int (nI nh) :: .ref m7 :: .ref m8 :: .ref m9 :: .ref m10 :: .int (nI sd) :: .ref m12 :: .int (nI tx) :: .int n14 :: .int (nI at9) :: .int n16 :: .int n17 :: .ref m18 :: .int (nI rq) :: .ref m20 :: .ref m21 :: .ref m22 :: .ref m23 :: .ref m24 :: .int (nI rh) :: .ref m26 :: .ref m27 :: .ref m28 :: .int (nI un) :: .ref m30 :: .int n31 :: .int n32 :: .ref m33 :: .int n34 :: .int n35 :: .ref m36 :: .int (nI wm) :: .ref m38 :: .ref m39 :: .ref m40 :: .int (nI bk) :: .ref m42 :: .ref m43 :: .ref m44 :: .ref m45 :: [])))] sz) [(h0, .inr (11, (.int n0 :: .int n1 :: .int (nI nq) :: .ref m3 :: .ref m4 :: .ref m5 :: .int (nI nh) :: .ref m7 :: .ref m8 :: .ref m9 :: .ref m10 :: .int (nI kk0) :: .ref m12 :: .int (nI tx) :: .int n14 :: .int (nI at9) :: .int n16 :: .int n17 :: .ref m18 :: .int (nI rq) :: .ref m20 :: .ref m21 :: .ref m22 :: .ref m23 :: .ref m24 :: .int (nI rh) :: .ref m26 :: .ref m27 :: .ref m28 :: .int (nI un) :: .ref m30 :: .int n31 :: .int n32 :: .ref m33 :: .int n34 :: .int n35 :: .ref m36 :: .int (nI wm) :: .ref m38 :: .ref m39 :: .ref m40 :: .int (nI bk) :: .ref m42 :: .ref m43 :: .ref m44 :: .ref m45 :: [])))]) (va_A [(h0, .inr (11, (.int n0 :: .int n1 :: .int (nI nq) :: .ref m3 :: .ref m4 :: .ref m5 :: .int (nI nh) :: .ref m7 :: .ref m8 :: .ref m9 :: .ref m10 :: .int (nI sd) :: .ref m12 :: .int (nI tx) :: .int n14 :: .int (nI at9) :: .int n16 :: .int n17 :: .ref m18 :: .int (nI rq) :: .ref m20 :: .ref m21 :: .ref m22 :: .ref m23 :: .ref m24 :: .int (nI rh) :: .ref m26 :: .ref m27 :: .ref m28 :: .int (nI un) :: .ref m30 :: .int n31 :: .int n32 :: .ref m33 :: .int n34 :: .int n35 :: .ref m36 :: .int (nI wm) :: .ref m38 :: .ref m39 :: .ref m40 :: .int (nI bk) :: .ref m42 :: .ref m43 :: .ref m44 :: .ref m45 :: [])))] sz)) 0 0 (va_A [(h0, .inr (11, (.int n0 :: .int n1 :: .int (nI nq) :: .ref m3 :: .ref m4 :: .ref m5 :: .int (nI nh) :: .ref m7 :: .ref m8 :: .ref m9 :: .ref m10 :: .int (nI sd) :: .ref m12 :: .int (nI tx) :: .int n14 :: .int (nI at9) :: .int n16 :: .int n17 :: .ref m18 :: .int (nI rq) :: .ref m20 :: .ref m21 :: .ref m22 :: .ref m23 :: .ref m24 :: .int (nI rh) :: .ref m26 :: .ref m27 :: .ref m28 :: .int (nI un) :: .ref m30 :: .int n31 :: .int n32 :: .ref m33 :: .int n34 :: .int n35 :: .ref m36 :: .int (nI wm) :: .ref m38 :: .ref m39 :: .ref m40 :: .int (nI bk) :: .ref m42 :: .ref m43 :: .ref m44 :: .ref m45 :: [])))] sz) := by
  refine Met.ofW (cc := cX11_draw) (maxL := 2) (ret := (some .int)) (by decide) rfl ?_
  intro p e s m args below meth c s₁ B hml hv
  obtain ⟨rfl, hsz, hP, hK, hD0⟩ := hv
  have hx := B.exec
  have hb := B.bytes
  have hr := B.returns
  have hts := atoms_spec (ws := wsX11_draw) B.pre
  have hown : s.vm.findClass RX11 = some m.cls := findClass_of_methodNamed B.named
  have hlocks := B.notSynchronized
  have hi_X11 : ∀ w ∈ u_ws RX11 TX11 46, w ∈ wsX11_draw := fun _ h => List.mem_cons_of_mem _ (List.mem_append_right _ (h))
  subst hsz
  have hD := hD0.self (sz := s.heap.size)
  generalize hAe : va_A [(h0, .inr (11, (.int n0 :: .int n1 :: .int (nI nq) :: .ref m3 :: .ref m4 :: .ref m5 :: .int (nI nh) :: .ref m7 :: .ref m8 :: .ref m9 :: .ref m10 :: .int (nI sd) :: .ref m12 :: .int (nI tx) :: .int n14 :: .int (nI at9) :: .int n16 :: .int n17 :: .ref m18 :: .int (nI rq) :: .ref m20 :: .ref m21 :: .ref m22 :: .ref m23 :: .ref m24 :: .int (nI rh) :: .ref m26 :: .ref m27 :: .ref m28 :: .int (nI un) :: .ref m30 :: .int n31 :: .int n32 :: .ref m33 :: .int n34 :: .int n35 :: .ref m36 :: .int (nI wm) :: .ref m38 :: .ref m39 :: .ref m40 :: .int (nI bk) :: .ref m42 :: .ref m43 :: .ref m44 :: .ref m45 :: [])))] s.heap.size = A at hD ⊢
  have hA : ∀ q : Nat, s.heap.size ≤ q → A q := fun q h => by rw [← hAe]; exact Or.inr h
  have hS : va_S A s.heap s.heap [] := va_S.rf
  have hl := lv_entry ([.ref h0, .int (nI k)]) (n := 2) (Nat.le_of_ble_eq_true rfl)
  rw [lg_entry_eq]
  generalize (lg_sl ([.ref h0, .int (nI k)]) ++ List.replicate (2 - (lg_sl ([.ref h0, .int (nI k)])).length) Slot.unset).toArray = ls at hl ⊢
  have hl : lv_has ls 2 [(0, .ref h0), (1, .int (nI k))] := hl
  refine lv_aload_n hx hb dX11_draw_0 rfl (lv_at hl 0 rfl) ?_
  refine lv_aload_n hx hb dX11_draw_1 rfl (lv_at hl 0 rfl) ?_
  refine va_get (D := (dC, dI)) (ci := 11) (v := .int (nI sd)) (C := RX11) (T := TX11) (N := 46) hx hb hts hi_X11 hown hK hP 0 rfl rfl 11 (by decide) (hts (.fieldLink RX11 241 "LeftQuillsModel" "seed" "I") (wmx 1 rfl)) (fun _ h9 => h9) rfl dX11_draw_2 ?_
  refine lv_i2l hx hb dX11_draw_5 rfl ?_
  refine lv_ldc2 (v := 1103515245) hx hb hown (hts (.constantLong RX11 244 1103515245) (wmx 2 rfl)) dX11_draw_6 ?_
  refine lv_lmul hx hb dX11_draw_9 ?_
  refine lv_topl (fun z1 ez1 => ?_)
  refine lv_ldc2 (v := 12345) hx hb hown (hts (.constantLong RX11 246 12345) (wmx 3 rfl)) dX11_draw_10 ?_
  refine lv_ladd hx hb dX11_draw_13 ?_
  refine lv_topl (fun z2 ez2 => ?_)
  refine lv_ldc2 (v := 2147483648) hx hb hown (hts (.constantLong RX11 248 2147483648) (wmx 4 rfl)) dX11_draw_14 ?_
  refine lv_lrem hx hb dX11_draw_17 (by decide) ?_
  refine lv_topl (fun z3 ez3 => ?_)
  refine lv_l2i hx hb dX11_draw_18 rfl ?_
  refine lv_topi (fun z4 ez4 => ?_)
  obtain ⟨w5, hw5, ew5⟩ : ∃ y : Nat, y < 2147483648 ∧ y = (sd * 1103515245 + 12345) % 2147483648 := ⟨_, Nat.mod_lt _ (by decide), rfl⟩
  obtain rfl : z4 = nI w5 := by rw [ew5]; exact ez4.trans (x_draw hsd ez1 ez2 ez3)
  refine va_put (D := (dC, dI)) (ci := 11) (v := .int (nI w5)) (ty := .int) (C := RX11) (T := TX11) (N := 46) hx hb hts hi_X11 tyX11 tyX11_ok nmX11 hown hK hP hD hS 0 rfl rfl 11 (by decide) (hts (.fieldLink RX11 241 "LeftQuillsModel" "seed" "I") (wmx 1 rfl)) (fun _ h9 => h9) rfl (by decide +kernel) rfl rfl (Nat.le_of_ble_eq_true rfl) dX11_draw_19 (fun H locs hP hD hS => ?_)
  have hPD : pdW (dC, dI) vwCl A [(h0, .inr (11, (.int n0 :: .int n1 :: .int (nI nq) :: .ref m3 :: .ref m4 :: .ref m5 :: .int (nI nh) :: .ref m7 :: .ref m8 :: .ref m9 :: .ref m10 :: .int (nI w5) :: .ref m12 :: .int (nI tx) :: .int n14 :: .int (nI at9) :: .int n16 :: .int n17 :: .ref m18 :: .int (nI rq) :: .ref m20 :: .ref m21 :: .ref m22 :: .ref m23 :: .ref m24 :: .int (nI rh) :: .ref m26 :: .ref m27 :: .ref m28 :: .int (nI un) :: .ref m30 :: .int n31 :: .int n32 :: .ref m33 :: .int n34 :: .int n35 :: .ref m36 :: .int (nI wm) :: .ref m38 :: .ref m39 :: .ref m40 :: .int (nI bk) :: .ref m42 :: .ref m43 :: .ref m44 :: .ref m45 :: [])))] H := ⟨hP, hD⟩
  have hP := hPD.1
  have hD := hPD.2
  clear hPD
  refine lv_aload_n hx hb dX11_draw_22 rfl (lv_at hl 0 rfl) ?_
  refine va_get (D := (dC, dI)) (ci := 11) (v := .int (nI w5)) (C := RX11) (T := TX11) (N := 46) hx hb hts hi_X11 hown hK hP 0 rfl rfl 11 (by decide) (hts (.fieldLink RX11 241 "LeftQuillsModel" "seed" "I") (wmx 1 rfl)) (fun _ h9 => h9) rfl dX11_draw_23 ?_
  refine lv_ldc (v := 65536) hx hb hown (hts (.constant RX11 250 65536) (wmx 5 rfl)) dX11_draw_26 ?_
  refine lv_idiv hx hb dX11_draw_28 (by decide) ?_
  refine lv_topi (fun z6 ez6 => ?_)
  obtain rfl : z6 = nI (w5 / 65536) := ez6.trans (pk_div (a := w5) (d := 65536) (by omega) (by omega) (by omega))
  refine lv_iload_n hx hb dX11_draw_29 rfl (lv_at hl 1 rfl) ?_
  refine lv_irem hx hb dX11_draw_30 (nI_ne0 (n := k) (by omega) (by omega)) ?_
  refine lv_topi (fun z7 ez7 => ?_)
  obtain ⟨w8, hw8, ew8⟩ : ∃ y : Nat, y < k ∧ y = (w5 / 65536) % k := ⟨_, Nat.mod_lt _ (by omega), rfl⟩
  obtain rfl : z7 = nI w8 := by rw [ew8]; exact ez7.trans (pk_rem (a := w5 / 65536) (d := k) (by omega) (by omega) (by omega))
  have hP9 := hP.sub (ws' := [(h0, .inr (11, (.int n0 :: .int n1 :: .int (nI nq) :: .ref m3 :: .ref m4 :: .ref m5 :: .int (nI nh) :: .ref m7 :: .ref m8 :: .ref m9 :: .ref m10 :: .int (nI w5) :: .ref m12 :: .int (nI tx) :: .int n14 :: .int (nI at9) :: .int n16 :: .int n17 :: .ref m18 :: .int (nI rq) :: .ref m20 :: .ref m21 :: .ref m22 :: .ref m23 :: .ref m24 :: .int (nI rh) :: .ref m26 :: .ref m27 :: .ref m28 :: .int (nI un) :: .ref m30 :: .int n31 :: .int n32 :: .ref m33 :: .int n34 :: .int n35 :: .ref m36 :: .int (nI wm) :: .ref m38 :: .ref m39 :: .ref m40 :: .int (nI bk) :: .ref m42 :: .ref m43 :: .ref m44 :: .ref m45 :: [])))]) [0] rfl
  have hD9 := hD.sub (ws' := [(h0, .inr (11, (.int n0 :: .int n1 :: .int (nI nq) :: .ref m3 :: .ref m4 :: .ref m5 :: .int (nI nh) :: .ref m7 :: .ref m8 :: .ref m9 :: .ref m10 :: .int (nI w5) :: .ref m12 :: .int (nI tx) :: .int n14 :: .int (nI at9) :: .int n16 :: .int n17 :: .ref m18 :: .int (nI rq) :: .ref m20 :: .ref m21 :: .ref m22 :: .ref m23 :: .ref m24 :: .int (nI rh) :: .ref m26 :: .ref m27 :: .ref m28 :: .int (nI un) :: .ref m30 :: .int n31 :: .int n32 :: .ref m33 :: .int n34 :: .int n35 :: .ref m36 :: .int (nI wm) :: .ref m38 :: .ref m39 :: .ref m40 :: .int (nI bk) :: .ref m42 :: .ref m43 :: .ref m44 :: .ref m45 :: [])))]) [0] (by decide +kernel) rfl
  exact W.iret (v := nI w8) hx hb hr (fun t ht hW => ⟨⟨nI w8, (fun _ => 0), rfl, ⟨_, by omega, rfl⟩, ⟨w5, by omega, va_hq ht hP9, hD9⟩⟩, hS.F ht⟩) hS.2.2 dX11_draw_31
set_option maxHeartbeats 4000000 in
set_option maxRecDepth 100000 in
theorem c_X11_drawn (l : Launch) (dC : Nat → ClassId) (dI : Nat → Nat → Nat) (cI cZ cQ : ClassId) (h0 : Nat) (n0 : Int32) (n1 : Int32) (nq : Nat) (m3 : Nat) (m4 : Nat) (m5 : Nat) (nh : Nat) (m7 : Nat) (m8 : Nat) (m9 : Nat) (m10 : Nat) (sd : Nat) (m12 : Nat) (tx : Nat) (n14 : Int32) (at9 : Nat) (n16 : Int32) (n17 : Int32) (m18 : Nat) (rq : Nat) (m20 : Nat) (m21 : Nat) (m22 : Nat) (m23 : Nat) (m24 : Nat) (rh : Nat) (m26 : Nat) (m27 : Nat) (m28 : Nat) (un : Nat) (m30 : Nat) (n31 : Int32) (n32 : Int32) (m33 : Nat) (n34 : Int32) (n35 : Int32) (m36 : Nat) (wm : Nat) (m38 : Nat) (m39 : Nat) (m40 : Nat) (bk : Nat) (m42 : Nat) (m43 : Nat) (m44 : Nat) (m45 : Nat) (fm3 : Nat → Int32) (fm4 : Nat → Int32) (fm5 : Nat → Int32) (fm7 : Nat → Int32) (fm8 : Nat → Int32) (fm9 : Nat → Int32) (fm10 : Nat → Int32) (sz : Nat) (hnq : nq ≤ 8) (hci : cIn fm5 nq) (hq0 : 0 < nq) (hh0 : 0 < nh) (hnh : nh ≤ 4) (hsd : sd ≤ 2147483647) : Met l yX11_drawn wsX11_drawn ({ frames := 5, cells := 0, slots := 0, locals := 154 }) (va_Pc [.ref h0] (fun U => U.heap.size = sz ∧ va_P (dC, dI) vwCl [(h0, .inr (11, (.int n0 :: .int n1 :: .int (nI nq) :: .ref m3 :: .ref m4 :: .ref m5 :: .int (nI nh) :: .ref m7 :: .ref m8 :: .ref m9 :: .ref m10 :: .int (nI sd) :: .ref m12 :: .int (nI tx) :: .int n14 :: .int (nI at9) :: .int n16 :: .int n17 :: .ref m18 :: .int (nI rq) :: .ref m20 :: .ref m21 :: .ref m22 :: .ref m23 :: .ref m24 :: .int (nI rh) :: .ref m26 :: .ref m27 :: .ref m28 :: .int (nI un) :: .ref m30 :: .int n31 :: .int n32 :: .ref m33 :: .int n34 :: .int n35 :: .ref m36 :: .int (nI wm) :: .ref m38 :: .ref m39 :: .ref m40 :: .int (nI bk) :: .ref m42 :: .ref m43 :: .ref m44 :: .ref m45 :: []))), (m3, .inl (cI, 8, .inl fm3)), (m4, .inl (cI, 8, .inl fm4)), (m5, .inl (cI, 8, .inl fm5)), (m7, .inl (cI, 4, .inl fm7)), (m8, .inl (cI, 4, .inl fm8)), (m9, .inl (cI, 4, .inl fm9)), (m10, .inl (cI, 34, .inl fm10))] U.heap ∧ va_K (dC, dI) vwCl (tys0 cI cZ cQ) U ∧ va_D (fun _ => True) [(h0, .inr (11, (.int n0 :: .int n1 :: .int (nI nq) :: .ref m3 :: .ref m4 :: .ref m5 :: .int (nI nh) :: .ref m7 :: .ref m8 :: .ref m9 :: .ref m10 :: .int (nI sd) :: .ref m12 :: .int (nI tx) :: .int n14 :: .int (nI at9) :: .int n16 :: .int n17 :: .ref m18 :: .int (nI rq) :: .ref m20 :: .ref m21 :: .ref m22 :: .ref m23 :: .ref m24 :: .int (nI rh) :: .ref m26 :: .ref m27 :: .ref m28 :: .int (nI un) :: .ref m30 :: .int n31 :: .int n32 :: .ref m33 :: .int n34 :: .int n35 :: .ref m36 :: .int (nI wm) :: .ref m38 :: .ref m39 :: .ref m40 :: .int (nI bk) :: .ref m42 :: .ref m43 :: .ref m44 :: .ref m45 :: []))), (m3, .inl (cI, 8, .inl fm3)), (m4, .inl (cI, 8, .inl fm4)), (m5, .inl (cI, 8, .inl fm5)), (m7, .inl (cI, 4, .inl fm7)), (m8, .inl (cI, 4, .inl fm8)), (m9, .inl (cI, 4, .inl fm9)), (m10, .inl (cI, 34, .inl fm10))])) (va_Qv (fun (u : Nat → Nat) => True) (fun (_ : Nat → Nat) (t : State) => ∃ (gg0 : Nat → Int32) (kk0 : Nat), kk0 ≤ 2147483647 ∧ va_P (dC, dI) vwCl [(h0, .inr (11, (.int n0 :: .int n1 :: .int (nI nq) :: .ref m3 :: .ref m4 :: .ref m5 :: .int (nI nh) :: .ref m7 :: .ref m8 :: .ref m9 :: .ref m10 :: .int (nI kk0) :: .ref m12 :: .int (nI tx) :: .int n14 :: .int (nI at9) :: .int n16 :: .int n17 :: .ref m18 :: .int (nI rq) :: .ref m20 :: .ref m21 :: .ref m22 :: .ref m23 :: .ref m24 :: .int (nI rh) :: .ref m26 :: .ref m27 :: .ref m28 :: .int (nI un) :: .ref m30 :: .int n31 :: .int n32 :: .ref m33 :: .int n34 :: .int n35 :: .ref m36 :: .int (nI wm) :: .ref m38 :: .ref m39 :: .ref m40 :: .int (nI bk) :: .ref m42 :: .ref m43 :: .ref m44 :: .ref m45 :: []))), (m3, .inl (cI, 8, .inl fm3)), (m4, .inl (cI, 8, .inl fm4)), (m5, .inl (cI, 8, .inl fm5)), (m7, .inl (cI, 4, .inl fm7)), (m8, .inl (cI, 4, .inl fm8)), (m9, .inl (cI, 4, .inl fm9)), (m10, .inl (cI, 34, .inl gg0))] t.heap ∧ va_D (va_A [(h0, .inr (11, (.int n0 :: .int n1 :: .int (nI nq) :: .ref m3 :: .ref m4 :: .ref m5 :: .int (nI nh) :: .ref m7 :: .ref m8 :: .ref m9 :: .ref m10 :: .int (nI sd) :: .ref m12 :: .int (nI tx) :: .int n14 :: .int (nI at9) :: .int n16 :: .int n17 :: .ref m18 :: .int (nI rq) :: .ref m20 :: .ref m21 :: .ref m22 :: .ref m23 :: .ref m24 :: .int (nI rh) :: .ref m26 :: .ref m27 :: .ref m28 :: .int (nI un) :: .ref m30 :: .int n31 :: .int n32 :: .ref m33 :: .int n34 :: .int n35 :: .ref m36 :: .int (nI wm) :: .ref m38 :: .ref m39 :: .ref m40 :: .int (nI bk) :: .ref m42 :: .ref m43 :: .ref m44 :: .ref m45 :: []))), (m3, .inl (cI, 8, .inl fm3)), (m4, .inl (cI, 8, .inl fm4)), (m5, .inl (cI, 8, .inl fm5)), (m7, .inl (cI, 4, .inl fm7)), (m8, .inl (cI, 4, .inl fm8)), (m9, .inl (cI, 4, .inl fm9)), (m10, .inl (cI, 34, .inl fm10))] sz) [(h0, .inr (11, (.int n0 :: .int n1 :: .int (nI nq) :: .ref m3 :: .ref m4 :: .ref m5 :: .int (nI nh) :: .ref m7 :: .ref m8 :: .ref m9 :: .ref m10 :: .int (nI kk0) :: .ref m12 :: .int (nI tx) :: .int n14 :: .int (nI at9) :: .int n16 :: .int n17 :: .ref m18 :: .int (nI rq) :: .ref m20 :: .ref m21 :: .ref m22 :: .ref m23 :: .ref m24 :: .int (nI rh) :: .ref m26 :: .ref m27 :: .ref m28 :: .int (nI un) :: .ref m30 :: .int n31 :: .int n32 :: .ref m33 :: .int n34 :: .int n35 :: .ref m36 :: .int (nI wm) :: .ref m38 :: .ref m39 :: .ref m40 :: .int (nI bk) :: .ref m42 :: .ref m43 :: .ref m44 :: .ref m45 :: []))), (m3, .inl (cI, 8, .inl fm3)), (m4, .inl (cI, 8, .inl fm4)), (m5, .inl (cI, 8, .inl fm5)), (m7, .inl (cI, 4, .inl fm7)), (m8, .inl (cI, 4, .inl fm8)), (m9, .inl (cI, 4, .inl fm9)), (m10, .inl (cI, 34, .inl gg0))]) (va_A [(h0, .inr (11, (.int n0 :: .int n1 :: .int (nI nq) :: .ref m3 :: .ref m4 :: .ref m5 :: .int (nI nh) :: .ref m7 :: .ref m8 :: .ref m9 :: .ref m10 :: .int (nI sd) :: .ref m12 :: .int (nI tx) :: .int n14 :: .int (nI at9) :: .int n16 :: .int n17 :: .ref m18 :: .int (nI rq) :: .ref m20 :: .ref m21 :: .ref m22 :: .ref m23 :: .ref m24 :: .int (nI rh) :: .ref m26 :: .ref m27 :: .ref m28 :: .int (nI un) :: .ref m30 :: .int n31 :: .int n32 :: .ref m33 :: .int n34 :: .int n35 :: .ref m36 :: .int (nI wm) :: .ref m38 :: .ref m39 :: .ref m40 :: .int (nI bk) :: .ref m42 :: .ref m43 :: .ref m44 :: .ref m45 :: []))), (m3, .inl (cI, 8, .inl fm3)), (m4, .inl (cI, 8, .inl fm4)), (m5, .inl (cI, 8, .inl fm5)), (m7, .inl (cI, 4, .inl fm7)), (m8, .inl (cI, 4, .inl fm8)), (m9, .inl (cI, 4, .inl fm9)), (m10, .inl (cI, 34, .inl fm10))] sz)) 0 0 (va_A [(h0, .inr (11, (.int n0 :: .int n1 :: .int (nI nq) :: .ref m3 :: .ref m4 :: .ref m5 :: .int (nI nh) :: .ref m7 :: .ref m8 :: .ref m9 :: .ref m10 :: .int (nI sd) :: .ref m12 :: .int (nI tx) :: .int n14 :: .int (nI at9) :: .int n16 :: .int n17 :: .ref m18 :: .int (nI rq) :: .ref m20 :: .ref m21 :: .ref m22 :: .ref m23 :: .ref m24 :: .int (nI rh) :: .ref m26 :: .ref m27 :: .ref m28 :: .int (nI un) :: .ref m30 :: .int n31 :: .int n32 :: .ref m33 :: .int n34 :: .int n35 :: .ref m36 :: .int (nI wm) :: .ref m38 :: .ref m39 :: .ref m40 :: .int (nI bk) :: .ref m42 :: .ref m43 :: .ref m44 :: .ref m45 :: []))), (m3, .inl (cI, 8, .inl fm3)), (m4, .inl (cI, 8, .inl fm4)), (m5, .inl (cI, 8, .inl fm5)), (m7, .inl (cI, 4, .inl fm7)), (m8, .inl (cI, 4, .inl fm8)), (m9, .inl (cI, 4, .inl fm9)), (m10, .inl (cI, 34, .inl fm10))] sz) := by
  refine Met.ofW (cc := cX11_drawn) (maxL := 4) (ret := none) (by decide) rfl ?_
  intro p e s m args below meth c s₁ B hml hv
  obtain ⟨rfl, hsz, hP, hK, hD0⟩ := hv
  have hx := B.exec
  have hb := B.bytes
  have hr := B.returns
  have hts := atoms_spec (ws := wsX11_drawn) B.pre
  have hown : s.vm.findClass RX11 = some m.cls := findClass_of_methodNamed B.named
  have hlocks := B.notSynchronized
  have hi_X11 : ∀ w ∈ u_ws RX11 TX11 46, w ∈ wsX11_drawn := fun _ h => List.mem_cons_of_mem _ (List.mem_append_right _ (h))
  subst hsz
  have hD := hD0.self (sz := s.heap.size)
  generalize hAe : va_A [(h0, .inr (11, (.int n0 :: .int n1 :: .int (nI nq) :: .ref m3 :: .ref m4 :: .ref m5 :: .int (nI nh) :: .ref m7 :: .ref m8 :: .ref m9 :: .ref m10 :: .int (nI sd) :: .ref m12 :: .int (nI tx) :: .int n14 :: .int (nI at9) :: .int n16 :: .int n17 :: .ref m18 :: .int (nI rq) :: .ref m20 :: .ref m21 :: .ref m22 :: .ref m23 :: .ref m24 :: .int (nI rh) :: .ref m26 :: .ref m27 :: .ref m28 :: .int (nI un) :: .ref m30 :: .int n31 :: .int n32 :: .ref m33 :: .int n34 :: .int n35 :: .ref m36 :: .int (nI wm) :: .ref m38 :: .ref m39 :: .ref m40 :: .int (nI bk) :: .ref m42 :: .ref m43 :: .ref m44 :: .ref m45 :: []))), (m3, .inl (cI, 8, .inl fm3)), (m4, .inl (cI, 8, .inl fm4)), (m5, .inl (cI, 8, .inl fm5)), (m7, .inl (cI, 4, .inl fm7)), (m8, .inl (cI, 4, .inl fm8)), (m9, .inl (cI, 4, .inl fm9)), (m10, .inl (cI, 34, .inl fm10))] s.heap.size = A at hD ⊢
  have hA : ∀ q : Nat, s.heap.size ≤ q → A q := fun q h => by rw [← hAe]; exact Or.inr h
  have hS : va_S A s.heap s.heap [] := va_S.rf
  have hl := lv_entry ([.ref h0]) (n := 4) (Nat.le_of_ble_eq_true rfl)
  rw [lg_entry_eq]
  generalize (lg_sl ([.ref h0]) ++ List.replicate (4 - (lg_sl ([.ref h0])).length) Slot.unset).toArray = ls at hl ⊢
  have hl : lv_has ls 4 [(0, .ref h0)] := hl
  refine lv_aload_n hx hb dX11_drawn_0 rfl (lv_at hl 0 rfl) ?_
  refine lv_aload_n hx hb dX11_drawn_1 rfl (lv_at hl 0 rfl) ?_
  refine va_get (D := (dC, dI)) (ci := 11) (v := .int (nI nq)) (C := RX11) (T := TX11) (N := 46) hx hb hts hi_X11 hown hK hP 0 rfl rfl 2 (by decide) (hts (.fieldLink RX11 99 "LeftQuillsModel" "quills" "I") (wmx 1 rfl)) (fun _ h9 => h9) rfl dX11_drawn_2 ?_
  have hc9 := va_cut (W' := [(h0, .inr (11, (.int n0 :: .int n1 :: .int (nI nq) :: .ref m3 :: .ref m4 :: .ref m5 :: .int (nI nh) :: .ref m7 :: .ref m8 :: .ref m9 :: .ref m10 :: .int (nI sd) :: .ref m12 :: .int (nI tx) :: .int n14 :: .int (nI at9) :: .int n16 :: .int n17 :: .ref m18 :: .int (nI rq) :: .ref m20 :: .ref m21 :: .ref m22 :: .ref m23 :: .ref m24 :: .int (nI rh) :: .ref m26 :: .ref m27 :: .ref m28 :: .int (nI un) :: .ref m30 :: .int n31 :: .int n32 :: .ref m33 :: .int n34 :: .int n35 :: .ref m36 :: .int (nI wm) :: .ref m38 :: .ref m39 :: .ref m40 :: .int (nI bk) :: .ref m42 :: .ref m43 :: .ref m44 :: .ref m45 :: [])))]) hP hD hS hA [0] (by decide) rfl
  have hPc := hc9.1
  have hDc := hc9.2.1
  have hFc := hc9.2.2
  clear hc9
  refine va_calli (va_runV (As := [.int (nI nq)]) (rest := []) ⟨hx, hb, hml, hown, hts⟩ (c_X11_draw l dC dI cI cZ cQ h0 n0 n1 nq m3 m4 m5 nh m7 m8 m9 m10 sd m12 tx n14 at9 n16 n17 m18 rq m20 m21 m22 m23 m24 rh m26 m27 m28 un m30 n31 n32 m33 n34 n35 m36 wm m38 m39 m40 bk m42 m43 m44 m45 nq s.heap.size (by omega) (by omega) (by omega)) (cwV 1 hts gX11_drawn_X11_draw rfl rfl rfl hd_X11_draw_RX11 ⟨Nat.le_of_ble_eq_true rfl, Nat.le_of_ble_eq_true rfl⟩) (pv_D (va_recv hK hP (ci := 11) (q0 := 0) rfl rfl) hK hPc hDc) rfl rfl hl.1 rfl (lv_room (Nat.le_of_ble_eq_true rfl)) dX11_drawn_5 ⟨Nat.le_of_ble_eq_true rfl, Nat.le_of_ble_eq_true rfl⟩) hS (fun q _ h => hFc q h) hFc (fun r1 u2 t H1 locs ht hvm hw3 hB hz1 hk1 hS => ?_)
  obtain ⟨k4, hk4, hP1, hD1⟩ := hB
  replace hP1 := va_hp ht hP1
  obtain ⟨hP, hD⟩ := va_join (wr := [(m3, .inl (cI, 8, .inl fm3)), (m4, .inl (cI, 8, .inl fm4)), (m5, .inl (cI, 8, .inl fm5)), (m7, .inl (cI, 4, .inl fm7)), (m8, .inl (cI, 4, .inl fm8)), (m9, .inl (cI, 4, .inl fm9)), (m10, .inl (cI, 34, .inl fm10))]) (w1 := [(h0, .inr (11, (.int n0 :: .int n1 :: .int (nI nq) :: .ref m3 :: .ref m4 :: .ref m5 :: .int (nI nh) :: .ref m7 :: .ref m8 :: .ref m9 :: .ref m10 :: .int (nI k4) :: .ref m12 :: .int (nI tx) :: .int n14 :: .int (nI at9) :: .int n16 :: .int n17 :: .ref m18 :: .int (nI rq) :: .ref m20 :: .ref m21 :: .ref m22 :: .ref m23 :: .ref m24 :: .int (nI rh) :: .ref m26 :: .ref m27 :: .ref m28 :: .int (nI un) :: .ref m30 :: .int n31 :: .int n32 :: .ref m33 :: .int n34 :: .int n35 :: .ref m36 :: .int (nI wm) :: .ref m38 :: .ref m39 :: .ref m40 :: .int (nI bk) :: .ref m42 :: .ref m43 :: .ref m44 :: .ref m45 :: [])))]) hP hD [0] [1, 2, 3, 4, 5, 6, 7] rfl rfl (by decide +kernel) (by decide +kernel) hk1 hFc hP1 hD1
  clear hP1 hD1
  clear hz1 hk1 hPc hDc hFc
  generalize H1 = H at hP hS ht ⊢
  have hPD : pdW (dC, dI) vwCl A [(m3, .inl (cI, 8, .inl fm3)), (m4, .inl (cI, 8, .inl fm4)), (m5, .inl (cI, 8, .inl fm5)), (m7, .inl (cI, 4, .inl fm7)), (m8, .inl (cI, 4, .inl fm8)), (m9, .inl (cI, 4, .inl fm9)), (m10, .inl (cI, 34, .inl fm10)), (h0, .inr (11, (.int n0 :: .int n1 :: .int (nI nq) :: .ref m3 :: .ref m4 :: .ref m5 :: .int (nI nh) :: .ref m7 :: .ref m8 :: .ref m9 :: .ref m10 :: .int (nI k4) :: .ref m12 :: .int (nI tx) :: .int n14 :: .int (nI at9) :: .int n16 :: .int n17 :: .ref m18 :: .int (nI rq) :: .ref m20 :: .ref m21 :: .ref m22 :: .ref m23 :: .ref m24 :: .int (nI rh) :: .ref m26 :: .ref m27 :: .ref m28 :: .int (nI un) :: .ref m30 :: .int n31 :: .int n32 :: .ref m33 :: .int n34 :: .int n35 :: .ref m36 :: .int (nI wm) :: .ref m38 :: .ref m39 :: .ref m40 :: .int (nI bk) :: .ref m42 :: .ref m43 :: .ref m44 :: .ref m45 :: [])))] H := ⟨hP, hD⟩
  have hP := hPD.1
  have hD := hPD.2
  clear hPD
  try dsimp only at hw3
  obtain ⟨w5, hw5, rfl⟩ := hw3
  refine lv_istore_n (lv' := [(1, .int (nI w5)), (0, .ref h0)]) hx hb dX11_drawn_8 rfl hl (by decide) rfl (fun ls hl => ?_)
  refine lv_aload_n hx hb dX11_drawn_9 rfl (lv_at hl 1 rfl) ?_
  refine lv_aload_n hx hb dX11_drawn_10 rfl (lv_at hl 1 rfl) ?_
  refine va_get (D := (dC, dI)) (ci := 11) (v := .int (nI nh)) (C := RX11) (T := TX11) (N := 46) hx hb hts hi_X11 hown hK hP 7 rfl rfl 6 (by decide) (hts (.fieldLink RX11 106 "LeftQuillsModel" "hands" "I") (wmx 2 rfl)) (fun _ h9 => h9) rfl dX11_drawn_11 ?_
  have hc9 := va_cut (W' := [(h0, .inr (11, (.int n0 :: .int n1 :: .int (nI nq) :: .ref m3 :: .ref m4 :: .ref m5 :: .int (nI nh) :: .ref m7 :: .ref m8 :: .ref m9 :: .ref m10 :: .int (nI k4) :: .ref m12 :: .int (nI tx) :: .int n14 :: .int (nI at9) :: .int n16 :: .int n17 :: .ref m18 :: .int (nI rq) :: .ref m20 :: .ref m21 :: .ref m22 :: .ref m23 :: .ref m24 :: .int (nI rh) :: .ref m26 :: .ref m27 :: .ref m28 :: .int (nI un) :: .ref m30 :: .int n31 :: .int n32 :: .ref m33 :: .int n34 :: .int n35 :: .ref m36 :: .int (nI wm) :: .ref m38 :: .ref m39 :: .ref m40 :: .int (nI bk) :: .ref m42 :: .ref m43 :: .ref m44 :: .ref m45 :: [])))]) hP hD hS hA [7] (by decide) rfl
  have hPc := hc9.1
  have hDc := hc9.2.1
  have hFc := hc9.2.2
  clear hc9
  refine va_calli (va_runV (As := [.int (nI nh)]) (rest := []) ⟨hx, hb, hml, hown, hts⟩ (c_X11_draw l dC dI cI cZ cQ h0 n0 n1 nq m3 m4 m5 nh m7 m8 m9 m10 k4 m12 tx n14 at9 n16 n17 m18 rq m20 m21 m22 m23 m24 rh m26 m27 m28 un m30 n31 n32 m33 n34 n35 m36 wm m38 m39 m40 bk m42 m43 m44 m45 nh H.size (by omega) (by omega) (by omega)) (cwV 1 hts gX11_drawn_X11_draw rfl rfl rfl hd_X11_draw_RX11 ⟨Nat.le_of_ble_eq_true rfl, Nat.le_of_ble_eq_true rfl⟩) (pv_D (va_recv hK hP (ci := 11) (q0 := 7) rfl rfl) hK hPc hDc) rfl rfl hl.1 rfl (lv_room (Nat.le_of_ble_eq_true rfl)) dX11_drawn_14 ⟨Nat.le_of_ble_eq_true rfl, Nat.le_of_ble_eq_true rfl⟩) hS (fun q _ h => hFc q h) hFc (fun r6 u7 t H1 locs ht hvm hw8 hB hz1 hk1 hS => ?_)
  obtain ⟨k9, hk9, hP1, hD1⟩ := hB
  replace hP1 := va_hp ht hP1
  obtain ⟨hP, hD⟩ := va_join (wr := [(m3, .inl (cI, 8, .inl fm3)), (m4, .inl (cI, 8, .inl fm4)), (m5, .inl (cI, 8, .inl fm5)), (m7, .inl (cI, 4, .inl fm7)), (m8, .inl (cI, 4, .inl fm8)), (m9, .inl (cI, 4, .inl fm9)), (m10, .inl (cI, 34, .inl fm10))]) (w1 := [(h0, .inr (11, (.int n0 :: .int n1 :: .int (nI nq) :: .ref m3 :: .ref m4 :: .ref m5 :: .int (nI nh) :: .ref m7 :: .ref m8 :: .ref m9 :: .ref m10 :: .int (nI k9) :: .ref m12 :: .int (nI tx) :: .int n14 :: .int (nI at9) :: .int n16 :: .int n17 :: .ref m18 :: .int (nI rq) :: .ref m20 :: .ref m21 :: .ref m22 :: .ref m23 :: .ref m24 :: .int (nI rh) :: .ref m26 :: .ref m27 :: .ref m28 :: .int (nI un) :: .ref m30 :: .int n31 :: .int n32 :: .ref m33 :: .int n34 :: .int n35 :: .ref m36 :: .int (nI wm) :: .ref m38 :: .ref m39 :: .ref m40 :: .int (nI bk) :: .ref m42 :: .ref m43 :: .ref m44 :: .ref m45 :: [])))]) hP hD [7] [0, 1, 2, 3, 4, 5, 6] rfl rfl (by decide +kernel) (by decide +kernel) hk1 hFc hP1 hD1
  clear hP1 hD1
  clear hz1 hk1 hPc hDc hFc
  generalize H1 = H at hP hS ht ⊢
  have hPD : pdW (dC, dI) vwCl A [(m3, .inl (cI, 8, .inl fm3)), (m4, .inl (cI, 8, .inl fm4)), (m5, .inl (cI, 8, .inl fm5)), (m7, .inl (cI, 4, .inl fm7)), (m8, .inl (cI, 4, .inl fm8)), (m9, .inl (cI, 4, .inl fm9)), (m10, .inl (cI, 34, .inl fm10)), (h0, .inr (11, (.int n0 :: .int n1 :: .int (nI nq) :: .ref m3 :: .ref m4 :: .ref m5 :: .int (nI nh) :: .ref m7 :: .ref m8 :: .ref m9 :: .ref m10 :: .int (nI k9) :: .ref m12 :: .int (nI tx) :: .int n14 :: .int (nI at9) :: .int n16 :: .int n17 :: .ref m18 :: .int (nI rq) :: .ref m20 :: .ref m21 :: .ref m22 :: .ref m23 :: .ref m24 :: .int (nI rh) :: .ref m26 :: .ref m27 :: .ref m28 :: .int (nI un) :: .ref m30 :: .int n31 :: .int n32 :: .ref m33 :: .int n34 :: .int n35 :: .ref m36 :: .int (nI wm) :: .ref m38 :: .ref m39 :: .ref m40 :: .int (nI bk) :: .ref m42 :: .ref m43 :: .ref m44 :: .ref m45 :: [])))] H := ⟨hP, hD⟩
  have hP := hPD.1
  have hD := hPD.2
  clear hPD
  try dsimp only at hw8
  obtain ⟨w10, hw10, rfl⟩ := hw8
  refine lv_istore_n (lv' := [(2, .int (nI w10)), (1, .int (nI w5)), (0, .ref h0)]) hx hb dX11_drawn_17 rfl hl (by decide) rfl (fun ls hl => ?_)
  refine lv_aload_n hx hb dX11_drawn_18 rfl (lv_at hl 2 rfl) ?_
  refine lv_iconst (v := 3) hx hb dX11_drawn_19 (by decide) ?_
  have hc9 := va_cut (W' := [(h0, .inr (11, (.int n0 :: .int n1 :: .int (nI nq) :: .ref m3 :: .ref m4 :: .ref m5 :: .int (nI nh) :: .ref m7 :: .ref m8 :: .ref m9 :: .ref m10 :: .int (nI k9) :: .ref m12 :: .int (nI tx) :: .int n14 :: .int (nI at9) :: .int n16 :: .int n17 :: .ref m18 :: .int (nI rq) :: .ref m20 :: .ref m21 :: .ref m22 :: .ref m23 :: .ref m24 :: .int (nI rh) :: .ref m26 :: .ref m27 :: .ref m28 :: .int (nI un) :: .ref m30 :: .int n31 :: .int n32 :: .ref m33 :: .int n34 :: .int n35 :: .ref m36 :: .int (nI wm) :: .ref m38 :: .ref m39 :: .ref m40 :: .int (nI bk) :: .ref m42 :: .ref m43 :: .ref m44 :: .ref m45 :: [])))]) hP hD hS hA [7] (by decide) rfl
  have hPc := hc9.1
  have hDc := hc9.2.1
  have hFc := hc9.2.2
  clear hc9
  refine va_calli (va_runV (As := [.int 3]) (rest := []) ⟨hx, hb, hml, hown, hts⟩ (c_X11_draw l dC dI cI cZ cQ h0 n0 n1 nq m3 m4 m5 nh m7 m8 m9 m10 k9 m12 tx n14 at9 n16 n17 m18 rq m20 m21 m22 m23 m24 rh m26 m27 m28 un m30 n31 n32 m33 n34 n35 m36 wm m38 m39 m40 bk m42 m43 m44 m45 3 H.size (by omega) (by omega) (by omega)) (cwV 1 hts gX11_drawn_X11_draw rfl rfl rfl hd_X11_draw_RX11 ⟨Nat.le_of_ble_eq_true rfl, Nat.le_of_ble_eq_true rfl⟩) (pv_D (va_recv hK hP (ci := 11) (q0 := 7) rfl rfl) hK hPc hDc) rfl rfl hl.1 rfl (lv_room (Nat.le_of_ble_eq_true rfl)) dX11_drawn_20 ⟨Nat.le_of_ble_eq_true rfl, Nat.le_of_ble_eq_true rfl⟩) hS (fun q _ h => hFc q h) hFc (fun r11 u12 t H1 locs ht hvm hw13 hB hz1 hk1 hS => ?_)
  obtain ⟨k14, hk14, hP1, hD1⟩ := hB
  replace hP1 := va_hp ht hP1
  obtain ⟨hP, hD⟩ := va_join (wr := [(m3, .inl (cI, 8, .inl fm3)), (m4, .inl (cI, 8, .inl fm4)), (m5, .inl (cI, 8, .inl fm5)), (m7, .inl (cI, 4, .inl fm7)), (m8, .inl (cI, 4, .inl fm8)), (m9, .inl (cI, 4, .inl fm9)), (m10, .inl (cI, 34, .inl fm10))]) (w1 := [(h0, .inr (11, (.int n0 :: .int n1 :: .int (nI nq) :: .ref m3 :: .ref m4 :: .ref m5 :: .int (nI nh) :: .ref m7 :: .ref m8 :: .ref m9 :: .ref m10 :: .int (nI k14) :: .ref m12 :: .int (nI tx) :: .int n14 :: .int (nI at9) :: .int n16 :: .int n17 :: .ref m18 :: .int (nI rq) :: .ref m20 :: .ref m21 :: .ref m22 :: .ref m23 :: .ref m24 :: .int (nI rh) :: .ref m26 :: .ref m27 :: .ref m28 :: .int (nI un) :: .ref m30 :: .int n31 :: .int n32 :: .ref m33 :: .int n34 :: .int n35 :: .ref m36 :: .int (nI wm) :: .ref m38 :: .ref m39 :: .ref m40 :: .int (nI bk) :: .ref m42 :: .ref m43 :: .ref m44 :: .ref m45 :: [])))]) hP hD [7] [0, 1, 2, 3, 4, 5, 6] rfl rfl (by decide +kernel) (by decide +kernel) hk1 hFc hP1 hD1
  clear hP1 hD1
  clear hz1 hk1 hPc hDc hFc
  generalize H1 = H at hP hS ht ⊢
  have hPD : pdW (dC, dI) vwCl A [(m3, .inl (cI, 8, .inl fm3)), (m4, .inl (cI, 8, .inl fm4)), (m5, .inl (cI, 8, .inl fm5)), (m7, .inl (cI, 4, .inl fm7)), (m8, .inl (cI, 4, .inl fm8)), (m9, .inl (cI, 4, .inl fm9)), (m10, .inl (cI, 34, .inl fm10)), (h0, .inr (11, (.int n0 :: .int n1 :: .int (nI nq) :: .ref m3 :: .ref m4 :: .ref m5 :: .int (nI nh) :: .ref m7 :: .ref m8 :: .ref m9 :: .ref m10 :: .int (nI k14) :: .ref m12 :: .int (nI tx) :: .int n14 :: .int (nI at9) :: .int n16 :: .int n17 :: .ref m18 :: .int (nI rq) :: .ref m20 :: .ref m21 :: .ref m22 :: .ref m23 :: .ref m24 :: .int (nI rh) :: .ref m26 :: .ref m27 :: .ref m28 :: .int (nI un) :: .ref m30 :: .int n31 :: .int n32 :: .ref m33 :: .int n34 :: .int n35 :: .ref m36 :: .int (nI wm) :: .ref m38 :: .ref m39 :: .ref m40 :: .int (nI bk) :: .ref m42 :: .ref m43 :: .ref m44 :: .ref m45 :: [])))] H := ⟨hP, hD⟩
  have hP := hPD.1
  have hD := hPD.2
  clear hPD
  try dsimp only at hw13
  obtain ⟨w15, hw15, rfl⟩ := hw13
  refine lv_istore_n (lv' := [(3, .int (nI w15)), (2, .int (nI w10)), (1, .int (nI w5)), (0, .ref h0)]) hx hb dX11_drawn_23 rfl hl (by decide) rfl (fun ls hl => ?_)
  refine lv_iload_n hx hb dX11_drawn_24 rfl (lv_at hl 0 rfl) ?_
  refine lv_if_ne (tgt := 44) hx hb dX11_drawn_25 (by decide) (fun c16 => ?_) (fun c16 => ?_)
  ·
    have c16 : ¬ w15 = 0 := fun h => c16 ((nI_eq (a := w15) (b := 0) (by omega) (by omega)).mpr h)
    refine lv_iload_n hx hb dX11_drawn_44 rfl (lv_at hl 0 rfl) ?_
    refine lv_iconst (v := 1) hx hb dX11_drawn_45 (by decide) ?_
    refine lv_icmp_ne (tgt := 74) hx hb dX11_drawn_46 (by decide) (fun c17 => ?_) (fun c17 => ?_)
    ·
      have c17 : ¬ w15 = 1 := fun h => c17 ((nI_eq (a := w15) (b := 1) (by omega) (by omega)).mpr h)
      refine lv_iload_n hx hb dX11_drawn_74 rfl (lv_at hl 0 rfl) ?_
      refine lv_iconst (v := 2) hx hb dX11_drawn_75 (by decide) ?_
      refine lv_icmp_ne (tgt := 85) hx hb dX11_drawn_76 (by decide) (fun c18 => ?_) (fun c18 => ?_)
      ·
        have c18 : ¬ w15 = 2 := fun h => c18 ((nI_eq (a := w15) (b := 2) (by omega) (by omega)).mpr h)
        have hP9 := hP.sub (ws' := [(h0, .inr (11, (.int n0 :: .int n1 :: .int (nI nq) :: .ref m3 :: .ref m4 :: .ref m5 :: .int (nI nh) :: .ref m7 :: .ref m8 :: .ref m9 :: .ref m10 :: .int (nI k14) :: .ref m12 :: .int (nI tx) :: .int n14 :: .int (nI at9) :: .int n16 :: .int n17 :: .ref m18 :: .int (nI rq) :: .ref m20 :: .ref m21 :: .ref m22 :: .ref m23 :: .ref m24 :: .int (nI rh) :: .ref m26 :: .ref m27 :: .ref m28 :: .int (nI un) :: .ref m30 :: .int n31 :: .int n32 :: .ref m33 :: .int n34 :: .int n35 :: .ref m36 :: .int (nI wm) :: .ref m38 :: .ref m39 :: .ref m40 :: .int (nI bk) :: .ref m42 :: .ref m43 :: .ref m44 :: .ref m45 :: []))), (m3, .inl (cI, 8, .inl fm3)), (m4, .inl (cI, 8, .inl fm4)), (m5, .inl (cI, 8, .inl fm5)), (m7, .inl (cI, 4, .inl fm7)), (m8, .inl (cI, 4, .inl fm8)), (m9, .inl (cI, 4, .inl fm9)), (m10, .inl (cI, 34, .inl fm10))]) [7, 0, 1, 2, 3, 4, 5, 6] rfl
        have hD9 := hD.sub (ws' := [(h0, .inr (11, (.int n0 :: .int n1 :: .int (nI nq) :: .ref m3 :: .ref m4 :: .ref m5 :: .int (nI nh) :: .ref m7 :: .ref m8 :: .ref m9 :: .ref m10 :: .int (nI k14) :: .ref m12 :: .int (nI tx) :: .int n14 :: .int (nI at9) :: .int n16 :: .int n17 :: .ref m18 :: .int (nI rq) :: .ref m20 :: .ref m21 :: .ref m22 :: .ref m23 :: .ref m24 :: .int (nI rh) :: .ref m26 :: .ref m27 :: .ref m28 :: .int (nI un) :: .ref m30 :: .int n31 :: .int n32 :: .ref m33 :: .int n34 :: .int n35 :: .ref m36 :: .int (nI wm) :: .ref m38 :: .ref m39 :: .ref m40 :: .int (nI bk) :: .ref m42 :: .ref m43 :: .ref m44 :: .ref m45 :: []))), (m3, .inl (cI, 8, .inl fm3)), (m4, .inl (cI, 8, .inl fm4)), (m5, .inl (cI, 8, .inl fm5)), (m7, .inl (cI, 4, .inl fm7)), (m8, .inl (cI, 4, .inl fm8)), (m9, .inl (cI, 4, .inl fm9)), (m10, .inl (cI, 34, .inl fm10))]) [7, 0, 1, 2, 3, 4, 5, 6] (by decide +kernel) rfl
        exact W.vret hx hb hr (fun t ht hW => ⟨⟨(fun _ => 0), rfl, trivial, ⟨fm10, k14, by omega, va_hq ht hP9, hD9⟩⟩, hS.F ht⟩) hS.2.2 dX11_drawn_85
      ·
        have c18 : w15 = 2 := (nI_eq (a := w15) (b := 2) (by omega) (by omega)).mp c18
        refine lv_aload_n hx hb dX11_drawn_79 rfl (lv_at hl 3 rfl) ?_
        refine lv_iload_n hx hb dX11_drawn_80 rfl (lv_at hl 2 rfl) ?_
        refine lv_iload_n hx hb dX11_drawn_81 rfl (lv_at hl 1 rfl) ?_
        have hc9 := va_cut (W' := [(h0, .inr (11, (.int n0 :: .int n1 :: .int (nI nq) :: .ref m3 :: .ref m4 :: .ref m5 :: .int (nI nh) :: .ref m7 :: .ref m8 :: .ref m9 :: .ref m10 :: .int (nI k14) :: .ref m12 :: .int (nI tx) :: .int n14 :: .int (nI at9) :: .int n16 :: .int n17 :: .ref m18 :: .int (nI rq) :: .ref m20 :: .ref m21 :: .ref m22 :: .ref m23 :: .ref m24 :: .int (nI rh) :: .ref m26 :: .ref m27 :: .ref m28 :: .int (nI un) :: .ref m30 :: .int n31 :: .int n32 :: .ref m33 :: .int n34 :: .int n35 :: .ref m36 :: .int (nI wm) :: .ref m38 :: .ref m39 :: .ref m40 :: .int (nI bk) :: .ref m42 :: .ref m43 :: .ref m44 :: .ref m45 :: []))), (m3, .inl (cI, 8, .inl fm3)), (m4, .inl (cI, 8, .inl fm4)), (m5, .inl (cI, 8, .inl fm5)), (m7, .inl (cI, 4, .inl fm7)), (m8, .inl (cI, 4, .inl fm8)), (m9, .inl (cI, 4, .inl fm9)), (m10, .inl (cI, 34, .inl fm10))]) hP hD hS hA [7, 0, 1, 2, 3, 4, 5, 6] (by decide) rfl
        have hPc := hc9.1
        have hDc := hc9.2.1
        have hFc := hc9.2.2
        clear hc9
        refine va_callv (va_runV (As := [.int (nI w5), .int (nI w10)]) (rest := []) ⟨hx, hb, hml, hown, hts⟩ (c_X11_pageOf l dC dI cI cZ cQ h0 m3 m4 m5 m7 m8 m9 m10 ((.int n0 :: .int n1 :: .int (nI nq) :: .ref m3 :: .ref m4 :: .ref m5 :: .int (nI nh) :: .ref m7 :: .ref m8 :: .ref m9 :: .ref m10 :: .int (nI k14) :: .ref m12 :: .int (nI tx) :: .int n14 :: .int (nI at9) :: .int n16 :: .int n17 :: .ref m18 :: .int (nI rq) :: .ref m20 :: .ref m21 :: .ref m22 :: .ref m23 :: .ref m24 :: .int (nI rh) :: .ref m26 :: .ref m27 :: .ref m28 :: .int (nI un) :: .ref m30 :: .int n31 :: .int n32 :: .ref m33 :: .int n34 :: .int n35 :: .ref m36 :: .int (nI wm) :: .ref m38 :: .ref m39 :: .ref m40 :: .int (nI bk) :: .ref m42 :: .ref m43 :: .ref m44 :: .ref m45 :: [])) fm3 fm4 fm5 fm7 fm8 fm9 fm10 w5 w10 nq H.size rfl rfl rfl rfl rfl rfl rfl (by omega) (by first | assumption | decide) (by omega) (by omega)) (cwV 2 hts gX11_drawn_X11_pageOf rfl rfl rfl hd_X11_pageOf_RX11 ⟨Nat.le_of_ble_eq_true rfl, Nat.le_of_ble_eq_true rfl⟩) (pv_D (va_recv hK hP (ci := 11) (q0 := 7) rfl rfl) hK hPc hDc) rfl rfl hl.1 rfl (lv_room (Nat.le_of_ble_eq_true rfl)) dX11_drawn_82 ⟨Nat.le_of_ble_eq_true rfl, Nat.le_of_ble_eq_true rfl⟩) hS (fun q _ h => hFc q h) hFc (fun u20 t H1 locs ht hvm hw21 hB hz1 hk1 hS => ?_)
        obtain ⟨f22, hP1, hD1⟩ := hB
        replace hP1 := va_hp ht hP1
        obtain ⟨hP, hD⟩ := va_join (wr := []) (w1 := [(h0, .inr (11, (.int n0 :: .int n1 :: .int (nI nq) :: .ref m3 :: .ref m4 :: .ref m5 :: .int (nI nh) :: .ref m7 :: .ref m8 :: .ref m9 :: .ref m10 :: .int (nI k14) :: .ref m12 :: .int (nI tx) :: .int n14 :: .int (nI at9) :: .int n16 :: .int n17 :: .ref m18 :: .int (nI rq) :: .ref m20 :: .ref m21 :: .ref m22 :: .ref m23 :: .ref m24 :: .int (nI rh) :: .ref m26 :: .ref m27 :: .ref m28 :: .int (nI un) :: .ref m30 :: .int n31 :: .int n32 :: .ref m33 :: .int n34 :: .int n35 :: .ref m36 :: .int (nI wm) :: .ref m38 :: .ref m39 :: .ref m40 :: .int (nI bk) :: .ref m42 :: .ref m43 :: .ref m44 :: .ref m45 :: []))), (m3, .inl (cI, 8, .inl fm3)), (m4, .inl (cI, 8, .inl fm4)), (m5, .inl (cI, 8, .inl fm5)), (m7, .inl (cI, 4, .inl fm7)), (m8, .inl (cI, 4, .inl fm8)), (m9, .inl (cI, 4, .inl fm9)), (m10, .inl (cI, 34, .inl f22))]) hP hD [7, 0, 1, 2, 3, 4, 5, 6] [] rfl rfl (by decide +kernel) (by decide +kernel) hk1 hFc hP1 hD1
        clear hP1 hD1
        clear hz1 hk1 hPc hDc hFc
        generalize H1 = H at hP hS ht ⊢
        have hPD : pdW (dC, dI) vwCl A [(h0, .inr (11, (.int n0 :: .int n1 :: .int (nI nq) :: .ref m3 :: .ref m4 :: .ref m5 :: .int (nI nh) :: .ref m7 :: .ref m8 :: .ref m9 :: .ref m10 :: .int (nI k14) :: .ref m12 :: .int (nI tx) :: .int n14 :: .int (nI at9) :: .int n16 :: .int n17 :: .ref m18 :: .int (nI rq) :: .ref m20 :: .ref m21 :: .ref m22 :: .ref m23 :: .ref m24 :: .int (nI rh) :: .ref m26 :: .ref m27 :: .ref m28 :: .int (nI un) :: .ref m30 :: .int n31 :: .int n32 :: .ref m33 :: .int n34 :: .int n35 :: .ref m36 :: .int (nI wm) :: .ref m38 :: .ref m39 :: .ref m40 :: .int (nI bk) :: .ref m42 :: .ref m43 :: .ref m44 :: .ref m45 :: []))), (m3, .inl (cI, 8, .inl fm3)), (m4, .inl (cI, 8, .inl fm4)), (m5, .inl (cI, 8, .inl fm5)), (m7, .inl (cI, 4, .inl fm7)), (m8, .inl (cI, 4, .inl fm8)), (m9, .inl (cI, 4, .inl fm9)), (m10, .inl (cI, 34, .inl f22))] H := ⟨hP, hD⟩
        have hP := hPD.1
        have hD := hPD.2
        clear hPD
        try dsimp only at hw21
        have hP9 := hP.sub (ws' := [(h0, .inr (11, (.int n0 :: .int n1 :: .int (nI nq) :: .ref m3 :: .ref m4 :: .ref m5 :: .int (nI nh) :: .ref m7 :: .ref m8 :: .ref m9 :: .ref m10 :: .int (nI k14) :: .ref m12 :: .int (nI tx) :: .int n14 :: .int (nI at9) :: .int n16 :: .int n17 :: .ref m18 :: .int (nI rq) :: .ref m20 :: .ref m21 :: .ref m22 :: .ref m23 :: .ref m24 :: .int (nI rh) :: .ref m26 :: .ref m27 :: .ref m28 :: .int (nI un) :: .ref m30 :: .int n31 :: .int n32 :: .ref m33 :: .int n34 :: .int n35 :: .ref m36 :: .int (nI wm) :: .ref m38 :: .ref m39 :: .ref m40 :: .int (nI bk) :: .ref m42 :: .ref m43 :: .ref m44 :: .ref m45 :: []))), (m3, .inl (cI, 8, .inl fm3)), (m4, .inl (cI, 8, .inl fm4)), (m5, .inl (cI, 8, .inl fm5)), (m7, .inl (cI, 4, .inl fm7)), (m8, .inl (cI, 4, .inl fm8)), (m9, .inl (cI, 4, .inl fm9)), (m10, .inl (cI, 34, .inl f22))]) [0, 1, 2, 3, 4, 5, 6, 7] rfl
        have hD9 := hD.sub (ws' := [(h0, .inr (11, (.int n0 :: .int n1 :: .int (nI nq) :: .ref m3 :: .ref m4 :: .ref m5 :: .int (nI nh) :: .ref m7 :: .ref m8 :: .ref m9 :: .ref m10 :: .int (nI k14) :: .ref m12 :: .int (nI tx) :: .int n14 :: .int (nI at9) :: .int n16 :: .int n17 :: .ref m18 :: .int (nI rq) :: .ref m20 :: .ref m21 :: .ref m22 :: .ref m23 :: .ref m24 :: .int (nI rh) :: .ref m26 :: .ref m27 :: .ref m28 :: .int (nI un) :: .ref m30 :: .int n31 :: .int n32 :: .ref m33 :: .int n34 :: .int n35 :: .ref m36 :: .int (nI wm) :: .ref m38 :: .ref m39 :: .ref m40 :: .int (nI bk) :: .ref m42 :: .ref m43 :: .ref m44 :: .ref m45 :: []))), (m3, .inl (cI, 8, .inl fm3)), (m4, .inl (cI, 8, .inl fm4)), (m5, .inl (cI, 8, .inl fm5)), (m7, .inl (cI, 4, .inl fm7)), (m8, .inl (cI, 4, .inl fm8)), (m9, .inl (cI, 4, .inl fm9)), (m10, .inl (cI, 34, .inl f22))]) [0, 1, 2, 3, 4, 5, 6, 7] (by decide +kernel) rfl
        exact W.vret hx hb hr (fun t ht hW => ⟨⟨(fun _ => 0), rfl, trivial, ⟨f22, k14, by omega, va_hq ht hP9, hD9⟩⟩, hS.F ht⟩) hS.2.2 dX11_drawn_85
    ·
      have c17 : w15 = 1 := (nI_eq (a := w15) (b := 1) (by omega) (by omega)).mp c17
      refine lv_aload_n hx hb dX11_drawn_49 rfl (lv_at hl 3 rfl) ?_
      refine va_get (D := (dC, dI)) (ci := 11) (v := .ref m10) (C := RX11) (T := TX11) (N := 46) hx hb hts hi_X11 hown hK hP 7 rfl rfl 10 (by decide) (hts (.fieldLink RX11 28 "LeftQuillsModel" "now" "[I") (wmx 3 rfl)) (fun _ h9 => h9) rfl dX11_drawn_50 ?_
      refine lv_bipush (v := 16) hx hb dX11_drawn_53 (by decide) ?_
      refine lv_iload_n hx hb dX11_drawn_55 rfl (lv_at hl 2 rfl) ?_
      refine lv_iadd hx hb dX11_drawn_56 ?_
      refine lv_topi (fun z23 ez23 => ?_)
      obtain rfl : z23 = nI (16 + w5) := ez23.trans (nI_add 16 w5)
      refine lv_aload_n hx hb dX11_drawn_57 rfl (lv_at hl 3 rfl) ?_
      refine va_get (D := (dC, dI)) (ci := 11) (v := .ref m10) (C := RX11) (T := TX11) (N := 46) hx hb hts hi_X11 hown hK hP 7 rfl rfl 10 (by decide) (hts (.fieldLink RX11 28 "LeftQuillsModel" "now" "[I") (wmx 3 rfl)) (fun _ h9 => h9) rfl dX11_drawn_58 ?_
      refine lv_bipush (v := 16) hx hb dX11_drawn_61 (by decide) ?_
      refine lv_iload_n hx hb dX11_drawn_63 rfl (lv_at hl 2 rfl) ?_
      refine lv_iadd hx hb dX11_drawn_64 ?_
      refine lv_topi (fun z24 ez24 => ?_)
      obtain rfl : z24 = nI (16 + w5) := ez24.trans (nI_add 16 w5)
      refine va_iald hx hb hK hP 6 0 rfl rfl (vp_in_nI (n := 16 + w5) (N := 34) (by omega) (by decide)) dX11_drawn_65 ?_
      refine W.eq (g2 := F0 m 66 ls [.int (fm10 (16 + w5)), .int (nI (16 + w5)), .ref m10]) (congrArg (fun y9 => F0 m 66 ls (.int (fm10 y9) :: [.int (nI (16 + w5)), .ref m10])) ((nI_clamp (n := 16 + w5) (by omega)))) ?_
      refine lv_iconst (v := 1) hx hb dX11_drawn_66 (by decide) ?_
      have hPc := hP.sub (ws' := []) [] rfl
      refine va_calli (va_runS (As := [.int (fm10 (16 + w5)), .int 1]) (rest := [.int (nI (16 + w5)), .ref m10]) ⟨hx, hb, hml, hown, hts⟩ (c_X11_driedBy l dC dI cI cZ cQ (fm10 (16 + w5)) 1 H.size ) (va_cwS 2 hts gX11_drawn_X11_driedBy rfl rfl rfl (by decide +kernel) ⟨Nat.le_of_ble_eq_true rfl, Nat.le_of_ble_eq_true rfl⟩) (ps_R hK hPc) rfl rfl hl.1 rfl (lv_room (Nat.le_of_ble_eq_true rfl)) dX11_drawn_67 ⟨Nat.le_of_ble_eq_true rfl, Nat.le_of_ble_eq_true rfl⟩) hS (fun q _ h => False.elim h) (fun q h => False.elim h) (fun r25 u26 t H1 locs ht hvm hw27 hB hz1 hk1 hS => ?_)
      have hP := hP.kept (fun k q hk => hk1 q.1 (hP k q hk).lt (fun h => h))
      clear hz1 hk1 hPc
      generalize H1 = H at hP hS ht ⊢
      try dsimp only at hw27
      refine va_iast hx hb hK hP hD hS 6 0 rfl rfl (vp_in_nI (n := 16 + w5) (N := 34) (by omega) (by decide)) dX11_drawn_70 (fun H locs hP hD hS => ?_)
      generalize hgf28 : upd fm10 ((nI (16 + w5)).toNatClampNeg) r25 = f28 at hP hD
      have hPD : pdW (dC, dI) vwCl A [(m3, .inl (cI, 8, .inl fm3)), (m4, .inl (cI, 8, .inl fm4)), (m5, .inl (cI, 8, .inl fm5)), (m7, .inl (cI, 4, .inl fm7)), (m8, .inl (cI, 4, .inl fm8)), (m9, .inl (cI, 4, .inl fm9)), (m10, .inl (cI, 34, .inl f28)), (h0, .inr (11, (.int n0 :: .int n1 :: .int (nI nq) :: .ref m3 :: .ref m4 :: .ref m5 :: .int (nI nh) :: .ref m7 :: .ref m8 :: .ref m9 :: .ref m10 :: .int (nI k14) :: .ref m12 :: .int (nI tx) :: .int n14 :: .int (nI at9) :: .int n16 :: .int n17 :: .ref m18 :: .int (nI rq) :: .ref m20 :: .ref m21 :: .ref m22 :: .ref m23 :: .ref m24 :: .int (nI rh) :: .ref m26 :: .ref m27 :: .ref m28 :: .int (nI un) :: .ref m30 :: .int n31 :: .int n32 :: .ref m33 :: .int n34 :: .int n35 :: .ref m36 :: .int (nI wm) :: .ref m38 :: .ref m39 :: .ref m40 :: .int (nI bk) :: .ref m42 :: .ref m43 :: .ref m44 :: .ref m45 :: [])))] H := ⟨hP, hD⟩
      have hP := hPD.1
      have hD := hPD.2
      clear hPD
      refine lv_goto (tgt := 85) hx hb dX11_drawn_71 (by decide) ?_
      have hP9 := hP.sub (ws' := [(h0, .inr (11, (.int n0 :: .int n1 :: .int (nI nq) :: .ref m3 :: .ref m4 :: .ref m5 :: .int (nI nh) :: .ref m7 :: .ref m8 :: .ref m9 :: .ref m10 :: .int (nI k14) :: .ref m12 :: .int (nI tx) :: .int n14 :: .int (nI at9) :: .int n16 :: .int n17 :: .ref m18 :: .int (nI rq) :: .ref m20 :: .ref m21 :: .ref m22 :: .ref m23 :: .ref m24 :: .int (nI rh) :: .ref m26 :: .ref m27 :: .ref m28 :: .int (nI un) :: .ref m30 :: .int n31 :: .int n32 :: .ref m33 :: .int n34 :: .int n35 :: .ref m36 :: .int (nI wm) :: .ref m38 :: .ref m39 :: .ref m40 :: .int (nI bk) :: .ref m42 :: .ref m43 :: .ref m44 :: .ref m45 :: []))), (m3, .inl (cI, 8, .inl fm3)), (m4, .inl (cI, 8, .inl fm4)), (m5, .inl (cI, 8, .inl fm5)), (m7, .inl (cI, 4, .inl fm7)), (m8, .inl (cI, 4, .inl fm8)), (m9, .inl (cI, 4, .inl fm9)), (m10, .inl (cI, 34, .inl f28))]) [7, 0, 1, 2, 3, 4, 5, 6] rfl
      have hD9 := hD.sub (ws' := [(h0, .inr (11, (.int n0 :: .int n1 :: .int (nI nq) :: .ref m3 :: .ref m4 :: .ref m5 :: .int (nI nh) :: .ref m7 :: .ref m8 :: .ref m9 :: .ref m10 :: .int (nI k14) :: .ref m12 :: .int (nI tx) :: .int n14 :: .int (nI at9) :: .int n16 :: .int n17 :: .ref m18 :: .int (nI rq) :: .ref m20 :: .ref m21 :: .ref m22 :: .ref m23 :: .ref m24 :: .int (nI rh) :: .ref m26 :: .ref m27 :: .ref m28 :: .int (nI un) :: .ref m30 :: .int n31 :: .int n32 :: .ref m33 :: .int n34 :: .int n35 :: .ref m36 :: .int (nI wm) :: .ref m38 :: .ref m39 :: .ref m40 :: .int (nI bk) :: .ref m42 :: .ref m43 :: .ref m44 :: .ref m45 :: []))), (m3, .inl (cI, 8, .inl fm3)), (m4, .inl (cI, 8, .inl fm4)), (m5, .inl (cI, 8, .inl fm5)), (m7, .inl (cI, 4, .inl fm7)), (m8, .inl (cI, 4, .inl fm8)), (m9, .inl (cI, 4, .inl fm9)), (m10, .inl (cI, 34, .inl f28))]) [7, 0, 1, 2, 3, 4, 5, 6] (by decide +kernel) rfl
      exact W.vret hx hb hr (fun t ht hW => ⟨⟨(fun _ => 0), rfl, trivial, ⟨f28, k14, by omega, va_hq ht hP9, hD9⟩⟩, hS.F ht⟩) hS.2.2 dX11_drawn_85
  ·
    have c16 : w15 = 0 := (nI_eq (a := w15) (b := 0) (by omega) (by omega)).mp c16
    refine lv_aload_n hx hb dX11_drawn_28 rfl (lv_at hl 3 rfl) ?_
    refine lv_iload_n hx hb dX11_drawn_29 rfl (lv_at hl 2 rfl) ?_
    have hPc := hP.sub (ws' := [(h0, .inr (11, (.int n0 :: .int n1 :: .int (nI nq) :: .ref m3 :: .ref m4 :: .ref m5 :: .int (nI nh) :: .ref m7 :: .ref m8 :: .ref m9 :: .ref m10 :: .int (nI k14) :: .ref m12 :: .int (nI tx) :: .int n14 :: .int (nI at9) :: .int n16 :: .int n17 :: .ref m18 :: .int (nI rq) :: .ref m20 :: .ref m21 :: .ref m22 :: .ref m23 :: .ref m24 :: .int (nI rh) :: .ref m26 :: .ref m27 :: .ref m28 :: .int (nI un) :: .ref m30 :: .int n31 :: .int n32 :: .ref m33 :: .int n34 :: .int n35 :: .ref m36 :: .int (nI wm) :: .ref m38 :: .ref m39 :: .ref m40 :: .int (nI bk) :: .ref m42 :: .ref m43 :: .ref m44 :: .ref m45 :: []))), (m10, .inl (cI, 34, .inl fm10))]) [7, 6] rfl
    refine va_calli (va_runV (As := [.int (nI w5)]) (rest := []) ⟨hx, hb, hml, hown, hts⟩ (c_X11_mayMend l dC dI cI cZ cQ h0 n0 m10 ((.int n0 :: .int n1 :: .int (nI nq) :: .ref m3 :: .ref m4 :: .ref m5 :: .int (nI nh) :: .ref m7 :: .ref m8 :: .ref m9 :: .ref m10 :: .int (nI k14) :: .ref m12 :: .int (nI tx) :: .int n14 :: .int (nI at9) :: .int n16 :: .int n17 :: .ref m18 :: .int (nI rq) :: .ref m20 :: .ref m21 :: .ref m22 :: .ref m23 :: .ref m24 :: .int (nI rh) :: .ref m26 :: .ref m27 :: .ref m28 :: .int (nI un) :: .ref m30 :: .int n31 :: .int n32 :: .ref m33 :: .int n34 :: .int n35 :: .ref m36 :: .int (nI wm) :: .ref m38 :: .ref m39 :: .ref m40 :: .int (nI bk) :: .ref m42 :: .ref m43 :: .ref m44 :: .ref m45 :: [])) fm10 w5 H.size rfl rfl (by omega)) (cwV 1 hts gX11_drawn_X11_mayMend rfl rfl rfl hd_X11_mayMend_RX11 ⟨Nat.le_of_ble_eq_true rfl, Nat.le_of_ble_eq_true rfl⟩) (pv_R (va_recv hK hP (ci := 11) (q0 := 7) rfl rfl) hK hPc) rfl rfl hl.1 rfl (lv_room (Nat.le_of_ble_eq_true rfl)) dX11_drawn_30 ⟨Nat.le_of_ble_eq_true rfl, Nat.le_of_ble_eq_true rfl⟩) hS (fun q _ h => False.elim h) (fun q h => False.elim h) (fun r29 u30 t H1 locs ht hvm hw31 hB hz1 hk1 hS => ?_)
    have hP := hP.kept (fun k q hk => hk1 q.1 (hP k q hk).lt (fun h => h))
    clear hz1 hk1 hPc
    generalize H1 = H at hP hS ht ⊢
    try dsimp only at hw31
    rcases hw31 with rfl | rfl
    ·
      refine lv_if_eq (tgt := 44) hx hb dX11_drawn_33 (by decide) (fun c32 => ?_) (fun c32 => ?_)
      · exact absurd c32 (by decide)
      clear c32
      refine lv_aload_n hx hb dX11_drawn_36 rfl (lv_at hl 3 rfl) ?_
      refine lv_iload_n hx hb dX11_drawn_37 rfl (lv_at hl 2 rfl) ?_
      have hc9 := va_cut (W' := [(h0, .inr (11, (.int n0 :: .int n1 :: .int (nI nq) :: .ref m3 :: .ref m4 :: .ref m5 :: .int (nI nh) :: .ref m7 :: .ref m8 :: .ref m9 :: .ref m10 :: .int (nI k14) :: .ref m12 :: .int (nI tx) :: .int n14 :: .int (nI at9) :: .int n16 :: .int n17 :: .ref m18 :: .int (nI rq) :: .ref m20 :: .ref m21 :: .ref m22 :: .ref m23 :: .ref m24 :: .int (nI rh) :: .ref m26 :: .ref m27 :: .ref m28 :: .int (nI un) :: .ref m30 :: .int n31 :: .int n32 :: .ref m33 :: .int n34 :: .int n35 :: .ref m36 :: .int (nI wm) :: .ref m38 :: .ref m39 :: .ref m40 :: .int (nI bk) :: .ref m42 :: .ref m43 :: .ref m44 :: .ref m45 :: []))), (m10, .inl (cI, 34, .inl fm10))]) hP hD hS hA [7, 6] (by decide) rfl
      have hPc := hc9.1
      have hDc := hc9.2.1
      have hFc := hc9.2.2
      clear hc9
      refine va_callv (va_runV (As := [.int (nI w5)]) (rest := []) ⟨hx, hb, hml, hown, hts⟩ (c_X11_mendNow l dC dI cI cZ cQ h0 n0 n1 m10 ((.int n0 :: .int n1 :: .int (nI nq) :: .ref m3 :: .ref m4 :: .ref m5 :: .int (nI nh) :: .ref m7 :: .ref m8 :: .ref m9 :: .ref m10 :: .int (nI k14) :: .ref m12 :: .int (nI tx) :: .int n14 :: .int (nI at9) :: .int n16 :: .int n17 :: .ref m18 :: .int (nI rq) :: .ref m20 :: .ref m21 :: .ref m22 :: .ref m23 :: .ref m24 :: .int (nI rh) :: .ref m26 :: .ref m27 :: .ref m28 :: .int (nI un) :: .ref m30 :: .int n31 :: .int n32 :: .ref m33 :: .int n34 :: .int n35 :: .ref m36 :: .int (nI wm) :: .ref m38 :: .ref m39 :: .ref m40 :: .int (nI bk) :: .ref m42 :: .ref m43 :: .ref m44 :: .ref m45 :: [])) fm10 w5 H.size rfl rfl rfl (by omega)) (cwV 1 hts gX11_drawn_X11_mendNow rfl rfl rfl hd_X11_mendNow_RX11 ⟨Nat.le_of_ble_eq_true rfl, Nat.le_of_ble_eq_true rfl⟩) (pv_D (va_recv hK hP (ci := 11) (q0 := 7) rfl rfl) hK hPc hDc) rfl rfl hl.1 rfl (lv_room (Nat.le_of_ble_eq_true rfl)) dX11_drawn_38 ⟨Nat.le_of_ble_eq_true rfl, Nat.le_of_ble_eq_true rfl⟩) hS (fun q _ h => hFc q h) hFc (fun u34 t H1 locs ht hvm hw35 hB hz1 hk1 hS => ?_)
      obtain ⟨f36, hP1, hD1⟩ := hB
      replace hP1 := va_hp ht hP1
      obtain ⟨hP, hD⟩ := va_join (wr := [(m3, .inl (cI, 8, .inl fm3)), (m4, .inl (cI, 8, .inl fm4)), (m5, .inl (cI, 8, .inl fm5)), (m7, .inl (cI, 4, .inl fm7)), (m8, .inl (cI, 4, .inl fm8)), (m9, .inl (cI, 4, .inl fm9))]) (w1 := [(h0, .inr (11, (.int n0 :: .int n1 :: .int (nI nq) :: .ref m3 :: .ref m4 :: .ref m5 :: .int (nI nh) :: .ref m7 :: .ref m8 :: .ref m9 :: .ref m10 :: .int (nI k14) :: .ref m12 :: .int (nI tx) :: .int n14 :: .int (nI at9) :: .int n16 :: .int n17 :: .ref m18 :: .int (nI rq) :: .ref m20 :: .ref m21 :: .ref m22 :: .ref m23 :: .ref m24 :: .int (nI rh) :: .ref m26 :: .ref m27 :: .ref m28 :: .int (nI un) :: .ref m30 :: .int n31 :: .int n32 :: .ref m33 :: .int n34 :: .int n35 :: .ref m36 :: .int (nI wm) :: .ref m38 :: .ref m39 :: .ref m40 :: .int (nI bk) :: .ref m42 :: .ref m43 :: .ref m44 :: .ref m45 :: []))), (m10, .inl (cI, 34, .inl f36))]) hP hD [7, 6] [0, 1, 2, 3, 4, 5] rfl rfl (by decide +kernel) (by decide +kernel) hk1 hFc hP1 hD1
      clear hP1 hD1
      clear hz1 hk1 hPc hDc hFc
      generalize H1 = H at hP hS ht ⊢
      have hPD : pdW (dC, dI) vwCl A [(m3, .inl (cI, 8, .inl fm3)), (m4, .inl (cI, 8, .inl fm4)), (m5, .inl (cI, 8, .inl fm5)), (m7, .inl (cI, 4, .inl fm7)), (m8, .inl (cI, 4, .inl fm8)), (m9, .inl (cI, 4, .inl fm9)), (h0, .inr (11, (.int n0 :: .int n1 :: .int (nI nq) :: .ref m3 :: .ref m4 :: .ref m5 :: .int (nI nh) :: .ref m7 :: .ref m8 :: .ref m9 :: .ref m10 :: .int (nI k14) :: .ref m12 :: .int (nI tx) :: .int n14 :: .int (nI at9) :: .int n16 :: .int n17 :: .ref m18 :: .int (nI rq) :: .ref m20 :: .ref m21 :: .ref m22 :: .ref m23 :: .ref m24 :: .int (nI rh) :: .ref m26 :: .ref m27 :: .ref m28 :: .int (nI un) :: .ref m30 :: .int n31 :: .int n32 :: .ref m33 :: .int n34 :: .int n35 :: .ref m36 :: .int (nI wm) :: .ref m38 :: .ref m39 :: .ref m40 :: .int (nI bk) :: .ref m42 :: .ref m43 :: .ref m44 :: .ref m45 :: []))), (m10, .inl (cI, 34, .inl f36))] H := ⟨hP, hD⟩
      have hP := hPD.1
      have hD := hPD.2
      clear hPD
      try dsimp only at hw35
      refine lv_goto (tgt := 85) hx hb dX11_drawn_41 (by decide) ?_
      have hP9 := hP.sub (ws' := [(h0, .inr (11, (.int n0 :: .int n1 :: .int (nI nq) :: .ref m3 :: .ref m4 :: .ref m5 :: .int (nI nh) :: .ref m7 :: .ref m8 :: .ref m9 :: .ref m10 :: .int (nI k14) :: .ref m12 :: .int (nI tx) :: .int n14 :: .int (nI at9) :: .int n16 :: .int n17 :: .ref m18 :: .int (nI rq) :: .ref m20 :: .ref m21 :: .ref m22 :: .ref m23 :: .ref m24 :: .int (nI rh) :: .ref m26 :: .ref m27 :: .ref m28 :: .int (nI un) :: .ref m30 :: .int n31 :: .int n32 :: .ref m33 :: .int n34 :: .int n35 :: .ref m36 :: .int (nI wm) :: .ref m38 :: .ref m39 :: .ref m40 :: .int (nI bk) :: .ref m42 :: .ref m43 :: .ref m44 :: .ref m45 :: []))), (m3, .inl (cI, 8, .inl fm3)), (m4, .inl (cI, 8, .inl fm4)), (m5, .inl (cI, 8, .inl fm5)), (m7, .inl (cI, 4, .inl fm7)), (m8, .inl (cI, 4, .inl fm8)), (m9, .inl (cI, 4, .inl fm9)), (m10, .inl (cI, 34, .inl f36))]) [6, 0, 1, 2, 3, 4, 5, 7] rfl
      have hD9 := hD.sub (ws' := [(h0, .inr (11, (.int n0 :: .int n1 :: .int (nI nq) :: .ref m3 :: .ref m4 :: .ref m5 :: .int (nI nh) :: .ref m7 :: .ref m8 :: .ref m9 :: .ref m10 :: .int (nI k14) :: .ref m12 :: .int (nI tx) :: .int n14 :: .int (nI at9) :: .int n16 :: .int n17 :: .ref m18 :: .int (nI rq) :: .ref m20 :: .ref m21 :: .ref m22 :: .ref m23 :: .ref m24 :: .int (nI rh) :: .ref m26 :: .ref m27 :: .ref m28 :: .int (nI un) :: .ref m30 :: .int n31 :: .int n32 :: .ref m33 :: .int n34 :: .int n35 :: .ref m36 :: .int (nI wm) :: .ref m38 :: .ref m39 :: .ref m40 :: .int (nI bk) :: .ref m42 :: .ref m43 :: .ref m44 :: .ref m45 :: []))), (m3, .inl (cI, 8, .inl fm3)), (m4, .inl (cI, 8, .inl fm4)), (m5, .inl (cI, 8, .inl fm5)), (m7, .inl (cI, 4, .inl fm7)), (m8, .inl (cI, 4, .inl fm8)), (m9, .inl (cI, 4, .inl fm9)), (m10, .inl (cI, 34, .inl f36))]) [6, 0, 1, 2, 3, 4, 5, 7] (by decide +kernel) rfl
      exact W.vret hx hb hr (fun t ht hW => ⟨⟨(fun _ => 0), rfl, trivial, ⟨f36, k14, by omega, va_hq ht hP9, hD9⟩⟩, hS.F ht⟩) hS.2.2 dX11_drawn_85
    ·
      refine lv_if_eq (tgt := 44) hx hb dX11_drawn_33 (by decide) (fun c37 => ?_) (fun c37 => ?_)
      rotate_left
      · exact absurd c37 (by decide)
      clear c37
      refine lv_iload_n hx hb dX11_drawn_44 rfl (lv_at hl 0 rfl) ?_
      refine lv_iconst (v := 1) hx hb dX11_drawn_45 (by decide) ?_
      refine lv_icmp_ne (tgt := 74) hx hb dX11_drawn_46 (by decide) (fun c38 => ?_) (fun c38 => ?_)
      ·
        have c38 : ¬ w15 = 1 := fun h => c38 ((nI_eq (a := w15) (b := 1) (by omega) (by omega)).mpr h)
        refine lv_iload_n hx hb dX11_drawn_74 rfl (lv_at hl 0 rfl) ?_
        refine lv_iconst (v := 2) hx hb dX11_drawn_75 (by decide) ?_
        refine lv_icmp_ne (tgt := 85) hx hb dX11_drawn_76 (by decide) (fun c39 => ?_) (fun c39 => ?_)
        ·
          have c39 : ¬ w15 = 2 := fun h => c39 ((nI_eq (a := w15) (b := 2) (by omega) (by omega)).mpr h)
          have hP9 := hP.sub (ws' := [(h0, .inr (11, (.int n0 :: .int n1 :: .int (nI nq) :: .ref m3 :: .ref m4 :: .ref m5 :: .int (nI nh) :: .ref m7 :: .ref m8 :: .ref m9 :: .ref m10 :: .int (nI k14) :: .ref m12 :: .int (nI tx) :: .int n14 :: .int (nI at9) :: .int n16 :: .int n17 :: .ref m18 :: .int (nI rq) :: .ref m20 :: .ref m21 :: .ref m22 :: .ref m23 :: .ref m24 :: .int (nI rh) :: .ref m26 :: .ref m27 :: .ref m28 :: .int (nI un) :: .ref m30 :: .int n31 :: .int n32 :: .ref m33 :: .int n34 :: .int n35 :: .ref m36 :: .int (nI wm) :: .ref m38 :: .ref m39 :: .ref m40 :: .int (nI bk) :: .ref m42 :: .ref m43 :: .ref m44 :: .ref m45 :: []))), (m3, .inl (cI, 8, .inl fm3)), (m4, .inl (cI, 8, .inl fm4)), (m5, .inl (cI, 8, .inl fm5)), (m7, .inl (cI, 4, .inl fm7)), (m8, .inl (cI, 4, .inl fm8)), (m9, .inl (cI, 4, .inl fm9)), (m10, .inl (cI, 34, .inl fm10))]) [7, 0, 1, 2, 3, 4, 5, 6] rfl
          have hD9 := hD.sub (ws' := [(h0, .inr (11, (.int n0 :: .int n1 :: .int (nI nq) :: .ref m3 :: .ref m4 :: .ref m5 :: .int (nI nh) :: .ref m7 :: .ref m8 :: .ref m9 :: .ref m10 :: .int (nI k14) :: .ref m12 :: .int (nI tx) :: .int n14 :: .int (nI at9) :: .int n16 :: .int n17 :: .ref m18 :: .int (nI rq) :: .ref m20 :: .ref m21 :: .ref m22 :: .ref m23 :: .ref m24 :: .int (nI rh) :: .ref m26 :: .ref m27 :: .ref m28 :: .int (nI un) :: .ref m30 :: .int n31 :: .int n32 :: .ref m33 :: .int n34 :: .int n35 :: .ref m36 :: .int (nI wm) :: .ref m38 :: .ref m39 :: .ref m40 :: .int (nI bk) :: .ref m42 :: .ref m43 :: .ref m44 :: .ref m45 :: []))), (m3, .inl (cI, 8, .inl fm3)), (m4, .inl (cI, 8, .inl fm4)), (m5, .inl (cI, 8, .inl fm5)), (m7, .inl (cI, 4, .inl fm7)), (m8, .inl (cI, 4, .inl fm8)), (m9, .inl (cI, 4, .inl fm9)), (m10, .inl (cI, 34, .inl fm10))]) [7, 0, 1, 2, 3, 4, 5, 6] (by decide +kernel) rfl
          exact W.vret hx hb hr (fun t ht hW => ⟨⟨(fun _ => 0), rfl, trivial, ⟨fm10, k14, by omega, va_hq ht hP9, hD9⟩⟩, hS.F ht⟩) hS.2.2 dX11_drawn_85
        ·
          have c39 : w15 = 2 := (nI_eq (a := w15) (b := 2) (by omega) (by omega)).mp c39
          refine lv_aload_n hx hb dX11_drawn_79 rfl (lv_at hl 3 rfl) ?_
          refine lv_iload_n hx hb dX11_drawn_80 rfl (lv_at hl 2 rfl) ?_
          refine lv_iload_n hx hb dX11_drawn_81 rfl (lv_at hl 1 rfl) ?_
          have hc9 := va_cut (W' := [(h0, .inr (11, (.int n0 :: .int n1 :: .int (nI nq) :: .ref m3 :: .ref m4 :: .ref m5 :: .int (nI nh) :: .ref m7 :: .ref m8 :: .ref m9 :: .ref m10 :: .int (nI k14) :: .ref m12 :: .int (nI tx) :: .int n14 :: .int (nI at9) :: .int n16 :: .int n17 :: .ref m18 :: .int (nI rq) :: .ref m20 :: .ref m21 :: .ref m22 :: .ref m23 :: .ref m24 :: .int (nI rh) :: .ref m26 :: .ref m27 :: .ref m28 :: .int (nI un) :: .ref m30 :: .int n31 :: .int n32 :: .ref m33 :: .int n34 :: .int n35 :: .ref m36 :: .int (nI wm) :: .ref m38 :: .ref m39 :: .ref m40 :: .int (nI bk) :: .ref m42 :: .ref m43 :: .ref m44 :: .ref m45 :: []))), (m3, .inl (cI, 8, .inl fm3)), (m4, .inl (cI, 8, .inl fm4)), (m5, .inl (cI, 8, .inl fm5)), (m7, .inl (cI, 4, .inl fm7)), (m8, .inl (cI, 4, .inl fm8)), (m9, .inl (cI, 4, .inl fm9)), (m10, .inl (cI, 34, .inl fm10))]) hP hD hS hA [7, 0, 1, 2, 3, 4, 5, 6] (by decide) rfl
          have hPc := hc9.1
          have hDc := hc9.2.1
          have hFc := hc9.2.2
          clear hc9
          refine va_callv (va_runV (As := [.int (nI w5), .int (nI w10)]) (rest := []) ⟨hx, hb, hml, hown, hts⟩ (c_X11_pageOf l dC dI cI cZ cQ h0 m3 m4 m5 m7 m8 m9 m10 ((.int n0 :: .int n1 :: .int (nI nq) :: .ref m3 :: .ref m4 :: .ref m5 :: .int (nI nh) :: .ref m7 :: .ref m8 :: .ref m9 :: .ref m10 :: .int (nI k14) :: .ref m12 :: .int (nI tx) :: .int n14 :: .int (nI at9) :: .int n16 :: .int n17 :: .ref m18 :: .int (nI rq) :: .ref m20 :: .ref m21 :: .ref m22 :: .ref m23 :: .ref m24 :: .int (nI rh) :: .ref m26 :: .ref m27 :: .ref m28 :: .int (nI un) :: .ref m30 :: .int n31 :: .int n32 :: .ref m33 :: .int n34 :: .int n35 :: .ref m36 :: .int (nI wm) :: .ref m38 :: .ref m39 :: .ref m40 :: .int (nI bk) :: .ref m42 :: .ref m43 :: .ref m44 :: .ref m45 :: [])) fm3 fm4 fm5 fm7 fm8 fm9 fm10 w5 w10 nq H.size rfl rfl rfl rfl rfl rfl rfl (by omega) (by first | assumption | decide) (by omega) (by omega)) (cwV 2 hts gX11_drawn_X11_pageOf rfl rfl rfl hd_X11_pageOf_RX11 ⟨Nat.le_of_ble_eq_true rfl, Nat.le_of_ble_eq_true rfl⟩) (pv_D (va_recv hK hP (ci := 11) (q0 := 7) rfl rfl) hK hPc hDc) rfl rfl hl.1 rfl (lv_room (Nat.le_of_ble_eq_true rfl)) dX11_drawn_82 ⟨Nat.le_of_ble_eq_true rfl, Nat.le_of_ble_eq_true rfl⟩) hS (fun q _ h => hFc q h) hFc (fun u41 t H1 locs ht hvm hw42 hB hz1 hk1 hS => ?_)
          obtain ⟨f43, hP1, hD1⟩ := hB
          replace hP1 := va_hp ht hP1
          obtain ⟨hP, hD⟩ := va_join (wr := []) (w1 := [(h0, .inr (11, (.int n0 :: .int n1 :: .int (nI nq) :: .ref m3 :: .ref m4 :: .ref m5 :: .int (nI nh) :: .ref m7 :: .ref m8 :: .ref m9 :: .ref m10 :: .int (nI k14) :: .ref m12 :: .int (nI tx) :: .int n14 :: .int (nI at9) :: .int n16 :: .int n17 :: .ref m18 :: .int (nI rq) :: .ref m20 :: .ref m21 :: .ref m22 :: .ref m23 :: .ref m24 :: .int (nI rh) :: .ref m26 :: .ref m27 :: .ref m28 :: .int (nI un) :: .ref m30 :: .int n31 :: .int n32 :: .ref m33 :: .int n34 :: .int n35 :: .ref m36 :: .int (nI wm) :: .ref m38 :: .ref m39 :: .ref m40 :: .int (nI bk) :: .ref m42 :: .ref m43 :: .ref m44 :: .ref m45 :: []))), (m3, .inl (cI, 8, .inl fm3)), (m4, .inl (cI, 8, .inl fm4)), (m5, .inl (cI, 8, .inl fm5)), (m7, .inl (cI, 4, .inl fm7)), (m8, .inl (cI, 4, .inl fm8)), (m9, .inl (cI, 4, .inl fm9)), (m10, .inl (cI, 34, .inl f43))]) hP hD [7, 0, 1, 2, 3, 4, 5, 6] [] rfl rfl (by decide +kernel) (by decide +kernel) hk1 hFc hP1 hD1
          clear hP1 hD1
          clear hz1 hk1 hPc hDc hFc
          generalize H1 = H at hP hS ht ⊢
          have hPD : pdW (dC, dI) vwCl A [(h0, .inr (11, (.int n0 :: .int n1 :: .int (nI nq) :: .ref m3 :: .ref m4 :: .ref m5 :: .int (nI nh) :: .ref m7 :: .ref m8 :: .ref m9 :: .ref m10 :: .int (nI k14) :: .ref m12 :: .int (nI tx) :: .int n14 :: .int (nI at9) :: .int n16 :: .int n17 :: .ref m18 :: .int (nI rq) :: .ref m20 :: .ref m21 :: .ref m22 :: .ref m23 :: .ref m24 :: .int (nI rh) :: .ref m26 :: .ref m27 :: .ref m28 :: .int (nI un) :: .ref m30 :: .int n31 :: .int n32 :: .ref m33 :: .int n34 :: .int n35 :: .ref m36 :: .int (nI wm) :: .ref m38 :: .ref m39 :: .ref m40 :: .int (nI bk) :: .ref m42 :: .ref m43 :: .ref m44 :: .ref m45 :: []))), (m3, .inl (cI, 8, .inl fm3)), (m4, .inl (cI, 8, .inl fm4)), (m5, .inl (cI, 8, .inl fm5)), (m7, .inl (cI, 4, .inl fm7)), (m8, .inl (cI, 4, .inl fm8)), (m9, .inl (cI, 4, .inl fm9)), (m10, .inl (cI, 34, .inl f43))] H := ⟨hP, hD⟩
          have hP := hPD.1
          have hD := hPD.2
          clear hPD
          try dsimp only at hw42
          have hP9 := hP.sub (ws' := [(h0, .inr (11, (.int n0 :: .int n1 :: .int (nI nq) :: .ref m3 :: .ref m4 :: .ref m5 :: .int (nI nh) :: .ref m7 :: .ref m8 :: .ref m9 :: .ref m10 :: .int (nI k14) :: .ref m12 :: .int (nI tx) :: .int n14 :: .int (nI at9) :: .int n16 :: .int n17 :: .ref m18 :: .int (nI rq) :: .ref m20 :: .ref m21 :: .ref m22 :: .ref m23 :: .ref m24 :: .int (nI rh) :: .ref m26 :: .ref m27 :: .ref m28 :: .int (nI un) :: .ref m30 :: .int n31 :: .int n32 :: .ref m33 :: .int n34 :: .int n35 :: .ref m36 :: .int (nI wm) :: .ref m38 :: .ref m39 :: .ref m40 :: .int (nI bk) :: .ref m42 :: .ref m43 :: .ref m44 :: .ref m45 :: []))), (m3, .inl (cI, 8, .inl fm3)), (m4, .inl (cI, 8, .inl fm4)), (m5, .inl (cI, 8, .inl fm5)), (m7, .inl (cI, 4, .inl fm7)), (m8, .inl (cI, 4, .inl fm8)), (m9, .inl (cI, 4, .inl fm9)), (m10, .inl (cI, 34, .inl f43))]) [0, 1, 2, 3, 4, 5, 6, 7] rfl
          have hD9 := hD.sub (ws' := [(h0, .inr (11, (.int n0 :: .int n1 :: .int (nI nq) :: .ref m3 :: .ref m4 :: .ref m5 :: .int (nI nh) :: .ref m7 :: .ref m8 :: .ref m9 :: .ref m10 :: .int (nI k14) :: .ref m12 :: .int (nI tx) :: .int n14 :: .int (nI at9) :: .int n16 :: .int n17 :: .ref m18 :: .int (nI rq) :: .ref m20 :: .ref m21 :: .ref m22 :: .ref m23 :: .ref m24 :: .int (nI rh) :: .ref m26 :: .ref m27 :: .ref m28 :: .int (nI un) :: .ref m30 :: .int n31 :: .int n32 :: .ref m33 :: .int n34 :: .int n35 :: .ref m36 :: .int (nI wm) :: .ref m38 :: .ref m39 :: .ref m40 :: .int (nI bk) :: .ref m42 :: .ref m43 :: .ref m44 :: .ref m45 :: []))), (m3, .inl (cI, 8, .inl fm3)), (m4, .inl (cI, 8, .inl fm4)), (m5, .inl (cI, 8, .inl fm5)), (m7, .inl (cI, 4, .inl fm7)), (m8, .inl (cI, 4, .inl fm8)), (m9, .inl (cI, 4, .inl fm9)), (m10, .inl (cI, 34, .inl f43))]) [0, 1, 2, 3, 4, 5, 6, 7] (by decide +kernel) rfl
          exact W.vret hx hb hr (fun t ht hW => ⟨⟨(fun _ => 0), rfl, trivial, ⟨f43, k14, by omega, va_hq ht hP9, hD9⟩⟩, hS.F ht⟩) hS.2.2 dX11_drawn_85
      ·
        have c38 : w15 = 1 := (nI_eq (a := w15) (b := 1) (by omega) (by omega)).mp c38
        refine lv_aload_n hx hb dX11_drawn_49 rfl (lv_at hl 3 rfl) ?_
        refine va_get (D := (dC, dI)) (ci := 11) (v := .ref m10) (C := RX11) (T := TX11) (N := 46) hx hb hts hi_X11 hown hK hP 7 rfl rfl 10 (by decide) (hts (.fieldLink RX11 28 "LeftQuillsModel" "now" "[I") (wmx 3 rfl)) (fun _ h9 => h9) rfl dX11_drawn_50 ?_
        refine lv_bipush (v := 16) hx hb dX11_drawn_53 (by decide) ?_
        refine lv_iload_n hx hb dX11_drawn_55 rfl (lv_at hl 2 rfl) ?_
        refine lv_iadd hx hb dX11_drawn_56 ?_
        refine lv_topi (fun z44 ez44 => ?_)
        obtain rfl : z44 = nI (16 + w5) := ez44.trans (nI_add 16 w5)
        refine lv_aload_n hx hb dX11_drawn_57 rfl (lv_at hl 3 rfl) ?_
        refine va_get (D := (dC, dI)) (ci := 11) (v := .ref m10) (C := RX11) (T := TX11) (N := 46) hx hb hts hi_X11 hown hK hP 7 rfl rfl 10 (by decide) (hts (.fieldLink RX11 28 "LeftQuillsModel" "now" "[I") (wmx 3 rfl)) (fun _ h9 => h9) rfl dX11_drawn_58 ?_
        refine lv_bipush (v := 16) hx hb dX11_drawn_61 (by decide) ?_
        refine lv_iload_n hx hb dX11_drawn_63 rfl (lv_at hl 2 rfl) ?_
        refine lv_iadd hx hb dX11_drawn_64 ?_
        refine lv_topi (fun z45 ez45 => ?_)
        obtain rfl : z45 = nI (16 + w5) := ez45.trans (nI_add 16 w5)
        refine va_iald hx hb hK hP 6 0 rfl rfl (vp_in_nI (n := 16 + w5) (N := 34) (by omega) (by decide)) dX11_drawn_65 ?_
        refine W.eq (g2 := F0 m 66 ls [.int (fm10 (16 + w5)), .int (nI (16 + w5)), .ref m10]) (congrArg (fun y9 => F0 m 66 ls (.int (fm10 y9) :: [.int (nI (16 + w5)), .ref m10])) ((nI_clamp (n := 16 + w5) (by omega)))) ?_
        refine lv_iconst (v := 1) hx hb dX11_drawn_66 (by decide) ?_
        have hPc := hP.sub (ws' := []) [] rfl
        refine va_calli (va_runS (As := [.int (fm10 (16 + w5)), .int 1]) (rest := [.int (nI (16 + w5)), .ref m10]) ⟨hx, hb, hml, hown, hts⟩ (c_X11_driedBy l dC dI cI cZ cQ (fm10 (16 + w5)) 1 H.size ) (va_cwS 2 hts gX11_drawn_X11_driedBy rfl rfl rfl (by decide +kernel) ⟨Nat.le_of_ble_eq_true rfl, Nat.le_of_ble_eq_true rfl⟩) (ps_R hK hPc) rfl rfl hl.1 rfl (lv_room (Nat.le_of_ble_eq_true rfl)) dX11_drawn_67 ⟨Nat.le_of_ble_eq_true rfl, Nat.le_of_ble_eq_true rfl⟩) hS (fun q _ h => False.elim h) (fun q h => False.elim h) (fun r46 u47 t H1 locs ht hvm hw48 hB hz1 hk1 hS => ?_)
        have hP := hP.kept (fun k q hk => hk1 q.1 (hP k q hk).lt (fun h => h))
        clear hz1 hk1 hPc
        generalize H1 = H at hP hS ht ⊢
        try dsimp only at hw48
        refine va_iast hx hb hK hP hD hS 6 0 rfl rfl (vp_in_nI (n := 16 + w5) (N := 34) (by omega) (by decide)) dX11_drawn_70 (fun H locs hP hD hS => ?_)
        generalize hgf49 : upd fm10 ((nI (16 + w5)).toNatClampNeg) r46 = f49 at hP hD
        have hPD : pdW (dC, dI) vwCl A [(m3, .inl (cI, 8, .inl fm3)), (m4, .inl (cI, 8, .inl fm4)), (m5, .inl (cI, 8, .inl fm5)), (m7, .inl (cI, 4, .inl fm7)), (m8, .inl (cI, 4, .inl fm8)), (m9, .inl (cI, 4, .inl fm9)), (m10, .inl (cI, 34, .inl f49)), (h0, .inr (11, (.int n0 :: .int n1 :: .int (nI nq) :: .ref m3 :: .ref m4 :: .ref m5 :: .int (nI nh) :: .ref m7 :: .ref m8 :: .ref m9 :: .ref m10 :: .int (nI k14) :: .ref m12 :: .int (nI tx) :: .int n14 :: .int (nI at9) :: .int n16 :: .int n17 :: .ref m18 :: .int (nI rq) :: .ref m20 :: .ref m21 :: .ref m22 :: .ref m23 :: .ref m24 :: .int (nI rh) :: .ref m26 :: .ref m27 :: .ref m28 :: .int (nI un) :: .ref m30 :: .int n31 :: .int n32 :: .ref m33 :: .int n34 :: .int n35 :: .ref m36 :: .int (nI wm) :: .ref m38 :: .ref m39 :: .ref m40 :: .int (nI bk) :: .ref m42 :: .ref m43 :: .ref m44 :: .ref m45 :: [])))] H := ⟨hP, hD⟩
        have hP := hPD.1
        have hD := hPD.2
        clear hPD
        refine lv_goto (tgt := 85) hx hb dX11_drawn_71 (by decide) ?_
        have hP9 := hP.sub (ws' := [(h0, .inr (11, (.int n0 :: .int n1 :: .int (nI nq) :: .ref m3 :: .ref m4 :: .ref m5 :: .int (nI nh) :: .ref m7 :: .ref m8 :: .ref m9 :: .ref m10 :: .int (nI k14) :: .ref m12 :: .int (nI tx) :: .int n14 :: .int (nI at9) :: .int n16 :: .int n17 :: .ref m18 :: .int (nI rq) :: .ref m20 :: .ref m21 :: .ref m22 :: .ref m23 :: .ref m24 :: .int (nI rh) :: .ref m26 :: .ref m27 :: .ref m28 :: .int (nI un) :: .ref m30 :: .int n31 :: .int n32 :: .ref m33 :: .int n34 :: .int n35 :: .ref m36 :: .int (nI wm) :: .ref m38 :: .ref m39 :: .ref m40 :: .int (nI bk) :: .ref m42 :: .ref m43 :: .ref m44 :: .ref m45 :: []))), (m3, .inl (cI, 8, .inl fm3)), (m4, .inl (cI, 8, .inl fm4)), (m5, .inl (cI, 8, .inl fm5)), (m7, .inl (cI, 4, .inl fm7)), (m8, .inl (cI, 4, .inl fm8)), (m9, .inl (cI, 4, .inl fm9)), (m10, .inl (cI, 34, .inl f49))]) [7, 0, 1, 2, 3, 4, 5, 6] rfl
        have hD9 := hD.sub (ws' := [(h0, .inr (11, (.int n0 :: .int n1 :: .int (nI nq) :: .ref m3 :: .ref m4 :: .ref m5 :: .int (nI nh) :: .ref m7 :: .ref m8 :: .ref m9 :: .ref m10 :: .int (nI k14) :: .ref m12 :: .int (nI tx) :: .int n14 :: .int (nI at9) :: .int n16 :: .int n17 :: .ref m18 :: .int (nI rq) :: .ref m20 :: .ref m21 :: .ref m22 :: .ref m23 :: .ref m24 :: .int (nI rh) :: .ref m26 :: .ref m27 :: .ref m28 :: .int (nI un) :: .ref m30 :: .int n31 :: .int n32 :: .ref m33 :: .int n34 :: .int n35 :: .ref m36 :: .int (nI wm) :: .ref m38 :: .ref m39 :: .ref m40 :: .int (nI bk) :: .ref m42 :: .ref m43 :: .ref m44 :: .ref m45 :: []))), (m3, .inl (cI, 8, .inl fm3)), (m4, .inl (cI, 8, .inl fm4)), (m5, .inl (cI, 8, .inl fm5)), (m7, .inl (cI, 4, .inl fm7)), (m8, .inl (cI, 4, .inl fm8)), (m9, .inl (cI, 4, .inl fm9)), (m10, .inl (cI, 34, .inl f49))]) [7, 0, 1, 2, 3, 4, 5, 6] (by decide +kernel) rfl
        exact W.vret hx hb hr (fun t ht hW => ⟨⟨(fun _ => 0), rfl, trivial, ⟨f49, k14, by omega, va_hq ht hP9, hD9⟩⟩, hS.F ht⟩) hS.2.2 dX11_drawn_85
set_option maxHeartbeats 4000000 in
set_option maxRecDepth 100000 in
theorem c_X11_drift (l : Launch) (dC : Nat → ClassId) (dI : Nat → Nat → Nat) (cI cZ cQ : ClassId) (h0 : Nat) (n0 : Int32) (n1 : Int32) (nq : Nat) (m3 : Nat) (m4 : Nat) (m5 : Nat) (nh : Nat) (m7 : Nat) (m8 : Nat) (m9 : Nat) (m10 : Nat) (sd : Nat) (m12 : Nat) (tx : Nat) (n14 : Int32) (at9 : Nat) (n16 : Int32) (n17 : Int32) (m18 : Nat) (rq : Nat) (m20 : Nat) (m21 : Nat) (m22 : Nat) (m23 : Nat) (m24 : Nat) (rh : Nat) (m26 : Nat) (m27 : Nat) (m28 : Nat) (un : Nat) (m30 : Nat) (n31 : Int32) (n32 : Int32) (m33 : Nat) (n34 : Int32) (n35 : Int32) (m36 : Nat) (wm : Nat) (m38 : Nat) (m39 : Nat) (m40 : Nat) (bk : Nat) (m42 : Nat) (m43 : Nat) (m44 : Nat) (m45 : Nat) (fm3 : Nat → Int32) (fm4 : Nat → Int32) (fm5 : Nat → Int32) (fm7 : Nat → Int32) (fm8 : Nat → Int32) (fm9 : Nat → Int32) (fm10 : Nat → Int32) (fm30 : Nat → Int32) (q0 : Int32) (sz : Nat) (hnq : nq ≤ 8) (hci : cIn fm5 nq) (hnh : nh ≤ 4) (hsd : sd ≤ 2147483647) (hun : un ≤ 20) : Met l yX11_drift wsX11_drift ({ frames := 6, cells := 0, slots := 0, locals := 177 }) (va_Pc [.ref h0, .int q0] (fun U => U.heap.size = sz ∧ va_P (dC, dI) vwCl [(h0, .inr (11, (.int n0 :: .int n1 :: .int (nI nq) :: .ref m3 :: .ref m4 :: .ref m5 :: .int (nI nh) :: .ref m7 :: .ref m8 :: .ref m9 :: .ref m10 :: .int (nI sd) :: .ref m12 :: .int (nI tx) :: .int n14 :: .int (nI at9) :: .int n16 :: .int n17 :: .ref m18 :: .int (nI rq) :: .ref m20 :: .ref m21 :: .ref m22 :: .ref m23 :: .ref m24 :: .int (nI rh) :: .ref m26 :: .ref m27 :: .ref m28 :: .int (nI un) :: .ref m30 :: .int n31 :: .int n32 :: .ref m33 :: .int n34 :: .int n35 :: .ref m36 :: .int (nI wm) :: .ref m38 :: .ref m39 :: .ref m40 :: .int (nI bk) :: .ref m42 :: .ref m43 :: .ref m44 :: .ref m45 :: []))), (m3, .inl (cI, 8, .inl fm3)), (m4, .inl (cI, 8, .inl fm4)), (m5, .inl (cI, 8, .inl fm5)), (m7, .inl (cI, 4, .inl fm7)), (m8, .inl (cI, 4, .inl fm8)), (m9, .inl (cI, 4, .inl fm9)), (m10, .inl (cI, 34, .inl fm10)), (m30, .inl (cI, 680, .inl fm30))] U.heap ∧ va_K (dC, dI) vwCl (tys0 cI cZ cQ) U ∧ va_D (fun _ => True) [(h0, .inr (11, (.int n0 :: .int n1 :: .int (nI nq) :: .ref m3 :: .ref m4 :: .ref m5 :: .int (nI nh) :: .ref m7 :: .ref m8 :: .ref m9 :: .ref m10 :: .int (nI sd) :: .ref m12 :: .int (nI tx) :: .int n14 :: .int (nI at9) :: .int n16 :: .int n17 :: .ref m18 :: .int (nI rq) :: .ref m20 :: .ref m21 :: .ref m22 :: .ref m23 :: .ref m24 :: .int (nI rh) :: .ref m26 :: .ref m27 :: .ref m28 :: .int (nI un) :: .ref m30 :: .int n31 :: .int n32 :: .ref m33 :: .int n34 :: .int n35 :: .ref m36 :: .int (nI wm) :: .ref m38 :: .ref m39 :: .ref m40 :: .int (nI bk) :: .ref m42 :: .ref m43 :: .ref m44 :: .ref m45 :: []))), (m3, .inl (cI, 8, .inl fm3)), (m4, .inl (cI, 8, .inl fm4)), (m5, .inl (cI, 8, .inl fm5)), (m7, .inl (cI, 4, .inl fm7)), (m8, .inl (cI, 4, .inl fm8)), (m9, .inl (cI, 4, .inl fm9)), (m10, .inl (cI, 34, .inl fm10)), (m30, .inl (cI, 680, .inl fm30))])) (va_Qi (fun (r : Int32) (u : Nat → Nat) => True) (fun (_ : Nat → Nat) (t : State) => ∃ (gg0 gg1 : Nat → Int32) (kk0 kk1 : Nat), kk0 ≤ 2147483647 ∧ kk1 ≤ 20 ∧ va_P (dC, dI) vwCl [(h0, .inr (11, (.int n0 :: .int n1 :: .int (nI nq) :: .ref m3 :: .ref m4 :: .ref m5 :: .int (nI nh) :: .ref m7 :: .ref m8 :: .ref m9 :: .ref m10 :: .int (nI kk0) :: .ref m12 :: .int (nI tx) :: .int n14 :: .int (nI at9) :: .int n16 :: .int n17 :: .ref m18 :: .int (nI rq) :: .ref m20 :: .ref m21 :: .ref m22 :: .ref m23 :: .ref m24 :: .int (nI rh) :: .ref m26 :: .ref m27 :: .ref m28 :: .int (nI kk1) :: .ref m30 :: .int n31 :: .int n32 :: .ref m33 :: .int n34 :: .int n35 :: .ref m36 :: .int (nI wm) :: .ref m38 :: .ref m39 :: .ref m40 :: .int (nI bk) :: .ref m42 :: .ref m43 :: .ref m44 :: .ref m45 :: []))), (m3, .inl (cI, 8, .inl fm3)), (m4, .inl (cI, 8, .inl fm4)), (m5, .inl (cI, 8, .inl fm5)), (m7, .inl (cI, 4, .inl fm7)), (m8, .inl (cI, 4, .inl fm8)), (m9, .inl (cI, 4, .inl fm9)), (m10, .inl (cI, 34, .inl gg0)), (m30, .inl (cI, 680, .inl gg1))] t.heap ∧ va_D (va_A [(h0, .inr (11, (.int n0 :: .int n1 :: .int (nI nq) :: .ref m3 :: .ref m4 :: .ref m5 :: .int (nI nh) :: .ref m7 :: .ref m8 :: .ref m9 :: .ref m10 :: .int (nI sd) :: .ref m12 :: .int (nI tx) :: .int n14 :: .int (nI at9) :: .int n16 :: .int n17 :: .ref m18 :: .int (nI rq) :: .ref m20 :: .ref m21 :: .ref m22 :: .ref m23 :: .ref m24 :: .int (nI rh) :: .ref m26 :: .ref m27 :: .ref m28 :: .int (nI un) :: .ref m30 :: .int n31 :: .int n32 :: .ref m33 :: .int n34 :: .int n35 :: .ref m36 :: .int (nI wm) :: .ref m38 :: .ref m39 :: .ref m40 :: .int (nI bk) :: .ref m42 :: .ref m43 :: .ref m44 :: .ref m45 :: []))), (m3, .inl (cI, 8, .inl fm3)), (m4, .inl (cI, 8, .inl fm4)), (m5, .inl (cI, 8, .inl fm5)), (m7, .inl (cI, 4, .inl fm7)), (m8, .inl (cI, 4, .inl fm8)), (m9, .inl (cI, 4, .inl fm9)), (m10, .inl (cI, 34, .inl fm10)), (m30, .inl (cI, 680, .inl fm30))] sz) [(h0, .inr (11, (.int n0 :: .int n1 :: .int (nI nq) :: .ref m3 :: .ref m4 :: .ref m5 :: .int (nI nh) :: .ref m7 :: .ref m8 :: .ref m9 :: .ref m10 :: .int (nI kk0) :: .ref m12 :: .int (nI tx) :: .int n14 :: .int (nI at9) :: .int n16 :: .int n17 :: .ref m18 :: .int (nI rq) :: .ref m20 :: .ref m21 :: .ref m22 :: .ref m23 :: .ref m24 :: .int (nI rh) :: .ref m26 :: .ref m27 :: .ref m28 :: .int (nI kk1) :: .ref m30 :: .int n31 :: .int n32 :: .ref m33 :: .int n34 :: .int n35 :: .ref m36 :: .int (nI wm) :: .ref m38 :: .ref m39 :: .ref m40 :: .int (nI bk) :: .ref m42 :: .ref m43 :: .ref m44 :: .ref m45 :: []))), (m3, .inl (cI, 8, .inl fm3)), (m4, .inl (cI, 8, .inl fm4)), (m5, .inl (cI, 8, .inl fm5)), (m7, .inl (cI, 4, .inl fm7)), (m8, .inl (cI, 4, .inl fm8)), (m9, .inl (cI, 4, .inl fm9)), (m10, .inl (cI, 34, .inl gg0)), (m30, .inl (cI, 680, .inl gg1))]) (va_A [(h0, .inr (11, (.int n0 :: .int n1 :: .int (nI nq) :: .ref m3 :: .ref m4 :: .ref m5 :: .int (nI nh) :: .ref m7 :: .ref m8 :: .ref m9 :: .ref m10 :: .int (nI sd) :: .ref m12 :: .int (nI tx) :: .int n14 :: .int (nI at9) :: .int n16 :: .int n17 :: .ref m18 :: .int (nI rq) :: .ref m20 :: .ref m21 :: .ref m22 :: .ref m23 :: .ref m24 :: .int (nI rh) :: .ref m26 :: .ref m27 :: .ref m28 :: .int (nI un) :: .ref m30 :: .int n31 :: .int n32 :: .ref m33 :: .int n34 :: .int n35 :: .ref m36 :: .int (nI wm) :: .ref m38 :: .ref m39 :: .ref m40 :: .int (nI bk) :: .ref m42 :: .ref m43 :: .ref m44 :: .ref m45 :: []))), (m3, .inl (cI, 8, .inl fm3)), (m4, .inl (cI, 8, .inl fm4)), (m5, .inl (cI, 8, .inl fm5)), (m7, .inl (cI, 4, .inl fm7)), (m8, .inl (cI, 4, .inl fm8)), (m9, .inl (cI, 4, .inl fm9)), (m10, .inl (cI, 34, .inl fm10)), (m30, .inl (cI, 680, .inl fm30))] sz)) 0 0 (va_A [(h0, .inr (11, (.int n0 :: .int n1 :: .int (nI nq) :: .ref m3 :: .ref m4 :: .ref m5 :: .int (nI nh) :: .ref m7 :: .ref m8 :: .ref m9 :: .ref m10 :: .int (nI sd) :: .ref m12 :: .int (nI tx) :: .int n14 :: .int (nI at9) :: .int n16 :: .int n17 :: .ref m18 :: .int (nI rq) :: .ref m20 :: .ref m21 :: .ref m22 :: .ref m23 :: .ref m24 :: .int (nI rh) :: .ref m26 :: .ref m27 :: .ref m28 :: .int (nI un) :: .ref m30 :: .int n31 :: .int n32 :: .ref m33 :: .int n34 :: .int n35 :: .ref m36 :: .int (nI wm) :: .ref m38 :: .ref m39 :: .ref m40 :: .int (nI bk) :: .ref m42 :: .ref m43 :: .ref m44 :: .ref m45 :: []))), (m3, .inl (cI, 8, .inl fm3)), (m4, .inl (cI, 8, .inl fm4)), (m5, .inl (cI, 8, .inl fm5)), (m7, .inl (cI, 4, .inl fm7)), (m8, .inl (cI, 4, .inl fm8)), (m9, .inl (cI, 4, .inl fm9)), (m10, .inl (cI, 34, .inl fm10)), (m30, .inl (cI, 680, .inl fm30))] sz) := by
  refine Met.ofW (cc := cX11_drift) (maxL := 3) (ret := (some .int)) (by decide) rfl ?_
  intro p e s m args below meth c s₁ B hml hv
  obtain ⟨rfl, hsz, hP, hK, hD0⟩ := hv
  have hx := B.exec
  have hb := B.bytes
  have hr := B.returns
  have hts := atoms_spec (ws := wsX11_drift) B.pre
  have hown : s.vm.findClass RX11 = some m.cls := findClass_of_methodNamed B.named
  have hlocks := B.notSynchronized
  have hi_X11 : ∀ w ∈ u_ws RX11 TX11 46, w ∈ wsX11_drift := fun _ h => List.mem_cons_of_mem _ (List.mem_append_right _ (h))
  subst hsz
  have hD := hD0.self (sz := s.heap.size)
  generalize hAe : va_A [(h0, .inr (11, (.int n0 :: .int n1 :: .int (nI nq) :: .ref m3 :: .ref m4 :: .ref m5 :: .int (nI nh) :: .ref m7 :: .ref m8 :: .ref m9 :: .ref m10 :: .int (nI sd) :: .ref m12 :: .int (nI tx) :: .int n14 :: .int (nI at9) :: .int n16 :: .int n17 :: .ref m18 :: .int (nI rq) :: .ref m20 :: .ref m21 :: .ref m22 :: .ref m23 :: .ref m24 :: .int (nI rh) :: .ref m26 :: .ref m27 :: .ref m28 :: .int (nI un) :: .ref m30 :: .int n31 :: .int n32 :: .ref m33 :: .int n34 :: .int n35 :: .ref m36 :: .int (nI wm) :: .ref m38 :: .ref m39 :: .ref m40 :: .int (nI bk) :: .ref m42 :: .ref m43 :: .ref m44 :: .ref m45 :: []))), (m3, .inl (cI, 8, .inl fm3)), (m4, .inl (cI, 8, .inl fm4)), (m5, .inl (cI, 8, .inl fm5)), (m7, .inl (cI, 4, .inl fm7)), (m8, .inl (cI, 4, .inl fm8)), (m9, .inl (cI, 4, .inl fm9)), (m10, .inl (cI, 34, .inl fm10)), (m30, .inl (cI, 680, .inl fm30))] s.heap.size = A at hD ⊢
  have hA : ∀ q : Nat, s.heap.size ≤ q → A q := fun q h => by rw [← hAe]; exact Or.inr h
  have hS : va_S A s.heap s.heap [] := va_S.rf
  have hl := lv_entry ([.ref h0, .int q0]) (n := 3) (Nat.le_of_ble_eq_true rfl)
  rw [lg_entry_eq]
  generalize (lg_sl ([.ref h0, .int q0]) ++ List.replicate (3 - (lg_sl ([.ref h0, .int q0])).length) Slot.unset).toArray = ls at hl ⊢
  have hl : lv_has ls 3 [(0, .ref h0), (1, .int q0)] := hl
  refine lv_iload_n hx hb dX11_drift_0 rfl (lv_at hl 1 rfl) ?_
  refine lv_i2l hx hb dX11_drift_1 rfl ?_
  refine lv_lconst (v := 1) hx hb dX11_drift_2 (by decide) ?_
  refine lv_topl (fun z1 ez1 => ?_)
  obtain rfl : z1 = (1 : Int32).toInt64 := ez1.trans (by decide)
  refine lv_ldc2 (v := 60) hx hb hown (hts (.constantLong RX11 254 60) (wmx 1 rfl)) dX11_drift_3 ?_
  refine lv_topl (fun z2 ez2 => ?_)
  obtain rfl : z2 = (60 : Int32).toInt64 := ez2.trans (by decide)
  have hPc := hP.sub (ws' := []) [] rfl
  refine va_calli (va_runS (As := [.long q0.toInt64, .long ((1 : Int32).toInt64), .long ((60 : Int32).toInt64)]) (rest := []) ⟨hx, hb, hml, hown, hts⟩ (c_X11_in l dC dI cI cZ cQ q0 1 60 s.heap.size ) (va_cwS 3 hts gX11_drift_X11_in rfl rfl rfl (by decide +kernel) ⟨Nat.le_of_ble_eq_true rfl, Nat.le_of_ble_eq_true rfl⟩) (ps_R hK hPc) rfl rfl hl.1 rfl (lv_room (Nat.le_of_ble_eq_true rfl)) dX11_drift_6 ⟨Nat.le_of_ble_eq_true rfl, Nat.le_of_ble_eq_true rfl⟩) hS (fun q _ h => False.elim h) (fun q h => False.elim h) (fun r3 u4 t H1 locs ht hvm hw5 hB hz1 hk1 hS => ?_)
  have hP := hP.kept (fun k q hk => hk1 q.1 (hP k q hk).lt (fun h => h))
  clear hz1 hk1 hPc
  generalize H1 = H at hP hS ht ⊢
  try dsimp only at hw5
  rcases hw5 with ⟨rfl, hw5⟩ | ⟨rfl, hw5⟩
  ·
    obtain ⟨j6, haj6, hbj6, rfl⟩ := x_rng (a := 1) (b := 60) (by decide) (by decide) hw5
    refine lv_if_ne (tgt := 15) hx hb dX11_drift_9 (by decide) (fun c7 => ?_) (fun c7 => ?_)
    rotate_left
    · exact absurd c7 (by decide)
    clear c7
    refine lv_aload_n hx hb dX11_drift_15 rfl (lv_at hl 0 rfl) ?_
    refine va_get (D := (dC, dI)) (ci := 11) (v := .int n0) (C := RX11) (T := TX11) (N := 46) hx hb hts hi_X11 hown hK hP 0 rfl rfl 0 (by decide) (hts (.fieldLink RX11 96 "LeftQuillsModel" "blunt" "I") (wmx 3 rfl)) (fun _ h9 => h9) rfl dX11_drift_16 ?_
    refine lv_if_ne (tgt := 25) hx hb dX11_drift_19 (by decide) (fun c8 => ?_) (fun c8 => ?_)
    ·
      refine lv_aload_n hx hb dX11_drift_25 rfl (lv_at hl 0 rfl) ?_
      refine va_get (D := (dC, dI)) (ci := 11) (v := .ref m10) (C := RX11) (T := TX11) (N := 46) hx hb hts hi_X11 hown hK hP 0 rfl rfl 10 (by decide) (hts (.fieldLink RX11 28 "LeftQuillsModel" "now" "[I") (wmx 5 rfl)) (fun _ h9 => h9) rfl dX11_drift_26 ?_
      refine lv_bipush (v := 32) hx hb dX11_drift_29 (by decide) ?_
      refine va_iald hx hb hK hP 7 0 rfl rfl (vp_in_iff.mpr ⟨by decide, by decide⟩) dX11_drift_31 ?_
      refine W.eq (g2 := F0 m 32 ls [.int (fm10 32)]) (congrArg (fun y9 => F0 m 32 ls (.int (fm10 y9) :: [])) ((show ((32 : Int32)).toNatClampNeg = 32 from by decide))) ?_
      refine lv_ldc (v := 90000) hx hb hown (hts (.constant RX11 221 90000) (wmx 6 rfl)) dX11_drift_32 ?_
      refine lv_icmp_le (tgt := 40) hx hb dX11_drift_34 (by decide) (fun c9 => ?_) (fun c9 => ?_)
      ·
        refine lv_aload_n hx hb dX11_drift_40 rfl (lv_at hl 0 rfl) ?_
        have hc9 := va_cut (W' := [(h0, .inr (11, (.int n0 :: .int n1 :: .int (nI nq) :: .ref m3 :: .ref m4 :: .ref m5 :: .int (nI nh) :: .ref m7 :: .ref m8 :: .ref m9 :: .ref m10 :: .int (nI sd) :: .ref m12 :: .int (nI tx) :: .int n14 :: .int (nI at9) :: .int n16 :: .int n17 :: .ref m18 :: .int (nI rq) :: .ref m20 :: .ref m21 :: .ref m22 :: .ref m23 :: .ref m24 :: .int (nI rh) :: .ref m26 :: .ref m27 :: .ref m28 :: .int (nI un) :: .ref m30 :: .int n31 :: .int n32 :: .ref m33 :: .int n34 :: .int n35 :: .ref m36 :: .int (nI wm) :: .ref m38 :: .ref m39 :: .ref m40 :: .int (nI bk) :: .ref m42 :: .ref m43 :: .ref m44 :: .ref m45 :: []))), (m10, .inl (cI, 34, .inl fm10)), (m30, .inl (cI, 680, .inl fm30))]) hP hD hS hA [0, 7, 8] (by decide) rfl
        have hPc := hc9.1
        have hDc := hc9.2.1
        have hFc := hc9.2.2
        clear hc9
        refine va_callv (va_runV (As := []) (rest := []) ⟨hx, hb, hml, hown, hts⟩ (c_X11_remember l dC dI cI cZ cQ h0 n0 n1 nq m3 m4 m5 nh m7 m8 m9 m10 sd m12 tx n14 at9 n16 n17 m18 rq m20 m21 m22 m23 m24 rh m26 m27 m28 un m30 n31 n32 m33 n34 n35 m36 wm m38 m39 m40 bk m42 m43 m44 m45 fm10 fm30 H.size (by omega)) (cwV 0 hts gX11_drift_X11_remember rfl rfl rfl hd_X11_remember_RX11 ⟨Nat.le_of_ble_eq_true rfl, Nat.le_of_ble_eq_true rfl⟩) (pv_D (va_recv hK hP (ci := 11) (q0 := 0) rfl rfl) hK hPc hDc) rfl rfl hl.1 rfl (lv_room (Nat.le_of_ble_eq_true rfl)) dX11_drift_41 ⟨Nat.le_of_ble_eq_true rfl, Nat.le_of_ble_eq_true rfl⟩) hS (fun q _ h => hFc q h) hFc (fun u11 t H1 locs ht hvm hw12 hB hz1 hk1 hS => ?_)
        obtain ⟨f13, k14, hk14, hP1, hD1⟩ := hB
        replace hP1 := va_hp ht hP1
        obtain ⟨hP, hD⟩ := va_join (wr := [(m3, .inl (cI, 8, .inl fm3)), (m4, .inl (cI, 8, .inl fm4)), (m5, .inl (cI, 8, .inl fm5)), (m7, .inl (cI, 4, .inl fm7)), (m8, .inl (cI, 4, .inl fm8)), (m9, .inl (cI, 4, .inl fm9))]) (w1 := [(h0, .inr (11, (.int n0 :: .int n1 :: .int (nI nq) :: .ref m3 :: .ref m4 :: .ref m5 :: .int (nI nh) :: .ref m7 :: .ref m8 :: .ref m9 :: .ref m10 :: .int (nI sd) :: .ref m12 :: .int (nI tx) :: .int n14 :: .int (nI at9) :: .int n16 :: .int n17 :: .ref m18 :: .int (nI rq) :: .ref m20 :: .ref m21 :: .ref m22 :: .ref m23 :: .ref m24 :: .int (nI rh) :: .ref m26 :: .ref m27 :: .ref m28 :: .int (nI k14) :: .ref m30 :: .int n31 :: .int n32 :: .ref m33 :: .int n34 :: .int n35 :: .ref m36 :: .int (nI wm) :: .ref m38 :: .ref m39 :: .ref m40 :: .int (nI bk) :: .ref m42 :: .ref m43 :: .ref m44 :: .ref m45 :: []))), (m10, .inl (cI, 34, .inl fm10)), (m30, .inl (cI, 680, .inl f13))]) hP hD [0, 7, 8] [1, 2, 3, 4, 5, 6] rfl rfl (by decide +kernel) (by decide +kernel) hk1 hFc hP1 hD1
        clear hP1 hD1
        clear hz1 hk1 hPc hDc hFc
        generalize H1 = H at hP hS ht ⊢
        have hPD : pdW (dC, dI) vwCl A [(m3, .inl (cI, 8, .inl fm3)), (m4, .inl (cI, 8, .inl fm4)), (m5, .inl (cI, 8, .inl fm5)), (m7, .inl (cI, 4, .inl fm7)), (m8, .inl (cI, 4, .inl fm8)), (m9, .inl (cI, 4, .inl fm9)), (h0, .inr (11, (.int n0 :: .int n1 :: .int (nI nq) :: .ref m3 :: .ref m4 :: .ref m5 :: .int (nI nh) :: .ref m7 :: .ref m8 :: .ref m9 :: .ref m10 :: .int (nI sd) :: .ref m12 :: .int (nI tx) :: .int n14 :: .int (nI at9) :: .int n16 :: .int n17 :: .ref m18 :: .int (nI rq) :: .ref m20 :: .ref m21 :: .ref m22 :: .ref m23 :: .ref m24 :: .int (nI rh) :: .ref m26 :: .ref m27 :: .ref m28 :: .int (nI k14) :: .ref m30 :: .int n31 :: .int n32 :: .ref m33 :: .int n34 :: .int n35 :: .ref m36 :: .int (nI wm) :: .ref m38 :: .ref m39 :: .ref m40 :: .int (nI bk) :: .ref m42 :: .ref m43 :: .ref m44 :: .ref m45 :: []))), (m10, .inl (cI, 34, .inl fm10)), (m30, .inl (cI, 680, .inl f13))] H := ⟨hP, hD⟩
        have hP := hPD.1
        have hD := hPD.2
        clear hPD
        try dsimp only at hw12
        refine lv_iconst (v := 0) hx hb dX11_drift_44 (by decide) ?_
        refine lv_istore_n (lv' := [(2, .int 0), (0, .ref h0), (1, .int (nI j6))]) hx hb dX11_drift_45 rfl hl (by decide) rfl (fun ls hl => ?_)
        refine (fun (K : ∀ (d46 : Nat) (k46 : Nat) (s46 : Nat) (f46_m10 : Nat → Int32) (H : Heap) (locs : List Loc) (ls : Array Slot), k46 + d46 = j6 → s46 ≤ 2147483647 → va_P (dC, dI) vwCl [(m3, .inl (cI, 8, .inl fm3)), (m4, .inl (cI, 8, .inl fm4)), (m5, .inl (cI, 8, .inl fm5)), (m7, .inl (cI, 4, .inl fm7)), (m8, .inl (cI, 4, .inl fm8)), (m9, .inl (cI, 4, .inl fm9)), (h0, .inr (11, (.int n0 :: .int n1 :: .int (nI nq) :: .ref m3 :: .ref m4 :: .ref m5 :: .int (nI nh) :: .ref m7 :: .ref m8 :: .ref m9 :: .ref m10 :: .int (nI s46) :: .ref m12 :: .int (nI tx) :: .int n14 :: .int (nI at9) :: .int n16 :: .int n17 :: .ref m18 :: .int (nI rq) :: .ref m20 :: .ref m21 :: .ref m22 :: .ref m23 :: .ref m24 :: .int (nI rh) :: .ref m26 :: .ref m27 :: .ref m28 :: .int (nI k14) :: .ref m30 :: .int n31 :: .int n32 :: .ref m33 :: .int n34 :: .int n35 :: .ref m36 :: .int (nI wm) :: .ref m38 :: .ref m39 :: .ref m40 :: .int (nI bk) :: .ref m42 :: .ref m43 :: .ref m44 :: .ref m45 :: []))), (m10, .inl (cI, 34, .inl f46_m10)), (m30, .inl (cI, 680, .inl f13))] H → va_D A [(m3, .inl (cI, 8, .inl fm3)), (m4, .inl (cI, 8, .inl fm4)), (m5, .inl (cI, 8, .inl fm5)), (m7, .inl (cI, 4, .inl fm7)), (m8, .inl (cI, 4, .inl fm8)), (m9, .inl (cI, 4, .inl fm9)), (h0, .inr (11, (.int n0 :: .int n1 :: .int (nI nq) :: .ref m3 :: .ref m4 :: .ref m5 :: .int (nI nh) :: .ref m7 :: .ref m8 :: .ref m9 :: .ref m10 :: .int (nI s46) :: .ref m12 :: .int (nI tx) :: .int n14 :: .int (nI at9) :: .int n16 :: .int n17 :: .ref m18 :: .int (nI rq) :: .ref m20 :: .ref m21 :: .ref m22 :: .ref m23 :: .ref m24 :: .int (nI rh) :: .ref m26 :: .ref m27 :: .ref m28 :: .int (nI k14) :: .ref m30 :: .int n31 :: .int n32 :: .ref m33 :: .int n34 :: .int n35 :: .ref m36 :: .int (nI wm) :: .ref m38 :: .ref m39 :: .ref m40 :: .int (nI bk) :: .ref m42 :: .ref m43 :: .ref m44 :: .ref m45 :: []))), (m10, .inl (cI, 34, .inl f46_m10)), (m30, .inl (cI, 680, .inl f13))] → va_S A s.heap H locs → lv_has ls 3 [(2, .int (nI k46)), (0, .ref h0), (1, .int (nI j6))] → W p l e _ s m _ below meth c H locs _ _ _ (F0 m 46 ls [])) => K j6 0 sd fm10 _ _ _ (by omega) (by omega) hP hD hS (lv_sub hl [0, 1, 2] rfl)) ?_
        intro d46
        induction d46 with
        | zero =>
          intro k46 s46 f46_m10 H locs ls hk46 hs46 hP hD hS hl
          refine lv_iload_n hx hb dX11_drift_46 rfl (lv_at hl 0 rfl) ?_
          refine lv_iload_n hx hb dX11_drift_47 rfl (lv_at hl 2 rfl) ?_
          refine lv_icmp_ge (tgt := 75) hx hb dX11_drift_48 (by decide) (fun c15 => ?_) (fun c15 => ?_)
          ·
            have c15 : j6 ≤ k46 := (nI_leI (a := j6) (b := k46) (by omega) (by omega)).mp c15
            refine lv_aload_n hx hb dX11_drift_75 rfl (lv_at hl 1 rfl) ?_
            refine va_get (D := (dC, dI)) (ci := 11) (v := .ref m10) (C := RX11) (T := TX11) (N := 46) hx hb hts hi_X11 hown hK hP 6 rfl rfl 10 (by decide) (hts (.fieldLink RX11 28 "LeftQuillsModel" "now" "[I") (wmx 5 rfl)) (fun _ h9 => h9) rfl dX11_drift_76 ?_
            refine lv_bipush (v := 32) hx hb dX11_drift_79 (by decide) ?_
            refine va_iald hx hb hK hP 7 0 rfl rfl (vp_in_iff.mpr ⟨by decide, by decide⟩) dX11_drift_81 ?_
            refine W.eq (g2 := F0 m 82 ls [.int (f46_m10 32)]) (congrArg (fun y9 => F0 m 82 ls (.int (f46_m10 y9) :: [])) ((show ((32 : Int32)).toNatClampNeg = 32 from by decide))) ?_
            have hP9 := hP.sub (ws' := [(h0, .inr (11, (.int n0 :: .int n1 :: .int (nI nq) :: .ref m3 :: .ref m4 :: .ref m5 :: .int (nI nh) :: .ref m7 :: .ref m8 :: .ref m9 :: .ref m10 :: .int (nI s46) :: .ref m12 :: .int (nI tx) :: .int n14 :: .int (nI at9) :: .int n16 :: .int n17 :: .ref m18 :: .int (nI rq) :: .ref m20 :: .ref m21 :: .ref m22 :: .ref m23 :: .ref m24 :: .int (nI rh) :: .ref m26 :: .ref m27 :: .ref m28 :: .int (nI k14) :: .ref m30 :: .int n31 :: .int n32 :: .ref m33 :: .int n34 :: .int n35 :: .ref m36 :: .int (nI wm) :: .ref m38 :: .ref m39 :: .ref m40 :: .int (nI bk) :: .ref m42 :: .ref m43 :: .ref m44 :: .ref m45 :: []))), (m3, .inl (cI, 8, .inl fm3)), (m4, .inl (cI, 8, .inl fm4)), (m5, .inl (cI, 8, .inl fm5)), (m7, .inl (cI, 4, .inl fm7)), (m8, .inl (cI, 4, .inl fm8)), (m9, .inl (cI, 4, .inl fm9)), (m10, .inl (cI, 34, .inl f46_m10)), (m30, .inl (cI, 680, .inl f13))]) [6, 0, 1, 2, 3, 4, 5, 7, 8] rfl
            have hD9 := hD.sub (ws' := [(h0, .inr (11, (.int n0 :: .int n1 :: .int (nI nq) :: .ref m3 :: .ref m4 :: .ref m5 :: .int (nI nh) :: .ref m7 :: .ref m8 :: .ref m9 :: .ref m10 :: .int (nI s46) :: .ref m12 :: .int (nI tx) :: .int n14 :: .int (nI at9) :: .int n16 :: .int n17 :: .ref m18 :: .int (nI rq) :: .ref m20 :: .ref m21 :: .ref m22 :: .ref m23 :: .ref m24 :: .int (nI rh) :: .ref m26 :: .ref m27 :: .ref m28 :: .int (nI k14) :: .ref m30 :: .int n31 :: .int n32 :: .ref m33 :: .int n34 :: .int n35 :: .ref m36 :: .int (nI wm) :: .ref m38 :: .ref m39 :: .ref m40 :: .int (nI bk) :: .ref m42 :: .ref m43 :: .ref m44 :: .ref m45 :: []))), (m3, .inl (cI, 8, .inl fm3)), (m4, .inl (cI, 8, .inl fm4)), (m5, .inl (cI, 8, .inl fm5)), (m7, .inl (cI, 4, .inl fm7)), (m8, .inl (cI, 4, .inl fm8)), (m9, .inl (cI, 4, .inl fm9)), (m10, .inl (cI, 34, .inl f46_m10)), (m30, .inl (cI, 680, .inl f13))]) [6, 0, 1, 2, 3, 4, 5, 7, 8] (by decide +kernel) rfl
            exact W.iret (v := f46_m10 32) hx hb hr (fun t ht hW => ⟨⟨f46_m10 32, (fun _ => 0), rfl, trivial, ⟨f46_m10, f13, s46, k14, by omega, by omega, va_hq ht hP9, hD9⟩⟩, hS.F ht⟩) hS.2.2 dX11_drift_82
          ·
            have c15 : ¬ j6 ≤ k46 := fun h => c15 ((nI_leI (a := j6) (b := k46) (by omega) (by omega)).mpr h)
            omega
        | succ d46 ih46 =>
          intro k46 s46 f46_m10 H locs ls hk46 hs46 hP hD hS hl
          refine lv_iload_n hx hb dX11_drift_46 rfl (lv_at hl 0 rfl) ?_
          refine lv_iload_n hx hb dX11_drift_47 rfl (lv_at hl 2 rfl) ?_
          refine lv_icmp_ge (tgt := 75) hx hb dX11_drift_48 (by decide) (fun c16 => ?_) (fun c16 => ?_)
          ·
            have c16 : j6 ≤ k46 := (nI_leI (a := j6) (b := k46) (by omega) (by omega)).mp c16
            omega
          ·
            have c16 : ¬ j6 ≤ k46 := fun h => c16 ((nI_leI (a := j6) (b := k46) (by omega) (by omega)).mpr h)
            refine lv_aload_n hx hb dX11_drift_51 rfl (lv_at hl 1 rfl) ?_
            refine va_get (D := (dC, dI)) (ci := 11) (v := .int (nI nq)) (C := RX11) (T := TX11) (N := 46) hx hb hts hi_X11 hown hK hP 6 rfl rfl 2 (by decide) (hts (.fieldLink RX11 99 "LeftQuillsModel" "quills" "I") (wmx 8 rfl)) (fun _ h9 => h9) rfl dX11_drift_52 ?_
            refine lv_if_le (tgt := 75) hx hb dX11_drift_55 (by decide) (fun c17 => ?_) (fun c17 => ?_)
            ·
              have c17 : nq ≤ 0 := (nI_leI (a := nq) (b := 0) (by omega) (by omega)).mp c17
              refine lv_aload_n hx hb dX11_drift_75 rfl (lv_at hl 1 rfl) ?_
              refine va_get (D := (dC, dI)) (ci := 11) (v := .ref m10) (C := RX11) (T := TX11) (N := 46) hx hb hts hi_X11 hown hK hP 6 rfl rfl 10 (by decide) (hts (.fieldLink RX11 28 "LeftQuillsModel" "now" "[I") (wmx 5 rfl)) (fun _ h9 => h9) rfl dX11_drift_76 ?_
              refine lv_bipush (v := 32) hx hb dX11_drift_79 (by decide) ?_
              refine va_iald hx hb hK hP 7 0 rfl rfl (vp_in_iff.mpr ⟨by decide, by decide⟩) dX11_drift_81 ?_
              refine W.eq (g2 := F0 m 82 ls [.int (f46_m10 32)]) (congrArg (fun y9 => F0 m 82 ls (.int (f46_m10 y9) :: [])) ((show ((32 : Int32)).toNatClampNeg = 32 from by decide))) ?_
              have hP9 := hP.sub (ws' := [(h0, .inr (11, (.int n0 :: .int n1 :: .int (nI nq) :: .ref m3 :: .ref m4 :: .ref m5 :: .int (nI nh) :: .ref m7 :: .ref m8 :: .ref m9 :: .ref m10 :: .int (nI s46) :: .ref m12 :: .int (nI tx) :: .int n14 :: .int (nI at9) :: .int n16 :: .int n17 :: .ref m18 :: .int (nI rq) :: .ref m20 :: .ref m21 :: .ref m22 :: .ref m23 :: .ref m24 :: .int (nI rh) :: .ref m26 :: .ref m27 :: .ref m28 :: .int (nI k14) :: .ref m30 :: .int n31 :: .int n32 :: .ref m33 :: .int n34 :: .int n35 :: .ref m36 :: .int (nI wm) :: .ref m38 :: .ref m39 :: .ref m40 :: .int (nI bk) :: .ref m42 :: .ref m43 :: .ref m44 :: .ref m45 :: []))), (m3, .inl (cI, 8, .inl fm3)), (m4, .inl (cI, 8, .inl fm4)), (m5, .inl (cI, 8, .inl fm5)), (m7, .inl (cI, 4, .inl fm7)), (m8, .inl (cI, 4, .inl fm8)), (m9, .inl (cI, 4, .inl fm9)), (m10, .inl (cI, 34, .inl f46_m10)), (m30, .inl (cI, 680, .inl f13))]) [6, 0, 1, 2, 3, 4, 5, 7, 8] rfl
              have hD9 := hD.sub (ws' := [(h0, .inr (11, (.int n0 :: .int n1 :: .int (nI nq) :: .ref m3 :: .ref m4 :: .ref m5 :: .int (nI nh) :: .ref m7 :: .ref m8 :: .ref m9 :: .ref m10 :: .int (nI s46) :: .ref m12 :: .int (nI tx) :: .int n14 :: .int (nI at9) :: .int n16 :: .int n17 :: .ref m18 :: .int (nI rq) :: .ref m20 :: .ref m21 :: .ref m22 :: .ref m23 :: .ref m24 :: .int (nI rh) :: .ref m26 :: .ref m27 :: .ref m28 :: .int (nI k14) :: .ref m30 :: .int n31 :: .int n32 :: .ref m33 :: .int n34 :: .int n35 :: .ref m36 :: .int (nI wm) :: .ref m38 :: .ref m39 :: .ref m40 :: .int (nI bk) :: .ref m42 :: .ref m43 :: .ref m44 :: .ref m45 :: []))), (m3, .inl (cI, 8, .inl fm3)), (m4, .inl (cI, 8, .inl fm4)), (m5, .inl (cI, 8, .inl fm5)), (m7, .inl (cI, 4, .inl fm7)), (m8, .inl (cI, 4, .inl fm8)), (m9, .inl (cI, 4, .inl fm9)), (m10, .inl (cI, 34, .inl f46_m10)), (m30, .inl (cI, 680, .inl f13))]) [6, 0, 1, 2, 3, 4, 5, 7, 8] (by decide +kernel) rfl
              exact W.iret (v := f46_m10 32) hx hb hr (fun t ht hW => ⟨⟨f46_m10 32, (fun _ => 0), rfl, trivial, ⟨f46_m10, f13, s46, k14, by omega, by omega, va_hq ht hP9, hD9⟩⟩, hS.F ht⟩) hS.2.2 dX11_drift_82
            ·
              have c17 : ¬ nq ≤ 0 := fun h => c17 ((nI_leI (a := nq) (b := 0) (by omega) (by omega)).mpr h)
              refine lv_aload_n hx hb dX11_drift_58 rfl (lv_at hl 1 rfl) ?_
              refine va_get (D := (dC, dI)) (ci := 11) (v := .int (nI nh)) (C := RX11) (T := TX11) (N := 46) hx hb hts hi_X11 hown hK hP 6 rfl rfl 6 (by decide) (hts (.fieldLink RX11 106 "LeftQuillsModel" "hands" "I") (wmx 9 rfl)) (fun _ h9 => h9) rfl dX11_drift_59 ?_
              refine lv_if_le (tgt := 75) hx hb dX11_drift_62 (by decide) (fun c18 => ?_) (fun c18 => ?_)
              ·
                have c18 : nh ≤ 0 := (nI_leI (a := nh) (b := 0) (by omega) (by omega)).mp c18
                refine lv_aload_n hx hb dX11_drift_75 rfl (lv_at hl 1 rfl) ?_
                refine va_get (D := (dC, dI)) (ci := 11) (v := .ref m10) (C := RX11) (T := TX11) (N := 46) hx hb hts hi_X11 hown hK hP 6 rfl rfl 10 (by decide) (hts (.fieldLink RX11 28 "LeftQuillsModel" "now" "[I") (wmx 5 rfl)) (fun _ h9 => h9) rfl dX11_drift_76 ?_
                refine lv_bipush (v := 32) hx hb dX11_drift_79 (by decide) ?_
                refine va_iald hx hb hK hP 7 0 rfl rfl (vp_in_iff.mpr ⟨by decide, by decide⟩) dX11_drift_81 ?_
                refine W.eq (g2 := F0 m 82 ls [.int (f46_m10 32)]) (congrArg (fun y9 => F0 m 82 ls (.int (f46_m10 y9) :: [])) ((show ((32 : Int32)).toNatClampNeg = 32 from by decide))) ?_
                have hP9 := hP.sub (ws' := [(h0, .inr (11, (.int n0 :: .int n1 :: .int (nI nq) :: .ref m3 :: .ref m4 :: .ref m5 :: .int (nI nh) :: .ref m7 :: .ref m8 :: .ref m9 :: .ref m10 :: .int (nI s46) :: .ref m12 :: .int (nI tx) :: .int n14 :: .int (nI at9) :: .int n16 :: .int n17 :: .ref m18 :: .int (nI rq) :: .ref m20 :: .ref m21 :: .ref m22 :: .ref m23 :: .ref m24 :: .int (nI rh) :: .ref m26 :: .ref m27 :: .ref m28 :: .int (nI k14) :: .ref m30 :: .int n31 :: .int n32 :: .ref m33 :: .int n34 :: .int n35 :: .ref m36 :: .int (nI wm) :: .ref m38 :: .ref m39 :: .ref m40 :: .int (nI bk) :: .ref m42 :: .ref m43 :: .ref m44 :: .ref m45 :: []))), (m3, .inl (cI, 8, .inl fm3)), (m4, .inl (cI, 8, .inl fm4)), (m5, .inl (cI, 8, .inl fm5)), (m7, .inl (cI, 4, .inl fm7)), (m8, .inl (cI, 4, .inl fm8)), (m9, .inl (cI, 4, .inl fm9)), (m10, .inl (cI, 34, .inl f46_m10)), (m30, .inl (cI, 680, .inl f13))]) [6, 0, 1, 2, 3, 4, 5, 7, 8] rfl
                have hD9 := hD.sub (ws' := [(h0, .inr (11, (.int n0 :: .int n1 :: .int (nI nq) :: .ref m3 :: .ref m4 :: .ref m5 :: .int (nI nh) :: .ref m7 :: .ref m8 :: .ref m9 :: .ref m10 :: .int (nI s46) :: .ref m12 :: .int (nI tx) :: .int n14 :: .int (nI at9) :: .int n16 :: .int n17 :: .ref m18 :: .int (nI rq) :: .ref m20 :: .ref m21 :: .ref m22 :: .ref m23 :: .ref m24 :: .int (nI rh) :: .ref m26 :: .ref m27 :: .ref m28 :: .int (nI k14) :: .ref m30 :: .int n31 :: .int n32 :: .ref m33 :: .int n34 :: .int n35 :: .ref m36 :: .int (nI wm) :: .ref m38 :: .ref m39 :: .ref m40 :: .int (nI bk) :: .ref m42 :: .ref m43 :: .ref m44 :: .ref m45 :: []))), (m3, .inl (cI, 8, .inl fm3)), (m4, .inl (cI, 8, .inl fm4)), (m5, .inl (cI, 8, .inl fm5)), (m7, .inl (cI, 4, .inl fm7)), (m8, .inl (cI, 4, .inl fm8)), (m9, .inl (cI, 4, .inl fm9)), (m10, .inl (cI, 34, .inl f46_m10)), (m30, .inl (cI, 680, .inl f13))]) [6, 0, 1, 2, 3, 4, 5, 7, 8] (by decide +kernel) rfl
                exact W.iret (v := f46_m10 32) hx hb hr (fun t ht hW => ⟨⟨f46_m10 32, (fun _ => 0), rfl, trivial, ⟨f46_m10, f13, s46, k14, by omega, by omega, va_hq ht hP9, hD9⟩⟩, hS.F ht⟩) hS.2.2 dX11_drift_82
              ·
                have c18 : ¬ nh ≤ 0 := fun h => c18 ((nI_leI (a := nh) (b := 0) (by omega) (by omega)).mpr h)
                refine lv_aload_n hx hb dX11_drift_65 rfl (lv_at hl 1 rfl) ?_
                have hc9 := va_cut (W' := [(h0, .inr (11, (.int n0 :: .int n1 :: .int (nI nq) :: .ref m3 :: .ref m4 :: .ref m5 :: .int (nI nh) :: .ref m7 :: .ref m8 :: .ref m9 :: .ref m10 :: .int (nI s46) :: .ref m12 :: .int (nI tx) :: .int n14 :: .int (nI at9) :: .int n16 :: .int n17 :: .ref m18 :: .int (nI rq) :: .ref m20 :: .ref m21 :: .ref m22 :: .ref m23 :: .ref m24 :: .int (nI rh) :: .ref m26 :: .ref m27 :: .ref m28 :: .int (nI k14) :: .ref m30 :: .int n31 :: .int n32 :: .ref m33 :: .int n34 :: .int n35 :: .ref m36 :: .int (nI wm) :: .ref m38 :: .ref m39 :: .ref m40 :: .int (nI bk) :: .ref m42 :: .ref m43 :: .ref m44 :: .ref m45 :: []))), (m3, .inl (cI, 8, .inl fm3)), (m4, .inl (cI, 8, .inl fm4)), (m5, .inl (cI, 8, .inl fm5)), (m7, .inl (cI, 4, .inl fm7)), (m8, .inl (cI, 4, .inl fm8)), (m9, .inl (cI, 4, .inl fm9)), (m10, .inl (cI, 34, .inl f46_m10))]) hP hD hS hA [6, 0, 1, 2, 3, 4, 5, 7] (by decide) rfl
                have hPc := hc9.1
                have hDc := hc9.2.1
                have hFc := hc9.2.2
                clear hc9
                refine va_callv (va_runV (As := []) (rest := []) ⟨hx, hb, hml, hown, hts⟩ (c_X11_drawn l dC dI cI cZ cQ h0 n0 n1 nq m3 m4 m5 nh m7 m8 m9 m10 s46 m12 tx n14 at9 n16 n17 m18 rq m20 m21 m22 m23 m24 rh m26 m27 m28 k14 m30 n31 n32 m33 n34 n35 m36 wm m38 m39 m40 bk m42 m43 m44 m45 fm3 fm4 fm5 fm7 fm8 fm9 f46_m10 H.size (by omega) (by first | assumption | decide) (by omega) (by omega) (by omega) (by omega)) (cwV 0 hts gX11_drift_X11_drawn rfl rfl rfl hd_X11_drawn_RX11 ⟨Nat.le_of_ble_eq_true rfl, Nat.le_of_ble_eq_true rfl⟩) (pv_D (va_recv hK hP (ci := 11) (q0 := 6) rfl rfl) hK hPc hDc) rfl rfl hl.1 rfl (lv_room (Nat.le_of_ble_eq_true rfl)) dX11_drift_66 ⟨Nat.le_of_ble_eq_true rfl, Nat.le_of_ble_eq_true rfl⟩) hS (fun q _ h => hFc q h) hFc (fun u20 t H1 locs ht hvm hw21 hB hz1 hk1 hS => ?_)
                obtain ⟨f22, k23, hk23, hP1, hD1⟩ := hB
                replace hP1 := va_hp ht hP1
                obtain ⟨hP, hD⟩ := va_join (wr := [(m30, .inl (cI, 680, .inl f13))]) (w1 := [(h0, .inr (11, (.int n0 :: .int n1 :: .int (nI nq) :: .ref m3 :: .ref m4 :: .ref m5 :: .int (nI nh) :: .ref m7 :: .ref m8 :: .ref m9 :: .ref m10 :: .int (nI k23) :: .ref m12 :: .int (nI tx) :: .int n14 :: .int (nI at9) :: .int n16 :: .int n17 :: .ref m18 :: .int (nI rq) :: .ref m20 :: .ref m21 :: .ref m22 :: .ref m23 :: .ref m24 :: .int (nI rh) :: .ref m26 :: .ref m27 :: .ref m28 :: .int (nI k14) :: .ref m30 :: .int n31 :: .int n32 :: .ref m33 :: .int n34 :: .int n35 :: .ref m36 :: .int (nI wm) :: .ref m38 :: .ref m39 :: .ref m40 :: .int (nI bk) :: .ref m42 :: .ref m43 :: .ref m44 :: .ref m45 :: []))), (m3, .inl (cI, 8, .inl fm3)), (m4, .inl (cI, 8, .inl fm4)), (m5, .inl (cI, 8, .inl fm5)), (m7, .inl (cI, 4, .inl fm7)), (m8, .inl (cI, 4, .inl fm8)), (m9, .inl (cI, 4, .inl fm9)), (m10, .inl (cI, 34, .inl f22))]) hP hD [6, 0, 1, 2, 3, 4, 5, 7] [8] rfl rfl (by decide +kernel) (by decide +kernel) hk1 hFc hP1 hD1
                clear hP1 hD1
                clear hz1 hk1 hPc hDc hFc
                generalize H1 = H at hP hS ht ⊢
                have hPD : pdW (dC, dI) vwCl A [(m30, .inl (cI, 680, .inl f13)), (h0, .inr (11, (.int n0 :: .int n1 :: .int (nI nq) :: .ref m3 :: .ref m4 :: .ref m5 :: .int (nI nh) :: .ref m7 :: .ref m8 :: .ref m9 :: .ref m10 :: .int (nI k23) :: .ref m12 :: .int (nI tx) :: .int n14 :: .int (nI at9) :: .int n16 :: .int n17 :: .ref m18 :: .int (nI rq) :: .ref m20 :: .ref m21 :: .ref m22 :: .ref m23 :: .ref m24 :: .int (nI rh) :: .ref m26 :: .ref m27 :: .ref m28 :: .int (nI k14) :: .ref m30 :: .int n31 :: .int n32 :: .ref m33 :: .int n34 :: .int n35 :: .ref m36 :: .int (nI wm) :: .ref m38 :: .ref m39 :: .ref m40 :: .int (nI bk) :: .ref m42 :: .ref m43 :: .ref m44 :: .ref m45 :: []))), (m3, .inl (cI, 8, .inl fm3)), (m4, .inl (cI, 8, .inl fm4)), (m5, .inl (cI, 8, .inl fm5)), (m7, .inl (cI, 4, .inl fm7)), (m8, .inl (cI, 4, .inl fm8)), (m9, .inl (cI, 4, .inl fm9)), (m10, .inl (cI, 34, .inl f22))] H := ⟨hP, hD⟩
                have hP := hPD.1
                have hD := hPD.2
                clear hPD
                try dsimp only at hw21
                refine lv_iinc (v := nI (k46 + 1)) (lv' := [(2, .int (nI (k46 + 1))), (0, .ref h0), (1, .int (nI j6))]) hx hb dX11_drift_69 hl (k := 0) rfl ((rfl : nI k46 + Int32.ofInt 1 = nI k46 + 1).trans (nI_add k46 1)) (by decide) rfl (fun ls hl => ?_)
                refine lv_goto (tgt := 46) hx hb dX11_drift_72 (by decide) ?_
                exact ih46 (k46 + 1) k23 f22 _ _ _ (by omega) (by omega) (hP.sub [2, 3, 4, 5, 6, 7, 1, 8, 0] rfl) (hD.sub [2, 3, 4, 5, 6, 7, 1, 8, 0] (by decide +kernel) rfl) hS (lv_sub hl [0, 1, 2] rfl)
      ·
        refine lv_ldc (v := (-1000000004)) hx hb hown (hts (.constant RX11 115 (-1000000004)) (wmx 7 rfl)) dX11_drift_37 ?_
        have hP9 := hP.sub (ws' := [(h0, .inr (11, (.int n0 :: .int n1 :: .int (nI nq) :: .ref m3 :: .ref m4 :: .ref m5 :: .int (nI nh) :: .ref m7 :: .ref m8 :: .ref m9 :: .ref m10 :: .int (nI sd) :: .ref m12 :: .int (nI tx) :: .int n14 :: .int (nI at9) :: .int n16 :: .int n17 :: .ref m18 :: .int (nI rq) :: .ref m20 :: .ref m21 :: .ref m22 :: .ref m23 :: .ref m24 :: .int (nI rh) :: .ref m26 :: .ref m27 :: .ref m28 :: .int (nI un) :: .ref m30 :: .int n31 :: .int n32 :: .ref m33 :: .int n34 :: .int n35 :: .ref m36 :: .int (nI wm) :: .ref m38 :: .ref m39 :: .ref m40 :: .int (nI bk) :: .ref m42 :: .ref m43 :: .ref m44 :: .ref m45 :: []))), (m3, .inl (cI, 8, .inl fm3)), (m4, .inl (cI, 8, .inl fm4)), (m5, .inl (cI, 8, .inl fm5)), (m7, .inl (cI, 4, .inl fm7)), (m8, .inl (cI, 4, .inl fm8)), (m9, .inl (cI, 4, .inl fm9)), (m10, .inl (cI, 34, .inl fm10)), (m30, .inl (cI, 680, .inl fm30))]) [0, 1, 2, 3, 4, 5, 6, 7, 8] rfl
        have hD9 := hD.sub (ws' := [(h0, .inr (11, (.int n0 :: .int n1 :: .int (nI nq) :: .ref m3 :: .ref m4 :: .ref m5 :: .int (nI nh) :: .ref m7 :: .ref m8 :: .ref m9 :: .ref m10 :: .int (nI sd) :: .ref m12 :: .int (nI tx) :: .int n14 :: .int (nI at9) :: .int n16 :: .int n17 :: .ref m18 :: .int (nI rq) :: .ref m20 :: .ref m21 :: .ref m22 :: .ref m23 :: .ref m24 :: .int (nI rh) :: .ref m26 :: .ref m27 :: .ref m28 :: .int (nI un) :: .ref m30 :: .int n31 :: .int n32 :: .ref m33 :: .int n34 :: .int n35 :: .ref m36 :: .int (nI wm) :: .ref m38 :: .ref m39 :: .ref m40 :: .int (nI bk) :: .ref m42 :: .ref m43 :: .ref m44 :: .ref m45 :: []))), (m3, .inl (cI, 8, .inl fm3)), (m4, .inl (cI, 8, .inl fm4)), (m5, .inl (cI, 8, .inl fm5)), (m7, .inl (cI, 4, .inl fm7)), (m8, .inl (cI, 4, .inl fm8)), (m9, .inl (cI, 4, .inl fm9)), (m10, .inl (cI, 34, .inl fm10)), (m30, .inl (cI, 680, .inl fm30))]) [0, 1, 2, 3, 4, 5, 6, 7, 8] (by decide +kernel) rfl
        exact W.iret (v := (-1000000004)) hx hb hr (fun t ht hW => ⟨⟨(-1000000004), (fun _ => 0), rfl, trivial, ⟨fm10, fm30, sd, un, by omega, by omega, va_hq ht hP9, hD9⟩⟩, hS.F ht⟩) hS.2.2 dX11_drift_39
    ·
      refine lv_ldc (v := (-1000000003)) hx hb hown (hts (.constant RX11 237 (-1000000003)) (wmx 4 rfl)) dX11_drift_22 ?_
      have hP9 := hP.sub (ws' := [(h0, .inr (11, (.int n0 :: .int n1 :: .int (nI nq) :: .ref m3 :: .ref m4 :: .ref m5 :: .int (nI nh) :: .ref m7 :: .ref m8 :: .ref m9 :: .ref m10 :: .int (nI sd) :: .ref m12 :: .int (nI tx) :: .int n14 :: .int (nI at9) :: .int n16 :: .int n17 :: .ref m18 :: .int (nI rq) :: .ref m20 :: .ref m21 :: .ref m22 :: .ref m23 :: .ref m24 :: .int (nI rh) :: .ref m26 :: .ref m27 :: .ref m28 :: .int (nI un) :: .ref m30 :: .int n31 :: .int n32 :: .ref m33 :: .int n34 :: .int n35 :: .ref m36 :: .int (nI wm) :: .ref m38 :: .ref m39 :: .ref m40 :: .int (nI bk) :: .ref m42 :: .ref m43 :: .ref m44 :: .ref m45 :: []))), (m3, .inl (cI, 8, .inl fm3)), (m4, .inl (cI, 8, .inl fm4)), (m5, .inl (cI, 8, .inl fm5)), (m7, .inl (cI, 4, .inl fm7)), (m8, .inl (cI, 4, .inl fm8)), (m9, .inl (cI, 4, .inl fm9)), (m10, .inl (cI, 34, .inl fm10)), (m30, .inl (cI, 680, .inl fm30))]) [0, 1, 2, 3, 4, 5, 6, 7, 8] rfl
      have hD9 := hD.sub (ws' := [(h0, .inr (11, (.int n0 :: .int n1 :: .int (nI nq) :: .ref m3 :: .ref m4 :: .ref m5 :: .int (nI nh) :: .ref m7 :: .ref m8 :: .ref m9 :: .ref m10 :: .int (nI sd) :: .ref m12 :: .int (nI tx) :: .int n14 :: .int (nI at9) :: .int n16 :: .int n17 :: .ref m18 :: .int (nI rq) :: .ref m20 :: .ref m21 :: .ref m22 :: .ref m23 :: .ref m24 :: .int (nI rh) :: .ref m26 :: .ref m27 :: .ref m28 :: .int (nI un) :: .ref m30 :: .int n31 :: .int n32 :: .ref m33 :: .int n34 :: .int n35 :: .ref m36 :: .int (nI wm) :: .ref m38 :: .ref m39 :: .ref m40 :: .int (nI bk) :: .ref m42 :: .ref m43 :: .ref m44 :: .ref m45 :: []))), (m3, .inl (cI, 8, .inl fm3)), (m4, .inl (cI, 8, .inl fm4)), (m5, .inl (cI, 8, .inl fm5)), (m7, .inl (cI, 4, .inl fm7)), (m8, .inl (cI, 4, .inl fm8)), (m9, .inl (cI, 4, .inl fm9)), (m10, .inl (cI, 34, .inl fm10)), (m30, .inl (cI, 680, .inl fm30))]) [0, 1, 2, 3, 4, 5, 6, 7, 8] (by decide +kernel) rfl
      exact W.iret (v := (-1000000003)) hx hb hr (fun t ht hW => ⟨⟨(-1000000003), (fun _ => 0), rfl, trivial, ⟨fm10, fm30, sd, un, by omega, by omega, va_hq ht hP9, hD9⟩⟩, hS.F ht⟩) hS.2.2 dX11_drift_24
  ·
    refine lv_if_ne (tgt := 15) hx hb dX11_drift_9 (by decide) (fun c24 => ?_) (fun c24 => ?_)
    · exact absurd c24 (by decide)
    clear c24
    refine lv_ldc (v := (-1000000002)) hx hb hown (hts (.constant RX11 111 (-1000000002)) (wmx 2 rfl)) dX11_drift_12 ?_
    have hP9 := hP.sub (ws' := [(h0, .inr (11, (.int n0 :: .int n1 :: .int (nI nq) :: .ref m3 :: .ref m4 :: .ref m5 :: .int (nI nh) :: .ref m7 :: .ref m8 :: .ref m9 :: .ref m10 :: .int (nI sd) :: .ref m12 :: .int (nI tx) :: .int n14 :: .int (nI at9) :: .int n16 :: .int n17 :: .ref m18 :: .int (nI rq) :: .ref m20 :: .ref m21 :: .ref m22 :: .ref m23 :: .ref m24 :: .int (nI rh) :: .ref m26 :: .ref m27 :: .ref m28 :: .int (nI un) :: .ref m30 :: .int n31 :: .int n32 :: .ref m33 :: .int n34 :: .int n35 :: .ref m36 :: .int (nI wm) :: .ref m38 :: .ref m39 :: .ref m40 :: .int (nI bk) :: .ref m42 :: .ref m43 :: .ref m44 :: .ref m45 :: []))), (m3, .inl (cI, 8, .inl fm3)), (m4, .inl (cI, 8, .inl fm4)), (m5, .inl (cI, 8, .inl fm5)), (m7, .inl (cI, 4, .inl fm7)), (m8, .inl (cI, 4, .inl fm8)), (m9, .inl (cI, 4, .inl fm9)), (m10, .inl (cI, 34, .inl fm10)), (m30, .inl (cI, 680, .inl fm30))]) [0, 1, 2, 3, 4, 5, 6, 7, 8] rfl
    have hD9 := hD.sub (ws' := [(h0, .inr (11, (.int n0 :: .int n1 :: .int (nI nq) :: .ref m3 :: .ref m4 :: .ref m5 :: .int (nI nh) :: .ref m7 :: .ref m8 :: .ref m9 :: .ref m10 :: .int (nI sd) :: .ref m12 :: .int (nI tx) :: .int n14 :: .int (nI at9) :: .int n16 :: .int n17 :: .ref m18 :: .int (nI rq) :: .ref m20 :: .ref m21 :: .ref m22 :: .ref m23 :: .ref m24 :: .int (nI rh) :: .ref m26 :: .ref m27 :: .ref m28 :: .int (nI un) :: .ref m30 :: .int n31 :: .int n32 :: .ref m33 :: .int n34 :: .int n35 :: .ref m36 :: .int (nI wm) :: .ref m38 :: .ref m39 :: .ref m40 :: .int (nI bk) :: .ref m42 :: .ref m43 :: .ref m44 :: .ref m45 :: []))), (m3, .inl (cI, 8, .inl fm3)), (m4, .inl (cI, 8, .inl fm4)), (m5, .inl (cI, 8, .inl fm5)), (m7, .inl (cI, 4, .inl fm7)), (m8, .inl (cI, 4, .inl fm8)), (m9, .inl (cI, 4, .inl fm9)), (m10, .inl (cI, 34, .inl fm10)), (m30, .inl (cI, 680, .inl fm30))]) [0, 1, 2, 3, 4, 5, 6, 7, 8] (by decide +kernel) rfl
    exact W.iret (v := (-1000000002)) hx hb hr (fun t ht hW => ⟨⟨(-1000000002), (fun _ => 0), rfl, trivial, ⟨fm10, fm30, sd, un, by omega, by omega, va_hq ht hP9, hD9⟩⟩, hS.F ht⟩) hS.2.2 dX11_drift_14
set_option maxHeartbeats 4000000 in
set_option maxRecDepth 100000 in
theorem c_X11_undo (l : Launch) (dC : Nat → ClassId) (dI : Nat → Nat → Nat) (cI cZ cQ : ClassId) (h0 : Nat) (n0 : Int32) (n1 : Int32) (nq : Nat) (m3 : Nat) (m4 : Nat) (m5 : Nat) (nh : Nat) (m7 : Nat) (m8 : Nat) (m9 : Nat) (m10 : Nat) (sd : Nat) (m12 : Nat) (tx : Nat) (n14 : Int32) (at9 : Nat) (n16 : Int32) (n17 : Int32) (m18 : Nat) (rq : Nat) (m20 : Nat) (m21 : Nat) (m22 : Nat) (m23 : Nat) (m24 : Nat) (rh : Nat) (m26 : Nat) (m27 : Nat) (m28 : Nat) (un : Nat) (m30 : Nat) (n31 : Int32) (n32 : Int32) (m33 : Nat) (n34 : Int32) (n35 : Int32) (m36 : Nat) (wm : Nat) (m38 : Nat) (m39 : Nat) (m40 : Nat) (bk : Nat) (m42 : Nat) (m43 : Nat) (m44 : Nat) (m45 : Nat) (fm10 : Nat → Int32) (fm30 : Nat → Int32) (sz : Nat) (hun : un ≤ 20) : Met l yX11_undo wsX11_undo ({ frames := 0, cells := 0, slots := 0, locals := 40 }) (va_Pc [.ref h0] (fun U => U.heap.size = sz ∧ va_P (dC, dI) vwCl [(h0, .inr (11, (.int n0 :: .int n1 :: .int (nI nq) :: .ref m3 :: .ref m4 :: .ref m5 :: .int (nI nh) :: .ref m7 :: .ref m8 :: .ref m9 :: .ref m10 :: .int (nI sd) :: .ref m12 :: .int (nI tx) :: .int n14 :: .int (nI at9) :: .int n16 :: .int n17 :: .ref m18 :: .int (nI rq) :: .ref m20 :: .ref m21 :: .ref m22 :: .ref m23 :: .ref m24 :: .int (nI rh) :: .ref m26 :: .ref m27 :: .ref m28 :: .int (nI un) :: .ref m30 :: .int n31 :: .int n32 :: .ref m33 :: .int n34 :: .int n35 :: .ref m36 :: .int (nI wm) :: .ref m38 :: .ref m39 :: .ref m40 :: .int (nI bk) :: .ref m42 :: .ref m43 :: .ref m44 :: .ref m45 :: []))), (m10, .inl (cI, 34, .inl fm10)), (m30, .inl (cI, 680, .inl fm30))] U.heap ∧ va_K (dC, dI) vwCl (tys0 cI cZ cQ) U ∧ va_D (fun _ => True) [(h0, .inr (11, (.int n0 :: .int n1 :: .int (nI nq) :: .ref m3 :: .ref m4 :: .ref m5 :: .int (nI nh) :: .ref m7 :: .ref m8 :: .ref m9 :: .ref m10 :: .int (nI sd) :: .ref m12 :: .int (nI tx) :: .int n14 :: .int (nI at9) :: .int n16 :: .int n17 :: .ref m18 :: .int (nI rq) :: .ref m20 :: .ref m21 :: .ref m22 :: .ref m23 :: .ref m24 :: .int (nI rh) :: .ref m26 :: .ref m27 :: .ref m28 :: .int (nI un) :: .ref m30 :: .int n31 :: .int n32 :: .ref m33 :: .int n34 :: .int n35 :: .ref m36 :: .int (nI wm) :: .ref m38 :: .ref m39 :: .ref m40 :: .int (nI bk) :: .ref m42 :: .ref m43 :: .ref m44 :: .ref m45 :: []))), (m10, .inl (cI, 34, .inl fm10)), (m30, .inl (cI, 680, .inl fm30))])) (va_Qi (fun (r : Int32) (u : Nat → Nat) => True) (fun (_ : Nat → Nat) (t : State) => ∃ (gg0 : Nat → Int32) (kk0 : Nat), kk0 ≤ 20 ∧ va_P (dC, dI) vwCl [(h0, .inr (11, (.int n0 :: .int n1 :: .int (nI nq) :: .ref m3 :: .ref m4 :: .ref m5 :: .int (nI nh) :: .ref m7 :: .ref m8 :: .ref m9 :: .ref m10 :: .int (nI sd) :: .ref m12 :: .int (nI tx) :: .int n14 :: .int (nI at9) :: .int n16 :: .int n17 :: .ref m18 :: .int (nI rq) :: .ref m20 :: .ref m21 :: .ref m22 :: .ref m23 :: .ref m24 :: .int (nI rh) :: .ref m26 :: .ref m27 :: .ref m28 :: .int (nI kk0) :: .ref m30 :: .int n31 :: .int n32 :: .ref m33 :: .int n34 :: .int n35 :: .ref m36 :: .int (nI wm) :: .ref m38 :: .ref m39 :: .ref m40 :: .int (nI bk) :: .ref m42 :: .ref m43 :: .ref m44 :: .ref m45 :: []))), (m10, .inl (cI, 34, .inl gg0)), (m30, .inl (cI, 680, .inl fm30))] t.heap ∧ va_D (va_A [(h0, .inr (11, (.int n0 :: .int n1 :: .int (nI nq) :: .ref m3 :: .ref m4 :: .ref m5 :: .int (nI nh) :: .ref m7 :: .ref m8 :: .ref m9 :: .ref m10 :: .int (nI sd) :: .ref m12 :: .int (nI tx) :: .int n14 :: .int (nI at9) :: .int n16 :: .int n17 :: .ref m18 :: .int (nI rq) :: .ref m20 :: .ref m21 :: .ref m22 :: .ref m23 :: .ref m24 :: .int (nI rh) :: .ref m26 :: .ref m27 :: .ref m28 :: .int (nI un) :: .ref m30 :: .int n31 :: .int n32 :: .ref m33 :: .int n34 :: .int n35 :: .ref m36 :: .int (nI wm) :: .ref m38 :: .ref m39 :: .ref m40 :: .int (nI bk) :: .ref m42 :: .ref m43 :: .ref m44 :: .ref m45 :: []))), (m10, .inl (cI, 34, .inl fm10)), (m30, .inl (cI, 680, .inl fm30))] sz) [(h0, .inr (11, (.int n0 :: .int n1 :: .int (nI nq) :: .ref m3 :: .ref m4 :: .ref m5 :: .int (nI nh) :: .ref m7 :: .ref m8 :: .ref m9 :: .ref m10 :: .int (nI sd) :: .ref m12 :: .int (nI tx) :: .int n14 :: .int (nI at9) :: .int n16 :: .int n17 :: .ref m18 :: .int (nI rq) :: .ref m20 :: .ref m21 :: .ref m22 :: .ref m23 :: .ref m24 :: .int (nI rh) :: .ref m26 :: .ref m27 :: .ref m28 :: .int (nI kk0) :: .ref m30 :: .int n31 :: .int n32 :: .ref m33 :: .int n34 :: .int n35 :: .ref m36 :: .int (nI wm) :: .ref m38 :: .ref m39 :: .ref m40 :: .int (nI bk) :: .ref m42 :: .ref m43 :: .ref m44 :: .ref m45 :: []))), (m10, .inl (cI, 34, .inl gg0)), (m30, .inl (cI, 680, .inl fm30))]) (va_A [(h0, .inr (11, (.int n0 :: .int n1 :: .int (nI nq) :: .ref m3 :: .ref m4 :: .ref m5 :: .int (nI nh) :: .ref m7 :: .ref m8 :: .ref m9 :: .ref m10 :: .int (nI sd) :: .ref m12 :: .int (nI tx) :: .int n14 :: .int (nI at9) :: .int n16 :: .int n17 :: .ref m18 :: .int (nI rq) :: .ref m20 :: .ref m21 :: .ref m22 :: .ref m23 :: .ref m24 :: .int (nI rh) :: .ref m26 :: .ref m27 :: .ref m28 :: .int (nI un) :: .ref m30 :: .int n31 :: .int n32 :: .ref m33 :: .int n34 :: .int n35 :: .ref m36 :: .int (nI wm) :: .ref m38 :: .ref m39 :: .ref m40 :: .int (nI bk) :: .ref m42 :: .ref m43 :: .ref m44 :: .ref m45 :: []))), (m10, .inl (cI, 34, .inl fm10)), (m30, .inl (cI, 680, .inl fm30))] sz)) 0 0 (va_A [(h0, .inr (11, (.int n0 :: .int n1 :: .int (nI nq) :: .ref m3 :: .ref m4 :: .ref m5 :: .int (nI nh) :: .ref m7 :: .ref m8 :: .ref m9 :: .ref m10 :: .int (nI sd) :: .ref m12 :: .int (nI tx) :: .int n14 :: .int (nI at9) :: .int n16 :: .int n17 :: .ref m18 :: .int (nI rq) :: .ref m20 :: .ref m21 :: .ref m22 :: .ref m23 :: .ref m24 :: .int (nI rh) :: .ref m26 :: .ref m27 :: .ref m28 :: .int (nI un) :: .ref m30 :: .int n31 :: .int n32 :: .ref m33 :: .int n34 :: .int n35 :: .ref m36 :: .int (nI wm) :: .ref m38 :: .ref m39 :: .ref m40 :: .int (nI bk) :: .ref m42 :: .ref m43 :: .ref m44 :: .ref m45 :: []))), (m10, .inl (cI, 34, .inl fm10)), (m30, .inl (cI, 680, .inl fm30))] sz) := by
  refine Met.ofW (cc := cX11_undo) (maxL := 2) (ret := (some .int)) (by decide) rfl ?_
  intro p e s m args below meth c s₁ B hml hv
  obtain ⟨rfl, hsz, hP, hK, hD0⟩ := hv
  have hx := B.exec
  have hb := B.bytes
  have hr := B.returns
  have hts := atoms_spec (ws := wsX11_undo) B.pre
  have hown : s.vm.findClass RX11 = some m.cls := findClass_of_methodNamed B.named
  have hlocks := B.notSynchronized
  have hi_X11 : ∀ w ∈ u_ws RX11 TX11 46, w ∈ wsX11_undo := fun _ h => List.mem_cons_of_mem _ (List.mem_append_right _ (h))
  subst hsz
  have hD := hD0.self (sz := s.heap.size)
  generalize hAe : va_A [(h0, .inr (11, (.int n0 :: .int n1 :: .int (nI nq) :: .ref m3 :: .ref m4 :: .ref m5 :: .int (nI nh) :: .ref m7 :: .ref m8 :: .ref m9 :: .ref m10 :: .int (nI sd) :: .ref m12 :: .int (nI tx) :: .int n14 :: .int (nI at9) :: .int n16 :: .int n17 :: .ref m18 :: .int (nI rq) :: .ref m20 :: .ref m21 :: .ref m22 :: .ref m23 :: .ref m24 :: .int (nI rh) :: .ref m26 :: .ref m27 :: .ref m28 :: .int (nI un) :: .ref m30 :: .int n31 :: .int n32 :: .ref m33 :: .int n34 :: .int n35 :: .ref m36 :: .int (nI wm) :: .ref m38 :: .ref m39 :: .ref m40 :: .int (nI bk) :: .ref m42 :: .ref m43 :: .ref m44 :: .ref m45 :: []))), (m10, .inl (cI, 34, .inl fm10)), (m30, .inl (cI, 680, .inl fm30))] s.heap.size = A at hD ⊢
  have hA : ∀ q : Nat, s.heap.size ≤ q → A q := fun q h => by rw [← hAe]; exact Or.inr h
  have hS : va_S A s.heap s.heap [] := va_S.rf
  have hl := lv_entry ([.ref h0]) (n := 2) (Nat.le_of_ble_eq_true rfl)
  rw [lg_entry_eq]
  generalize (lg_sl ([.ref h0]) ++ List.replicate (2 - (lg_sl ([.ref h0])).length) Slot.unset).toArray = ls at hl ⊢
  have hl : lv_has ls 2 [(0, .ref h0)] := hl
  refine lv_aload_n hx hb dX11_undo_0 rfl (lv_at hl 0 rfl) ?_
  refine va_get (D := (dC, dI)) (ci := 11) (v := .int (nI un)) (C := RX11) (T := TX11) (N := 46) hx hb hts hi_X11 hown hK hP 0 rfl rfl 29 (by decide) (hts (.fieldLink RX11 174 "LeftQuillsModel" "undos" "I") (wmx 1 rfl)) (fun _ h9 => h9) rfl dX11_undo_1 ?_
  refine lv_if_ne (tgt := 10) hx hb dX11_undo_4 (by decide) (fun c1 => ?_) (fun c1 => ?_)
  ·
    have c1 : ¬ un = 0 := fun h => c1 ((nI_eq (a := un) (b := 0) (by omega) (by omega)).mpr h)
    refine lv_aload_n hx hb dX11_undo_10 rfl (lv_at hl 0 rfl) ?_
    refine lv_dup hx hb dX11_undo_11 rfl ?_
    refine va_get (D := (dC, dI)) (ci := 11) (v := .int (nI un)) (C := RX11) (T := TX11) (N := 46) hx hb hts hi_X11 hown hK hP 0 rfl rfl 29 (by decide) (hts (.fieldLink RX11 174 "LeftQuillsModel" "undos" "I") (wmx 1 rfl)) (fun _ h9 => h9) rfl dX11_undo_12 ?_
    refine lv_iconst (v := 1) hx hb dX11_undo_15 (by decide) ?_
    refine lv_isub hx hb dX11_undo_16 ?_
    refine lv_topi (fun z2 ez2 => ?_)
    obtain rfl : z2 = nI (un - 1) := ez2.trans (pk_sub (a := un) (b := 1) (by omega))
    refine va_put (D := (dC, dI)) (ci := 11) (v := .int (nI (un - 1))) (ty := .int) (C := RX11) (T := TX11) (N := 46) hx hb hts hi_X11 tyX11 tyX11_ok nmX11 hown hK hP hD hS 0 rfl rfl 29 (by decide) (hts (.fieldLink RX11 174 "LeftQuillsModel" "undos" "I") (wmx 1 rfl)) (fun _ h9 => h9) rfl (by decide +kernel) rfl rfl (Nat.le_of_ble_eq_true rfl) dX11_undo_17 (fun H locs hP hD hS => ?_)
    have hPD : pdW (dC, dI) vwCl A [(h0, .inr (11, (.int n0 :: .int n1 :: .int (nI nq) :: .ref m3 :: .ref m4 :: .ref m5 :: .int (nI nh) :: .ref m7 :: .ref m8 :: .ref m9 :: .ref m10 :: .int (nI sd) :: .ref m12 :: .int (nI tx) :: .int n14 :: .int (nI at9) :: .int n16 :: .int n17 :: .ref m18 :: .int (nI rq) :: .ref m20 :: .ref m21 :: .ref m22 :: .ref m23 :: .ref m24 :: .int (nI rh) :: .ref m26 :: .ref m27 :: .ref m28 :: .int (nI (un - 1)) :: .ref m30 :: .int n31 :: .int n32 :: .ref m33 :: .int n34 :: .int n35 :: .ref m36 :: .int (nI wm) :: .ref m38 :: .ref m39 :: .ref m40 :: .int (nI bk) :: .ref m42 :: .ref m43 :: .ref m44 :: .ref m45 :: []))), (m10, .inl (cI, 34, .inl fm10)), (m30, .inl (cI, 680, .inl fm30))] H := ⟨hP, hD⟩
    have hP := hPD.1
    have hD := hPD.2
    clear hPD
    refine lv_iconst (v := 0) hx hb dX11_undo_20 (by decide) ?_
    refine lv_istore_n (lv' := [(1, .int 0), (0, .ref h0)]) hx hb dX11_undo_21 rfl hl (by decide) rfl (fun ls hl => ?_)
    refine (fun (K : ∀ (d22 : Nat) (k22 : Nat) (f22_m10 : Nat → Int32) (H : Heap) (locs : List Loc) (ls : Array Slot), k22 + d22 = 34 → va_P (dC, dI) vwCl [(h0, .inr (11, (.int n0 :: .int n1 :: .int (nI nq) :: .ref m3 :: .ref m4 :: .ref m5 :: .int (nI nh) :: .ref m7 :: .ref m8 :: .ref m9 :: .ref m10 :: .int (nI sd) :: .ref m12 :: .int (nI tx) :: .int n14 :: .int (nI at9) :: .int n16 :: .int n17 :: .ref m18 :: .int (nI rq) :: .ref m20 :: .ref m21 :: .ref m22 :: .ref m23 :: .ref m24 :: .int (nI rh) :: .ref m26 :: .ref m27 :: .ref m28 :: .int (nI (un - 1)) :: .ref m30 :: .int n31 :: .int n32 :: .ref m33 :: .int n34 :: .int n35 :: .ref m36 :: .int (nI wm) :: .ref m38 :: .ref m39 :: .ref m40 :: .int (nI bk) :: .ref m42 :: .ref m43 :: .ref m44 :: .ref m45 :: []))), (m10, .inl (cI, 34, .inl f22_m10)), (m30, .inl (cI, 680, .inl fm30))] H → va_D A [(h0, .inr (11, (.int n0 :: .int n1 :: .int (nI nq) :: .ref m3 :: .ref m4 :: .ref m5 :: .int (nI nh) :: .ref m7 :: .ref m8 :: .ref m9 :: .ref m10 :: .int (nI sd) :: .ref m12 :: .int (nI tx) :: .int n14 :: .int (nI at9) :: .int n16 :: .int n17 :: .ref m18 :: .int (nI rq) :: .ref m20 :: .ref m21 :: .ref m22 :: .ref m23 :: .ref m24 :: .int (nI rh) :: .ref m26 :: .ref m27 :: .ref m28 :: .int (nI (un - 1)) :: .ref m30 :: .int n31 :: .int n32 :: .ref m33 :: .int n34 :: .int n35 :: .ref m36 :: .int (nI wm) :: .ref m38 :: .ref m39 :: .ref m40 :: .int (nI bk) :: .ref m42 :: .ref m43 :: .ref m44 :: .ref m45 :: []))), (m10, .inl (cI, 34, .inl f22_m10)), (m30, .inl (cI, 680, .inl fm30))] → va_S A s.heap H locs → lv_has ls 2 [(1, .int (nI k22)), (0, .ref h0)] → W p l e _ s m _ below meth c H locs _ _ _ (F0 m 22 ls [])) => K 34 0 fm10 _ _ _ (by omega) hP hD hS (lv_sub hl [0, 1] rfl)) ?_
    intro d22
    induction d22 with
    | zero =>
      intro k22 f22_m10 H locs ls hk22 hP hD hS hl
      refine lv_iload_n hx hb dX11_undo_22 rfl (lv_at hl 0 rfl) ?_
      refine lv_bipush (v := 34) hx hb dX11_undo_23 (by decide) ?_
      refine lv_icmp_ge (tgt := 54) hx hb dX11_undo_25 (by decide) (fun c3 => ?_) (fun c3 => ?_)
      ·
        have c3 : 34 ≤ k22 := (nI_leI (a := 34) (b := k22) (by omega) (by omega)).mp c3
        refine lv_aload_n hx hb dX11_undo_54 rfl (lv_at hl 1 rfl) ?_
        refine va_get (D := (dC, dI)) (ci := 11) (v := .int (nI (un - 1))) (C := RX11) (T := TX11) (N := 46) hx hb hts hi_X11 hown hK hP 0 rfl rfl 29 (by decide) (hts (.fieldLink RX11 174 "LeftQuillsModel" "undos" "I") (wmx 1 rfl)) (fun _ h9 => h9) rfl dX11_undo_55 ?_
        have hP9 := hP.sub (ws' := [(h0, .inr (11, (.int n0 :: .int n1 :: .int (nI nq) :: .ref m3 :: .ref m4 :: .ref m5 :: .int (nI nh) :: .ref m7 :: .ref m8 :: .ref m9 :: .ref m10 :: .int (nI sd) :: .ref m12 :: .int (nI tx) :: .int n14 :: .int (nI at9) :: .int n16 :: .int n17 :: .ref m18 :: .int (nI rq) :: .ref m20 :: .ref m21 :: .ref m22 :: .ref m23 :: .ref m24 :: .int (nI rh) :: .ref m26 :: .ref m27 :: .ref m28 :: .int (nI (un - 1)) :: .ref m30 :: .int n31 :: .int n32 :: .ref m33 :: .int n34 :: .int n35 :: .ref m36 :: .int (nI wm) :: .ref m38 :: .ref m39 :: .ref m40 :: .int (nI bk) :: .ref m42 :: .ref m43 :: .ref m44 :: .ref m45 :: []))), (m10, .inl (cI, 34, .inl f22_m10)), (m30, .inl (cI, 680, .inl fm30))]) [0, 1, 2] rfl
        have hD9 := hD.sub (ws' := [(h0, .inr (11, (.int n0 :: .int n1 :: .int (nI nq) :: .ref m3 :: .ref m4 :: .ref m5 :: .int (nI nh) :: .ref m7 :: .ref m8 :: .ref m9 :: .ref m10 :: .int (nI sd) :: .ref m12 :: .int (nI tx) :: .int n14 :: .int (nI at9) :: .int n16 :: .int n17 :: .ref m18 :: .int (nI rq) :: .ref m20 :: .ref m21 :: .ref m22 :: .ref m23 :: .ref m24 :: .int (nI rh) :: .ref m26 :: .ref m27 :: .ref m28 :: .int (nI (un - 1)) :: .ref m30 :: .int n31 :: .int n32 :: .ref m33 :: .int n34 :: .int n35 :: .ref m36 :: .int (nI wm) :: .ref m38 :: .ref m39 :: .ref m40 :: .int (nI bk) :: .ref m42 :: .ref m43 :: .ref m44 :: .ref m45 :: []))), (m10, .inl (cI, 34, .inl f22_m10)), (m30, .inl (cI, 680, .inl fm30))]) [0, 1, 2] (by decide +kernel) rfl
        exact W.iret (v := nI (un - 1)) hx hb hr (fun t ht hW => ⟨⟨nI (un - 1), (fun _ => 0), rfl, trivial, ⟨f22_m10, (un - 1), by omega, va_hq ht hP9, hD9⟩⟩, hS.F ht⟩) hS.2.2 dX11_undo_58
      ·
        have c3 : ¬ 34 ≤ k22 := fun h => c3 ((nI_leI (a := 34) (b := k22) (by omega) (by omega)).mpr h)
        omega
    | succ d22 ih22 =>
      intro k22 f22_m10 H locs ls hk22 hP hD hS hl
      refine lv_iload_n hx hb dX11_undo_22 rfl (lv_at hl 0 rfl) ?_
      refine lv_bipush (v := 34) hx hb dX11_undo_23 (by decide) ?_
      refine lv_icmp_ge (tgt := 54) hx hb dX11_undo_25 (by decide) (fun c4 => ?_) (fun c4 => ?_)
      ·
        have c4 : 34 ≤ k22 := (nI_leI (a := 34) (b := k22) (by omega) (by omega)).mp c4
        omega
      ·
        have c4 : ¬ 34 ≤ k22 := fun h => c4 ((nI_leI (a := 34) (b := k22) (by omega) (by omega)).mpr h)
        refine lv_aload_n hx hb dX11_undo_28 rfl (lv_at hl 1 rfl) ?_
        refine va_get (D := (dC, dI)) (ci := 11) (v := .ref m10) (C := RX11) (T := TX11) (N := 46) hx hb hts hi_X11 hown hK hP 0 rfl rfl 10 (by decide) (hts (.fieldLink RX11 28 "LeftQuillsModel" "now" "[I") (wmx 3 rfl)) (fun _ h9 => h9) rfl dX11_undo_29 ?_
        refine lv_iload_n hx hb dX11_undo_32 rfl (lv_at hl 0 rfl) ?_
        refine lv_aload_n hx hb dX11_undo_33 rfl (lv_at hl 1 rfl) ?_
        refine va_get (D := (dC, dI)) (ci := 11) (v := .ref m30) (C := RX11) (T := TX11) (N := 46) hx hb hts hi_X11 hown hK hP 0 rfl rfl 30 (by decide) (hts (.fieldLink RX11 65 "LeftQuillsModel" "past" "[I") (wmx 4 rfl)) (fun _ h9 => h9) rfl dX11_undo_34 ?_
        refine lv_bipush (v := 34) hx hb dX11_undo_37 (by decide) ?_
        refine lv_aload_n hx hb dX11_undo_39 rfl (lv_at hl 1 rfl) ?_
        refine va_get (D := (dC, dI)) (ci := 11) (v := .int (nI (un - 1))) (C := RX11) (T := TX11) (N := 46) hx hb hts hi_X11 hown hK hP 0 rfl rfl 29 (by decide) (hts (.fieldLink RX11 174 "LeftQuillsModel" "undos" "I") (wmx 1 rfl)) (fun _ h9 => h9) rfl dX11_undo_40 ?_
        refine lv_imul hx hb dX11_undo_43 ?_
        refine lv_topi (fun z5 ez5 => ?_)
        obtain rfl : z5 = nI (34 * (un - 1)) := ez5.trans (pk_mul 34 (un - 1))
        refine lv_iload_n hx hb dX11_undo_44 rfl (lv_at hl 0 rfl) ?_
        refine lv_iadd hx hb dX11_undo_45 ?_
        refine lv_topi (fun z6 ez6 => ?_)
        obtain rfl : z6 = nI ((34 * (un - 1)) + k22) := ez6.trans (nI_add (34 * (un - 1)) k22)
        refine va_iald hx hb hK hP 2 0 rfl rfl (vp_in_nI (n := (34 * (un - 1)) + k22) (N := 680) (by omega) (by decide)) dX11_undo_46 ?_
        refine W.eq (g2 := F0 m 47 ls [.int (fm30 ((34 * (un - 1)) + k22)), .int (nI k22), .ref m10]) (congrArg (fun y9 => F0 m 47 ls (.int (fm30 y9) :: [.int (nI k22), .ref m10])) ((nI_clamp (n := (34 * (un - 1)) + k22) (by omega)))) ?_
        refine va_iast hx hb hK hP hD hS 1 0 rfl rfl (vp_in_nI (n := k22) (N := 34) (by omega) (by decide)) dX11_undo_47 (fun H locs hP hD hS => ?_)
        generalize hgf7 : upd f22_m10 ((nI k22).toNatClampNeg) (fm30 ((34 * (un - 1)) + k22)) = f7 at hP hD
        have hPD : pdW (dC, dI) vwCl A [(h0, .inr (11, (.int n0 :: .int n1 :: .int (nI nq) :: .ref m3 :: .ref m4 :: .ref m5 :: .int (nI nh) :: .ref m7 :: .ref m8 :: .ref m9 :: .ref m10 :: .int (nI sd) :: .ref m12 :: .int (nI tx) :: .int n14 :: .int (nI at9) :: .int n16 :: .int n17 :: .ref m18 :: .int (nI rq) :: .ref m20 :: .ref m21 :: .ref m22 :: .ref m23 :: .ref m24 :: .int (nI rh) :: .ref m26 :: .ref m27 :: .ref m28 :: .int (nI (un - 1)) :: .ref m30 :: .int n31 :: .int n32 :: .ref m33 :: .int n34 :: .int n35 :: .ref m36 :: .int (nI wm) :: .ref m38 :: .ref m39 :: .ref m40 :: .int (nI bk) :: .ref m42 :: .ref m43 :: .ref m44 :: .ref m45 :: []))), (m10, .inl (cI, 34, .inl f7)), (m30, .inl (cI, 680, .inl fm30))] H := ⟨hP, hD⟩
        have hP := hPD.1
        have hD := hPD.2
        clear hPD
        refine lv_iinc (v := nI (k22 + 1)) (lv' := [(1, .int (nI (k22 + 1))), (0, .ref h0)]) hx hb dX11_undo_48 hl (k := 0) rfl ((rfl : nI k22 + Int32.ofInt 1 = nI k22 + 1).trans (nI_add k22 1)) (by decide) rfl (fun ls hl => ?_)
        refine lv_goto (tgt := 22) hx hb dX11_undo_51 (by decide) ?_
        exact ih22 (k22 + 1) f7 _ _ _ (by omega) hP hD hS (lv_sub hl [0, 1] rfl)
  ·
    have c1 : un = 0 := (nI_eq (a := un) (b := 0) (by omega) (by omega)).mp c1
    refine lv_ldc (v := (-1000000003)) hx hb hown (hts (.constant RX11 237 (-1000000003)) (wmx 2 rfl)) dX11_undo_7 ?_
    have hP9 := hP.sub (ws' := [(h0, .inr (11, (.int n0 :: .int n1 :: .int (nI nq) :: .ref m3 :: .ref m4 :: .ref m5 :: .int (nI nh) :: .ref m7 :: .ref m8 :: .ref m9 :: .ref m10 :: .int (nI sd) :: .ref m12 :: .int (nI tx) :: .int n14 :: .int (nI at9) :: .int n16 :: .int n17 :: .ref m18 :: .int (nI rq) :: .ref m20 :: .ref m21 :: .ref m22 :: .ref m23 :: .ref m24 :: .int (nI rh) :: .ref m26 :: .ref m27 :: .ref m28 :: .int (nI un) :: .ref m30 :: .int n31 :: .int n32 :: .ref m33 :: .int n34 :: .int n35 :: .ref m36 :: .int (nI wm) :: .ref m38 :: .ref m39 :: .ref m40 :: .int (nI bk) :: .ref m42 :: .ref m43 :: .ref m44 :: .ref m45 :: []))), (m10, .inl (cI, 34, .inl fm10)), (m30, .inl (cI, 680, .inl fm30))]) [0, 1, 2] rfl
    have hD9 := hD.sub (ws' := [(h0, .inr (11, (.int n0 :: .int n1 :: .int (nI nq) :: .ref m3 :: .ref m4 :: .ref m5 :: .int (nI nh) :: .ref m7 :: .ref m8 :: .ref m9 :: .ref m10 :: .int (nI sd) :: .ref m12 :: .int (nI tx) :: .int n14 :: .int (nI at9) :: .int n16 :: .int n17 :: .ref m18 :: .int (nI rq) :: .ref m20 :: .ref m21 :: .ref m22 :: .ref m23 :: .ref m24 :: .int (nI rh) :: .ref m26 :: .ref m27 :: .ref m28 :: .int (nI un) :: .ref m30 :: .int n31 :: .int n32 :: .ref m33 :: .int n34 :: .int n35 :: .ref m36 :: .int (nI wm) :: .ref m38 :: .ref m39 :: .ref m40 :: .int (nI bk) :: .ref m42 :: .ref m43 :: .ref m44 :: .ref m45 :: []))), (m10, .inl (cI, 34, .inl fm10)), (m30, .inl (cI, 680, .inl fm30))]) [0, 1, 2] (by decide +kernel) rfl
    exact W.iret (v := (-1000000003)) hx hb hr (fun t ht hW => ⟨⟨(-1000000003), (fun _ => 0), rfl, trivial, ⟨fm10, un, by omega, va_hq ht hP9, hD9⟩⟩, hS.F ht⟩) hS.2.2 dX11_undo_9

