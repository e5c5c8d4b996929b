set_option maxHeartbeats 4000000 in
set_option maxRecDepth 100000 in
theorem c_X10_handD (l : Launch) (dC : Nat → ClassId) (dI : Nat → Nat → Nat) (cI cZ cQ : ClassId) (h0 : Nat) (x4 : Nat) (x6 : Nat) (f_h0 : List Value) (o5 : Nat) (o6 : Nat) (o7 : Nat) (o10 : Nat) (o11 : Nat) (o12 : Nat) (nh : Nat) (f_x4 : List Value) (mi : Int32) (cu : Int32) (a2 : Nat) (a3 : Nat) (a4 : Nat) (a5 : Nat) (a6 : Nat) (f_x6 : List Value) (fa5 : Nat → Int32) (fa6 : Nat → Int32) (fo10 : Nat → Int32) (fo11 : Nat → Int32) (fo12 : Nat → Int32) (q0 : Int32) (q1 : Int32) (sz : Nat) (e_h0_4 : fAt f_h0 4 = some (.ref x4)) (e_h0_6 : fAt f_h0 6 = some (.ref x6)) (e_x4_5 : fAt f_x4 5 = some (.ref o5)) (e_x4_6 : fAt f_x4 6 = some (.ref o6)) (e_x4_7 : fAt f_x4 7 = some (.ref o7)) (e_x4_10 : fAt f_x4 10 = some (.ref o10)) (e_x4_11 : fAt f_x4 11 = some (.ref o11)) (e_x4_12 : fAt f_x4 12 = some (.ref o12)) (e_x4_4 : fAt f_x4 4 = some (.int (nI nh))) (e_x6_0 : fAt f_x6 0 = some (.int mi)) (e_x6_1 : fAt f_x6 1 = some (.int cu)) (e_x6_2 : fAt f_x6 2 = some (.ref a2)) (e_x6_3 : fAt f_x6 3 = some (.ref a3)) (e_x6_4 : fAt f_x6 4 = some (.ref a4)) (e_x6_5 : fAt f_x6 5 = some (.ref a5)) (e_x6_6 : fAt f_x6 6 = some (.ref a6)) (e_x6_7 : fAt f_x6 7 = some (.ref x4)) (hnh : nh ≤ 4) : Met l yX10_hand wsX10_hand ({ frames := 1, cells := 0, slots := 0, locals := 61 }) (va_Pc [.ref h0, .int q0, .int q1] (fun U => U.heap.size = sz ∧ va_P (dC, dI) vwCl [(h0, .inr (10, f_h0)), (x4, .inr (5, f_x4)), (x6, .inr (1, f_x6)), (a5, .inl (cI, 4, .inl fa5)), (a6, .inl (cI, 4, .inl fa6)), (o10, .inl (cI, 4, .inl fo10)), (o11, .inl (cI, 4, .inl fo11)), (o12, .inl (cI, 4, .inl fo12))] U.heap ∧ va_K (dC, dI) vwCl (tys0 cI cZ cQ) U)) (va_Qi (fun (r : Int32) (u : Nat → Nat) => r = qlV 4 nh q0 q1 (fun j k => ([fo10 j, fo11 j, fo12 j, fa5 j, fa6 j] : List Int32).getD k 0)) (fun (_ : Nat → Nat) (_ : State) => True) (fun _ : Nat => False)) 0 0 (fun _ : Nat => False) := by
  refine Met.ofW (cc := cX10_hand) (maxL := 3) (ret := (some .int)) (by decide) rfl ?_
  intro p e s m args below meth c s₁ B hml hv
  obtain ⟨rfl, hsz, hP, hK⟩ := hv
  have hx := B.exec
  have hb := B.bytes
  have hr := B.returns
  have hts := atoms_spec (ws := wsX10_hand) B.pre
  have hown : s.vm.findClass RX10 = some m.cls := findClass_of_methodNamed B.named
  have hlocks := B.notSynchronized
  have hi_X1 : ∀ w ∈ u_ws RX1 TX1 8, w ∈ wsX10_hand := fun _ h => List.mem_cons_of_mem _ (List.mem_append_right _ (h))
  have hi_X10 : ∀ w ∈ u_ws RX10 TX10 14, w ∈ wsX10_hand := fun _ h => List.mem_cons_of_mem _ (List.mem_append_left _ (List.mem_append_left _ (List.mem_append_right _ (h))))
  have hi_X5 : ∀ w ∈ u_ws RX5 TX5 13, w ∈ wsX10_hand := fun _ h => List.mem_cons_of_mem _ (List.mem_append_left _ (List.mem_append_right _ (h)))
  subst hsz
  have hS : va_S (fun _ : Nat => False) s.heap s.heap [] := va_S.rf
  have hl := lv_entry ([.ref h0, .int q0, .int q1]) (n := 3) (Nat.le_of_ble_eq_true rfl)
  rw [lg_entry_eq]
  generalize (lg_sl ([.ref h0, .int q0, .int q1]) ++ List.replicate (3 - (lg_sl ([.ref h0, .int q0, .int q1])).length) Slot.unset).toArray = ls at hl ⊢
  have hl : lv_has ls 3 [(0, .ref h0), (1, .int q0), (2, .int q1)] := hl
  refine lv_aload_n hx hb dX10_hand_0 rfl (lv_at hl 0 rfl) ?_
  refine lv_iload_n hx hb dX10_hand_1 rfl (lv_at hl 1 rfl) ?_
  have hPc := hP.sub (ws' := [(h0, .inr (10, f_h0)), (x4, .inr (5, f_x4))]) [0, 1] rfl
  refine va_calli (va_runV (As := [.int q0]) (rest := []) ⟨hx, hb, hml, hown, hts⟩ (c_X10_isHand l dC dI cI cZ cQ h0 x4 f_h0 (nI nh) f_x4 q0 s.heap.size e_h0_4 e_x4_4) (cwV 1 hts gX10_hand_X10_isHand rfl rfl rfl hd_X10_isHand_RX10 ⟨Nat.le_of_ble_eq_true rfl, Nat.le_of_ble_eq_true rfl⟩) (pv_R (va_recv hK hP (ci := 10) (q0 := 0) rfl rfl) hK hPc) rfl rfl hl.1 rfl (lv_room (Nat.le_of_ble_eq_true rfl)) dX10_hand_2 ⟨Nat.le_of_ble_eq_true rfl, Nat.le_of_ble_eq_true rfl⟩) hS (fun q _ h => False.elim h) (fun q h => False.elim h) (fun r1 u2 t H1 locs ht hvm hw3 hB hz1 hk1 hS => ?_)
  have hP := hP.kept (fun k q hk => hk1 q.1 (hP k q hk).lt (fun h => h))
  clear hz1 hk1 hPc
  generalize H1 = H at hP hS ht ⊢
  try dsimp only at hw3
  rcases hw3 with ⟨rfl, hw3⟩ | ⟨rfl, hw3⟩
  ·
    obtain ⟨j4, hj4, rfl⟩ := x_ix hw3 (by omega)
    refine lv_if_ne (tgt := 11) hx hb dX10_hand_5 (by decide) (fun c5 => ?_) (fun c5 => ?_)
    rotate_left
    · exact absurd c5 (by decide)
    clear c5
    refine lv_iload_n hx hb dX10_hand_11 rfl (lv_at hl 2 rfl) ?_
    by_cases c6 : q1.toInt < 0 ∨ 4 < q1.toInt
    · refine lv_tableOut (tgt := 98) hx hb dX10_hand_12 c6 (by decide) ?_
      refine lv_ldc (v := (-1000000002)) hx hb hown (hts (.constant RX10 103 (-1000000002)) (wmx 9 rfl)) dX10_hand_98 ?_
      exact W.iret (v := (-1000000002)) hx hb hr (fun t ht hW => ⟨⟨(-1000000002), (fun _ => 0), rfl, (ql_o hw3 c6), trivial⟩, hS.F ht⟩) hS.2.2 dX10_hand_100
    have h7 := x_sw_0_4 c6
    rcases h7 with h7 | h7 | h7 | h7 | h7
    · refine lv_tableIn (tgt := 48) hx hb dX10_hand_12 (by rw [h7]; decide) (by rw [h7]; decide) (by rw [h7]; rfl) (by decide) ?_
      refine lv_aload_n hx hb dX10_hand_48 rfl (lv_at hl 0 rfl) ?_
      refine va_get (D := (dC, dI)) (ci := 10) (v := .ref x4) (C := RX10) (T := TX10) (N := 14) hx hb hts hi_X10 hown hK hP 0 rfl rfl 4 (by decide) (hts (.fieldLink RX10 26 "LeftQuills" "office" "LLeftQuills$Office;") (wmx 2 rfl)) (fun _ h9 => h9) e_h0_4 dX10_hand_49 ?_
      refine va_get (D := (dC, dI)) (ci := 5) (v := .ref o10) (C := RX5) (T := TX5) (N := 13) hx hb hts hi_X5 hown hK hP 1 rfl rfl 10 (by decide) (hts (.fieldLink RX10 186 "LeftQuills$Office" "side" "[I") (wmx 3 rfl)) (fun _ h9 => h9) e_x4_10 dX10_hand_52 ?_
      refine lv_iload_n hx hb dX10_hand_55 rfl (lv_at hl 1 rfl) ?_
      refine va_iald hx hb hK hP 5 0 rfl rfl (vp_in_nI (n := j4) (N := 4) (by omega) (by decide)) dX10_hand_56 ?_
      refine W.eq (g2 := F0 m 57 ls [.int (fo10 j4)]) (congrArg (fun y9 => F0 m 57 ls (.int (fo10 y9) :: [])) ((nI_clamp (n := j4) (by omega)))) ?_
      exact W.iret (v := fo10 j4) hx hb hr (fun t ht hW => ⟨⟨fo10 j4, (fun _ => 0), rfl, (ql_k (m := 4) (k := 0) (V := (fun j k => ([fo10 j, fo11 j, fo12 j, fa5 j, fa6 j] : List Int32).getD k 0)) hw3 (by omega) (by decide) (by decide) h7), trivial⟩, hS.F ht⟩) hS.2.2 dX10_hand_57
    · refine lv_tableIn (tgt := 58) hx hb dX10_hand_12 (by rw [h7]; decide) (by rw [h7]; decide) (by rw [h7]; rfl) (by decide) ?_
      refine lv_aload_n hx hb dX10_hand_58 rfl (lv_at hl 0 rfl) ?_
      refine va_get (D := (dC, dI)) (ci := 10) (v := .ref x4) (C := RX10) (T := TX10) (N := 14) hx hb hts hi_X10 hown hK hP 0 rfl rfl 4 (by decide) (hts (.fieldLink RX10 26 "LeftQuills" "office" "LLeftQuills$Office;") (wmx 2 rfl)) (fun _ h9 => h9) e_h0_4 dX10_hand_59 ?_
      refine va_get (D := (dC, dI)) (ci := 5) (v := .ref o11) (C := RX5) (T := TX5) (N := 13) hx hb hts hi_X5 hown hK hP 1 rfl rfl 11 (by decide) (hts (.fieldLink RX10 189 "LeftQuills$Office" "presses" "[I") (wmx 4 rfl)) (fun _ h9 => h9) e_x4_11 dX10_hand_62 ?_
      refine lv_iload_n hx hb dX10_hand_65 rfl (lv_at hl 1 rfl) ?_
      refine va_iald hx hb hK hP 6 0 rfl rfl (vp_in_nI (n := j4) (N := 4) (by omega) (by decide)) dX10_hand_66 ?_
      refine W.eq (g2 := F0 m 67 ls [.int (fo11 j4)]) (congrArg (fun y9 => F0 m 67 ls (.int (fo11 y9) :: [])) ((nI_clamp (n := j4) (by omega)))) ?_
      exact W.iret (v := fo11 j4) hx hb hr (fun t ht hW => ⟨⟨fo11 j4, (fun _ => 0), rfl, (ql_k (m := 4) (k := 1) (V := (fun j k => ([fo10 j, fo11 j, fo12 j, fa5 j, fa6 j] : List Int32).getD k 0)) hw3 (by omega) (by decide) (by decide) h7), trivial⟩, hS.F ht⟩) hS.2.2 dX10_hand_67
    · refine lv_tableIn (tgt := 68) hx hb dX10_hand_12 (by rw [h7]; decide) (by rw [h7]; decide) (by rw [h7]; rfl) (by decide) ?_
      refine lv_aload_n hx hb dX10_hand_68 rfl (lv_at hl 0 rfl) ?_
      refine va_get (D := (dC, dI)) (ci := 10) (v := .ref x4) (C := RX10) (T := TX10) (N := 14) hx hb hts hi_X10 hown hK hP 0 rfl rfl 4 (by decide) (hts (.fieldLink RX10 26 "LeftQuills" "office" "LLeftQuills$Office;") (wmx 2 rfl)) (fun _ h9 => h9) e_h0_4 dX10_hand_69 ?_
      refine va_get (D := (dC, dI)) (ci := 5) (v := .ref o12) (C := RX5) (T := TX5) (N := 13) hx hb hts hi_X5 hown hK hP 1 rfl rfl 12 (by decide) (hts (.fieldLink RX10 192 "LeftQuills$Office" "wants" "[I") (wmx 5 rfl)) (fun _ h9 => h9) e_x4_12 dX10_hand_72 ?_
      refine lv_iload_n hx hb dX10_hand_75 rfl (lv_at hl 1 rfl) ?_
      refine va_iald hx hb hK hP 7 0 rfl rfl (vp_in_nI (n := j4) (N := 4) (by omega) (by decide)) dX10_hand_76 ?_
      refine W.eq (g2 := F0 m 77 ls [.int (fo12 j4)]) (congrArg (fun y9 => F0 m 77 ls (.int (fo12 y9) :: [])) ((nI_clamp (n := j4) (by omega)))) ?_
      exact W.iret (v := fo12 j4) hx hb hr (fun t ht hW => ⟨⟨fo12 j4, (fun _ => 0), rfl, (ql_k (m := 4) (k := 2) (V := (fun j k => ([fo10 j, fo11 j, fo12 j, fa5 j, fa6 j] : List Int32).getD k 0)) hw3 (by omega) (by decide) (by decide) h7), trivial⟩, hS.F ht⟩) hS.2.2 dX10_hand_77
    · refine lv_tableIn (tgt := 78) hx hb dX10_hand_12 (by rw [h7]; decide) (by rw [h7]; decide) (by rw [h7]; rfl) (by decide) ?_
      refine lv_aload_n hx hb dX10_hand_78 rfl (lv_at hl 0 rfl) ?_
      refine va_get (D := (dC, dI)) (ci := 10) (v := .ref x6) (C := RX10) (T := TX10) (N := 14) hx hb hts hi_X10 hown hK hP 0 rfl rfl 6 (by decide) (hts (.fieldLink RX10 42 "LeftQuills" "desk" "LLeftQuills$Desk;") (wmx 6 rfl)) (fun _ h9 => h9) e_h0_6 dX10_hand_79 ?_
      refine va_get (D := (dC, dI)) (ci := 1) (v := .ref a5) (C := RX1) (T := TX1) (N := 8) hx hb hts hi_X1 hown hK hP 2 rfl rfl 5 (by decide) (hts (.fieldLink RX10 195 "LeftQuills$Desk" "pages" "[I") (wmx 7 rfl)) (fun _ h9 => h9) e_x6_5 dX10_hand_82 ?_
      refine lv_iload_n hx hb dX10_hand_85 rfl (lv_at hl 1 rfl) ?_
      refine va_iald hx hb hK hP 3 0 rfl rfl (vp_in_nI (n := j4) (N := 4) (by omega) (by decide)) dX10_hand_86 ?_
      refine W.eq (g2 := F0 m 87 ls [.int (fa5 j4)]) (congrArg (fun y9 => F0 m 87 ls (.int (fa5 y9) :: [])) ((nI_clamp (n := j4) (by omega)))) ?_
      exact W.iret (v := fa5 j4) hx hb hr (fun t ht hW => ⟨⟨fa5 j4, (fun _ => 0), rfl, (ql_k (m := 4) (k := 3) (V := (fun j k => ([fo10 j, fo11 j, fo12 j, fa5 j, fa6 j] : List Int32).getD k 0)) hw3 (by omega) (by decide) (by decide) h7), trivial⟩, hS.F ht⟩) hS.2.2 dX10_hand_87
    · refine lv_tableIn (tgt := 88) hx hb dX10_hand_12 (by rw [h7]; decide) (by rw [h7]; decide) (by rw [h7]; rfl) (by decide) ?_
      refine lv_aload_n hx hb dX10_hand_88 rfl (lv_at hl 0 rfl) ?_
      refine va_get (D := (dC, dI)) (ci := 10) (v := .ref x6) (C := RX10) (T := TX10) (N := 14) hx hb hts hi_X10 hown hK hP 0 rfl rfl 6 (by decide) (hts (.fieldLink RX10 42 "LeftQuills" "desk" "LLeftQuills$Desk;") (wmx 6 rfl)) (fun _ h9 => h9) e_h0_6 dX10_hand_89 ?_
      refine va_get (D := (dC, dI)) (ci := 1) (v := .ref a6) (C := RX1) (T := TX1) (N := 8) hx hb hts hi_X1 hown hK hP 2 rfl rfl 6 (by decide) (hts (.fieldLink RX10 198 "LeftQuills$Desk" "good" "[I") (wmx 8 rfl)) (fun _ h9 => h9) e_x6_6 dX10_hand_92 ?_
      refine lv_iload_n hx hb dX10_hand_95 rfl (lv_at hl 1 rfl) ?_
      refine va_iald hx hb hK hP 4 0 rfl rfl (vp_in_nI (n := j4) (N := 4) (by omega) (by decide)) dX10_hand_96 ?_
      refine W.eq (g2 := F0 m 97 ls [.int (fa6 j4)]) (congrArg (fun y9 => F0 m 97 ls (.int (fa6 y9) :: [])) ((nI_clamp (n := j4) (by omega)))) ?_
      exact W.iret (v := fa6 j4) hx hb hr (fun t ht hW => ⟨⟨fa6 j4, (fun _ => 0), rfl, (ql_k (m := 4) (k := 4) (V := (fun j k => ([fo10 j, fo11 j, fo12 j, fa5 j, fa6 j] : List Int32).getD k 0)) hw3 (by omega) (by decide) (by decide) h7), trivial⟩, hS.F ht⟩) hS.2.2 dX10_hand_97
  ·
    refine lv_if_ne (tgt := 11) hx hb dX10_hand_5 (by decide) (fun c8 => ?_) (fun c8 => ?_)
    · exact absurd c8 (by decide)
    clear c8
    refine lv_ldc (v := (-1000000001)) hx hb hown (hts (.constant RX10 160 (-1000000001)) (wmx 1 rfl)) dX10_hand_8 ?_
    exact W.iret (v := (-1000000001)) hx hb hr (fun t ht hW => ⟨⟨(-1000000001), (fun _ => 0), rfl, (ql_n hw3), trivial⟩, hS.F ht⟩) hS.2.2 dX10_hand_10
set_option maxHeartbeats 4000000 in
set_option maxRecDepth 100000 in
theorem c_X11_handD (l : Launch) (dC : Nat → ClassId) (dI : Nat → Nat → Nat) (cI cZ cQ : ClassId) (h0 : Nat) (nh : Nat) (m7 : Nat) (m8 : Nat) (m9 : Nat) (m10 : Nat) (f_h0 : List Value) (fm7 : Nat → Int32) (fm8 : Nat → Int32) (fm9 : Nat → Int32) (fm10 : Nat → Int32) (q0 : Int32) (q1 : Int32) (sz : Nat) (e_h0_6 : fAt f_h0 6 = some (.int (nI nh))) (e_h0_7 : fAt f_h0 7 = some (.ref m7)) (e_h0_8 : fAt f_h0 8 = some (.ref m8)) (e_h0_9 : fAt f_h0 9 = some (.ref m9)) (e_h0_10 : fAt f_h0 10 = some (.ref m10)) (hnh : nh ≤ 4) : Met l yX11_hand wsX11_hand ({ frames := 2, cells := 0, slots := 0, locals := 86 }) (va_Pc [.ref h0, .int q0, .int q1] (fun U => U.heap.size = sz ∧ va_P (dC, dI) vwCl [(h0, .inr (11, f_h0)), (m7, .inl (cI, 4, .inl fm7)), (m8, .inl (cI, 4, .inl fm8)), (m9, .inl (cI, 4, .inl fm9)), (m10, .inl (cI, 34, .inl fm10))] U.heap ∧ va_K (dC, dI) vwCl (tys0 cI cZ cQ) U)) (va_Qi (fun (r : Int32) (u : Nat → Nat) => r = qlV 4 nh q0 q1 (fun j k => ([fm7 j, fm8 j, fm9 j, fm10 (24 + j), fm10 (28 + j)] : List Int32).getD k 0)) (fun (_ : Nat → Nat) (_ : State) => True) (fun _ : Nat => False)) 0 0 (fun _ : Nat => False) := by
  refine Met.ofW (cc := cX11_hand) (maxL := 3) (ret := (some .int)) (by decide) rfl ?_
  intro p e s m args below meth c s₁ B hml hv
  obtain ⟨rfl, hsz, hP, hK⟩ := hv
  have hx := B.exec
  have hb := B.bytes
  have hr := B.returns
  have hts := atoms_spec (ws := wsX11_hand) B.pre
  have hown : s.vm.findClass RX11 = some m.cls := findClass_of_methodNamed B.named
  have hlocks := B.notSynchronized
  have hi_X11 : ∀ w ∈ u_ws RX11 TX11 46, w ∈ wsX11_hand := fun _ h => List.mem_cons_of_mem _ (List.mem_append_right _ (h))
  subst hsz
  have hS : va_S (fun _ : Nat => False) s.heap s.heap [] := va_S.rf
  have hl := lv_entry ([.ref h0, .int q0, .int q1]) (n := 3) (Nat.le_of_ble_eq_true rfl)
  rw [lg_entry_eq]
  generalize (lg_sl ([.ref h0, .int q0, .int q1]) ++ List.replicate (3 - (lg_sl ([.ref h0, .int q0, .int q1])).length) Slot.unset).toArray = ls at hl ⊢
  have hl : lv_has ls 3 [(0, .ref h0), (1, .int q0), (2, .int q1)] := hl
  refine lv_aload_n hx hb dX11_hand_0 rfl (lv_at hl 0 rfl) ?_
  refine lv_iload_n hx hb dX11_hand_1 rfl (lv_at hl 1 rfl) ?_
  have hPc := hP.sub (ws' := [(h0, .inr (11, f_h0))]) [0] rfl
  refine va_calli (va_runV (As := [.int q0]) (rest := []) ⟨hx, hb, hml, hown, hts⟩ (c_X11_isHand l dC dI cI cZ cQ h0 (nI nh) f_h0 q0 s.heap.size e_h0_6 (nI_pos' (n := nh) (by omega))) (cwV 1 hts gX11_hand_X11_isHand rfl rfl rfl hd_X11_isHand_RX11 ⟨Nat.le_of_ble_eq_true rfl, Nat.le_of_ble_eq_true rfl⟩) (pv_R (va_recv hK hP (ci := 11) (q0 := 0) rfl rfl) hK hPc) rfl rfl hl.1 rfl (lv_room (Nat.le_of_ble_eq_true rfl)) dX11_hand_2 ⟨Nat.le_of_ble_eq_true rfl, Nat.le_of_ble_eq_true rfl⟩) hS (fun q _ h => False.elim h) (fun q h => False.elim h) (fun r1 u2 t H1 locs ht hvm hw3 hB hz1 hk1 hS => ?_)
  have hP := hP.kept (fun k q hk => hk1 q.1 (hP k q hk).lt (fun h => h))
  clear hz1 hk1 hPc
  generalize H1 = H at hP hS ht ⊢
  try dsimp only at hw3
  rcases hw3 with ⟨rfl, hw3⟩ | ⟨rfl, hw3⟩
  ·
    obtain ⟨j4, hj4, rfl⟩ := x_ix hw3 (by omega)
    refine lv_if_ne (tgt := 11) hx hb dX11_hand_5 (by decide) (fun c5 => ?_) (fun c5 => ?_)
    rotate_left
    · exact absurd c5 (by decide)
    clear c5
    refine lv_iload_n hx hb dX11_hand_11 rfl (lv_at hl 2 rfl) ?_
    by_cases c6 : q1.toInt < 0 ∨ 4 < q1.toInt
    · refine lv_tableOut (tgt := 89) hx hb dX11_hand_12 c6 (by decide) ?_
      refine lv_ldc (v := (-1000000002)) hx hb hown (hts (.constant RX11 111 (-1000000002)) (wmx 6 rfl)) dX11_hand_89 ?_
      exact W.iret (v := (-1000000002)) hx hb hr (fun t ht hW => ⟨⟨(-1000000002), (fun _ => 0), rfl, (ql_o hw3 c6), trivial⟩, hS.F ht⟩) hS.2.2 dX11_hand_91
    have h7 := x_sw_0_4 c6
    rcases h7 with h7 | h7 | h7 | h7 | h7
    · refine lv_tableIn (tgt := 48) hx hb dX11_hand_12 (by rw [h7]; decide) (by rw [h7]; decide) (by rw [h7]; rfl) (by decide) ?_
      refine lv_aload_n hx hb dX11_hand_48 rfl (lv_at hl 0 rfl) ?_
      refine va_get (D := (dC, dI)) (ci := 11) (v := .ref m7) (C := RX11) (T := TX11) (N := 46) hx hb hts hi_X11 hown hK hP 0 rfl rfl 7 (by decide) (hts (.fieldLink RX11 19 "LeftQuillsModel" "side" "[I") (wmx 2 rfl)) (fun _ h9 => h9) e_h0_7 dX11_hand_49 ?_
      refine lv_iload_n hx hb dX11_hand_52 rfl (lv_at hl 1 rfl) ?_
      refine va_iald hx hb hK hP 1 0 rfl rfl (vp_in_nI (n := j4) (N := 4) (by omega) (by decide)) dX11_hand_53 ?_
      refine W.eq (g2 := F0 m 54 ls [.int (fm7 j4)]) (congrArg (fun y9 => F0 m 54 ls (.int (fm7 y9) :: [])) ((nI_clamp (n := j4) (by omega)))) ?_
      exact W.iret (v := fm7 j4) hx hb hr (fun t ht hW => ⟨⟨fm7 j4, (fun _ => 0), rfl, (ql_k (m := 4) (k := 0) (V := (fun j k => ([fm7 j, fm8 j, fm9 j, fm10 (24 + j), fm10 (28 + j)] : List Int32).getD k 0)) hw3 (by omega) (by decide) (by decide) h7), trivial⟩, hS.F ht⟩) hS.2.2 dX11_hand_54
    · refine lv_tableIn (tgt := 55) hx hb dX11_hand_12 (by rw [h7]; decide) (by rw [h7]; decide) (by rw [h7]; rfl) (by decide) ?_
      refine lv_aload_n hx hb dX11_hand_55 rfl (lv_at hl 0 rfl) ?_
      refine va_get (D := (dC, dI)) (ci := 11) (v := .ref m8) (C := RX11) (T := TX11) (N := 46) hx hb hts hi_X11 hown hK hP 0 rfl rfl 8 (by decide) (hts (.fieldLink RX11 22 "LeftQuillsModel" "presses" "[I") (wmx 3 rfl)) (fun _ h9 => h9) e_h0_8 dX11_hand_56 ?_
      refine lv_iload_n hx hb dX11_hand_59 rfl (lv_at hl 1 rfl) ?_
      refine va_iald hx hb hK hP 2 0 rfl rfl (vp_in_nI (n := j4) (N := 4) (by omega) (by decide)) dX11_hand_60 ?_
      refine W.eq (g2 := F0 m 61 ls [.int (fm8 j4)]) (congrArg (fun y9 => F0 m 61 ls (.int (fm8 y9) :: [])) ((nI_clamp (n := j4) (by omega)))) ?_
      exact W.iret (v := fm8 j4) hx hb hr (fun t ht hW => ⟨⟨fm8 j4, (fun _ => 0), rfl, (ql_k (m := 4) (k := 1) (V := (fun j k => ([fm7 j, fm8 j, fm9 j, fm10 (24 + j), fm10 (28 + j)] : List Int32).getD k 0)) hw3 (by omega) (by decide) (by decide) h7), trivial⟩, hS.F ht⟩) hS.2.2 dX11_hand_61
    · refine lv_tableIn (tgt := 62) hx hb dX11_hand_12 (by rw [h7]; decide) (by rw [h7]; decide) (by rw [h7]; rfl) (by decide) ?_
      refine lv_aload_n hx hb dX11_hand_62 rfl (lv_at hl 0 rfl) ?_
      refine va_get (D := (dC, dI)) (ci := 11) (v := .ref m9) (C := RX11) (T := TX11) (N := 46) hx hb hts hi_X11 hown hK hP 0 rfl rfl 9 (by decide) (hts (.fieldLink RX11 25 "LeftQuillsModel" "wants" "[I") (wmx 4 rfl)) (fun _ h9 => h9) e_h0_9 dX11_hand_63 ?_
      refine lv_iload_n hx hb dX11_hand_66 rfl (lv_at hl 1 rfl) ?_
      refine va_iald hx hb hK hP 3 0 rfl rfl (vp_in_nI (n := j4) (N := 4) (by omega) (by decide)) dX11_hand_67 ?_
      refine W.eq (g2 := F0 m 68 ls [.int (fm9 j4)]) (congrArg (fun y9 => F0 m 68 ls (.int (fm9 y9) :: [])) ((nI_clamp (n := j4) (by omega)))) ?_
      exact W.iret (v := fm9 j4) hx hb hr (fun t ht hW => ⟨⟨fm9 j4, (fun _ => 0), rfl, (ql_k (m := 4) (k := 2) (V := (fun j k => ([fm7 j, fm8 j, fm9 j, fm10 (24 + j), fm10 (28 + j)] : List Int32).getD k 0)) hw3 (by omega) (by decide) (by decide) h7), trivial⟩, hS.F ht⟩) hS.2.2 dX11_hand_68
    · refine lv_tableIn (tgt := 69) hx hb dX11_hand_12 (by rw [h7]; decide) (by rw [h7]; decide) (by rw [h7]; rfl) (by decide) ?_
      refine lv_aload_n hx hb dX11_hand_69 rfl (lv_at hl 0 rfl) ?_
      refine va_get (D := (dC, dI)) (ci := 11) (v := .ref m10) (C := RX11) (T := TX11) (N := 46) hx hb hts hi_X11 hown hK hP 0 rfl rfl 10 (by decide) (hts (.fieldLink RX11 28 "LeftQuillsModel" "now" "[I") (wmx 5 rfl)) (fun _ h9 => h9) e_h0_10 dX11_hand_70 ?_
      refine lv_bipush (v := 24) hx hb dX11_hand_73 (by decide) ?_
      refine lv_iload_n hx hb dX11_hand_75 rfl (lv_at hl 1 rfl) ?_
      refine lv_iadd hx hb dX11_hand_76 ?_
      refine lv_topi (fun z8 ez8 => ?_)
      obtain rfl : z8 = nI (24 + j4) := ez8.trans (nI_add 24 j4)
      refine va_iald hx hb hK hP 4 0 rfl rfl (vp_in_nI (n := 24 + j4) (N := 34) (by omega) (by decide)) dX11_hand_77 ?_
      refine W.eq (g2 := F0 m 78 ls [.int (fm10 (24 + j4))]) (congrArg (fun y9 => F0 m 78 ls (.int (fm10 y9) :: [])) ((nI_clamp (n := 24 + j4) (by omega)))) ?_
      exact W.iret (v := fm10 (24 + j4)) hx hb hr (fun t ht hW => ⟨⟨fm10 (24 + j4), (fun _ => 0), rfl, (ql_k (m := 4) (k := 3) (V := (fun j k => ([fm7 j, fm8 j, fm9 j, fm10 (24 + j), fm10 (28 + j)] : List Int32).getD k 0)) hw3 (by omega) (by decide) (by decide) h7), trivial⟩, hS.F ht⟩) hS.2.2 dX11_hand_78
    · refine lv_tableIn (tgt := 79) hx hb dX11_hand_12 (by rw [h7]; decide) (by rw [h7]; decide) (by rw [h7]; rfl) (by decide) ?_
      refine lv_aload_n hx hb dX11_hand_79 rfl (lv_at hl 0 rfl) ?_
      refine va_get (D := (dC, dI)) (ci := 11) (v := .ref m10) (C := RX11) (T := TX11) (N := 46) hx hb hts hi_X11 hown hK hP 0 rfl rfl 10 (by decide) (hts (.fieldLink RX11 28 "LeftQuillsModel" "now" "[I") (wmx 5 rfl)) (fun _ h9 => h9) e_h0_10 dX11_hand_80 ?_
      refine lv_bipush (v := 28) hx hb dX11_hand_83 (by decide) ?_
      refine lv_iload_n hx hb dX11_hand_85 rfl (lv_at hl 1 rfl) ?_
      refine lv_iadd hx hb dX11_hand_86 ?_
      refine lv_topi (fun z9 ez9 => ?_)
      obtain rfl : z9 = nI (28 + j4) := ez9.trans (nI_add 28 j4)
      refine va_iald hx hb hK hP 4 0 rfl rfl (vp_in_nI (n := 28 + j4) (N := 34) (by omega) (by decide)) dX11_hand_87 ?_
      refine W.eq (g2 := F0 m 88 ls [.int (fm10 (28 + j4))]) (congrArg (fun y9 => F0 m 88 ls (.int (fm10 y9) :: [])) ((nI_clamp (n := 28 + j4) (by omega)))) ?_
      exact W.iret (v := fm10 (28 + j4)) hx hb hr (fun t ht hW => ⟨⟨fm10 (28 + j4), (fun _ => 0), rfl, (ql_k (m := 4) (k := 4) (V := (fun j k => ([fm7 j, fm8 j, fm9 j, fm10 (24 + j), fm10 (28 + j)] : List Int32).getD k 0)) hw3 (by omega) (by decide) (by decide) h7), trivial⟩, hS.F ht⟩) hS.2.2 dX11_hand_88
  ·
    refine lv_if_ne (tgt := 11) hx hb dX11_hand_5 (by decide) (fun c10 => ?_) (fun c10 => ?_)
    · exact absurd c10 (by decide)
    clear c10
    refine lv_ldc (v := (-1000000001)) hx hb hown (hts (.constant RX11 188 (-1000000001)) (wmx 1 rfl)) dX11_hand_8 ?_
    exact W.iret (v := (-1000000001)) hx hb hr (fun t ht hW => ⟨⟨(-1000000001), (fun _ => 0), rfl, (ql_n hw3), trivial⟩, hS.F ht⟩) hS.2.2 dX11_hand_10
