set_option maxHeartbeats 4000000 in
set_option maxRecDepth 100000 in
theorem c_X10_quillD (l : Launch) (dC : Nat → ClassId) (dI : Nat → Nat → Nat) (cI cZ cQ : ClassId) (h0 : Nat) (x4 : Nat) (x6 : Nat) (f_h0 : List Value) (o5 : Nat) (o6 : Nat) (o7 : Nat) (o10 : Nat) (o11 : Nat) (o12 : Nat) (nq : Nat) (f_x4 : List Value) (mi : Int32) (cu : Int32) (a2 : Nat) (a3 : Nat) (a4 : Nat) (a5 : Nat) (a6 : Nat) (f_x6 : List Value) (fa2 : Nat → Int32) (fa3 : Nat → Int32) (fa4 : Nat → Int32) (fo5 : Nat → Int32) (fo6 : Nat → Int32) (fo7 : Nat → Int32) (q0 : Int32) (q1 : Int32) (sz : Nat) (e_h0_4 : fAt f_h0 4 = some (.ref x4)) (e_h0_6 : fAt f_h0 6 = some (.ref x6)) (e_x4_5 : fAt f_x4 5 = some (.ref o5)) (e_x4_6 : fAt f_x4 6 = some (.ref o6)) (e_x4_7 : fAt f_x4 7 = some (.ref o7)) (e_x4_10 : fAt f_x4 10 = some (.ref o10)) (e_x4_11 : fAt f_x4 11 = some (.ref o11)) (e_x4_12 : fAt f_x4 12 = some (.ref o12)) (e_x4_3 : fAt f_x4 3 = some (.int (nI nq))) (e_x6_0 : fAt f_x6 0 = some (.int mi)) (e_x6_1 : fAt f_x6 1 = some (.int cu)) (e_x6_2 : fAt f_x6 2 = some (.ref a2)) (e_x6_3 : fAt f_x6 3 = some (.ref a3)) (e_x6_4 : fAt f_x6 4 = some (.ref a4)) (e_x6_5 : fAt f_x6 5 = some (.ref a5)) (e_x6_6 : fAt f_x6 6 = some (.ref a6)) (e_x6_7 : fAt f_x6 7 = some (.ref x4)) (hnq : nq ≤ 8) : Met l yX10_quill wsX10_quill ({ frames := 1, cells := 0, slots := 0, locals := 61 }) (va_Pc [.ref h0, .int q0, .int q1] (fun U => U.heap.size = sz ∧ va_P (dC, dI) vwCl [(h0, .inr (10, f_h0)), (x4, .inr (5, f_x4)), (x6, .inr (1, f_x6)), (a2, .inl (cI, 8, .inl fa2)), (a3, .inl (cI, 8, .inl fa3)), (a4, .inl (cI, 8, .inl fa4)), (o5, .inl (cI, 8, .inl fo5)), (o6, .inl (cI, 8, .inl fo6)), (o7, .inl (cI, 8, .inl fo7))] U.heap ∧ va_K (dC, dI) vwCl (tys0 cI cZ cQ) U)) (va_Qi (fun (r : Int32) (u : Nat → Nat) => r = qlV 6 nq q0 q1 (fun j k => ([fo5 j, fo6 j, fo7 j, fa2 j, fa3 j, hdF (fo6 j) (fo7 j), fa4 j] : List Int32).getD k 0)) (fun (_ : Nat → Nat) (_ : State) => True) (fun _ : Nat => False)) 0 0 (fun _ : Nat => False) := by
  refine Met.ofW (cc := cX10_quill) (maxL := 3) (ret := (some .int)) (by decide) rfl ?_
  intro p e s m args below meth c s₁ B hml hv
  obtain ⟨rfl, hsz, hP, hK⟩ := hv
  have hx := B.exec
  have hb := B.bytes
  have hr := B.returns
  have hts := atoms_spec (ws := wsX10_quill) B.pre
  have hown : s.vm.findClass RX10 = some m.cls := findClass_of_methodNamed B.named
  have hlocks := B.notSynchronized
  have hi_X1 : ∀ w ∈ u_ws RX1 TX1 8, w ∈ wsX10_quill := fun _ h => List.mem_cons_of_mem _ (List.mem_append_right _ (h))
  have hi_X10 : ∀ w ∈ u_ws RX10 TX10 14, w ∈ wsX10_quill := fun _ h => List.mem_cons_of_mem _ (List.mem_append_left _ (List.mem_append_left _ (List.mem_append_right _ (h))))
  have hi_X5 : ∀ w ∈ u_ws RX5 TX5 13, w ∈ wsX10_quill := fun _ h => List.mem_cons_of_mem _ (List.mem_append_left _ (List.mem_append_right _ (h)))
  subst hsz
  have hS : va_S (fun _ : Nat => False) s.heap s.heap [] := va_S.rf
  have hl := lv_entry ([.ref h0, .int q0, .int q1]) (n := 3) (Nat.le_of_ble_eq_true rfl)
  rw [lg_entry_eq]
  generalize (lg_sl ([.ref h0, .int q0, .int q1]) ++ List.replicate (3 - (lg_sl ([.ref h0, .int q0, .int q1])).length) Slot.unset).toArray = ls at hl ⊢
  have hl : lv_has ls 3 [(0, .ref h0), (1, .int q0), (2, .int q1)] := hl
  refine lv_aload_n hx hb dX10_quill_0 rfl (lv_at hl 0 rfl) ?_
  refine lv_iload_n hx hb dX10_quill_1 rfl (lv_at hl 1 rfl) ?_
  have hPc := hP.sub (ws' := [(h0, .inr (10, f_h0)), (x4, .inr (5, f_x4))]) [0, 1] rfl
  refine va_calli (va_runV (As := [.int q0]) (rest := []) ⟨hx, hb, hml, hown, hts⟩ (c_X10_isQuill l dC dI cI cZ cQ h0 x4 f_h0 (nI nq) f_x4 q0 s.heap.size e_h0_4 e_x4_3) (cwV 1 hts gX10_quill_X10_isQuill rfl rfl rfl (by decide +kernel) ⟨Nat.le_of_ble_eq_true rfl, Nat.le_of_ble_eq_true rfl⟩) ⟨fun a U g mk q => by obtain ⟨q0, q1, qP, qK⟩ := q; exact ⟨q0, q1, qP, va_K.moved (u := U) (U := U.calling g mk a) (Vm.Alike.refl U.vm) qK⟩, va_recv hK hP (ci := 10) (q0 := 0) rfl rfl, fun U hU hW => ⟨rfl, by rw [hU], by rw [hU]; exact hPc, va_K.moved hW.alike hK⟩⟩ rfl rfl hl.1 rfl (lv_room (Nat.le_of_ble_eq_true rfl)) dX10_quill_2 ⟨Nat.le_of_ble_eq_true rfl, Nat.le_of_ble_eq_true rfl⟩) hS (fun q _ h => False.elim h) (fun q h => False.elim h) (fun r1 u2 t H1 locs ht hvm hw3 hB hz1 hk1 hS => ?_)
  have hP := hP.kept (fun k q hk => hk1 q.1 (hP k q hk).lt (fun h => h))
  clear hz1 hk1 hPc
  generalize H1 = H at hP hS ht ⊢
  try dsimp only at hw3
  rcases hw3 with ⟨rfl, hw3⟩ | ⟨rfl, hw3⟩
  ·
    obtain ⟨j4, hj4, rfl⟩ := x_ix hw3 (by omega)
    refine lv_if_ne (tgt := 11) hx hb dX10_quill_5 (by decide) (fun c5 => ?_) (fun c5 => ?_)
    rotate_left
    · exact absurd c5 (by decide)
    clear c5
    refine lv_iload_n hx hb dX10_quill_11 rfl (lv_at hl 2 rfl) ?_
    by_cases c6 : q1.toInt < 0 ∨ 6 < q1.toInt
    · refine lv_tableOut (tgt := 125) hx hb dX10_quill_12 c6 (by decide) ?_
      refine lv_ldc (v := (-1000000002)) hx hb hown (hts (.constant RX10 103 (-1000000002)) (wmx 10 rfl)) dX10_quill_125 ?_
      exact W.iret (v := (-1000000002)) hx hb hr (fun t ht hW => ⟨⟨(-1000000002), (fun _ => 0), rfl, (ql_o hw3 c6), trivial⟩, hS.F ht⟩) hS.2.2 dX10_quill_127
    have h7 := x_sw_0_6 c6
    rcases h7 with h7 | h7 | h7 | h7 | h7 | h7 | h7
    · refine lv_tableIn (tgt := 56) hx hb dX10_quill_12 (by rw [h7]; decide) (by rw [h7]; decide) (by rw [h7]; rfl) (by decide) ?_
      refine lv_aload_n hx hb dX10_quill_56 rfl (lv_at hl 0 rfl) ?_
      refine va_get (D := (dC, dI)) (ci := 10) (v := .ref x4) (C := RX10) (T := TX10) (N := 14) hx hb hts hi_X10 hown hK hP 0 rfl rfl 4 (by decide) (hts (.fieldLink RX10 26 "LeftQuills" "office" "LLeftQuills$Office;") (wmx 2 rfl)) (fun _ h9 => h9) e_h0_4 dX10_quill_57 ?_
      refine va_get (D := (dC, dI)) (ci := 5) (v := .ref o5) (C := RX5) (T := TX5) (N := 13) hx hb hts hi_X5 hown hK hP 1 rfl rfl 5 (by decide) (hts (.fieldLink RX10 161 "LeftQuills$Office" "wing" "[I") (wmx 3 rfl)) (fun _ h9 => h9) e_x4_5 dX10_quill_60 ?_
      refine lv_iload_n hx hb dX10_quill_63 rfl (lv_at hl 1 rfl) ?_
      refine va_iald hx hb hK hP 6 0 rfl rfl (vp_in_nI (n := j4) (N := 8) (by omega) (by decide)) dX10_quill_64 ?_
      refine W.eq (g2 := F0 m 65 ls [.int (fo5 j4)]) (congrArg (fun y9 => F0 m 65 ls (.int (fo5 y9) :: [])) ((nI_clamp (n := j4) (by omega)))) ?_
      exact W.iret (v := fo5 j4) hx hb hr (fun t ht hW => ⟨⟨fo5 j4, (fun _ => 0), rfl, (ql_k (m := 6) (k := 0) (V := (fun j k => ([fo5 j, fo6 j, fo7 j, fa2 j, fa3 j, hdF (fo6 j) (fo7 j), fa4 j] : List Int32).getD k 0)) hw3 (by omega) (by decide) (by decide) h7), trivial⟩, hS.F ht⟩) hS.2.2 dX10_quill_65
    · refine lv_tableIn (tgt := 66) hx hb dX10_quill_12 (by rw [h7]; decide) (by rw [h7]; decide) (by rw [h7]; rfl) (by decide) ?_
      refine lv_aload_n hx hb dX10_quill_66 rfl (lv_at hl 0 rfl) ?_
      refine va_get (D := (dC, dI)) (ci := 10) (v := .ref x4) (C := RX10) (T := TX10) (N := 14) hx hb hts hi_X10 hown hK hP 0 rfl rfl 4 (by decide) (hts (.fieldLink RX10 26 "LeftQuills" "office" "LLeftQuills$Office;") (wmx 2 rfl)) (fun _ h9 => h9) e_h0_4 dX10_quill_67 ?_
      refine va_get (D := (dC, dI)) (ci := 5) (v := .ref o6) (C := RX5) (T := TX5) (N := 13) hx hb hts hi_X5 hown hK hP 1 rfl rfl 6 (by decide) (hts (.fieldLink RX10 164 "LeftQuills$Office" "place" "[I") (wmx 4 rfl)) (fun _ h9 => h9) e_x4_6 dX10_quill_70 ?_
      refine lv_iload_n hx hb dX10_quill_73 rfl (lv_at hl 1 rfl) ?_
      refine va_iald hx hb hK hP 7 0 rfl rfl (vp_in_nI (n := j4) (N := 8) (by omega) (by decide)) dX10_quill_74 ?_
      refine W.eq (g2 := F0 m 75 ls [.int (fo6 j4)]) (congrArg (fun y9 => F0 m 75 ls (.int (fo6 y9) :: [])) ((nI_clamp (n := j4) (by omega)))) ?_
      exact W.iret (v := fo6 j4) hx hb hr (fun t ht hW => ⟨⟨fo6 j4, (fun _ => 0), rfl, (ql_k (m := 6) (k := 1) (V := (fun j k => ([fo5 j, fo6 j, fo7 j, fa2 j, fa3 j, hdF (fo6 j) (fo7 j), fa4 j] : List Int32).getD k 0)) hw3 (by omega) (by decide) (by decide) h7), trivial⟩, hS.F ht⟩) hS.2.2 dX10_quill_75
    · refine lv_tableIn (tgt := 76) hx hb dX10_quill_12 (by rw [h7]; decide) (by rw [h7]; decide) (by rw [h7]; rfl) (by decide) ?_
      refine lv_aload_n hx hb dX10_quill_76 rfl (lv_at hl 0 rfl) ?_
      refine va_get (D := (dC, dI)) (ci := 10) (v := .ref x4) (C := RX10) (T := TX10) (N := 14) hx hb hts hi_X10 hown hK hP 0 rfl rfl 4 (by decide) (hts (.fieldLink RX10 26 "LeftQuills" "office" "LLeftQuills$Office;") (wmx 2 rfl)) (fun _ h9 => h9) e_h0_4 dX10_quill_77 ?_
      refine va_get (D := (dC, dI)) (ci := 5) (v := .ref o7) (C := RX5) (T := TX5) (N := 13) hx hb hts hi_X5 hown hK hP 1 rfl rfl 7 (by decide) (hts (.fieldLink RX10 167 "LeftQuills$Office" "cooked" "[I") (wmx 5 rfl)) (fun _ h9 => h9) e_x4_7 dX10_quill_80 ?_
      refine lv_iload_n hx hb dX10_quill_83 rfl (lv_at hl 1 rfl) ?_
      refine va_iald hx hb hK hP 8 0 rfl rfl (vp_in_nI (n := j4) (N := 8) (by omega) (by decide)) dX10_quill_84 ?_
      refine W.eq (g2 := F0 m 85 ls [.int (fo7 j4)]) (congrArg (fun y9 => F0 m 85 ls (.int (fo7 y9) :: [])) ((nI_clamp (n := j4) (by omega)))) ?_
      exact W.iret (v := fo7 j4) hx hb hr (fun t ht hW => ⟨⟨fo7 j4, (fun _ => 0), rfl, (ql_k (m := 6) (k := 2) (V := (fun j k => ([fo5 j, fo6 j, fo7 j, fa2 j, fa3 j, hdF (fo6 j) (fo7 j), fa4 j] : List Int32).getD k 0)) hw3 (by omega) (by decide) (by decide) h7), trivial⟩, hS.F ht⟩) hS.2.2 dX10_quill_85
    · refine lv_tableIn (tgt := 86) hx hb dX10_quill_12 (by rw [h7]; decide) (by rw [h7]; decide) (by rw [h7]; rfl) (by decide) ?_
      refine lv_aload_n hx hb dX10_quill_86 rfl (lv_at hl 0 rfl) ?_
      refine va_get (D := (dC, dI)) (ci := 10) (v := .ref x6) (C := RX10) (T := TX10) (N := 14) hx hb hts hi_X10 hown hK hP 0 rfl rfl 6 (by decide) (hts (.fieldLink RX10 42 "LeftQuills" "desk" "LLeftQuills$Desk;") (wmx 6 rfl)) (fun _ h9 => h9) e_h0_6 dX10_quill_87 ?_
      refine va_get (D := (dC, dI)) (ci := 1) (v := .ref a2) (C := RX1) (T := TX1) (N := 8) hx hb hts hi_X1 hown hK hP 2 rfl rfl 2 (by decide) (hts (.fieldLink RX10 170 "LeftQuills$Desk" "length" "[I") (wmx 7 rfl)) (fun _ h9 => h9) e_x6_2 dX10_quill_90 ?_
      refine lv_iload_n hx hb dX10_quill_93 rfl (lv_at hl 1 rfl) ?_
      refine va_iald hx hb hK hP 3 0 rfl rfl (vp_in_nI (n := j4) (N := 8) (by omega) (by decide)) dX10_quill_94 ?_
      refine W.eq (g2 := F0 m 95 ls [.int (fa2 j4)]) (congrArg (fun y9 => F0 m 95 ls (.int (fa2 y9) :: [])) ((nI_clamp (n := j4) (by omega)))) ?_
      exact W.iret (v := fa2 j4) hx hb hr (fun t ht hW => ⟨⟨fa2 j4, (fun _ => 0), rfl, (ql_k (m := 6) (k := 3) (V := (fun j k => ([fo5 j, fo6 j, fo7 j, fa2 j, fa3 j, hdF (fo6 j) (fo7 j), fa4 j] : List Int32).getD k 0)) hw3 (by omega) (by decide) (by decide) h7), trivial⟩, hS.F ht⟩) hS.2.2 dX10_quill_95
    · refine lv_tableIn (tgt := 96) hx hb dX10_quill_12 (by rw [h7]; decide) (by rw [h7]; decide) (by rw [h7]; rfl) (by decide) ?_
      refine lv_aload_n hx hb dX10_quill_96 rfl (lv_at hl 0 rfl) ?_
      refine va_get (D := (dC, dI)) (ci := 10) (v := .ref x6) (C := RX10) (T := TX10) (N := 14) hx hb hts hi_X10 hown hK hP 0 rfl rfl 6 (by decide) (hts (.fieldLink RX10 42 "LeftQuills" "desk" "LLeftQuills$Desk;") (wmx 6 rfl)) (fun _ h9 => h9) e_h0_6 dX10_quill_97 ?_
      refine va_get (D := (dC, dI)) (ci := 1) (v := .ref a3) (C := RX1) (T := TX1) (N := 8) hx hb hts hi_X1 hown hK hP 2 rfl rfl 3 (by decide) (hts (.fieldLink RX10 173 "LeftQuills$Desk" "nib" "[I") (wmx 8 rfl)) (fun _ h9 => h9) e_x6_3 dX10_quill_100 ?_
      refine lv_iload_n hx hb dX10_quill_103 rfl (lv_at hl 1 rfl) ?_
      refine va_iald hx hb hK hP 4 0 rfl rfl (vp_in_nI (n := j4) (N := 8) (by omega) (by decide)) dX10_quill_104 ?_
      refine W.eq (g2 := F0 m 105 ls [.int (fa3 j4)]) (congrArg (fun y9 => F0 m 105 ls (.int (fa3 y9) :: [])) ((nI_clamp (n := j4) (by omega)))) ?_
      exact W.iret (v := fa3 j4) hx hb hr (fun t ht hW => ⟨⟨fa3 j4, (fun _ => 0), rfl, (ql_k (m := 6) (k := 4) (V := (fun j k => ([fo5 j, fo6 j, fo7 j, fa2 j, fa3 j, hdF (fo6 j) (fo7 j), fa4 j] : List Int32).getD k 0)) hw3 (by omega) (by decide) (by decide) h7), trivial⟩, hS.F ht⟩) hS.2.2 dX10_quill_105
    · refine lv_tableIn (tgt := 106) hx hb dX10_quill_12 (by rw [h7]; decide) (by rw [h7]; decide) (by rw [h7]; rfl) (by decide) ?_
      refine lv_aload_n hx hb dX10_quill_106 rfl (lv_at hl 0 rfl) ?_
      refine va_get (D := (dC, dI)) (ci := 10) (v := .ref x4) (C := RX10) (T := TX10) (N := 14) hx hb hts hi_X10 hown hK hP 0 rfl rfl 4 (by decide) (hts (.fieldLink RX10 26 "LeftQuills" "office" "LLeftQuills$Office;") (wmx 2 rfl)) (fun _ h9 => h9) e_h0_4 dX10_quill_107 ?_
      refine lv_iload_n hx hb dX10_quill_110 rfl (lv_at hl 1 rfl) ?_
      have hPc := hP.sub (ws' := [(x4, .inr (5, f_x4)), (o6, .inl (cI, 8, .inl fo6)), (o7, .inl (cI, 8, .inl fo7))]) [1, 7, 8] rfl
      refine va_calli (va_runV (As := [.int (nI j4)]) (rest := []) ⟨hx, hb, hml, hown, hts⟩ (c_X5_hardnessD l dC dI cI cZ cQ x4 o6 o7 f_x4 fo6 fo7 j4 H.size e_x4_6 e_x4_7 (by omega)) (cwV 1 hts gX10_quill_X5_hardness rfl rfl rfl (by decide +kernel) ⟨Nat.le_of_ble_eq_true rfl, Nat.le_of_ble_eq_true rfl⟩) ⟨fun a U g mk q => by obtain ⟨q0, q1, qP, qK⟩ := q; exact ⟨q0, q1, qP, va_K.moved (u := U) (U := U.calling g mk a) (Vm.Alike.refl U.vm) qK⟩, va_recv hK hP (ci := 5) (q0 := 1) rfl rfl, fun U hU hW => ⟨rfl, by rw [hU], by rw [hU]; exact hPc, va_K.moved hW.alike hK⟩⟩ rfl rfl hl.1 rfl (lv_room (Nat.le_of_ble_eq_true rfl)) dX10_quill_111 ⟨Nat.le_of_ble_eq_true rfl, Nat.le_of_ble_eq_true rfl⟩) hS (fun q _ h => False.elim h) (fun q h => False.elim h) (fun r8 u9 t H1 locs ht hvm hw10 hB hz1 hk1 hS => ?_)
      have hP := hP.kept (fun k q hk => hk1 q.1 (hP k q hk).lt (fun h => h))
      clear hz1 hk1 hPc
      generalize H1 = H at hP hS ht ⊢
      try dsimp only at hw10
      subst hw10
      exact W.iret (v := hdF (fo6 j4) (fo7 j4)) hx hb hr (fun t ht hW => ⟨⟨hdF (fo6 j4) (fo7 j4), (fun _ => 0), rfl, (ql_k (m := 6) (k := 5) (V := (fun j k => ([fo5 j, fo6 j, fo7 j, fa2 j, fa3 j, hdF (fo6 j) (fo7 j), fa4 j] : List Int32).getD k 0)) hw3 (by omega) (by decide) (by decide) h7), trivial⟩, hS.F ht⟩) hS.2.2 dX10_quill_114
    · refine lv_tableIn (tgt := 115) hx hb dX10_quill_12 (by rw [h7]; decide) (by rw [h7]; decide) (by rw [h7]; rfl) (by decide) ?_
      refine lv_aload_n hx hb dX10_quill_115 rfl (lv_at hl 0 rfl) ?_
      refine va_get (D := (dC, dI)) (ci := 10) (v := .ref x6) (C := RX10) (T := TX10) (N := 14) hx hb hts hi_X10 hown hK hP 0 rfl rfl 6 (by decide) (hts (.fieldLink RX10 42 "LeftQuills" "desk" "LLeftQuills$Desk;") (wmx 6 rfl)) (fun _ h9 => h9) e_h0_6 dX10_quill_116 ?_
      refine va_get (D := (dC, dI)) (ci := 1) (v := .ref a4) (C := RX1) (T := TX1) (N := 8) hx hb hts hi_X1 hown hK hP 2 rfl rfl 4 (by decide) (hts (.fieldLink RX10 180 "LeftQuills$Desk" "softness" "[I") (wmx 9 rfl)) (fun _ h9 => h9) e_x6_4 dX10_quill_119 ?_
      refine lv_iload_n hx hb dX10_quill_122 rfl (lv_at hl 1 rfl) ?_
      refine va_iald hx hb hK hP 5 0 rfl rfl (vp_in_nI (n := j4) (N := 8) (by omega) (by decide)) dX10_quill_123 ?_
      refine W.eq (g2 := F0 m 124 ls [.int (fa4 j4)]) (congrArg (fun y9 => F0 m 124 ls (.int (fa4 y9) :: [])) ((nI_clamp (n := j4) (by omega)))) ?_
      exact W.iret (v := fa4 j4) hx hb hr (fun t ht hW => ⟨⟨fa4 j4, (fun _ => 0), rfl, (ql_k (m := 6) (k := 6) (V := (fun j k => ([fo5 j, fo6 j, fo7 j, fa2 j, fa3 j, hdF (fo6 j) (fo7 j), fa4 j] : List Int32).getD k 0)) hw3 (by omega) (by decide) (by decide) h7), trivial⟩, hS.F ht⟩) hS.2.2 dX10_quill_124
  ·
    refine lv_if_ne (tgt := 11) hx hb dX10_quill_5 (by decide) (fun c11 => ?_) (fun c11 => ?_)
    · exact absurd c11 (by decide)
    clear c11
    refine lv_ldc (v := (-1000000001)) hx hb hown (hts (.constant RX10 160 (-1000000001)) (wmx 1 rfl)) dX10_quill_8 ?_
    exact W.iret (v := (-1000000001)) hx hb hr (fun t ht hW => ⟨⟨(-1000000001), (fun _ => 0), rfl, (ql_n hw3), trivial⟩, hS.F ht⟩) hS.2.2 dX10_quill_10
set_option maxHeartbeats 4000000 in
set_option maxRecDepth 100000 in
theorem c_X11_quillD (l : Launch) (dC : Nat → ClassId) (dI : Nat → Nat → Nat) (cI cZ cQ : ClassId) (h0 : Nat) (nq : Nat) (m3 : Nat) (m4 : Nat) (m5 : Nat) (m10 : Nat) (f_h0 : List Value) (fm3 : Nat → Int32) (fm4 : Nat → Int32) (fm5 : Nat → Int32) (fm10 : Nat → Int32) (q0 : Int32) (q1 : Int32) (sz : Nat) (e_h0_2 : fAt f_h0 2 = some (.int (nI nq))) (e_h0_3 : fAt f_h0 3 = some (.ref m3)) (e_h0_4 : fAt f_h0 4 = some (.ref m4)) (e_h0_5 : fAt f_h0 5 = some (.ref m5)) (e_h0_10 : fAt f_h0 10 = some (.ref m10)) (hnq : nq ≤ 8) (hci : cIn fm5 nq) : Met l yX11_quill wsX11_quill ({ frames := 2, cells := 0, slots := 0, locals := 86 }) (va_Pc [.ref h0, .int q0, .int q1] (fun U => U.heap.size = sz ∧ va_P (dC, dI) vwCl [(h0, .inr (11, f_h0)), (m3, .inl (cI, 8, .inl fm3)), (m4, .inl (cI, 8, .inl fm4)), (m5, .inl (cI, 8, .inl fm5)), (m10, .inl (cI, 34, .inl fm10))] U.heap ∧ va_K (dC, dI) vwCl (tys0 cI cZ cQ) U)) (va_Qi (fun (r : Int32) (u : Nat → Nat) => r = qlV 6 nq q0 q1 (fun j k => ([fm3 j, fm4 j, fm5 j, fm10 j, fm10 (8 + j), hdF (fm4 j) (fm5 j), fm10 (16 + j)] : List Int32).getD k 0)) (fun (_ : Nat → Nat) (_ : State) => True) (fun _ : Nat => False)) 0 0 (fun _ : Nat => False) := by
  refine Met.ofW (cc := cX11_quill) (maxL := 3) (ret := (some .int)) (by decide) rfl ?_
  intro p e s m args below meth c s₁ B hml hv
  obtain ⟨rfl, hsz, hP, hK⟩ := hv
  have hx := B.exec
  have hb := B.bytes
  have hr := B.returns
  have hts := atoms_spec (ws := wsX11_quill) B.pre
  have hown : s.vm.findClass RX11 = some m.cls := findClass_of_methodNamed B.named
  have hlocks := B.notSynchronized
  have hi_X11 : ∀ w ∈ u_ws RX11 TX11 46, w ∈ wsX11_quill := fun _ h => List.mem_cons_of_mem _ (List.mem_append_right _ (h))
  subst hsz
  have hS : va_S (fun _ : Nat => False) s.heap s.heap [] := va_S.rf
  have hl := lv_entry ([.ref h0, .int q0, .int q1]) (n := 3) (Nat.le_of_ble_eq_true rfl)
  rw [lg_entry_eq]
  generalize (lg_sl ([.ref h0, .int q0, .int q1]) ++ List.replicate (3 - (lg_sl ([.ref h0, .int q0, .int q1])).length) Slot.unset).toArray = ls at hl ⊢
  have hl : lv_has ls 3 [(0, .ref h0), (1, .int q0), (2, .int q1)] := hl
  refine lv_aload_n hx hb dX11_quill_0 rfl (lv_at hl 0 rfl) ?_
  refine lv_iload_n hx hb dX11_quill_1 rfl (lv_at hl 1 rfl) ?_
  have hPc := hP.sub (ws' := [(h0, .inr (11, f_h0))]) [0] rfl
  refine va_calli (va_runV (As := [.int q0]) (rest := []) ⟨hx, hb, hml, hown, hts⟩ (c_X11_isQuill l dC dI cI cZ cQ h0 (nI nq) f_h0 q0 s.heap.size e_h0_2 (nI_pos' (n := nq) (by omega))) (cwV 1 hts gX11_quill_X11_isQuill rfl rfl rfl (by decide +kernel) ⟨Nat.le_of_ble_eq_true rfl, Nat.le_of_ble_eq_true rfl⟩) ⟨fun a U g mk q => by obtain ⟨q0, q1, qP, qK⟩ := q; exact ⟨q0, q1, qP, va_K.moved (u := U) (U := U.calling g mk a) (Vm.Alike.refl U.vm) qK⟩, va_recv hK hP (ci := 11) (q0 := 0) rfl rfl, fun U hU hW => ⟨rfl, by rw [hU], by rw [hU]; exact hPc, va_K.moved hW.alike hK⟩⟩ rfl rfl hl.1 rfl (lv_room (Nat.le_of_ble_eq_true rfl)) dX11_quill_2 ⟨Nat.le_of_ble_eq_true rfl, Nat.le_of_ble_eq_true rfl⟩) hS (fun q _ h => False.elim h) (fun q h => False.elim h) (fun r1 u2 t H1 locs ht hvm hw3 hB hz1 hk1 hS => ?_)
  have hP := hP.kept (fun k q hk => hk1 q.1 (hP k q hk).lt (fun h => h))
  clear hz1 hk1 hPc
  generalize H1 = H at hP hS ht ⊢
  try dsimp only at hw3
  rcases hw3 with ⟨rfl, hw3⟩ | ⟨rfl, hw3⟩
  ·
    obtain ⟨j4, hj4, rfl⟩ := x_ix hw3 (by omega)
    refine lv_if_ne (tgt := 11) hx hb dX11_quill_5 (by decide) (fun c5 => ?_) (fun c5 => ?_)
    rotate_left
    · exact absurd c5 (by decide)
    clear c5
    refine lv_iload_n hx hb dX11_quill_11 rfl (lv_at hl 2 rfl) ?_
    by_cases c6 : q1.toInt < 0 ∨ 6 < q1.toInt
    · refine lv_tableOut (tgt := 110) hx hb dX11_quill_12 c6 (by decide) ?_
      refine lv_ldc (v := (-1000000002)) hx hb hown (hts (.constant RX11 111 (-1000000002)) (wmx 6 rfl)) dX11_quill_110 ?_
      exact W.iret (v := (-1000000002)) hx hb hr (fun t ht hW => ⟨⟨(-1000000002), (fun _ => 0), rfl, (ql_o hw3 c6), trivial⟩, hS.F ht⟩) hS.2.2 dX11_quill_112
    have h7 := x_sw_0_6 c6
    rcases h7 with h7 | h7 | h7 | h7 | h7 | h7 | h7
    · refine lv_tableIn (tgt := 56) hx hb dX11_quill_12 (by rw [h7]; decide) (by rw [h7]; decide) (by rw [h7]; rfl) (by decide) ?_
      refine lv_aload_n hx hb dX11_quill_56 rfl (lv_at hl 0 rfl) ?_
      refine va_get (D := (dC, dI)) (ci := 11) (v := .ref m3) (C := RX11) (T := TX11) (N := 46) hx hb hts hi_X11 hown hK hP 0 rfl rfl 3 (by decide) (hts (.fieldLink RX11 7 "LeftQuillsModel" "wing" "[I") (wmx 2 rfl)) (fun _ h9 => h9) e_h0_3 dX11_quill_57 ?_
      refine lv_iload_n hx hb dX11_quill_60 rfl (lv_at hl 1 rfl) ?_
      refine va_iald hx hb hK hP 1 0 rfl rfl (vp_in_nI (n := j4) (N := 8) (by omega) (by decide)) dX11_quill_61 ?_
      refine W.eq (g2 := F0 m 62 ls [.int (fm3 j4)]) (congrArg (fun y9 => F0 m 62 ls (.int (fm3 y9) :: [])) ((nI_clamp (n := j4) (by omega)))) ?_
      exact W.iret (v := fm3 j4) hx hb hr (fun t ht hW => ⟨⟨fm3 j4, (fun _ => 0), rfl, (ql_k (m := 6) (k := 0) (V := (fun j k => ([fm3 j, fm4 j, fm5 j, fm10 j, fm10 (8 + j), hdF (fm4 j) (fm5 j), fm10 (16 + j)] : List Int32).getD k 0)) hw3 (by omega) (by decide) (by decide) h7), trivial⟩, hS.F ht⟩) hS.2.2 dX11_quill_62
    · refine lv_tableIn (tgt := 63) hx hb dX11_quill_12 (by rw [h7]; decide) (by rw [h7]; decide) (by rw [h7]; rfl) (by decide) ?_
      refine lv_aload_n hx hb dX11_quill_63 rfl (lv_at hl 0 rfl) ?_
      refine va_get (D := (dC, dI)) (ci := 11) (v := .ref m4) (C := RX11) (T := TX11) (N := 46) hx hb hts hi_X11 hown hK hP 0 rfl rfl 4 (by decide) (hts (.fieldLink RX11 13 "LeftQuillsModel" "place" "[I") (wmx 3 rfl)) (fun _ h9 => h9) e_h0_4 dX11_quill_64 ?_
      refine lv_iload_n hx hb dX11_quill_67 rfl (lv_at hl 1 rfl) ?_
      refine va_iald hx hb hK hP 2 0 rfl rfl (vp_in_nI (n := j4) (N := 8) (by omega) (by decide)) dX11_quill_68 ?_
      refine W.eq (g2 := F0 m 69 ls [.int (fm4 j4)]) (congrArg (fun y9 => F0 m 69 ls (.int (fm4 y9) :: [])) ((nI_clamp (n := j4) (by omega)))) ?_
      exact W.iret (v := fm4 j4) hx hb hr (fun t ht hW => ⟨⟨fm4 j4, (fun _ => 0), rfl, (ql_k (m := 6) (k := 1) (V := (fun j k => ([fm3 j, fm4 j, fm5 j, fm10 j, fm10 (8 + j), hdF (fm4 j) (fm5 j), fm10 (16 + j)] : List Int32).getD k 0)) hw3 (by omega) (by decide) (by decide) h7), trivial⟩, hS.F ht⟩) hS.2.2 dX11_quill_69
    · refine lv_tableIn (tgt := 70) hx hb dX11_quill_12 (by rw [h7]; decide) (by rw [h7]; decide) (by rw [h7]; rfl) (by decide) ?_
      refine lv_aload_n hx hb dX11_quill_70 rfl (lv_at hl 0 rfl) ?_
      refine va_get (D := (dC, dI)) (ci := 11) (v := .ref m5) (C := RX11) (T := TX11) (N := 46) hx hb hts hi_X11 hown hK hP 0 rfl rfl 5 (by decide) (hts (.fieldLink RX11 16 "LeftQuillsModel" "cooked" "[I") (wmx 4 rfl)) (fun _ h9 => h9) e_h0_5 dX11_quill_71 ?_
      refine lv_iload_n hx hb dX11_quill_74 rfl (lv_at hl 1 rfl) ?_
      refine va_iald hx hb hK hP 3 0 rfl rfl (vp_in_nI (n := j4) (N := 8) (by omega) (by decide)) dX11_quill_75 ?_
      refine W.eq (g2 := F0 m 76 ls [.int (fm5 j4)]) (congrArg (fun y9 => F0 m 76 ls (.int (fm5 y9) :: [])) ((nI_clamp (n := j4) (by omega)))) ?_
      exact W.iret (v := fm5 j4) hx hb hr (fun t ht hW => ⟨⟨fm5 j4, (fun _ => 0), rfl, (ql_k (m := 6) (k := 2) (V := (fun j k => ([fm3 j, fm4 j, fm5 j, fm10 j, fm10 (8 + j), hdF (fm4 j) (fm5 j), fm10 (16 + j)] : List Int32).getD k 0)) hw3 (by omega) (by decide) (by decide) h7), trivial⟩, hS.F ht⟩) hS.2.2 dX11_quill_76
    · refine lv_tableIn (tgt := 77) hx hb dX11_quill_12 (by rw [h7]; decide) (by rw [h7]; decide) (by rw [h7]; rfl) (by decide) ?_
      refine lv_aload_n hx hb dX11_quill_77 rfl (lv_at hl 0 rfl) ?_
      refine va_get (D := (dC, dI)) (ci := 11) (v := .ref m10) (C := RX11) (T := TX11) (N := 46) hx hb hts hi_X11 hown hK hP 0 rfl rfl 10 (by decide) (hts (.fieldLink RX11 28 "LeftQuillsModel" "now" "[I") (wmx 5 rfl)) (fun _ h9 => h9) e_h0_10 dX11_quill_78 ?_
      refine lv_iload_n hx hb dX11_quill_81 rfl (lv_at hl 1 rfl) ?_
      refine va_iald hx hb hK hP 4 0 rfl rfl (vp_in_nI (n := j4) (N := 34) (by omega) (by decide)) dX11_quill_82 ?_
      refine W.eq (g2 := F0 m 83 ls [.int (fm10 j4)]) (congrArg (fun y9 => F0 m 83 ls (.int (fm10 y9) :: [])) ((nI_clamp (n := j4) (by omega)))) ?_
      exact W.iret (v := fm10 j4) hx hb hr (fun t ht hW => ⟨⟨fm10 j4, (fun _ => 0), rfl, (ql_k (m := 6) (k := 3) (V := (fun j k => ([fm3 j, fm4 j, fm5 j, fm10 j, fm10 (8 + j), hdF (fm4 j) (fm5 j), fm10 (16 + j)] : List Int32).getD k 0)) hw3 (by omega) (by decide) (by decide) h7), trivial⟩, hS.F ht⟩) hS.2.2 dX11_quill_83
    · refine lv_tableIn (tgt := 84) hx hb dX11_quill_12 (by rw [h7]; decide) (by rw [h7]; decide) (by rw [h7]; rfl) (by decide) ?_
      refine lv_aload_n hx hb dX11_quill_84 rfl (lv_at hl 0 rfl) ?_
      refine va_get (D := (dC, dI)) (ci := 11) (v := .ref m10) (C := RX11) (T := TX11) (N := 46) hx hb hts hi_X11 hown hK hP 0 rfl rfl 10 (by decide) (hts (.fieldLink RX11 28 "LeftQuillsModel" "now" "[I") (wmx 5 rfl)) (fun _ h9 => h9) e_h0_10 dX11_quill_85 ?_
      refine lv_bipush (v := 8) hx hb dX11_quill_88 (by decide) ?_
      refine lv_iload_n hx hb dX11_quill_90 rfl (lv_at hl 1 rfl) ?_
      refine lv_iadd hx hb dX11_quill_91 ?_
      refine lv_topi (fun z8 ez8 => ?_)
      obtain rfl : z8 = nI (8 + j4) := ez8.trans (nI_add 8 j4)
      refine va_iald hx hb hK hP 4 0 rfl rfl (vp_in_nI (n := 8 + j4) (N := 34) (by omega) (by decide)) dX11_quill_92 ?_
      refine W.eq (g2 := F0 m 93 ls [.int (fm10 (8 + j4))]) (congrArg (fun y9 => F0 m 93 ls (.int (fm10 y9) :: [])) ((nI_clamp (n := 8 + j4) (by omega)))) ?_
      exact W.iret (v := fm10 (8 + j4)) hx hb hr (fun t ht hW => ⟨⟨fm10 (8 + j4), (fun _ => 0), rfl, (ql_k (m := 6) (k := 4) (V := (fun j k => ([fm3 j, fm4 j, fm5 j, fm10 j, fm10 (8 + j), hdF (fm4 j) (fm5 j), fm10 (16 + j)] : List Int32).getD k 0)) hw3 (by omega) (by decide) (by decide) h7), trivial⟩, hS.F ht⟩) hS.2.2 dX11_quill_93
    · refine lv_tableIn (tgt := 94) hx hb dX11_quill_12 (by rw [h7]; decide) (by rw [h7]; decide) (by rw [h7]; rfl) (by decide) ?_
      refine lv_aload_n hx hb dX11_quill_94 rfl (lv_at hl 0 rfl) ?_
      refine lv_iload_n hx hb dX11_quill_95 rfl (lv_at hl 1 rfl) ?_
      have hPc := hP.sub (ws' := [(h0, .inr (11, f_h0)), (m4, .inl (cI, 8, .inl fm4)), (m5, .inl (cI, 8, .inl fm5))]) [0, 2, 3] rfl
      refine va_calli (va_runV (As := [.int (nI j4)]) (rest := []) ⟨hx, hb, hml, hown, hts⟩ (c_X11_hardD l dC dI cI cZ cQ h0 m4 m5 f_h0 fm4 fm5 j4 nq H.size e_h0_4 e_h0_5 (by omega) (by first | assumption | decide) (by omega)) (cwV 1 hts gX11_quill_X11_hard rfl rfl rfl (by decide +kernel) ⟨Nat.le_of_ble_eq_true rfl, Nat.le_of_ble_eq_true rfl⟩) ⟨fun a U g mk q => by obtain ⟨q0, q1, qP, qK⟩ := q; exact ⟨q0, q1, qP, va_K.moved (u := U) (U := U.calling g mk a) (Vm.Alike.refl U.vm) qK⟩, va_recv hK hP (ci := 11) (q0 := 0) rfl rfl, fun U hU hW => ⟨rfl, by rw [hU], by rw [hU]; exact hPc, va_K.moved hW.alike hK⟩⟩ rfl rfl hl.1 rfl (lv_room (Nat.le_of_ble_eq_true rfl)) dX11_quill_96 ⟨Nat.le_of_ble_eq_true rfl, Nat.le_of_ble_eq_true rfl⟩) hS (fun q _ h => False.elim h) (fun q h => False.elim h) (fun r9 u10 t H1 locs ht hvm hw11 hB hz1 hk1 hS => ?_)
      have hP := hP.kept (fun k q hk => hk1 q.1 (hP k q hk).lt (fun h => h))
      clear hz1 hk1 hPc
      generalize H1 = H at hP hS ht ⊢
      try dsimp only at hw11
      subst hw11
      exact W.iret (v := hdF (fm4 j4) (fm5 j4)) hx hb hr (fun t ht hW => ⟨⟨hdF (fm4 j4) (fm5 j4), (fun _ => 0), rfl, (ql_k (m := 6) (k := 5) (V := (fun j k => ([fm3 j, fm4 j, fm5 j, fm10 j, fm10 (8 + j), hdF (fm4 j) (fm5 j), fm10 (16 + j)] : List Int32).getD k 0)) hw3 (by omega) (by decide) (by decide) h7), trivial⟩, hS.F ht⟩) hS.2.2 dX11_quill_99
    · refine lv_tableIn (tgt := 100) hx hb dX11_quill_12 (by rw [h7]; decide) (by rw [h7]; decide) (by rw [h7]; rfl) (by decide) ?_
      refine lv_aload_n hx hb dX11_quill_100 rfl (lv_at hl 0 rfl) ?_
      refine va_get (D := (dC, dI)) (ci := 11) (v := .ref m10) (C := RX11) (T := TX11) (N := 46) hx hb hts hi_X11 hown hK hP 0 rfl rfl 10 (by decide) (hts (.fieldLink RX11 28 "LeftQuillsModel" "now" "[I") (wmx 5 rfl)) (fun _ h9 => h9) e_h0_10 dX11_quill_101 ?_
      refine lv_bipush (v := 16) hx hb dX11_quill_104 (by decide) ?_
      refine lv_iload_n hx hb dX11_quill_106 rfl (lv_at hl 1 rfl) ?_
      refine lv_iadd hx hb dX11_quill_107 ?_
      refine lv_topi (fun z12 ez12 => ?_)
      obtain rfl : z12 = nI (16 + j4) := ez12.trans (nI_add 16 j4)
      refine va_iald hx hb hK hP 4 0 rfl rfl (vp_in_nI (n := 16 + j4) (N := 34) (by omega) (by decide)) dX11_quill_108 ?_
      refine W.eq (g2 := F0 m 109 ls [.int (fm10 (16 + j4))]) (congrArg (fun y9 => F0 m 109 ls (.int (fm10 y9) :: [])) ((nI_clamp (n := 16 + j4) (by omega)))) ?_
      exact W.iret (v := fm10 (16 + j4)) hx hb hr (fun t ht hW => ⟨⟨fm10 (16 + j4), (fun _ => 0), rfl, (ql_k (m := 6) (k := 6) (V := (fun j k => ([fm3 j, fm4 j, fm5 j, fm10 j, fm10 (8 + j), hdF (fm4 j) (fm5 j), fm10 (16 + j)] : List Int32).getD k 0)) hw3 (by omega) (by decide) (by decide) h7), trivial⟩, hS.F ht⟩) hS.2.2 dX11_quill_109
  ·
    refine lv_if_ne (tgt := 11) hx hb dX11_quill_5 (by decide) (fun c13 => ?_) (fun c13 => ?_)
    · exact absurd c13 (by decide)
    clear c13
    refine lv_ldc (v := (-1000000001)) hx hb hown (hts (.constant RX11 188 (-1000000001)) (wmx 1 rfl)) dX11_quill_8 ?_
    exact W.iret (v := (-1000000001)) hx hb hr (fun t ht hW => ⟨⟨(-1000000001), (fun _ => 0), rfl, (ql_n hw3), trivial⟩, hS.F ht⟩) hS.2.2 dX11_quill_10
