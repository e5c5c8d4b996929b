set_option maxHeartbeats 4000000 in
set_option maxRecDepth 100000 in
theorem c_X10_goodPages (l : Launch) (dC : Nat → ClassId) (dI : Nat → Nat → Nat) (cI cZ cQ : ClassId) (h0 : Nat) (x4 : Nat) (x9 : Nat) (f_h0 : List Value) (o5 : Nat) (o6 : Nat) (o7 : Nat) (o10 : Nat) (o11 : Nat) (o12 : Nat) (nq : Nat) (nh : Nat) (f_x4 : List Value) (x6 : Nat) (f_x9 : List Value) (a2 : Nat) (a3 : Nat) (a4 : Nat) (f_x6 : List Value) (fa2 : Nat → Int32) (fa3 : Nat → Int32) (fa4 : Nat → Int32) (fo5 : Nat → Int32) (fo6 : Nat → Int32) (fo7 : Nat → Int32) (fo10 : Nat → Int32) (fo11 : Nat → Int32) (fo12 : Nat → Int32) (q0 : Int32) (q1 : Int32) (sz : Nat) (e_h0_4 : f_h0[4]? = some (.ref x4)) (e_h0_9 : f_h0[9]? = some (.ref x9)) (e_x4_5 : f_x4[5]? = some (.ref o5)) (e_x4_6 : f_x4[6]? = some (.ref o6)) (e_x4_7 : f_x4[7]? = some (.ref o7)) (e_x4_10 : f_x4[10]? = some (.ref o10)) (e_x4_11 : f_x4[11]? = some (.ref o11)) (e_x4_12 : f_x4[12]? = some (.ref o12)) (e_x4_3 : f_x4[3]? = some (.int (nI nq))) (e_x4_4 : f_x4[4]? = some (.int (nI nh))) (e_x9_0 : f_x9[0]? = some (.ref x4)) (e_x9_1 : f_x9[1]? = some (.ref x6)) (e_x6_2 : f_x6[2]? = some (.ref a2)) (e_x6_3 : f_x6[3]? = some (.ref a3)) (e_x6_4 : f_x6[4]? = some (.ref a4)) (hnq : nq ≤ 8) (hnh : nh ≤ 4) : Met l yX10_goodPages wsX10_goodPages ({ frames := 4, cells := 0, slots := 0, locals := 133 }) (va_Pc [.ref h0, .int q0, .int q1] (fun U => U.heap.size = sz ∧ va_P (dC, dI) vwCl [(h0, .inr (10, f_h0)), (x4, .inr (5, f_x4)), (x9, .inr (9, f_x9)), (x6, .inr (1, f_x6)), (a2, .inl (cI, 8, .inl fa2)), (a3, .inl (cI, 8, .inl fa3)), (a4, .inl (cI, 8, .inl fa4)), (o5, .inl (cI, 8, .inl fo5)), (o6, .inl (cI, 8, .inl fo6)), (o7, .inl (cI, 8, .inl fo7)), (o10, .inl (cI, 4, .inl fo10)), (o11, .inl (cI, 4, .inl fo11)), (o12, .inl (cI, 4, .inl fo12))] U.heap ∧ va_K (dC, dI) vwCl (tys0 cI cZ cQ) U ∧ xN U)) (va_Qi (fun (r : Int32) (u : Nat → Nat) => True) (fun (_ : Nat → Nat) (_ : State) => True) (fun _ : Nat => False)) 0 0 (fun _ : Nat => False) := by
  refine Met.ofW (cc := cX10_goodPages) (maxL := 3) (ret := (some .int)) (by decide) rfl ?_
  intro p e s m args below meth c s₁ B hml hv
  obtain ⟨rfl, hsz, hP, hK, hN⟩ := hv
  have hx := B.exec
  have hb := B.bytes
  have hr := B.returns
  have hts := atoms_spec (ws := wsX10_goodPages) B.pre
  have hown : s.vm.findClass RX10 = some m.cls := findClass_of_methodNamed B.named
  have hlocks := B.notSynchronized
  have hi_X10 : ∀ w ∈ u_ws RX10 TX10 14, w ∈ wsX10_goodPages := fun _ h => List.mem_cons_of_mem _ (List.mem_append_left _ (List.mem_append_left _ (List.mem_append_left _ (List.mem_append_right _ (h)))))
  subst hsz
  have hS : va_S (fun _ : Nat => False) s.heap s.heap [] := va_S.rf
  have hl := lv_entry ([.ref h0, .int q0, .int q1]) (n := 3) (Nat.le_of_ble_eq_true rfl)
  rw [lg_entry_eq]
  generalize (lg_sl ([.ref h0, .int q0, .int q1]) ++ List.replicate (3 - (lg_sl ([.ref h0, .int q0, .int q1])).length) Slot.unset).toArray = ls at hl ⊢
  have hl : lv_has ls 3 [(0, .ref h0), (1, .int q0), (2, .int q1)] := hl
  refine lv_aload_n hx hb dX10_goodPages_0 rfl (lv_at hl 0 rfl) ?_
  refine lv_iload_n hx hb dX10_goodPages_1 rfl (lv_at hl 1 rfl) ?_
  have hPc := hP.sub (ws' := [(h0, .inr (10, f_h0)), (x4, .inr (5, f_x4))]) [0, 1] rfl
  refine va_calli (va_runV (As := [.int q0]) (rest := []) ⟨hx, hb, hml, hown, hts⟩ (c_X10_isQuill l dC dI cI cZ cQ h0 x4 f_h0 (nI nq) f_x4 q0 s.heap.size e_h0_4 e_x4_3) (cwV 1 hts gX10_goodPages_X10_isQuill rfl rfl rfl (by decide +kernel) ⟨Nat.le_of_ble_eq_true rfl, Nat.le_of_ble_eq_true rfl⟩) ⟨fun a U g mk q => by obtain ⟨q0, q1, qP, qK⟩ := q; exact ⟨q0, q1, qP, va_K.moved (u := U) (U := U.calling g mk a) (Vm.Alike.refl U.vm) qK⟩, va_recv hK hP (ci := 10) (q0 := 0) rfl rfl, fun U hU hW => ⟨rfl, by rw [hU], by rw [hU]; exact hPc, va_K.moved hW.alike hK⟩⟩ rfl rfl hl.1 rfl (lv_room (Nat.le_of_ble_eq_true rfl)) dX10_goodPages_2 ⟨Nat.le_of_ble_eq_true rfl, Nat.le_of_ble_eq_true rfl⟩) hS (fun q _ h => False.elim h) (fun q h => False.elim h) (fun r1 u2 t H1 locs ht hvm hw3 hB hz1 hk1 hS => ?_)
  have hP := hP.kept (fun k q hk => hk1 q.1 (hP k q hk).lt (fun h => h))
  clear hz1 hk1 hPc
  generalize H1 = H at hP hS ht ⊢
  try dsimp only at hw3
  rcases hw3 with ⟨rfl, hw3⟩ | ⟨rfl, hw3⟩
  ·
    obtain ⟨j4, hj4, rfl⟩ := x_ix hw3 (by omega)
    refine lv_if_eq (tgt := 16) hx hb dX10_goodPages_5 (by decide) (fun c5 => ?_) (fun c5 => ?_)
    · exact absurd c5 (by decide)
    clear c5
    refine lv_aload_n hx hb dX10_goodPages_8 rfl (lv_at hl 0 rfl) ?_
    refine lv_iload_n hx hb dX10_goodPages_9 rfl (lv_at hl 2 rfl) ?_
    have hPc := hP.sub (ws' := [(h0, .inr (10, f_h0)), (x4, .inr (5, f_x4))]) [0, 1] rfl
    refine va_calli (va_runV (As := [.int q1]) (rest := []) ⟨hx, hb, hml, hown, hts⟩ (c_X10_isHand l dC dI cI cZ cQ h0 x4 f_h0 (nI nh) f_x4 q1 H.size e_h0_4 e_x4_4) (cwV 1 hts gX10_goodPages_X10_isHand rfl rfl rfl (by decide +kernel) ⟨Nat.le_of_ble_eq_true rfl, Nat.le_of_ble_eq_true rfl⟩) ⟨fun a U g mk q => by obtain ⟨q0, q1, qP, qK⟩ := q; exact ⟨q0, q1, qP, va_K.moved (u := U) (U := U.calling g mk a) (Vm.Alike.refl U.vm) qK⟩, va_recv hK hP (ci := 10) (q0 := 0) rfl rfl, fun U hU hW => ⟨rfl, by rw [hU], by rw [hU]; exact hPc, va_K.moved hW.alike hK⟩⟩ rfl rfl hl.1 rfl (lv_room (Nat.le_of_ble_eq_true rfl)) dX10_goodPages_10 ⟨Nat.le_of_ble_eq_true rfl, Nat.le_of_ble_eq_true rfl⟩) hS (fun q _ h => False.elim h) (fun q h => False.elim h) (fun r6 u7 t H1 locs ht hvm hw8 hB hz1 hk1 hS => ?_)
    have hP := hP.kept (fun k q hk => hk1 q.1 (hP k q hk).lt (fun h => h))
    clear hz1 hk1 hPc
    generalize H1 = H at hP hS ht ⊢
    try dsimp only at hw8
    rcases hw8 with ⟨rfl, hw8⟩ | ⟨rfl, hw8⟩
    ·
      obtain ⟨j9, hj9, rfl⟩ := x_ix hw8 (by omega)
      refine lv_if_ne (tgt := 19) hx hb dX10_goodPages_13 (by decide) (fun c10 => ?_) (fun c10 => ?_)
      rotate_left
      · exact absurd c10 (by decide)
      clear c10
      refine lv_aload_n hx hb dX10_goodPages_19 rfl (lv_at hl 0 rfl) ?_
      refine va_get (D := (dC, dI)) (ci := 10) (v := .ref x9) (C := RX10) (T := TX10) (N := 14) hx hb hts hi_X10 hown hK hP 0 rfl rfl 9 (by decide) (hts (.fieldLink RX10 65 "LeftQuills" "trials" "LLeftQuills$Trials;") (wmx 2 rfl)) (fun _ h9 => h9) e_h0_9 dX10_goodPages_20 ?_
      refine lv_iload_n hx hb dX10_goodPages_23 rfl (lv_at hl 1 rfl) ?_
      refine lv_iload_n hx hb dX10_goodPages_24 rfl (lv_at hl 2 rfl) ?_
      have hPc := hP.sub (ws' := [(x9, .inr (9, f_x9)), (x4, .inr (5, f_x4)), (x6, .inr (1, f_x6)), (a3, .inl (cI, 8, .inl fa3)), (a4, .inl (cI, 8, .inl fa4)), (o5, .inl (cI, 8, .inl fo5)), (o6, .inl (cI, 8, .inl fo6)), (o7, .inl (cI, 8, .inl fo7)), (o10, .inl (cI, 4, .inl fo10)), (o11, .inl (cI, 4, .inl fo11)), (o12, .inl (cI, 4, .inl fo12))]) [2, 1, 3, 5, 6, 7, 8, 9, 10, 11, 12] rfl
      refine va_calli (va_runV (As := [.int (nI j4), .int (nI j9)]) (rest := []) ⟨hx, hb, hml, hown, hts⟩ (c_X9_goodNow l dC dI cI cZ cQ x9 x4 x6 f_x9 o5 o6 o7 o10 o11 o12 f_x4 a3 a4 f_x6 fa3 fa4 fo5 fo6 fo7 fo10 fo11 fo12 j4 j9 H.size e_x9_0 e_x9_1 e_x4_5 e_x4_6 e_x4_7 e_x4_10 e_x4_11 e_x4_12 e_x6_3 e_x6_4 (by omega) (by omega)) (cwV 2 hts gX10_goodPages_X9_goodNow rfl rfl rfl (by decide +kernel) ⟨Nat.le_of_ble_eq_true rfl, Nat.le_of_ble_eq_true rfl⟩) ⟨fun a U g mk q => by obtain ⟨q0, q1, qP, qK, qN⟩ := q; exact ⟨q0, q1, qP, va_K.moved (u := U) (U := U.calling g mk a) (Vm.Alike.refl U.vm) qK, qN.calling⟩, va_recv hK hP (ci := 9) (q0 := 2) rfl rfl, fun U hU hW => ⟨rfl, by rw [hU], by rw [hU]; exact hPc, va_K.moved hW.alike hK, hN.warm hW⟩⟩ rfl rfl hl.1 rfl (lv_room (Nat.le_of_ble_eq_true rfl)) dX10_goodPages_25 ⟨Nat.le_of_ble_eq_true rfl, Nat.le_of_ble_eq_true rfl⟩) hS (fun q _ h => False.elim h) (fun q h => False.elim h) (fun r11 u12 t H1 locs ht hvm hw13 hB hz1 hk1 hS => ?_)
      have hP := hP.kept (fun k q hk => hk1 q.1 (hP k q hk).lt (fun h => h))
      clear hz1 hk1 hPc
      generalize H1 = H at hP hS ht ⊢
      try dsimp only at hw13
      exact W.iret (v := r11) hx hb hr (fun t ht hW => ⟨⟨r11, (fun _ => 0), rfl, trivial, trivial⟩, hS.F ht⟩) hS.2.2 dX10_goodPages_28
    ·
      refine lv_if_ne (tgt := 19) hx hb dX10_goodPages_13 (by decide) (fun c14 => ?_) (fun c14 => ?_)
      · exact absurd c14 (by decide)
      clear c14
      refine lv_ldc (v := (-1000000001)) hx hb hown (hts (.constant RX10 160 (-1000000001)) (wmx 1 rfl)) dX10_goodPages_16 ?_
      exact W.iret (v := (-1000000001)) hx hb hr (fun t ht hW => ⟨⟨(-1000000001), (fun _ => 0), rfl, trivial, trivial⟩, hS.F ht⟩) hS.2.2 dX10_goodPages_18
  ·
    refine lv_if_eq (tgt := 16) hx hb dX10_goodPages_5 (by decide) (fun c15 => ?_) (fun c15 => ?_)
    rotate_left
    · exact absurd c15 (by decide)
    clear c15
    refine lv_ldc (v := (-1000000001)) hx hb hown (hts (.constant RX10 160 (-1000000001)) (wmx 1 rfl)) dX10_goodPages_16 ?_
    exact W.iret (v := (-1000000001)) hx hb hr (fun t ht hW => ⟨⟨(-1000000001), (fun _ => 0), rfl, trivial, trivial⟩, hS.F ht⟩) hS.2.2 dX10_goodPages_18
