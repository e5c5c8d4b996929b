set_option maxHeartbeats 4000000 in
set_option maxRecDepth 100000 in
theorem c_X10_geese (l : Launch) (dC : Nat → ClassId) (dI : Nat → Nat → Nat) (cI cZ cQ : ClassId) (h0 : Nat) (x4 : Nat) (x9 : Nat) (f_h0 : List Value) (o5 : Nat) (o6 : Nat) (o7 : Nat) (o10 : Nat) (o11 : Nat) (o12 : Nat) (nq : Nat) (nh : Nat) (f_x4 : List Value) (x6 : Nat) (f_x9 : List Value) (a2 : Nat) (a3 : Nat) (a4 : Nat) (f_x6 : List Value) (fa2 : Nat → Int32) (fa3 : Nat → Int32) (fa4 : Nat → Int32) (fo5 : Nat → Int32) (fo6 : Nat → Int32) (fo7 : Nat → Int32) (fo10 : Nat → Int32) (fo11 : Nat → Int32) (fo12 : Nat → Int32) (q0 : Int32) (q1 : Int32) (q2 : Int32) (sz : Nat) (e_h0_4 : fAt f_h0 4 = some (.ref x4)) (e_h0_9 : fAt f_h0 9 = some (.ref x9)) (e_x4_5 : fAt f_x4 5 = some (.ref o5)) (e_x4_6 : fAt f_x4 6 = some (.ref o6)) (e_x4_7 : fAt f_x4 7 = some (.ref o7)) (e_x4_10 : fAt f_x4 10 = some (.ref o10)) (e_x4_11 : fAt f_x4 11 = some (.ref o11)) (e_x4_12 : fAt f_x4 12 = some (.ref o12)) (e_x4_3 : fAt f_x4 3 = some (.int (nI nq))) (e_x4_4 : fAt f_x4 4 = some (.int (nI nh))) (e_x9_0 : fAt f_x9 0 = some (.ref x4)) (e_x9_1 : fAt f_x9 1 = some (.ref x6)) (e_x6_2 : fAt f_x6 2 = some (.ref a2)) (e_x6_3 : fAt f_x6 3 = some (.ref a3)) (e_x6_4 : fAt f_x6 4 = some (.ref a4)) (hnq : nq ≤ 8) (hnh : nh ≤ 4) : Met l yX10_geese wsX10_geese ({ frames := 5, cells := 0, slots := 0, locals := 158 }) (va_Pc [.ref h0, .int q0, .int q1, .int q2] (fun U => U.heap.size = sz ∧ va_P (dC, dI) vwCl [(h0, .inr (10, f_h0)), (x4, .inr (5, f_x4)), (x9, .inr (9, f_x9)), (x6, .inr (1, f_x6)), (a2, .inl (cI, 8, .inl fa2)), (a3, .inl (cI, 8, .inl fa3)), (a4, .inl (cI, 8, .inl fa4)), (o5, .inl (cI, 8, .inl fo5)), (o6, .inl (cI, 8, .inl fo6)), (o7, .inl (cI, 8, .inl fo7)), (o10, .inl (cI, 4, .inl fo10)), (o11, .inl (cI, 4, .inl fo11)), (o12, .inl (cI, 4, .inl fo12))] U.heap ∧ va_K (dC, dI) vwCl (tys0 cI cZ cQ) U ∧ xN U)) (va_Qi (fun (r : Int32) (u : Nat → Nat) => True) (fun (_ : Nat → Nat) (_ : State) => True) (fun _ : Nat => False)) 0 0 (fun _ : Nat => False) := by
  refine Met.ofW (cc := cX10_geese) (maxL := 5) (ret := (some .int)) (by decide) rfl ?_
  intro p e s m args below meth c s₁ B hml hv
  obtain ⟨rfl, hsz, hP, hK, hN⟩ := hv
  have hx := B.exec
  have hb := B.bytes
  have hr := B.returns
  have hts := atoms_spec (ws := wsX10_geese) B.pre
  have hown : s.vm.findClass RX10 = some m.cls := findClass_of_methodNamed B.named
  have hlocks := B.notSynchronized
  have hi_X10 : ∀ w ∈ u_ws RX10 TX10 14, w ∈ wsX10_geese := fun _ h => List.mem_cons_of_mem _ (List.mem_append_left _ (List.mem_append_left _ (List.mem_append_left _ (List.mem_append_right _ (h)))))
  subst hsz
  have hS : va_S (fun _ : Nat => False) s.heap s.heap [] := va_S.rf
  have hl := lv_entry ([.ref h0, .int q0, .int q1, .int q2]) (n := 5) (Nat.le_of_ble_eq_true rfl)
  rw [lg_entry_eq]
  generalize (lg_sl ([.ref h0, .int q0, .int q1, .int q2]) ++ List.replicate (5 - (lg_sl ([.ref h0, .int q0, .int q1, .int q2])).length) Slot.unset).toArray = ls at hl ⊢
  have hl : lv_has ls 5 [(0, .ref h0), (1, .int q0), (2, .int q1), (3, .int q2)] := hl
  refine lv_aload_n hx hb dX10_geese_0 rfl (lv_at hl 0 rfl) ?_
  refine lv_iload_n hx hb dX10_geese_1 rfl (lv_at hl 1 rfl) ?_
  have hPc := hP.sub (ws' := [(h0, .inr (10, f_h0)), (x4, .inr (5, f_x4))]) [0, 1] rfl
  refine va_calli (va_runV (As := [.int q0]) (rest := []) ⟨hx, hb, hml, hown, hts⟩ (c_X10_isQuill l dC dI cI cZ cQ h0 x4 f_h0 (nI nq) f_x4 q0 s.heap.size e_h0_4 e_x4_3) (cwV 1 hts gX10_geese_X10_isQuill rfl rfl rfl hd_X10_isQuill_RX10 ⟨Nat.le_of_ble_eq_true rfl, Nat.le_of_ble_eq_true rfl⟩) (pv_R (va_recv hK hP (ci := 10) (q0 := 0) rfl rfl) hK hPc) rfl rfl hl.1 rfl (lv_room (Nat.le_of_ble_eq_true rfl)) dX10_geese_2 ⟨Nat.le_of_ble_eq_true rfl, Nat.le_of_ble_eq_true rfl⟩) hS (fun q _ h => False.elim h) (fun q h => False.elim h) (fun r1 u2 t H1 locs ht hvm hw3 hB hz1 hk1 hS => ?_)
  have hP := hP.kept (fun k q hk => hk1 q.1 (hP k q hk).lt (fun h => h))
  clear hz1 hk1 hPc
  generalize H1 = H at hP hS ht ⊢
  try dsimp only at hw3
  rcases hw3 with ⟨rfl, hw3⟩ | ⟨rfl, hw3⟩
  ·
    obtain ⟨j4, hj4, rfl⟩ := x_ix hw3 (by omega)
    refine lv_if_eq (tgt := 16) hx hb dX10_geese_5 (by decide) (fun c5 => ?_) (fun c5 => ?_)
    · exact absurd c5 (by decide)
    clear c5
    refine lv_aload_n hx hb dX10_geese_8 rfl (lv_at hl 0 rfl) ?_
    refine lv_iload_n hx hb dX10_geese_9 rfl (lv_at hl 2 rfl) ?_
    have hPc := hP.sub (ws' := [(h0, .inr (10, f_h0)), (x4, .inr (5, f_x4))]) [0, 1] rfl
    refine va_calli (va_runV (As := [.int q1]) (rest := []) ⟨hx, hb, hml, hown, hts⟩ (c_X10_isHand l dC dI cI cZ cQ h0 x4 f_h0 (nI nh) f_x4 q1 H.size e_h0_4 e_x4_4) (cwV 1 hts gX10_geese_X10_isHand rfl rfl rfl hd_X10_isHand_RX10 ⟨Nat.le_of_ble_eq_true rfl, Nat.le_of_ble_eq_true rfl⟩) (pv_R (va_recv hK hP (ci := 10) (q0 := 0) rfl rfl) hK hPc) rfl rfl hl.1 rfl (lv_room (Nat.le_of_ble_eq_true rfl)) dX10_geese_10 ⟨Nat.le_of_ble_eq_true rfl, Nat.le_of_ble_eq_true rfl⟩) hS (fun q _ h => False.elim h) (fun q h => False.elim h) (fun r6 u7 t H1 locs ht hvm hw8 hB hz1 hk1 hS => ?_)
    have hP := hP.kept (fun k q hk => hk1 q.1 (hP k q hk).lt (fun h => h))
    clear hz1 hk1 hPc
    generalize H1 = H at hP hS ht ⊢
    try dsimp only at hw8
    rcases hw8 with ⟨rfl, hw8⟩ | ⟨rfl, hw8⟩
    ·
      obtain ⟨j9, hj9, rfl⟩ := x_ix hw8 (by omega)
      refine lv_if_ne (tgt := 19) hx hb dX10_geese_13 (by decide) (fun c10 => ?_) (fun c10 => ?_)
      rotate_left
      · exact absurd c10 (by decide)
      clear c10
      refine lv_iload_n hx hb dX10_geese_19 rfl (lv_at hl 3 rfl) ?_
      refine lv_iconst (v := 1) hx hb dX10_geese_20 (by decide) ?_
      refine lv_ldcw (v := 99999) hx hb hown (hts (.constant RX10 264 99999) (wmx 2 rfl)) dX10_geese_21 ?_
      have hPc := hP.sub (ws' := []) [] rfl
      refine va_calli (va_runS (As := [.int q2, .int 1, .int 99999]) (rest := []) ⟨hx, hb, hml, hown, hts⟩ (c_X10_within l dC dI cI cZ cQ q2 1 99999 H.size ) (va_cwS 3 hts gX10_geese_X10_within rfl rfl rfl (by decide +kernel) ⟨Nat.le_of_ble_eq_true rfl, Nat.le_of_ble_eq_true rfl⟩) (ps_R hK hPc) rfl rfl hl.1 rfl (lv_room (Nat.le_of_ble_eq_true rfl)) dX10_geese_24 ⟨Nat.le_of_ble_eq_true rfl, Nat.le_of_ble_eq_true rfl⟩) hS (fun q _ h => False.elim h) (fun q h => False.elim h) (fun r11 u12 t H1 locs ht hvm hw13 hB hz1 hk1 hS => ?_)
      have hP := hP.kept (fun k q hk => hk1 q.1 (hP k q hk).lt (fun h => h))
      clear hz1 hk1 hPc
      generalize H1 = H at hP hS ht ⊢
      try dsimp only at hw13
      rcases hw13 with ⟨rfl, hw13⟩ | ⟨rfl, hw13⟩
      ·
        refine lv_if_ne (tgt := 33) hx hb dX10_geese_27 (by decide) (fun c14 => ?_) (fun c14 => ?_)
        rotate_left
        · exact absurd c14 (by decide)
        clear c14
        refine lv_bipush (v := 10) hx hb dX10_geese_33 (by decide) ?_
        refine lv_aload_n hx hb dX10_geese_35 rfl (lv_at hl 0 rfl) ?_
        refine va_get (D := (dC, dI)) (ci := 10) (v := .ref x9) (C := RX10) (T := TX10) (N := 14) hx hb hts hi_X10 hown hK hP 0 rfl rfl 9 (by decide) (hts (.fieldLink RX10 65 "LeftQuills" "trials" "LLeftQuills$Trials;") (wmx 4 rfl)) (fun _ h9 => h9) e_h0_9 dX10_geese_36 ?_
        refine lv_iload_n hx hb dX10_geese_39 rfl (lv_at hl 1 rfl) ?_
        refine lv_iload_n hx hb dX10_geese_40 rfl (lv_at hl 2 rfl) ?_
        have hPc := hP.sub (ws' := [(x9, .inr (9, f_x9)), (x4, .inr (5, f_x4)), (x6, .inr (1, f_x6)), (a2, .inl (cI, 8, .inl fa2)), (a3, .inl (cI, 8, .inl fa3)), (a4, .inl (cI, 8, .inl fa4)), (o5, .inl (cI, 8, .inl fo5)), (o6, .inl (cI, 8, .inl fo6)), (o7, .inl (cI, 8, .inl fo7)), (o10, .inl (cI, 4, .inl fo10)), (o11, .inl (cI, 4, .inl fo11)), (o12, .inl (cI, 4, .inl fo12))]) [2, 1, 3, 4, 5, 6, 7, 8, 9, 10, 11, 12] rfl
        refine va_calli (va_runV (As := [.int (nI j4), .int (nI j9)]) (rest := [.int 10]) ⟨hx, hb, hml, hown, hts⟩ (c_X9_goodInLife l dC dI cI cZ cQ x9 x4 x6 f_x9 o5 o6 o7 o10 o11 o12 f_x4 a2 a3 a4 f_x6 fa2 fa3 fa4 fo5 fo6 fo7 fo10 fo11 fo12 j4 j9 H.size e_x9_0 e_x9_1 e_x4_5 e_x4_6 e_x4_7 e_x4_10 e_x4_11 e_x4_12 e_x6_2 e_x6_3 e_x6_4 (by omega) (by omega)) (cwV 2 hts gX10_geese_X9_goodInLife rfl rfl rfl hd_X9_goodInLife_RX9 ⟨Nat.le_of_ble_eq_true rfl, Nat.le_of_ble_eq_true rfl⟩) ⟨fun a U g mk q => by obtain ⟨q0, q1, qP, qK, qN⟩ := q; exact ⟨q0, q1, qP, va_K.moved (u := U) (U := U.calling g mk a) (Vm.Alike.refl U.vm) qK, qN.calling⟩, va_recv hK hP (ci := 9) (q0 := 2) rfl rfl, fun U hU hW => ⟨rfl, by rw [hU], by rw [hU]; exact hPc, va_K.moved hW.alike hK, hN.warm hW⟩⟩ rfl rfl hl.1 rfl (lv_room (Nat.le_of_ble_eq_true rfl)) dX10_geese_41 ⟨Nat.le_of_ble_eq_true rfl, Nat.le_of_ble_eq_true rfl⟩) hS (fun q _ h => False.elim h) (fun q h => False.elim h) (fun r15 u16 t H1 locs ht hvm hw17 hB hz1 hk1 hS => ?_)
        have hP := hP.kept (fun k q hk => hk1 q.1 (hP k q hk).lt (fun h => h))
        clear hz1 hk1 hPc
        generalize H1 = H at hP hS ht ⊢
        try dsimp only at hw17
        refine lv_imul hx hb dX10_geese_44 ?_
        refine lv_topi (fun z18 ez18 => ?_)
        refine lv_istore (lv' := [(4, .int z18), (0, .ref h0), (1, .int (nI j4)), (2, .int (nI j9)), (3, .int q2)]) hx hb dX10_geese_45 hl (by decide) rfl (fun ls hl => ?_)
        refine lv_iload hx hb dX10_geese_47 (lv_at hl 0 rfl) ?_
        refine lv_if_gt (tgt := 54) hx hb dX10_geese_49 (by decide) (fun c19 => ?_) (fun c19 => ?_)
        ·
          refine lv_iload_n hx hb dX10_geese_54 rfl (lv_at hl 4 rfl) ?_
          refine lv_iload hx hb dX10_geese_55 (lv_at hl 0 rfl) ?_
          refine lv_iadd hx hb dX10_geese_57 ?_
          refine lv_topi (fun z20 ez20 => ?_)
          refine lv_iconst (v := 1) hx hb dX10_geese_58 (by decide) ?_
          refine lv_isub hx hb dX10_geese_59 ?_
          refine lv_topi (fun z21 ez21 => ?_)
          refine lv_iload hx hb dX10_geese_60 (lv_at hl 0 rfl) ?_
          refine lv_idiv hx hb dX10_geese_62 (fun e9 => absurd c19 (by rw [e9]; decide)) ?_
          refine lv_topi (fun z22 ez22 => ?_)
          exact W.iret (v := z22) hx hb hr (fun t ht hW => ⟨⟨z22, (fun _ => 0), rfl, trivial, trivial⟩, hS.F ht⟩) hS.2.2 dX10_geese_63
        ·
          refine lv_iconst (v := (-1)) hx hb dX10_geese_52 (by decide) ?_
          exact W.iret (v := (-1)) hx hb hr (fun t ht hW => ⟨⟨(-1), (fun _ => 0), rfl, trivial, trivial⟩, hS.F ht⟩) hS.2.2 dX10_geese_53
      ·
        refine lv_if_ne (tgt := 33) hx hb dX10_geese_27 (by decide) (fun c23 => ?_) (fun c23 => ?_)
        · exact absurd c23 (by decide)
        clear c23
        refine lv_ldc (v := (-1000000002)) hx hb hown (hts (.constant RX10 103 (-1000000002)) (wmx 3 rfl)) dX10_geese_30 ?_
        exact W.iret (v := (-1000000002)) hx hb hr (fun t ht hW => ⟨⟨(-1000000002), (fun _ => 0), rfl, trivial, trivial⟩, hS.F ht⟩) hS.2.2 dX10_geese_32
    ·
      refine lv_if_ne (tgt := 19) hx hb dX10_geese_13 (by decide) (fun c24 => ?_) (fun c24 => ?_)
      · exact absurd c24 (by decide)
      clear c24
      refine lv_ldc (v := (-1000000001)) hx hb hown (hts (.constant RX10 160 (-1000000001)) (wmx 1 rfl)) dX10_geese_16 ?_
      exact W.iret (v := (-1000000001)) hx hb hr (fun t ht hW => ⟨⟨(-1000000001), (fun _ => 0), rfl, trivial, trivial⟩, hS.F ht⟩) hS.2.2 dX10_geese_18
  ·
    refine lv_if_eq (tgt := 16) hx hb dX10_geese_5 (by decide) (fun c25 => ?_) (fun c25 => ?_)
    rotate_left
    · exact absurd c25 (by decide)
    clear c25
    refine lv_ldc (v := (-1000000001)) hx hb hown (hts (.constant RX10 160 (-1000000001)) (wmx 1 rfl)) dX10_geese_16 ?_
    exact W.iret (v := (-1000000001)) hx hb hr (fun t ht hW => ⟨⟨(-1000000001), (fun _ => 0), rfl, trivial, trivial⟩, hS.F ht⟩) hS.2.2 dX10_geese_18
set_option maxHeartbeats 4000000 in
set_option maxRecDepth 100000 in
theorem c_X10_fastest (l : Launch) (dC : Nat → ClassId) (dI : Nat → Nat → Nat) (cI cZ cQ : ClassId) (h0 : Nat) (x4 : Nat) (x6 : Nat) (x11 : Nat) (f_h0 : List Value) (o5 : Nat) (o6 : Nat) (o7 : Nat) (o10 : Nat) (o11 : Nat) (o12 : Nat) (bl : Int32) (mm : Int32) (nq : Nat) (nh : Nat) (f_x4 : List Value) (be : Int32) (r1 : Nat) (r2 : Nat) (td : Nat) (hh : Nat) (pg : Nat) (mia : Int32) (cua : Int32) (a2 : Nat) (a3 : Nat) (a4 : Nat) (a5 : Nat) (a6 : Nat) (fa2 : Nat → Int32) (fa3 : Nat → Int32) (fa4 : Nat → Int32) (fa5 : Nat → Int32) (fa6 : Nat → Int32) (fr1 : Nat → Int32) (fr2 : Nat → Int32) (fo5 : Nat → Int32) (fo6 : Nat → Int32) (fo7 : Nat → Int32) (fo10 : Nat → Int32) (fo11 : Nat → Int32) (fo12 : Nat → Int32) (mib : Int32) (cub : Int32) (b2 : Nat) (b3 : Nat) (b4 : Nat) (b5 : Nat) (b6 : Nat) (hp : Nat) (fb2 : Nat → Int32) (fb3 : Nat → Int32) (fb4 : Nat → Int32) (fb5 : Nat → Int32) (fb6 : Nat → Int32) (q0 : Int32) (q1 : Int32) (q2 : Int32) (sz : Nat) (e_h0_4 : fAt f_h0 4 = some (.ref x4)) (e_h0_6 : fAt f_h0 6 = some (.ref x6)) (e_h0_11 : fAt f_h0 11 = some (.ref x11)) (e_x4_5 : fAt f_x4 5 = some (.ref o5)) (e_x4_6 : fAt f_x4 6 = some (.ref o6)) (e_x4_7 : fAt f_x4 7 = some (.ref o7)) (e_x4_10 : fAt f_x4 10 = some (.ref o10)) (e_x4_11 : fAt f_x4 11 = some (.ref o11)) (e_x4_12 : fAt f_x4 12 = some (.ref o12)) (e_x4_1 : fAt f_x4 1 = some (.int bl)) (e_x4_2 : fAt f_x4 2 = some (.int mm)) (e_x4_3 : fAt f_x4 3 = some (.int (nI nq))) (e_x4_4 : fAt f_x4 4 = some (.int (nI nh))) (hnq : nq ≤ 8) (hnh : nh ≤ 4) (hhh : hh ≤ 3) (hpg : pg ≤ 4) : Met l yX10_fastest wsX10_fastest ({ frames := 13, cells := 0, slots := 0, locals := 469 }) (va_Pc [.ref h0, .int q0, .int q1, .int q2] (fun U => U.heap.size = sz ∧ va_P (dC, dI) vwCl [(h0, .inr (10, f_h0)), (x4, .inr (5, f_x4)), (x11, .inr (6, [.int be, .ref r1, .ref r2, .ref x4, .ref td, .int (nI hh), .int (nI pg)])), (td, .inr (1, [.int mia, .int cua, .ref a2, .ref a3, .ref a4, .ref a5, .ref a6, .ref x4])), (a2, .inl (cI, 8, .inl fa2)), (a3, .inl (cI, 8, .inl fa3)), (a4, .inl (cI, 8, .inl fa4)), (a5, .inl (cI, 4, .inl fa5)), (a6, .inl (cI, 4, .inl fa6)), (r1, .inl (cI, 4, .inl fr1)), (r2, .inl (cI, 4, .inl fr2)), (o5, .inl (cI, 8, .inl fo5)), (o6, .inl (cI, 8, .inl fo6)), (o7, .inl (cI, 8, .inl fo7)), (o10, .inl (cI, 4, .inl fo10)), (o11, .inl (cI, 4, .inl fo11)), (o12, .inl (cI, 4, .inl fo12)), (x6, .inr (1, [.int mib, .int cub, .ref b2, .ref b3, .ref b4, .ref b5, .ref b6, .ref hp])), (b2, .inl (cI, 8, .inl fb2)), (b3, .inl (cI, 8, .inl fb3)), (b4, .inl (cI, 8, .inl fb4)), (b5, .inl (cI, 4, .inl fb5)), (b6, .inl (cI, 4, .inl fb6))] U.heap ∧ va_K (dC, dI) vwCl (tys0 cI cZ cQ) U ∧ va_D (fun _ => True) [(h0, .inr (10, f_h0)), (x4, .inr (5, f_x4)), (x11, .inr (6, [.int be, .ref r1, .ref r2, .ref x4, .ref td, .int (nI hh), .int (nI pg)])), (td, .inr (1, [.int mia, .int cua, .ref a2, .ref a3, .ref a4, .ref a5, .ref a6, .ref x4])), (a2, .inl (cI, 8, .inl fa2)), (a3, .inl (cI, 8, .inl fa3)), (a4, .inl (cI, 8, .inl fa4)), (a5, .inl (cI, 4, .inl fa5)), (a6, .inl (cI, 4, .inl fa6)), (r1, .inl (cI, 4, .inl fr1)), (r2, .inl (cI, 4, .inl fr2)), (o5, .inl (cI, 8, .inl fo5)), (o6, .inl (cI, 8, .inl fo6)), (o7, .inl (cI, 8, .inl fo7)), (o10, .inl (cI, 4, .inl fo10)), (o11, .inl (cI, 4, .inl fo11)), (o12, .inl (cI, 4, .inl fo12)), (x6, .inr (1, [.int mib, .int cub, .ref b2, .ref b3, .ref b4, .ref b5, .ref b6, .ref hp])), (b2, .inl (cI, 8, .inl fb2)), (b3, .inl (cI, 8, .inl fb3)), (b4, .inl (cI, 8, .inl fb4)), (b5, .inl (cI, 4, .inl fb5)), (b6, .inl (cI, 4, .inl fb6))] ∧ xN U)) (va_Qi (fun (r : Int32) (u : Nat → Nat) => True) (fun (_ : Nat → Nat) (t : State) => ∃ (gg0 gg1 gg2 gg3 gg4 gg5 gg6 : Nat → Int32) (ii0 ii3 ii4 : Int32) (kk1 kk2 : Nat), kk1 ≤ 3 ∧ kk2 ≤ 4 ∧ va_P (dC, dI) vwCl [(h0, .inr (10, f_h0)), (x4, .inr (5, f_x4)), (x11, .inr (6, [.int ii0, .ref r1, .ref r2, .ref x4, .ref td, .int (nI kk1), .int (nI kk2)])), (td, .inr (1, [.int ii3, .int ii4, .ref a2, .ref a3, .ref a4, .ref a5, .ref a6, .ref x4])), (a2, .inl (cI, 8, .inl gg0)), (a3, .inl (cI, 8, .inl gg1)), (a4, .inl (cI, 8, .inl gg2)), (a5, .inl (cI, 4, .inl gg3)), (a6, .inl (cI, 4, .inl gg4)), (r1, .inl (cI, 4, .inl gg5)), (r2, .inl (cI, 4, .inl gg6)), (o5, .inl (cI, 8, .inl fo5)), (o6, .inl (cI, 8, .inl fo6)), (o7, .inl (cI, 8, .inl fo7)), (o10, .inl (cI, 4, .inl fo10)), (o11, .inl (cI, 4, .inl fo11)), (o12, .inl (cI, 4, .inl fo12)), (x6, .inr (1, [.int mib, .int cub, .ref b2, .ref b3, .ref b4, .ref b5, .ref b6, .ref hp])), (b2, .inl (cI, 8, .inl fb2)), (b3, .inl (cI, 8, .inl fb3)), (b4, .inl (cI, 8, .inl fb4)), (b5, .inl (cI, 4, .inl fb5)), (b6, .inl (cI, 4, .inl fb6))] t.heap ∧ va_D (va_A [(h0, .inr (10, f_h0)), (x4, .inr (5, f_x4)), (x11, .inr (6, [.int be, .ref r1, .ref r2, .ref x4, .ref td, .int (nI hh), .int (nI pg)])), (td, .inr (1, [.int mia, .int cua, .ref a2, .ref a3, .ref a4, .ref a5, .ref a6, .ref x4])), (a2, .inl (cI, 8, .inl fa2)), (a3, .inl (cI, 8, .inl fa3)), (a4, .inl (cI, 8, .inl fa4)), (a5, .inl (cI, 4, .inl fa5)), (a6, .inl (cI, 4, .inl fa6)), (r1, .inl (cI, 4, .inl fr1)), (r2, .inl (cI, 4, .inl fr2)), (o5, .inl (cI, 8, .inl fo5)), (o6, .inl (cI, 8, .inl fo6)), (o7, .inl (cI, 8, .inl fo7)), (o10, .inl (cI, 4, .inl fo10)), (o11, .inl (cI, 4, .inl fo11)), (o12, .inl (cI, 4, .inl fo12)), (x6, .inr (1, [.int mib, .int cub, .ref b2, .ref b3, .ref b4, .ref b5, .ref b6, .ref hp])), (b2, .inl (cI, 8, .inl fb2)), (b3, .inl (cI, 8, .inl fb3)), (b4, .inl (cI, 8, .inl fb4)), (b5, .inl (cI, 4, .inl fb5)), (b6, .inl (cI, 4, .inl fb6))] sz) [(h0, .inr (10, f_h0)), (x4, .inr (5, f_x4)), (x11, .inr (6, [.int ii0, .ref r1, .ref r2, .ref x4, .ref td, .int (nI kk1), .int (nI kk2)])), (td, .inr (1, [.int ii3, .int ii4, .ref a2, .ref a3, .ref a4, .ref a5, .ref a6, .ref x4])), (a2, .inl (cI, 8, .inl gg0)), (a3, .inl (cI, 8, .inl gg1)), (a4, .inl (cI, 8, .inl gg2)), (a5, .inl (cI, 4, .inl gg3)), (a6, .inl (cI, 4, .inl gg4)), (r1, .inl (cI, 4, .inl gg5)), (r2, .inl (cI, 4, .inl gg6)), (o5, .inl (cI, 8, .inl fo5)), (o6, .inl (cI, 8, .inl fo6)), (o7, .inl (cI, 8, .inl fo7)), (o10, .inl (cI, 4, .inl fo10)), (o11, .inl (cI, 4, .inl fo11)), (o12, .inl (cI, 4, .inl fo12)), (x6, .inr (1, [.int mib, .int cub, .ref b2, .ref b3, .ref b4, .ref b5, .ref b6, .ref hp])), (b2, .inl (cI, 8, .inl fb2)), (b3, .inl (cI, 8, .inl fb3)), (b4, .inl (cI, 8, .inl fb4)), (b5, .inl (cI, 4, .inl fb5)), (b6, .inl (cI, 4, .inl fb6))]) (va_A [(h0, .inr (10, f_h0)), (x4, .inr (5, f_x4)), (x11, .inr (6, [.int be, .ref r1, .ref r2, .ref x4, .ref td, .int (nI hh), .int (nI pg)])), (td, .inr (1, [.int mia, .int cua, .ref a2, .ref a3, .ref a4, .ref a5, .ref a6, .ref x4])), (a2, .inl (cI, 8, .inl fa2)), (a3, .inl (cI, 8, .inl fa3)), (a4, .inl (cI, 8, .inl fa4)), (a5, .inl (cI, 4, .inl fa5)), (a6, .inl (cI, 4, .inl fa6)), (r1, .inl (cI, 4, .inl fr1)), (r2, .inl (cI, 4, .inl fr2)), (o5, .inl (cI, 8, .inl fo5)), (o6, .inl (cI, 8, .inl fo6)), (o7, .inl (cI, 8, .inl fo7)), (o10, .inl (cI, 4, .inl fo10)), (o11, .inl (cI, 4, .inl fo11)), (o12, .inl (cI, 4, .inl fo12)), (x6, .inr (1, [.int mib, .int cub, .ref b2, .ref b3, .ref b4, .ref b5, .ref b6, .ref hp])), (b2, .inl (cI, 8, .inl fb2)), (b3, .inl (cI, 8, .inl fb3)), (b4, .inl (cI, 8, .inl fb4)), (b5, .inl (cI, 4, .inl fb5)), (b6, .inl (cI, 4, .inl fb6))] sz)) 0 0 (va_A [(h0, .inr (10, f_h0)), (x4, .inr (5, f_x4)), (x11, .inr (6, [.int be, .ref r1, .ref r2, .ref x4, .ref td, .int (nI hh), .int (nI pg)])), (td, .inr (1, [.int mia, .int cua, .ref a2, .ref a3, .ref a4, .ref a5, .ref a6, .ref x4])), (a2, .inl (cI, 8, .inl fa2)), (a3, .inl (cI, 8, .inl fa3)), (a4, .inl (cI, 8, .inl fa4)), (a5, .inl (cI, 4, .inl fa5)), (a6, .inl (cI, 4, .inl fa6)), (r1, .inl (cI, 4, .inl fr1)), (r2, .inl (cI, 4, .inl fr2)), (o5, .inl (cI, 8, .inl fo5)), (o6, .inl (cI, 8, .inl fo6)), (o7, .inl (cI, 8, .inl fo7)), (o10, .inl (cI, 4, .inl fo10)), (o11, .inl (cI, 4, .inl fo11)), (o12, .inl (cI, 4, .inl fo12)), (x6, .inr (1, [.int mib, .int cub, .ref b2, .ref b3, .ref b4, .ref b5, .ref b6, .ref hp])), (b2, .inl (cI, 8, .inl fb2)), (b3, .inl (cI, 8, .inl fb3)), (b4, .inl (cI, 8, .inl fb4)), (b5, .inl (cI, 4, .inl fb5)), (b6, .inl (cI, 4, .inl fb6))] sz) := by
  refine Met.ofW (cc := cX10_fastest) (maxL := 4) (ret := (some .int)) (by decide) rfl ?_
  intro p e s m args below meth c s₁ B hml hv
  obtain ⟨rfl, hsz, hP, hK, hD0, hN⟩ := hv
  have hx := B.exec
  have hb := B.bytes
  have hr := B.returns
  have hts := atoms_spec (ws := wsX10_fastest) B.pre
  have hown : s.vm.findClass RX10 = some m.cls := findClass_of_methodNamed B.named
  have hlocks := B.notSynchronized
  have hi_X10 : ∀ w ∈ u_ws RX10 TX10 14, w ∈ wsX10_fastest := fun _ h => List.mem_cons_of_mem _ (List.mem_append_left _ (List.mem_append_left _ (List.mem_append_left _ (List.mem_append_right _ (h)))))
  have hi_X6 : ∀ w ∈ u_ws RX6 TX6 7, w ∈ wsX10_fastest := fun _ h => List.mem_cons_of_mem _ (List.mem_append_left _ (List.mem_append_left _ (List.mem_append_right _ (h))))
  subst hsz
  have hD := hD0.self (sz := s.heap.size)
  generalize hAe : va_A [(h0, .inr (10, f_h0)), (x4, .inr (5, f_x4)), (x11, .inr (6, [.int be, .ref r1, .ref r2, .ref x4, .ref td, .int (nI hh), .int (nI pg)])), (td, .inr (1, [.int mia, .int cua, .ref a2, .ref a3, .ref a4, .ref a5, .ref a6, .ref x4])), (a2, .inl (cI, 8, .inl fa2)), (a3, .inl (cI, 8, .inl fa3)), (a4, .inl (cI, 8, .inl fa4)), (a5, .inl (cI, 4, .inl fa5)), (a6, .inl (cI, 4, .inl fa6)), (r1, .inl (cI, 4, .inl fr1)), (r2, .inl (cI, 4, .inl fr2)), (o5, .inl (cI, 8, .inl fo5)), (o6, .inl (cI, 8, .inl fo6)), (o7, .inl (cI, 8, .inl fo7)), (o10, .inl (cI, 4, .inl fo10)), (o11, .inl (cI, 4, .inl fo11)), (o12, .inl (cI, 4, .inl fo12)), (x6, .inr (1, [.int mib, .int cub, .ref b2, .ref b3, .ref b4, .ref b5, .ref b6, .ref hp])), (b2, .inl (cI, 8, .inl fb2)), (b3, .inl (cI, 8, .inl fb3)), (b4, .inl (cI, 8, .inl fb4)), (b5, .inl (cI, 4, .inl fb5)), (b6, .inl (cI, 4, .inl fb6))] s.heap.size = A at hD ⊢
  have hA : ∀ q : Nat, s.heap.size ≤ q → A q := fun q h => by rw [← hAe]; exact Or.inr h
  have hS : va_S A s.heap s.heap [] := va_S.rf
  have hl := lv_entry ([.ref h0, .int q0, .int q1, .int q2]) (n := 4) (Nat.le_of_ble_eq_true rfl)
  rw [lg_entry_eq]
  generalize (lg_sl ([.ref h0, .int q0, .int q1, .int q2]) ++ List.replicate (4 - (lg_sl ([.ref h0, .int q0, .int q1, .int q2])).length) Slot.unset).toArray = ls at hl ⊢
  have hl : lv_has ls 4 [(0, .ref h0), (1, .int q0), (2, .int q1), (3, .int q2)] := hl
  refine lv_aload_n hx hb dX10_fastest_0 rfl (lv_at hl 0 rfl) ?_
  refine lv_iload_n hx hb dX10_fastest_1 rfl (lv_at hl 1 rfl) ?_
  have hPc := hP.sub (ws' := [(h0, .inr (10, f_h0)), (x4, .inr (5, f_x4))]) [0, 1] rfl
  refine va_calli (va_runV (As := [.int q0]) (rest := []) ⟨hx, hb, hml, hown, hts⟩ (c_X10_isHand l dC dI cI cZ cQ h0 x4 f_h0 (nI nh) f_x4 q0 s.heap.size e_h0_4 e_x4_4) (cwV 1 hts gX10_fastest_X10_isHand rfl rfl rfl hd_X10_isHand_RX10 ⟨Nat.le_of_ble_eq_true rfl, Nat.le_of_ble_eq_true rfl⟩) (pv_R (va_recv hK hP (ci := 10) (q0 := 0) rfl rfl) hK hPc) rfl rfl hl.1 rfl (lv_room (Nat.le_of_ble_eq_true rfl)) dX10_fastest_2 ⟨Nat.le_of_ble_eq_true rfl, Nat.le_of_ble_eq_true rfl⟩) hS (fun q _ h => False.elim h) (fun q h => False.elim h) (fun r1 u2 t H1 locs ht hvm hw3 hB hz1 hk1 hS => ?_)
  have hP := hP.kept (fun k q hk => hk1 q.1 (hP k q hk).lt (fun h => h))
  clear hz1 hk1 hPc
  generalize H1 = H at hP hS ht ⊢
  try dsimp only at hw3
  rcases hw3 with ⟨rfl, hw3⟩ | ⟨rfl, hw3⟩
  ·
    obtain ⟨j4, hj4, rfl⟩ := x_ix hw3 (by omega)
    refine lv_if_ne (tgt := 11) hx hb dX10_fastest_5 (by decide) (fun c5 => ?_) (fun c5 => ?_)
    rotate_left
    · exact absurd c5 (by decide)
    clear c5
    refine lv_iload_n hx hb dX10_fastest_11 rfl (lv_at hl 2 rfl) ?_
    refine lv_iconst (v := 1) hx hb dX10_fastest_12 (by decide) ?_
    refine lv_iconst (v := 4) hx hb dX10_fastest_13 (by decide) ?_
    have hPc := hP.sub (ws' := []) [] rfl
    refine va_calli (va_runS (As := [.int q1, .int 1, .int 4]) (rest := []) ⟨hx, hb, hml, hown, hts⟩ (c_X10_within l dC dI cI cZ cQ q1 1 4 H.size ) (va_cwS 3 hts gX10_fastest_X10_within rfl rfl rfl (by decide +kernel) ⟨Nat.le_of_ble_eq_true rfl, Nat.le_of_ble_eq_true rfl⟩) (ps_R hK hPc) rfl rfl hl.1 rfl (lv_room (Nat.le_of_ble_eq_true rfl)) dX10_fastest_14 ⟨Nat.le_of_ble_eq_true rfl, Nat.le_of_ble_eq_true rfl⟩) hS (fun q _ h => False.elim h) (fun q h => False.elim h) (fun r6 u7 t H1 locs ht hvm hw8 hB hz1 hk1 hS => ?_)
    have hP := hP.kept (fun k q hk => hk1 q.1 (hP k q hk).lt (fun h => h))
    clear hz1 hk1 hPc
    generalize H1 = H at hP hS ht ⊢
    try dsimp only at hw8
    rcases hw8 with ⟨rfl, hw8⟩ | ⟨rfl, hw8⟩
    ·
      obtain ⟨j9, haj9, hbj9, rfl⟩ := x_rng (a := 1) (b := 4) (by decide) (by decide) hw8
      refine lv_if_eq (tgt := 31) hx hb dX10_fastest_17 (by decide) (fun c10 => ?_) (fun c10 => ?_)
      · exact absurd c10 (by decide)
      clear c10
      refine lv_iload_n hx hb dX10_fastest_20 rfl (lv_at hl 3 rfl) ?_
      refine lv_iconst (v := (-1)) hx hb dX10_fastest_21 (by decide) ?_
      refine lv_iload_n hx hb dX10_fastest_22 rfl (lv_at hl 2 rfl) ?_
      refine lv_iconst (v := 1) hx hb dX10_fastest_23 (by decide) ?_
      refine lv_isub hx hb dX10_fastest_24 ?_
      refine lv_topi (fun z11 ez11 => ?_)
      obtain rfl : z11 = nI (j9 - 1) := ez11.trans (pk_sub (a := j9) (b := 1) (by omega))
      have hPc := hP.sub (ws' := []) [] rfl
      refine va_calli (va_runS (As := [.int q2, .int (-1), .int (nI (j9 - 1))]) (rest := []) ⟨hx, hb, hml, hown, hts⟩ (c_X10_within l dC dI cI cZ cQ q2 (-1) (nI (j9 - 1)) H.size ) (va_cwS 3 hts gX10_fastest_X10_within rfl rfl rfl (by decide +kernel) ⟨Nat.le_of_ble_eq_true rfl, Nat.le_of_ble_eq_true rfl⟩) (ps_R hK hPc) rfl rfl hl.1 rfl (lv_room (Nat.le_of_ble_eq_true rfl)) dX10_fastest_25 ⟨Nat.le_of_ble_eq_true rfl, Nat.le_of_ble_eq_true rfl⟩) hS (fun q _ h => False.elim h) (fun q h => False.elim h) (fun r12 u13 t H1 locs ht hvm hw14 hB hz1 hk1 hS => ?_)
      have hP := hP.kept (fun k q hk => hk1 q.1 (hP k q hk).lt (fun h => h))
      clear hz1 hk1 hPc
      generalize H1 = H at hP hS ht ⊢
      try dsimp only at hw14
      rcases hw14 with ⟨rfl, hw14⟩ | ⟨rfl, hw14⟩
      ·
        refine lv_if_ne (tgt := 34) hx hb dX10_fastest_28 (by decide) (fun c15 => ?_) (fun c15 => ?_)
        rotate_left
        · exact absurd c15 (by decide)
        clear c15
        refine lv_aload_n hx hb dX10_fastest_34 rfl (lv_at hl 0 rfl) ?_
        refine va_get (D := (dC, dI)) (ci := 10) (v := .ref x11) (C := RX10) (T := TX10) (N := 14) hx hb hts hi_X10 hown hK hP 0 rfl rfl 11 (by decide) (hts (.fieldLink RX10 81 "LeftQuills" "race" "LLeftQuills$Race;") (wmx 3 rfl)) (fun _ h9 => h9) e_h0_11 dX10_fastest_35 ?_
        refine lv_aload_n hx hb dX10_fastest_38 rfl (lv_at hl 0 rfl) ?_
        refine va_get (D := (dC, dI)) (ci := 10) (v := .ref x6) (C := RX10) (T := TX10) (N := 14) hx hb hts hi_X10 hown hK hP 0 rfl rfl 6 (by decide) (hts (.fieldLink RX10 42 "LeftQuills" "desk" "LLeftQuills$Desk;") (wmx 4 rfl)) (fun _ h9 => h9) e_h0_6 dX10_fastest_39 ?_
        refine lv_iload_n hx hb dX10_fastest_42 rfl (lv_at hl 1 rfl) ?_
        refine lv_iload_n hx hb dX10_fastest_43 rfl (lv_at hl 2 rfl) ?_
        have hc9 := va_cut (W' := [(x11, .inr (6, [.int be, .ref r1, .ref r2, .ref x4, .ref td, .int (nI hh), .int (nI pg)])), (x4, .inr (5, f_x4)), (td, .inr (1, [.int mia, .int cua, .ref a2, .ref a3, .ref a4, .ref a5, .ref a6, .ref x4])), (a2, .inl (cI, 8, .inl fa2)), (a3, .inl (cI, 8, .inl fa3)), (a4, .inl (cI, 8, .inl fa4)), (a5, .inl (cI, 4, .inl fa5)), (a6, .inl (cI, 4, .inl fa6)), (r1, .inl (cI, 4, .inl fr1)), (r2, .inl (cI, 4, .inl fr2)), (o5, .inl (cI, 8, .inl fo5)), (o6, .inl (cI, 8, .inl fo6)), (o7, .inl (cI, 8, .inl fo7)), (o10, .inl (cI, 4, .inl fo10)), (o11, .inl (cI, 4, .inl fo11)), (o12, .inl (cI, 4, .inl fo12)), (x6, .inr (1, [.int mib, .int cub, .ref b2, .ref b3, .ref b4, .ref b5, .ref b6, .ref hp])), (b2, .inl (cI, 8, .inl fb2)), (b3, .inl (cI, 8, .inl fb3)), (b4, .inl (cI, 8, .inl fb4)), (b5, .inl (cI, 4, .inl fb5)), (b6, .inl (cI, 4, .inl fb6))]) hP hD hS hA [2, 1, 3, 4, 5, 6, 7, 8, 9, 10, 11, 12, 13, 14, 15, 16, 17, 18, 19, 20, 21, 22] (by decide +kernel) rfl
        have hPc := hc9.1
        have hDc := hc9.2.1
        have hFc := hc9.2.2
        clear hc9
        refine va_calli (va_runV (As := [.ref x6, .int (nI j4), .int (nI j9)]) (rest := []) ⟨hx, hb, hml, hown, hts⟩ (c_X6_find l dC dI cI cZ cQ x11 be r1 r2 x4 td hh pg o5 o6 o7 o10 o11 o12 bl mm nq f_x4 mia cua a2 a3 a4 a5 a6 fa2 fa3 fa4 fa5 fa6 fr1 fr2 fo5 fo6 fo7 fo10 fo11 fo12 x6 mib cub b2 b3 b4 b5 b6 hp fb2 fb3 fb4 fb5 fb6 j4 j9 H.size e_x4_5 e_x4_6 e_x4_7 e_x4_10 e_x4_11 e_x4_12 e_x4_1 e_x4_2 e_x4_3 (by omega) (by omega) (by omega)) (cwV 3 hts gX10_fastest_X6_find rfl rfl rfl hd_X6_find_RX6 ⟨Nat.le_of_ble_eq_true rfl, Nat.le_of_ble_eq_true rfl⟩) ⟨fun a U g mk q => by obtain ⟨q0, q1, qP, qK, qD, qN⟩ := q; exact ⟨q0, q1, qP, va_K.moved (u := U) (U := U.calling g mk a) (Vm.Alike.refl U.vm) qK, qD, qN.calling⟩, va_recv hK hP (ci := 6) (q0 := 2) rfl rfl, fun U hU hW => ⟨rfl, by rw [hU], by rw [hU]; exact hPc, va_K.moved hW.alike hK, hDc.weaken (fun _ _ _ _ => trivial), hN.warm hW⟩⟩ rfl rfl hl.1 rfl (lv_room (Nat.le_of_ble_eq_true rfl)) dX10_fastest_44 ⟨Nat.le_of_ble_eq_true rfl, Nat.le_of_ble_eq_true rfl⟩) hS (fun q _ h => hFc q h) hFc (fun r16 u17 t H1 locs ht hvm hw18 hB hz1 hk1 hS => ?_)
        obtain ⟨f19, f20, f21, f22, f23, f24, f25, i26, i29, i30, k27, k28, hk27, hk28, hP1, hD1⟩ := hB
        replace hP1 := va_hp ht hP1
        obtain ⟨hP, hD⟩ := va_join (wr := [(h0, .inr (10, f_h0))]) (w1 := [(x11, .inr (6, [.int i26, .ref r1, .ref r2, .ref x4, .ref td, .int (nI k27), .int (nI k28)])), (x4, .inr (5, f_x4)), (td, .inr (1, [.int i29, .int i30, .ref a2, .ref a3, .ref a4, .ref a5, .ref a6, .ref x4])), (a2, .inl (cI, 8, .inl f19)), (a3, .inl (cI, 8, .inl f20)), (a4, .inl (cI, 8, .inl f21)), (a5, .inl (cI, 4, .inl f22)), (a6, .inl (cI, 4, .inl f23)), (r1, .inl (cI, 4, .inl f24)), (r2, .inl (cI, 4, .inl f25)), (o5, .inl (cI, 8, .inl fo5)), (o6, .inl (cI, 8, .inl fo6)), (o7, .inl (cI, 8, .inl fo7)), (o10, .inl (cI, 4, .inl fo10)), (o11, .inl (cI, 4, .inl fo11)), (o12, .inl (cI, 4, .inl fo12)), (x6, .inr (1, [.int mib, .int cub, .ref b2, .ref b3, .ref b4, .ref b5, .ref b6, .ref hp])), (b2, .inl (cI, 8, .inl fb2)), (b3, .inl (cI, 8, .inl fb3)), (b4, .inl (cI, 8, .inl fb4)), (b5, .inl (cI, 4, .inl fb5)), (b6, .inl (cI, 4, .inl fb6))]) hP hD [2, 1, 3, 4, 5, 6, 7, 8, 9, 10, 11, 12, 13, 14, 15, 16, 17, 18, 19, 20, 21, 22] [0] rfl rfl (by decide +kernel) (by decide +kernel) hk1 hFc hP1 hD1
        clear hP1 hD1
        clear hz1 hk1 hPc hDc hFc
        generalize H1 = H at hP hS ht ⊢
        have hPD : pdW (dC, dI) vwCl A [(h0, .inr (10, f_h0)), (x11, .inr (6, [.int i26, .ref r1, .ref r2, .ref x4, .ref td, .int (nI k27), .int (nI k28)])), (x4, .inr (5, f_x4)), (td, .inr (1, [.int i29, .int i30, .ref a2, .ref a3, .ref a4, .ref a5, .ref a6, .ref x4])), (a2, .inl (cI, 8, .inl f19)), (a3, .inl (cI, 8, .inl f20)), (a4, .inl (cI, 8, .inl f21)), (a5, .inl (cI, 4, .inl f22)), (a6, .inl (cI, 4, .inl f23)), (r1, .inl (cI, 4, .inl f24)), (r2, .inl (cI, 4, .inl f25)), (o5, .inl (cI, 8, .inl fo5)), (o6, .inl (cI, 8, .inl fo6)), (o7, .inl (cI, 8, .inl fo7)), (o10, .inl (cI, 4, .inl fo10)), (o11, .inl (cI, 4, .inl fo11)), (o12, .inl (cI, 4, .inl fo12)), (x6, .inr (1, [.int mib, .int cub, .ref b2, .ref b3, .ref b4, .ref b5, .ref b6, .ref hp])), (b2, .inl (cI, 8, .inl fb2)), (b3, .inl (cI, 8, .inl fb3)), (b4, .inl (cI, 8, .inl fb4)), (b5, .inl (cI, 4, .inl fb5)), (b6, .inl (cI, 4, .inl fb6))] H := ⟨hP, hD⟩
        have hP := hPD.1
        have hD := hPD.2
        clear hPD
        try dsimp only at hw18
        rcases hw18 with rfl | rfl
        ·
          refine lv_if_ne (tgt := 52) hx hb dX10_fastest_47 (by decide) (fun c31 => ?_) (fun c31 => ?_)
          rotate_left
          · exact absurd c31 (by decide)
          clear c31
          refine lv_iload_n hx hb dX10_fastest_52 rfl (lv_at hl 3 rfl) ?_
          refine lv_iconst (v := (-1)) hx hb dX10_fastest_53 (by decide) ?_
          refine lv_icmp_ne (tgt := 67) hx hb dX10_fastest_54 (by decide) (fun c32 => ?_) (fun c32 => ?_)
          ·
            refine lv_aload_n hx hb dX10_fastest_67 rfl (lv_at hl 0 rfl) ?_
            refine va_get (D := (dC, dI)) (ci := 10) (v := .ref x11) (C := RX10) (T := TX10) (N := 14) hx hb hts hi_X10 hown hK hP 0 rfl rfl 11 (by decide) (hts (.fieldLink RX10 81 "LeftQuills" "race" "LLeftQuills$Race;") (wmx 3 rfl)) (fun _ h9 => h9) e_h0_11 dX10_fastest_68 ?_
            refine va_get (D := (dC, dI)) (ci := 6) (v := .ref r1) (C := RX6) (T := TX6) (N := 7) hx hb hts hi_X6 hown hK hP 1 rfl rfl 1 (by decide) (hts (.fieldLink RX10 254 "LeftQuills$Race" "bestChoice" "[I") (wmx 6 rfl)) (fun _ h9 => h9) rfl dX10_fastest_71 ?_
            refine lv_iload_n hx hb dX10_fastest_74 rfl (lv_at hl 3 rfl) ?_
            obtain ⟨j33, hj33, rfl⟩ := x_ge0 (by omega) hw14 c32
            refine va_iald hx hb hK hP 9 0 rfl rfl (vp_in_nI (n := j33) (N := 4) (by omega) (by decide)) dX10_fastest_75 ?_
            refine W.eq (g2 := F0 m 76 ls [.int (f24 j33)]) (congrArg (fun y9 => F0 m 76 ls (.int (f24 y9) :: [])) ((nI_clamp (n := j33) (by omega)))) ?_
            have hP9 := hP.sub (ws' := [(h0, .inr (10, f_h0)), (x4, .inr (5, f_x4)), (x11, .inr (6, [.int i26, .ref r1, .ref r2, .ref x4, .ref td, .int (nI k27), .int (nI k28)])), (td, .inr (1, [.int i29, .int i30, .ref a2, .ref a3, .ref a4, .ref a5, .ref a6, .ref x4])), (a2, .inl (cI, 8, .inl f19)), (a3, .inl (cI, 8, .inl f20)), (a4, .inl (cI, 8, .inl f21)), (a5, .inl (cI, 4, .inl f22)), (a6, .inl (cI, 4, .inl f23)), (r1, .inl (cI, 4, .inl f24)), (r2, .inl (cI, 4, .inl f25)), (o5, .inl (cI, 8, .inl fo5)), (o6, .inl (cI, 8, .inl fo6)), (o7, .inl (cI, 8, .inl fo7)), (o10, .inl (cI, 4, .inl fo10)), (o11, .inl (cI, 4, .inl fo11)), (o12, .inl (cI, 4, .inl fo12)), (x6, .inr (1, [.int mib, .int cub, .ref b2, .ref b3, .ref b4, .ref b5, .ref b6, .ref hp])), (b2, .inl (cI, 8, .inl fb2)), (b3, .inl (cI, 8, .inl fb3)), (b4, .inl (cI, 8, .inl fb4)), (b5, .inl (cI, 4, .inl fb5)), (b6, .inl (cI, 4, .inl fb6))]) [0, 2, 1, 3, 4, 5, 6, 7, 8, 9, 10, 11, 12, 13, 14, 15, 16, 17, 18, 19, 20, 21, 22] rfl
            have hD9 := hD.sub (ws' := [(h0, .inr (10, f_h0)), (x4, .inr (5, f_x4)), (x11, .inr (6, [.int i26, .ref r1, .ref r2, .ref x4, .ref td, .int (nI k27), .int (nI k28)])), (td, .inr (1, [.int i29, .int i30, .ref a2, .ref a3, .ref a4, .ref a5, .ref a6, .ref x4])), (a2, .inl (cI, 8, .inl f19)), (a3, .inl (cI, 8, .inl f20)), (a4, .inl (cI, 8, .inl f21)), (a5, .inl (cI, 4, .inl f22)), (a6, .inl (cI, 4, .inl f23)), (r1, .inl (cI, 4, .inl f24)), (r2, .inl (cI, 4, .inl f25)), (o5, .inl (cI, 8, .inl fo5)), (o6, .inl (cI, 8, .inl fo6)), (o7, .inl (cI, 8, .inl fo7)), (o10, .inl (cI, 4, .inl fo10)), (o11, .inl (cI, 4, .inl fo11)), (o12, .inl (cI, 4, .inl fo12)), (x6, .inr (1, [.int mib, .int cub, .ref b2, .ref b3, .ref b4, .ref b5, .ref b6, .ref hp])), (b2, .inl (cI, 8, .inl fb2)), (b3, .inl (cI, 8, .inl fb3)), (b4, .inl (cI, 8, .inl fb4)), (b5, .inl (cI, 4, .inl fb5)), (b6, .inl (cI, 4, .inl fb6))]) [0, 2, 1, 3, 4, 5, 6, 7, 8, 9, 10, 11, 12, 13, 14, 15, 16, 17, 18, 19, 20, 21, 22] (by decide +kernel) rfl
            exact W.iret (v := f24 j33) hx hb hr (fun t ht hW => ⟨⟨f24 j33, (fun _ => 0), rfl, trivial, ⟨f19, f20, f21, f22, f23, f24, f25, i26, i29, i30, k27, k28, by omega, by omega, va_hq ht hP9, hD9⟩⟩, hS.F ht⟩) hS.2.2 dX10_fastest_76
          ·
            refine lv_aload_n hx hb dX10_fastest_57 rfl (lv_at hl 0 rfl) ?_
            refine va_get (D := (dC, dI)) (ci := 10) (v := .ref x11) (C := RX10) (T := TX10) (N := 14) hx hb hts hi_X10 hown hK hP 0 rfl rfl 11 (by decide) (hts (.fieldLink RX10 81 "LeftQuills" "race" "LLeftQuills$Race;") (wmx 3 rfl)) (fun _ h9 => h9) e_h0_11 dX10_fastest_58 ?_
            refine va_get (D := (dC, dI)) (ci := 6) (v := .int i26) (C := RX6) (T := TX6) (N := 7) hx hb hts hi_X6 hown hK hP 1 rfl rfl 0 (by decide) (hts (.fieldLink RX10 253 "LeftQuills$Race" "best" "I") (wmx 5 rfl)) (fun _ h9 => h9) rfl dX10_fastest_61 ?_
            refine lv_goto (tgt := 76) hx hb dX10_fastest_64 (by decide) ?_
            have hP9 := hP.sub (ws' := [(h0, .inr (10, f_h0)), (x4, .inr (5, f_x4)), (x11, .inr (6, [.int i26, .ref r1, .ref r2, .ref x4, .ref td, .int (nI k27), .int (nI k28)])), (td, .inr (1, [.int i29, .int i30, .ref a2, .ref a3, .ref a4, .ref a5, .ref a6, .ref x4])), (a2, .inl (cI, 8, .inl f19)), (a3, .inl (cI, 8, .inl f20)), (a4, .inl (cI, 8, .inl f21)), (a5, .inl (cI, 4, .inl f22)), (a6, .inl (cI, 4, .inl f23)), (r1, .inl (cI, 4, .inl f24)), (r2, .inl (cI, 4, .inl f25)), (o5, .inl (cI, 8, .inl fo5)), (o6, .inl (cI, 8, .inl fo6)), (o7, .inl (cI, 8, .inl fo7)), (o10, .inl (cI, 4, .inl fo10)), (o11, .inl (cI, 4, .inl fo11)), (o12, .inl (cI, 4, .inl fo12)), (x6, .inr (1, [.int mib, .int cub, .ref b2, .ref b3, .ref b4, .ref b5, .ref b6, .ref hp])), (b2, .inl (cI, 8, .inl fb2)), (b3, .inl (cI, 8, .inl fb3)), (b4, .inl (cI, 8, .inl fb4)), (b5, .inl (cI, 4, .inl fb5)), (b6, .inl (cI, 4, .inl fb6))]) [0, 2, 1, 3, 4, 5, 6, 7, 8, 9, 10, 11, 12, 13, 14, 15, 16, 17, 18, 19, 20, 21, 22] rfl
            have hD9 := hD.sub (ws' := [(h0, .inr (10, f_h0)), (x4, .inr (5, f_x4)), (x11, .inr (6, [.int i26, .ref r1, .ref r2, .ref x4, .ref td, .int (nI k27), .int (nI k28)])), (td, .inr (1, [.int i29, .int i30, .ref a2, .ref a3, .ref a4, .ref a5, .ref a6, .ref x4])), (a2, .inl (cI, 8, .inl f19)), (a3, .inl (cI, 8, .inl f20)), (a4, .inl (cI, 8, .inl f21)), (a5, .inl (cI, 4, .inl f22)), (a6, .inl (cI, 4, .inl f23)), (r1, .inl (cI, 4, .inl f24)), (r2, .inl (cI, 4, .inl f25)), (o5, .inl (cI, 8, .inl fo5)), (o6, .inl (cI, 8, .inl fo6)), (o7, .inl (cI, 8, .inl fo7)), (o10, .inl (cI, 4, .inl fo10)), (o11, .inl (cI, 4, .inl fo11)), (o12, .inl (cI, 4, .inl fo12)), (x6, .inr (1, [.int mib, .int cub, .ref b2, .ref b3, .ref b4, .ref b5, .ref b6, .ref hp])), (b2, .inl (cI, 8, .inl fb2)), (b3, .inl (cI, 8, .inl fb3)), (b4, .inl (cI, 8, .inl fb4)), (b5, .inl (cI, 4, .inl fb5)), (b6, .inl (cI, 4, .inl fb6))]) [0, 2, 1, 3, 4, 5, 6, 7, 8, 9, 10, 11, 12, 13, 14, 15, 16, 17, 18, 19, 20, 21, 22] (by decide +kernel) rfl
            exact W.iret (v := i26) hx hb hr (fun t ht hW => ⟨⟨i26, (fun _ => 0), rfl, trivial, ⟨f19, f20, f21, f22, f23, f24, f25, i26, i29, i30, k27, k28, by omega, by omega, va_hq ht hP9, hD9⟩⟩, hS.F ht⟩) hS.2.2 dX10_fastest_76
        ·
          refine lv_if_ne (tgt := 52) hx hb dX10_fastest_47 (by decide) (fun c34 => ?_) (fun c34 => ?_)
          · exact absurd c34 (by decide)
          clear c34
          refine lv_iconst (v := (-1)) hx hb dX10_fastest_50 (by decide) ?_
          have hP9 := hP.sub (ws' := [(h0, .inr (10, f_h0)), (x4, .inr (5, f_x4)), (x11, .inr (6, [.int i26, .ref r1, .ref r2, .ref x4, .ref td, .int (nI k27), .int (nI k28)])), (td, .inr (1, [.int i29, .int i30, .ref a2, .ref a3, .ref a4, .ref a5, .ref a6, .ref x4])), (a2, .inl (cI, 8, .inl f19)), (a3, .inl (cI, 8, .inl f20)), (a4, .inl (cI, 8, .inl f21)), (a5, .inl (cI, 4, .inl f22)), (a6, .inl (cI, 4, .inl f23)), (r1, .inl (cI, 4, .inl f24)), (r2, .inl (cI, 4, .inl f25)), (o5, .inl (cI, 8, .inl fo5)), (o6, .inl (cI, 8, .inl fo6)), (o7, .inl (cI, 8, .inl fo7)), (o10, .inl (cI, 4, .inl fo10)), (o11, .inl (cI, 4, .inl fo11)), (o12, .inl (cI, 4, .inl fo12)), (x6, .inr (1, [.int mib, .int cub, .ref b2, .ref b3, .ref b4, .ref b5, .ref b6, .ref hp])), (b2, .inl (cI, 8, .inl fb2)), (b3, .inl (cI, 8, .inl fb3)), (b4, .inl (cI, 8, .inl fb4)), (b5, .inl (cI, 4, .inl fb5)), (b6, .inl (cI, 4, .inl fb6))]) [0, 2, 1, 3, 4, 5, 6, 7, 8, 9, 10, 11, 12, 13, 14, 15, 16, 17, 18, 19, 20, 21, 22] rfl
          have hD9 := hD.sub (ws' := [(h0, .inr (10, f_h0)), (x4, .inr (5, f_x4)), (x11, .inr (6, [.int i26, .ref r1, .ref r2, .ref x4, .ref td, .int (nI k27), .int (nI k28)])), (td, .inr (1, [.int i29, .int i30, .ref a2, .ref a3, .ref a4, .ref a5, .ref a6, .ref x4])), (a2, .inl (cI, 8, .inl f19)), (a3, .inl (cI, 8, .inl f20)), (a4, .inl (cI, 8, .inl f21)), (a5, .inl (cI, 4, .inl f22)), (a6, .inl (cI, 4, .inl f23)), (r1, .inl (cI, 4, .inl f24)), (r2, .inl (cI, 4, .inl f25)), (o5, .inl (cI, 8, .inl fo5)), (o6, .inl (cI, 8, .inl fo6)), (o7, .inl (cI, 8, .inl fo7)), (o10, .inl (cI, 4, .inl fo10)), (o11, .inl (cI, 4, .inl fo11)), (o12, .inl (cI, 4, .inl fo12)), (x6, .inr (1, [.int mib, .int cub, .ref b2, .ref b3, .ref b4, .ref b5, .ref b6, .ref hp])), (b2, .inl (cI, 8, .inl fb2)), (b3, .inl (cI, 8, .inl fb3)), (b4, .inl (cI, 8, .inl fb4)), (b5, .inl (cI, 4, .inl fb5)), (b6, .inl (cI, 4, .inl fb6))]) [0, 2, 1, 3, 4, 5, 6, 7, 8, 9, 10, 11, 12, 13, 14, 15, 16, 17, 18, 19, 20, 21, 22] (by decide +kernel) rfl
          exact W.iret (v := (-1)) hx hb hr (fun t ht hW => ⟨⟨(-1), (fun _ => 0), rfl, trivial, ⟨f19, f20, f21, f22, f23, f24, f25, i26, i29, i30, k27, k28, by omega, by omega, va_hq ht hP9, hD9⟩⟩, hS.F ht⟩) hS.2.2 dX10_fastest_51
      ·
        refine lv_if_ne (tgt := 34) hx hb dX10_fastest_28 (by decide) (fun c35 => ?_) (fun c35 => ?_)
        · exact absurd c35 (by decide)
        clear c35
        refine lv_ldc (v := (-1000000002)) hx hb hown (hts (.constant RX10 103 (-1000000002)) (wmx 2 rfl)) dX10_fastest_31 ?_
        have hP9 := hP.sub (ws' := [(h0, .inr (10, f_h0)), (x4, .inr (5, f_x4)), (x11, .inr (6, [.int be, .ref r1, .ref r2, .ref x4, .ref td, .int (nI hh), .int (nI pg)])), (td, .inr (1, [.int mia, .int cua, .ref a2, .ref a3, .ref a4, .ref a5, .ref a6, .ref x4])), (a2, .inl (cI, 8, .inl fa2)), (a3, .inl (cI, 8, .inl fa3)), (a4, .inl (cI, 8, .inl fa4)), (a5, .inl (cI, 4, .inl fa5)), (a6, .inl (cI, 4, .inl fa6)), (r1, .inl (cI, 4, .inl fr1)), (r2, .inl (cI, 4, .inl fr2)), (o5, .inl (cI, 8, .inl fo5)), (o6, .inl (cI, 8, .inl fo6)), (o7, .inl (cI, 8, .inl fo7)), (o10, .inl (cI, 4, .inl fo10)), (o11, .inl (cI, 4, .inl fo11)), (o12, .inl (cI, 4, .inl fo12)), (x6, .inr (1, [.int mib, .int cub, .ref b2, .ref b3, .ref b4, .ref b5, .ref b6, .ref hp])), (b2, .inl (cI, 8, .inl fb2)), (b3, .inl (cI, 8, .inl fb3)), (b4, .inl (cI, 8, .inl fb4)), (b5, .inl (cI, 4, .inl fb5)), (b6, .inl (cI, 4, .inl fb6))]) [0, 1, 2, 3, 4, 5, 6, 7, 8, 9, 10, 11, 12, 13, 14, 15, 16, 17, 18, 19, 20, 21, 22] rfl
        have hD9 := hD.sub (ws' := [(h0, .inr (10, f_h0)), (x4, .inr (5, f_x4)), (x11, .inr (6, [.int be, .ref r1, .ref r2, .ref x4, .ref td, .int (nI hh), .int (nI pg)])), (td, .inr (1, [.int mia, .int cua, .ref a2, .ref a3, .ref a4, .ref a5, .ref a6, .ref x4])), (a2, .inl (cI, 8, .inl fa2)), (a3, .inl (cI, 8, .inl fa3)), (a4, .inl (cI, 8, .inl fa4)), (a5, .inl (cI, 4, .inl fa5)), (a6, .inl (cI, 4, .inl fa6)), (r1, .inl (cI, 4, .inl fr1)), (r2, .inl (cI, 4, .inl fr2)), (o5, .inl (cI, 8, .inl fo5)), (o6, .inl (cI, 8, .inl fo6)), (o7, .inl (cI, 8, .inl fo7)), (o10, .inl (cI, 4, .inl fo10)), (o11, .inl (cI, 4, .inl fo11)), (o12, .inl (cI, 4, .inl fo12)), (x6, .inr (1, [.int mib, .int cub, .ref b2, .ref b3, .ref b4, .ref b5, .ref b6, .ref hp])), (b2, .inl (cI, 8, .inl fb2)), (b3, .inl (cI, 8, .inl fb3)), (b4, .inl (cI, 8, .inl fb4)), (b5, .inl (cI, 4, .inl fb5)), (b6, .inl (cI, 4, .inl fb6))]) [0, 1, 2, 3, 4, 5, 6, 7, 8, 9, 10, 11, 12, 13, 14, 15, 16, 17, 18, 19, 20, 21, 22] (by decide +kernel) rfl
        exact W.iret (v := (-1000000002)) hx hb hr (fun t ht hW => ⟨⟨(-1000000002), (fun _ => 0), rfl, trivial, ⟨fa2, fa3, fa4, fa5, fa6, fr1, fr2, be, mia, cua, hh, pg, by omega, by omega, va_hq ht hP9, hD9⟩⟩, hS.F ht⟩) hS.2.2 dX10_fastest_33
    ·
      refine lv_if_eq (tgt := 31) hx hb dX10_fastest_17 (by decide) (fun c36 => ?_) (fun c36 => ?_)
      rotate_left
      · exact absurd c36 (by decide)
      clear c36
      refine lv_ldc (v := (-1000000002)) hx hb hown (hts (.constant RX10 103 (-1000000002)) (wmx 2 rfl)) dX10_fastest_31 ?_
      have hP9 := hP.sub (ws' := [(h0, .inr (10, f_h0)), (x4, .inr (5, f_x4)), (x11, .inr (6, [.int be, .ref r1, .ref r2, .ref x4, .ref td, .int (nI hh), .int (nI pg)])), (td, .inr (1, [.int mia, .int cua, .ref a2, .ref a3, .ref a4, .ref a5, .ref a6, .ref x4])), (a2, .inl (cI, 8, .inl fa2)), (a3, .inl (cI, 8, .inl fa3)), (a4, .inl (cI, 8, .inl fa4)), (a5, .inl (cI, 4, .inl fa5)), (a6, .inl (cI, 4, .inl fa6)), (r1, .inl (cI, 4, .inl fr1)), (r2, .inl (cI, 4, .inl fr2)), (o5, .inl (cI, 8, .inl fo5)), (o6, .inl (cI, 8, .inl fo6)), (o7, .inl (cI, 8, .inl fo7)), (o10, .inl (cI, 4, .inl fo10)), (o11, .inl (cI, 4, .inl fo11)), (o12, .inl (cI, 4, .inl fo12)), (x6, .inr (1, [.int mib, .int cub, .ref b2, .ref b3, .ref b4, .ref b5, .ref b6, .ref hp])), (b2, .inl (cI, 8, .inl fb2)), (b3, .inl (cI, 8, .inl fb3)), (b4, .inl (cI, 8, .inl fb4)), (b5, .inl (cI, 4, .inl fb5)), (b6, .inl (cI, 4, .inl fb6))]) [0, 1, 2, 3, 4, 5, 6, 7, 8, 9, 10, 11, 12, 13, 14, 15, 16, 17, 18, 19, 20, 21, 22] rfl
      have hD9 := hD.sub (ws' := [(h0, .inr (10, f_h0)), (x4, .inr (5, f_x4)), (x11, .inr (6, [.int be, .ref r1, .ref r2, .ref x4, .ref td, .int (nI hh), .int (nI pg)])), (td, .inr (1, [.int mia, .int cua, .ref a2, .ref a3, .ref a4, .ref a5, .ref a6, .ref x4])), (a2, .inl (cI, 8, .inl fa2)), (a3, .inl (cI, 8, .inl fa3)), (a4, .inl (cI, 8, .inl fa4)), (a5, .inl (cI, 4, .inl fa5)), (a6, .inl (cI, 4, .inl fa6)), (r1, .inl (cI, 4, .inl fr1)), (r2, .inl (cI, 4, .inl fr2)), (o5, .inl (cI, 8, .inl fo5)), (o6, .inl (cI, 8, .inl fo6)), (o7, .inl (cI, 8, .inl fo7)), (o10, .inl (cI, 4, .inl fo10)), (o11, .inl (cI, 4, .inl fo11)), (o12, .inl (cI, 4, .inl fo12)), (x6, .inr (1, [.int mib, .int cub, .ref b2, .ref b3, .ref b4, .ref b5, .ref b6, .ref hp])), (b2, .inl (cI, 8, .inl fb2)), (b3, .inl (cI, 8, .inl fb3)), (b4, .inl (cI, 8, .inl fb4)), (b5, .inl (cI, 4, .inl fb5)), (b6, .inl (cI, 4, .inl fb6))]) [0, 1, 2, 3, 4, 5, 6, 7, 8, 9, 10, 11, 12, 13, 14, 15, 16, 17, 18, 19, 20, 21, 22] (by decide +kernel) rfl
      exact W.iret (v := (-1000000002)) hx hb hr (fun t ht hW => ⟨⟨(-1000000002), (fun _ => 0), rfl, trivial, ⟨fa2, fa3, fa4, fa5, fa6, fr1, fr2, be, mia, cua, hh, pg, by omega, by omega, va_hq ht hP9, hD9⟩⟩, hS.F ht⟩) hS.2.2 dX10_fastest_33
  ·
    refine lv_if_ne (tgt := 11) hx hb dX10_fastest_5 (by decide) (fun c37 => ?_) (fun c37 => ?_)
    · exact absurd c37 (by decide)
    clear c37
    refine lv_ldc (v := (-1000000001)) hx hb hown (hts (.constant RX10 160 (-1000000001)) (wmx 1 rfl)) dX10_fastest_8 ?_
    have hP9 := hP.sub (ws' := [(h0, .inr (10, f_h0)), (x4, .inr (5, f_x4)), (x11, .inr (6, [.int be, .ref r1, .ref r2, .ref x4, .ref td, .int (nI hh), .int (nI pg)])), (td, .inr (1, [.int mia, .int cua, .ref a2, .ref a3, .ref a4, .ref a5, .ref a6, .ref x4])), (a2, .inl (cI, 8, .inl fa2)), (a3, .inl (cI, 8, .inl fa3)), (a4, .inl (cI, 8, .inl fa4)), (a5, .inl (cI, 4, .inl fa5)), (a6, .inl (cI, 4, .inl fa6)), (r1, .inl (cI, 4, .inl fr1)), (r2, .inl (cI, 4, .inl fr2)), (o5, .inl (cI, 8, .inl fo5)), (o6, .inl (cI, 8, .inl fo6)), (o7, .inl (cI, 8, .inl fo7)), (o10, .inl (cI, 4, .inl fo10)), (o11, .inl (cI, 4, .inl fo11)), (o12, .inl (cI, 4, .inl fo12)), (x6, .inr (1, [.int mib, .int cub, .ref b2, .ref b3, .ref b4, .ref b5, .ref b6, .ref hp])), (b2, .inl (cI, 8, .inl fb2)), (b3, .inl (cI, 8, .inl fb3)), (b4, .inl (cI, 8, .inl fb4)), (b5, .inl (cI, 4, .inl fb5)), (b6, .inl (cI, 4, .inl fb6))]) [0, 1, 2, 3, 4, 5, 6, 7, 8, 9, 10, 11, 12, 13, 14, 15, 16, 17, 18, 19, 20, 21, 22] rfl
    have hD9 := hD.sub (ws' := [(h0, .inr (10, f_h0)), (x4, .inr (5, f_x4)), (x11, .inr (6, [.int be, .ref r1, .ref r2, .ref x4, .ref td, .int (nI hh), .int (nI pg)])), (td, .inr (1, [.int mia, .int cua, .ref a2, .ref a3, .ref a4, .ref a5, .ref a6, .ref x4])), (a2, .inl (cI, 8, .inl fa2)), (a3, .inl (cI, 8, .inl fa3)), (a4, .inl (cI, 8, .inl fa4)), (a5, .inl (cI, 4, .inl fa5)), (a6, .inl (cI, 4, .inl fa6)), (r1, .inl (cI, 4, .inl fr1)), (r2, .inl (cI, 4, .inl fr2)), (o5, .inl (cI, 8, .inl fo5)), (o6, .inl (cI, 8, .inl fo6)), (o7, .inl (cI, 8, .inl fo7)), (o10, .inl (cI, 4, .inl fo10)), (o11, .inl (cI, 4, .inl fo11)), (o12, .inl (cI, 4, .inl fo12)), (x6, .inr (1, [.int mib, .int cub, .ref b2, .ref b3, .ref b4, .ref b5, .ref b6, .ref hp])), (b2, .inl (cI, 8, .inl fb2)), (b3, .inl (cI, 8, .inl fb3)), (b4, .inl (cI, 8, .inl fb4)), (b5, .inl (cI, 4, .inl fb5)), (b6, .inl (cI, 4, .inl fb6))]) [0, 1, 2, 3, 4, 5, 6, 7, 8, 9, 10, 11, 12, 13, 14, 15, 16, 17, 18, 19, 20, 21, 22] (by decide +kernel) rfl
    exact W.iret (v := (-1000000001)) hx hb hr (fun t ht hW => ⟨⟨(-1000000001), (fun _ => 0), rfl, trivial, ⟨fa2, fa3, fa4, fa5, fa6, fr1, fr2, be, mia, cua, hh, pg, by omega, by omega, va_hq ht hP9, hD9⟩⟩, hS.F ht⟩) hS.2.2 dX10_fastest_10
