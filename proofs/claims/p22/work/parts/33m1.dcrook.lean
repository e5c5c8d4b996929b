set_option maxHeartbeats 4000000 in
set_option maxRecDepth 100000 in
theorem c_X10_crookedD (l : Launch) (dC : Nat → ClassId) (dI : Nat → Nat → Nat) (cI cZ cQ : ClassId) (h0 : Nat) (x6 : Nat) (f_h0 : List Value) (cu : Int32) (f_x6 : List Value) (q0 : Int32) (q1 : Int32) (sz : Nat) (e_h0_6 : fAt f_h0 6 = some (.ref x6)) (e_x6_1 : fAt f_x6 1 = some (.int cu)) : Met l yX10_crooked wsX10_crooked ({ frames := 1, cells := 0, slots := 0, locals := 62 }) (va_Pc [.ref h0, .int q0, .int q1] (fun U => U.heap.size = sz ∧ va_P (dC, dI) vwCl [(h0, .inr (10, f_h0)), (x6, .inr (1, f_x6))] U.heap ∧ va_K (dC, dI) vwCl (tys0 cI cZ cQ) U)) (va_Qi (fun (r : Int32) (u : Nat → Nat) => r = ckR q0 q1 cu) (fun (_ : Nat → Nat) (_ : State) => True) (fun _ : Nat => False)) 0 0 (fun _ : Nat => False) := by
  refine Met.ofW (cc := cX10_crooked) (maxL := 7) (ret := (some .int)) (by decide) rfl ?_
  intro p e s m args below meth c s₁ B hml hv
  obtain ⟨rfl, hsz, hP, hK⟩ := hv
  have hx := B.exec
  have hb := B.bytes
  have hr := B.returns
  have hts := atoms_spec (ws := wsX10_crooked) B.pre
  have hown : s.vm.findClass RX10 = some m.cls := findClass_of_methodNamed B.named
  have hlocks := B.notSynchronized
  have hi_X1 : ∀ w ∈ u_ws RX1 TX1 8, w ∈ wsX10_crooked := fun _ h => List.mem_cons_of_mem _ (List.mem_append_right _ (h))
  have hi_X10 : ∀ w ∈ u_ws RX10 TX10 14, w ∈ wsX10_crooked := fun _ h => List.mem_cons_of_mem _ (List.mem_append_left _ (List.mem_append_right _ (h)))
  subst hsz
  have hS : va_S (fun _ : Nat => False) s.heap s.heap [] := va_S.rf
  have hl := lv_entry ([.ref h0, .int q0, .int q1]) (n := 7) (Nat.le_of_ble_eq_true rfl)
  rw [lg_entry_eq]
  generalize (lg_sl ([.ref h0, .int q0, .int q1]) ++ List.replicate (7 - (lg_sl ([.ref h0, .int q0, .int q1])).length) Slot.unset).toArray = ls at hl ⊢
  have hl : lv_has ls 7 [(0, .ref h0), (1, .int q0), (2, .int q1)] := hl
  refine lv_iload_n hx hb dX10_crooked_0 rfl (lv_at hl 1 rfl) ?_
  refine lv_iconst (v := 0) hx hb dX10_crooked_1 (by decide) ?_
  refine lv_bipush (v := 60) hx hb dX10_crooked_2 (by decide) ?_
  have hPc := hP.sub (ws' := []) [] rfl
  refine va_calli (va_runS (As := [.int q0, .int 0, .int 60]) (rest := []) ⟨hx, hb, hml, hown, hts⟩ (c_X10_within l dC dI cI cZ cQ q0 0 60 s.heap.size ) (va_cwS 3 hts gX10_crooked_X10_within rfl rfl rfl (by decide +kernel) ⟨Nat.le_of_ble_eq_true rfl, Nat.le_of_ble_eq_true rfl⟩) (ps_R hK hPc) rfl rfl hl.1 rfl (lv_room (Nat.le_of_ble_eq_true rfl)) dX10_crooked_4 ⟨Nat.le_of_ble_eq_true rfl, Nat.le_of_ble_eq_true rfl⟩) hS (fun q _ h => False.elim h) (fun q h => False.elim h) (fun r1 u2 t H1 locs ht hvm hw3 hB hz1 hk1 hS => ?_)
  have hP := hP.kept (fun k q hk => hk1 q.1 (hP k q hk).lt (fun h => h))
  clear hz1 hk1 hPc
  generalize H1 = H at hP hS ht ⊢
  try dsimp only at hw3
  rcases hw3 with ⟨rfl, hw3⟩ | ⟨rfl, hw3⟩
  ·
    obtain ⟨j4, haj4, hbj4, rfl⟩ := x_rng (a := 0) (b := 60) (by decide) (by decide) hw3
    refine lv_if_eq (tgt := 20) hx hb dX10_crooked_7 (by decide) (fun c5 => ?_) (fun c5 => ?_)
    · exact absurd c5 (by decide)
    clear c5
    refine lv_iload_n hx hb dX10_crooked_10 rfl (lv_at hl 2 rfl) ?_
    refine lv_iconst (v := 0) hx hb dX10_crooked_11 (by decide) ?_
    refine lv_bipush (v := 100) hx hb dX10_crooked_12 (by decide) ?_
    have hPc := hP.sub (ws' := []) [] rfl
    refine va_calli (va_runS (As := [.int q1, .int 0, .int 100]) (rest := []) ⟨hx, hb, hml, hown, hts⟩ (c_X10_within l dC dI cI cZ cQ q1 0 100 H.size ) (va_cwS 3 hts gX10_crooked_X10_within rfl rfl rfl (by decide +kernel) ⟨Nat.le_of_ble_eq_true rfl, Nat.le_of_ble_eq_true rfl⟩) (ps_R hK hPc) rfl rfl hl.1 rfl (lv_room (Nat.le_of_ble_eq_true rfl)) dX10_crooked_14 ⟨Nat.le_of_ble_eq_true rfl, Nat.le_of_ble_eq_true rfl⟩) hS (fun q _ h => False.elim h) (fun q h => False.elim h) (fun r6 u7 t H1 locs ht hvm hw8 hB hz1 hk1 hS => ?_)
    have hP := hP.kept (fun k q hk => hk1 q.1 (hP k q hk).lt (fun h => h))
    clear hz1 hk1 hPc
    generalize H1 = H at hP hS ht ⊢
    try dsimp only at hw8
    rcases hw8 with ⟨rfl, hw8⟩ | ⟨rfl, hw8⟩
    ·
      refine lv_if_ne (tgt := 23) hx hb dX10_crooked_17 (by decide) (fun c9 => ?_) (fun c9 => ?_)
      rotate_left
      · exact absurd c9 (by decide)
      clear c9
      refine lv_bipush (v := 100) hx hb dX10_crooked_23 (by decide) ?_
      refine lv_bipush (v := 100) hx hb dX10_crooked_25 (by decide) ?_
      refine lv_iload_n hx hb dX10_crooked_27 rfl (lv_at hl 2 rfl) ?_
      refine lv_iconst (v := 3) hx hb dX10_crooked_28 (by decide) ?_
      refine lv_aload_n hx hb dX10_crooked_29 rfl (lv_at hl 0 rfl) ?_
      refine va_get (D := (dC, dI)) (ci := 10) (v := .ref x6) (C := RX10) (T := TX10) (N := 14) hx hb hts hi_X10 hown hK hP 0 rfl rfl 6 (by decide) (hts (.fieldLink RX10 42 "LeftQuills" "desk" "LLeftQuills$Desk;") (wmx 2 rfl)) (fun _ h9 => h9) e_h0_6 dX10_crooked_30 ?_
      refine va_get (D := (dC, dI)) (ci := 1) (v := .int cu) (C := RX1) (T := TX1) (N := 8) hx hb hts hi_X1 hown hK hP 1 rfl rfl 1 (by decide) (hts (.fieldLink RX10 142 "LeftQuills$Desk" "cuts" "I") (wmx 3 rfl)) (fun _ h9 => h9) e_x6_1 dX10_crooked_33 ?_
      refine lv_imul hx hb dX10_crooked_36 ?_
      refine lv_iadd hx hb dX10_crooked_37 ?_
      refine va_mmin hx hb (hml.trans hl.1.symm) hown (hts (.methodLink RX10 265 Lib.Math.min.name) (wmx 4 rfl)) (hts (.static Lib.Math.min.name) (wmx 5 rfl)) (hts (.initialized "java/lang/Math") (wmx 6 rfl)) (hts (.code Lib.Math.min.name Lib.Math.min.code 2 (some .int)) (wmx 7 rfl)) (Nat.le_of_ble_eq_true rfl) (Nat.le_of_ble_eq_true rfl) (Nat.le_of_ble_eq_true rfl) (Nat.le_of_ble_eq_true rfl) dX10_crooked_38 ?_
      refine lv_isub hx hb dX10_crooked_41 ?_
      refine lv_istore_n (lv' := [(3, .int (100 - (if q1 + (3 * cu) < 100 then q1 + (3 * cu) else 100))), (0, .ref h0), (1, .int (nI j4)), (2, .int q1)]) hx hb dX10_crooked_42 rfl hl (by decide) rfl (fun ls hl => ?_)
      refine lv_ldc2 (v := 1000000000) hx hb hown (hts (.constantLong RX10 270 1000000000) (wmx 8 rfl)) dX10_crooked_43 ?_
      refine lv_lstore (lv' := [(4, .long 1000000000), (3, .int (100 - (if q1 + (3 * cu) < 100 then q1 + (3 * cu) else 100))), (0, .ref h0), (1, .int (nI j4)), (2, .int q1)]) hx hb dX10_crooked_46 hl (by decide) rfl (fun ls hl => ?_)
      refine lv_iconst (v := 0) hx hb dX10_crooked_48 (by decide) ?_
      refine lv_istore (lv' := [(6, .int 0), (4, .long 1000000000), (3, .int (100 - (if q1 + (3 * cu) < 100 then q1 + (3 * cu) else 100))), (0, .ref h0), (1, .int (nI j4)), (2, .int q1)]) hx hb dX10_crooked_49 hl (by decide) rfl (fun ls hl => ?_)
      refine (fun (K : ∀ (d51 : Nat) (k51 : Nat) (a51_4 : Int64) (H : Heap) (locs : List Loc) (ls : Array Slot), k51 + d51 = j4 → a51_4 = ckF (100 - m1F (q1 + 3 * cu)) k51 → va_P (dC, dI) vwCl [(h0, .inr (10, f_h0)), (x6, .inr (1, f_x6))] H → va_S (fun _ : Nat => False) s.heap H locs → lv_has ls 7 [(6, .int (nI k51)), (4, .long a51_4), (3, .int (100 - (if q1 + (3 * cu) < 100 then q1 + (3 * cu) else 100))), (0, .ref h0), (1, .int (nI j4)), (2, .int q1)] → W p l e _ s m _ below meth c H locs _ _ _ (F0 m 51 ls [])) => K j4 0 1000000000 _ _ _ (by omega) rfl hP hS (lv_sub hl [0, 1, 2, 3, 4, 5] rfl)) ?_
      intro d51
      induction d51 with
      | zero =>
        intro k51 a51_4 H locs ls hk51 hv51_0 hP hS hl
        refine lv_iload hx hb dX10_crooked_51 (lv_at hl 0 rfl) ?_
        refine lv_iload_n hx hb dX10_crooked_53 rfl (lv_at hl 4 rfl) ?_
        refine lv_icmp_ge (tgt := 74) hx hb dX10_crooked_54 (by decide) (fun c10 => ?_) (fun c10 => ?_)
        ·
          have c10 : j4 ≤ k51 := (nI_leI (a := j4) (b := k51) (by omega) (by omega)).mp c10
          refine lv_lload hx hb dX10_crooked_74 (lv_at hl 1 rfl) ?_
          refine lv_l2i hx hb dX10_crooked_76 rfl ?_
          exact W.iret (v := a51_4.toInt32) hx hb hr (fun t ht hW => ⟨⟨a51_4.toInt32, (fun _ => 0), rfl, (ck_y hw3 hw8 (by omega) rfl (show k51 = j4 from by omega) hv51_0), trivial⟩, hS.F ht⟩) hS.2.2 dX10_crooked_77
        ·
          have c10 : ¬ j4 ≤ k51 := fun h => c10 ((nI_leI (a := j4) (b := k51) (by omega) (by omega)).mpr h)
          omega
      | succ d51 ih51 =>
        intro k51 a51_4 H locs ls hk51 hv51_0 hP hS hl
        refine lv_iload hx hb dX10_crooked_51 (lv_at hl 0 rfl) ?_
        refine lv_iload_n hx hb dX10_crooked_53 rfl (lv_at hl 4 rfl) ?_
        refine lv_icmp_ge (tgt := 74) hx hb dX10_crooked_54 (by decide) (fun c11 => ?_) (fun c11 => ?_)
        ·
          have c11 : j4 ≤ k51 := (nI_leI (a := j4) (b := k51) (by omega) (by omega)).mp c11
          omega
        ·
          have c11 : ¬ j4 ≤ k51 := fun h => c11 ((nI_leI (a := j4) (b := k51) (by omega) (by omega)).mpr h)
          refine lv_lload hx hb dX10_crooked_57 (lv_at hl 1 rfl) ?_
          refine lv_iload_n hx hb dX10_crooked_59 rfl (lv_at hl 2 rfl) ?_
          refine lv_i2l hx hb dX10_crooked_60 rfl ?_
          refine lv_lmul hx hb dX10_crooked_61 ?_
          refine lv_ldc2 (v := 100) hx hb hown (hts (.constantLong RX10 272 100) (wmx 9 rfl)) dX10_crooked_62 ?_
          refine lv_ldiv hx hb dX10_crooked_65 (by decide) ?_
          refine lv_lstore (lv' := [(4, .long ((a51_4 * ((100 - (if q1 + (3 * cu) < 100 then q1 + (3 * cu) else 100)).toInt64)) / 100)), (6, .int (nI k51)), (3, .int (100 - (if q1 + (3 * cu) < 100 then q1 + (3 * cu) else 100))), (0, .ref h0), (1, .int (nI j4)), (2, .int q1)]) hx hb dX10_crooked_66 hl (by decide) rfl (fun ls hl => ?_)
          refine lv_iinc (v := nI (k51 + 1)) (lv' := [(6, .int (nI (k51 + 1))), (4, .long ((a51_4 * ((100 - (if q1 + (3 * cu) < 100 then q1 + (3 * cu) else 100)).toInt64)) / 100)), (3, .int (100 - (if q1 + (3 * cu) < 100 then q1 + (3 * cu) else 100))), (0, .ref h0), (1, .int (nI j4)), (2, .int q1)]) hx hb dX10_crooked_68 hl (k := 1) rfl ((rfl : nI k51 + Int32.ofInt 1 = nI k51 + 1).trans (nI_add k51 1)) (by decide) rfl (fun ls hl => ?_)
          refine lv_goto (tgt := 51) hx hb dX10_crooked_71 (by decide) ?_
          exact ih51 (k51 + 1) ((a51_4 * ((100 - (if q1 + (3 * cu) < 100 then q1 + (3 * cu) else 100)).toInt64)) / 100) _ _ _ (by omega) (by rw [hv51_0]; rfl) hP hS (lv_sub hl [0, 1, 2, 3, 4, 5] rfl)
    ·
      refine lv_if_ne (tgt := 23) hx hb dX10_crooked_17 (by decide) (fun c12 => ?_) (fun c12 => ?_)
      · exact absurd c12 (by decide)
      clear c12
      refine lv_ldc (v := (-1000000002)) hx hb hown (hts (.constant RX10 103 (-1000000002)) (wmx 1 rfl)) dX10_crooked_20 ?_
      exact W.iret (v := (-1000000002)) hx hb hr (fun t ht hW => ⟨⟨(-1000000002), (fun _ => 0), rfl, (ck_q hw3 hw8), trivial⟩, hS.F ht⟩) hS.2.2 dX10_crooked_22
  ·
    refine lv_if_eq (tgt := 20) hx hb dX10_crooked_7 (by decide) (fun c13 => ?_) (fun c13 => ?_)
    rotate_left
    · exact absurd c13 (by decide)
    clear c13
    refine lv_ldc (v := (-1000000002)) hx hb hown (hts (.constant RX10 103 (-1000000002)) (wmx 1 rfl)) dX10_crooked_20 ?_
    exact W.iret (v := (-1000000002)) hx hb hr (fun t ht hW => ⟨⟨(-1000000002), (fun _ => 0), rfl, (ck_n hw3), trivial⟩, hS.F ht⟩) hS.2.2 dX10_crooked_22
set_option maxHeartbeats 4000000 in
set_option maxRecDepth 100000 in
theorem c_X11_crookedD (l : Launch) (dC : Nat → ClassId) (dI : Nat → Nat → Nat) (cI cZ cQ : ClassId) (h0 : Nat) (m10 : Nat) (f_h0 : List Value) (fm10 : Nat → Int32) (q0 : Int32) (q1 : Int32) (sz : Nat) (e_h0_10 : fAt f_h0 10 = some (.ref m10)) : Met l yX11_crooked wsX11_crooked ({ frames := 1, cells := 0, slots := 0, locals := 65 }) (va_Pc [.ref h0, .int q0, .int q1] (fun U => U.heap.size = sz ∧ va_P (dC, dI) vwCl [(h0, .inr (11, f_h0)), (m10, .inl (cI, 34, .inl fm10))] U.heap ∧ va_K (dC, dI) vwCl (tys0 cI cZ cQ) U)) (va_Qi (fun (r : Int32) (u : Nat → Nat) => r = ckR q0 q1 (fm10 33)) (fun (_ : Nat → Nat) (_ : State) => True) (fun _ : Nat => False)) 0 0 (fun _ : Nat => False) := by
  refine Met.ofW (cc := cX11_crooked) (maxL := 7) (ret := (some .int)) (by decide) rfl ?_
  intro p e s m args below meth c s₁ B hml hv
  obtain ⟨rfl, hsz, hP, hK⟩ := hv
  have hx := B.exec
  have hb := B.bytes
  have hr := B.returns
  have hts := atoms_spec (ws := wsX11_crooked) B.pre
  have hown : s.vm.findClass RX11 = some m.cls := findClass_of_methodNamed B.named
  have hlocks := B.notSynchronized
  have hi_X11 : ∀ w ∈ u_ws RX11 TX11 46, w ∈ wsX11_crooked := fun _ h => List.mem_cons_of_mem _ (List.mem_append_right _ (h))
  subst hsz
  have hS : va_S (fun _ : Nat => False) s.heap s.heap [] := va_S.rf
  have hl := lv_entry ([.ref h0, .int q0, .int q1]) (n := 7) (Nat.le_of_ble_eq_true rfl)
  rw [lg_entry_eq]
  generalize (lg_sl ([.ref h0, .int q0, .int q1]) ++ List.replicate (7 - (lg_sl ([.ref h0, .int q0, .int q1])).length) Slot.unset).toArray = ls at hl ⊢
  have hl : lv_has ls 7 [(0, .ref h0), (1, .int q0), (2, .int q1)] := hl
  refine lv_iload_n hx hb dX11_crooked_0 rfl (lv_at hl 1 rfl) ?_
  refine lv_i2l hx hb dX11_crooked_1 rfl ?_
  refine lv_lconst (v := 0) hx hb dX11_crooked_2 (by decide) ?_
  refine lv_topl (fun z1 ez1 => ?_)
  obtain rfl : z1 = (0 : Int32).toInt64 := ez1.trans (by decide)
  refine lv_ldc2 (v := 60) hx hb hown (hts (.constantLong RX11 254 60) (wmx 1 rfl)) dX11_crooked_3 ?_
  refine lv_topl (fun z2 ez2 => ?_)
  obtain rfl : z2 = (60 : Int32).toInt64 := ez2.trans (by decide)
  have hPc := hP.sub (ws' := []) [] rfl
  refine va_calli (va_runS (As := [.long q0.toInt64, .long ((0 : Int32).toInt64), .long ((60 : Int32).toInt64)]) (rest := []) ⟨hx, hb, hml, hown, hts⟩ (c_X11_in l dC dI cI cZ cQ q0 0 60 s.heap.size ) (va_cwS 3 hts gX11_crooked_X11_in rfl rfl rfl (by decide +kernel) ⟨Nat.le_of_ble_eq_true rfl, Nat.le_of_ble_eq_true rfl⟩) (ps_R hK hPc) rfl rfl hl.1 rfl (lv_room (Nat.le_of_ble_eq_true rfl)) dX11_crooked_6 ⟨Nat.le_of_ble_eq_true rfl, Nat.le_of_ble_eq_true rfl⟩) hS (fun q _ h => False.elim h) (fun q h => False.elim h) (fun r3 u4 t H1 locs ht hvm hw5 hB hz1 hk1 hS => ?_)
  have hP := hP.kept (fun k q hk => hk1 q.1 (hP k q hk).lt (fun h => h))
  clear hz1 hk1 hPc
  generalize H1 = H at hP hS ht ⊢
  try dsimp only at hw5
  rcases hw5 with ⟨rfl, hw5⟩ | ⟨rfl, hw5⟩
  ·
    obtain ⟨j6, haj6, hbj6, rfl⟩ := x_rng (a := 0) (b := 60) (by decide) (by decide) hw5
    refine lv_if_eq (tgt := 24) hx hb dX11_crooked_9 (by decide) (fun c7 => ?_) (fun c7 => ?_)
    · exact absurd c7 (by decide)
    clear c7
    refine lv_iload_n hx hb dX11_crooked_12 rfl (lv_at hl 2 rfl) ?_
    refine lv_i2l hx hb dX11_crooked_13 rfl ?_
    refine lv_lconst (v := 0) hx hb dX11_crooked_14 (by decide) ?_
    refine lv_topl (fun z8 ez8 => ?_)
    obtain rfl : z8 = (0 : Int32).toInt64 := ez8.trans (by decide)
    refine lv_ldc2 (v := 100) hx hb hown (hts (.constantLong RX11 309 100) (wmx 2 rfl)) dX11_crooked_15 ?_
    refine lv_topl (fun z9 ez9 => ?_)
    obtain rfl : z9 = (100 : Int32).toInt64 := ez9.trans (by decide)
    have hPc := hP.sub (ws' := []) [] rfl
    refine va_calli (va_runS (As := [.long q1.toInt64, .long ((0 : Int32).toInt64), .long ((100 : Int32).toInt64)]) (rest := []) ⟨hx, hb, hml, hown, hts⟩ (c_X11_in l dC dI cI cZ cQ q1 0 100 H.size ) (va_cwS 3 hts gX11_crooked_X11_in rfl rfl rfl (by decide +kernel) ⟨Nat.le_of_ble_eq_true rfl, Nat.le_of_ble_eq_true rfl⟩) (ps_R hK hPc) rfl rfl hl.1 rfl (lv_room (Nat.le_of_ble_eq_true rfl)) dX11_crooked_18 ⟨Nat.le_of_ble_eq_true rfl, Nat.le_of_ble_eq_true rfl⟩) hS (fun q _ h => False.elim h) (fun q h => False.elim h) (fun r10 u11 t H1 locs ht hvm hw12 hB hz1 hk1 hS => ?_)
    have hP := hP.kept (fun k q hk => hk1 q.1 (hP k q hk).lt (fun h => h))
    clear hz1 hk1 hPc
    generalize H1 = H at hP hS ht ⊢
    try dsimp only at hw12
    rcases hw12 with ⟨rfl, hw12⟩ | ⟨rfl, hw12⟩
    ·
      refine lv_if_ne (tgt := 27) hx hb dX11_crooked_21 (by decide) (fun c13 => ?_) (fun c13 => ?_)
      rotate_left
      · exact absurd c13 (by decide)
      clear c13
      refine lv_iload_n hx hb dX11_crooked_27 rfl (lv_at hl 2 rfl) ?_
      refine lv_iconst (v := 3) hx hb dX11_crooked_28 (by decide) ?_
      refine lv_aload_n hx hb dX11_crooked_29 rfl (lv_at hl 0 rfl) ?_
      refine va_get (D := (dC, dI)) (ci := 11) (v := .ref m10) (C := RX11) (T := TX11) (N := 46) hx hb hts hi_X11 hown hK hP 0 rfl rfl 10 (by decide) (hts (.fieldLink RX11 28 "LeftQuillsModel" "now" "[I") (wmx 4 rfl)) (fun _ h9 => h9) e_h0_10 dX11_crooked_30 ?_
      refine lv_bipush (v := 33) hx hb dX11_crooked_33 (by decide) ?_
      refine va_iald hx hb hK hP 1 0 rfl rfl (vp_in_iff.mpr ⟨by decide, by decide⟩) dX11_crooked_35 ?_
      refine W.eq (g2 := F0 m 36 ls [.int (fm10 33), .int 3, .int q1]) (congrArg (fun y9 => F0 m 36 ls (.int (fm10 y9) :: [.int 3, .int q1])) ((show ((33 : Int32)).toNatClampNeg = 33 from by decide))) ?_
      refine lv_imul hx hb dX11_crooked_36 ?_
      refine lv_iadd hx hb dX11_crooked_37 ?_
      refine lv_bipush (v := 100) hx hb dX11_crooked_38 (by decide) ?_
      refine lv_icmp_ge (tgt := 57) hx hb dX11_crooked_40 (by decide) (fun c14 => ?_) (fun c14 => ?_)
      ·
        refine lv_bipush (v := 100) hx hb dX11_crooked_57 (by decide) ?_
        refine lv_istore_n (lv' := [(3, .int 100), (0, .ref h0), (1, .int (nI j6)), (2, .int q1)]) hx hb dX11_crooked_59 rfl hl (by decide) rfl (fun ls hl => ?_)
        refine lv_ldc2 (v := 1000000000) hx hb hown (hts (.constantLong RX11 311 1000000000) (wmx 5 rfl)) dX11_crooked_60 ?_
        refine lv_lstore (lv' := [(4, .long 1000000000), (3, .int 100), (0, .ref h0), (1, .int (nI j6)), (2, .int q1)]) hx hb dX11_crooked_63 hl (by decide) rfl (fun ls hl => ?_)
        refine lv_iconst (v := 0) hx hb dX11_crooked_65 (by decide) ?_
        refine lv_istore (lv' := [(6, .int 0), (4, .long 1000000000), (3, .int 100), (0, .ref h0), (1, .int (nI j6)), (2, .int q1)]) hx hb dX11_crooked_66 hl (by decide) rfl (fun ls hl => ?_)
        refine (fun (K : ∀ (d68 : Nat) (k68 : Nat) (a68_4 : Int64) (H : Heap) (locs : List Loc) (ls : Array Slot), k68 + d68 = j6 → a68_4 = ckF (100 - 100) k68 → va_P (dC, dI) vwCl [(h0, .inr (11, f_h0)), (m10, .inl (cI, 34, .inl fm10))] H → va_S (fun _ : Nat => False) s.heap H locs → lv_has ls 7 [(6, .int (nI k68)), (4, .long a68_4), (3, .int 100), (0, .ref h0), (1, .int (nI j6)), (2, .int q1)] → W p l e _ s m _ below meth c H locs _ _ _ (F0 m 68 ls [])) => K j6 0 1000000000 _ _ _ (by omega) rfl hP hS (lv_sub hl [0, 1, 2, 3, 4, 5] rfl)) ?_
        intro d68
        induction d68 with
        | zero =>
          intro k68 a68_4 H locs ls hk68 hv68_0 hP hS hl
          refine lv_iload hx hb dX11_crooked_68 (lv_at hl 0 rfl) ?_
          refine lv_iload_n hx hb dX11_crooked_70 rfl (lv_at hl 4 rfl) ?_
          refine lv_icmp_ge (tgt := 94) hx hb dX11_crooked_71 (by decide) (fun c15 => ?_) (fun c15 => ?_)
          ·
            have c15 : j6 ≤ k68 := (nI_leI (a := j6) (b := k68) (by omega) (by omega)).mp c15
            refine lv_lload hx hb dX11_crooked_94 (lv_at hl 1 rfl) ?_
            refine lv_l2i hx hb dX11_crooked_96 rfl ?_
            exact W.iret (v := a68_4.toInt32) hx hb hr (fun t ht hW => ⟨⟨a68_4.toInt32, (fun _ => 0), rfl, (ck_y hw5 hw12 (by omega) (by first | exact (if_pos c14).symm | exact (if_neg c14).symm | exact (if_neg (fa_len c14)).symm | exact (if_pos (fa_nle c14)).symm) (show k68 = j6 from by omega) hv68_0), trivial⟩, hS.F ht⟩) hS.2.2 dX11_crooked_97
          ·
            have c15 : ¬ j6 ≤ k68 := fun h => c15 ((nI_leI (a := j6) (b := k68) (by omega) (by omega)).mpr h)
            omega
        | succ d68 ih68 =>
          intro k68 a68_4 H locs ls hk68 hv68_0 hP hS hl
          refine lv_iload hx hb dX11_crooked_68 (lv_at hl 0 rfl) ?_
          refine lv_iload_n hx hb dX11_crooked_70 rfl (lv_at hl 4 rfl) ?_
          refine lv_icmp_ge (tgt := 94) hx hb dX11_crooked_71 (by decide) (fun c16 => ?_) (fun c16 => ?_)
          ·
            have c16 : j6 ≤ k68 := (nI_leI (a := j6) (b := k68) (by omega) (by omega)).mp c16
            omega
          ·
            have c16 : ¬ j6 ≤ k68 := fun h => c16 ((nI_leI (a := j6) (b := k68) (by omega) (by omega)).mpr h)
            refine lv_lload hx hb dX11_crooked_74 (lv_at hl 1 rfl) ?_
            refine lv_bipush (v := 100) hx hb dX11_crooked_76 (by decide) ?_
            refine lv_iload_n hx hb dX11_crooked_78 rfl (lv_at hl 2 rfl) ?_
            refine lv_isub hx hb dX11_crooked_79 ?_
            refine lv_topi (fun z17 ez17 => ?_)
            obtain rfl : z17 = 0 := ez17.trans (by decide)
            refine lv_i2l hx hb dX11_crooked_80 rfl ?_
            refine lv_lmul hx hb dX11_crooked_81 ?_
            refine lv_ldc2 (v := 100) hx hb hown (hts (.constantLong RX11 309 100) (wmx 2 rfl)) dX11_crooked_82 ?_
            refine lv_ldiv hx hb dX11_crooked_85 (by decide) ?_
            refine lv_lstore (lv' := [(4, .long ((a68_4 * ((0 : Int32).toInt64)) / 100)), (6, .int (nI k68)), (3, .int 100), (0, .ref h0), (1, .int (nI j6)), (2, .int q1)]) hx hb dX11_crooked_86 hl (by decide) rfl (fun ls hl => ?_)
            refine lv_iinc (v := nI (k68 + 1)) (lv' := [(6, .int (nI (k68 + 1))), (4, .long ((a68_4 * ((0 : Int32).toInt64)) / 100)), (3, .int 100), (0, .ref h0), (1, .int (nI j6)), (2, .int q1)]) hx hb dX11_crooked_88 hl (k := 1) rfl ((rfl : nI k68 + Int32.ofInt 1 = nI k68 + 1).trans (nI_add k68 1)) (by decide) rfl (fun ls hl => ?_)
            refine lv_goto (tgt := 68) hx hb dX11_crooked_91 (by decide) ?_
            exact ih68 (k68 + 1) ((a68_4 * ((0 : Int32).toInt64)) / 100) _ _ _ (by omega) (by rw [hv68_0]; rfl) hP hS (lv_sub hl [0, 1, 2, 3, 4, 5] rfl)
      ·
        refine lv_iload_n hx hb dX11_crooked_43 rfl (lv_at hl 2 rfl) ?_
        refine lv_iconst (v := 3) hx hb dX11_crooked_44 (by decide) ?_
        refine lv_aload_n hx hb dX11_crooked_45 rfl (lv_at hl 0 rfl) ?_
        refine va_get (D := (dC, dI)) (ci := 11) (v := .ref m10) (C := RX11) (T := TX11) (N := 46) hx hb hts hi_X11 hown hK hP 0 rfl rfl 10 (by decide) (hts (.fieldLink RX11 28 "LeftQuillsModel" "now" "[I") (wmx 4 rfl)) (fun _ h9 => h9) e_h0_10 dX11_crooked_46 ?_
        refine lv_bipush (v := 33) hx hb dX11_crooked_49 (by decide) ?_
        refine va_iald hx hb hK hP 1 0 rfl rfl (vp_in_iff.mpr ⟨by decide, by decide⟩) dX11_crooked_51 ?_
        refine W.eq (g2 := F0 m 52 ls [.int (fm10 33), .int 3, .int q1]) (congrArg (fun y9 => F0 m 52 ls (.int (fm10 y9) :: [.int 3, .int q1])) ((show ((33 : Int32)).toNatClampNeg = 33 from by decide))) ?_
        refine lv_imul hx hb dX11_crooked_52 ?_
        refine lv_iadd hx hb dX11_crooked_53 ?_
        refine lv_goto (tgt := 59) hx hb dX11_crooked_54 (by decide) ?_
        refine lv_istore_n (lv' := [(3, .int (q1 + (3 * (fm10 33)))), (0, .ref h0), (1, .int (nI j6)), (2, .int q1)]) hx hb dX11_crooked_59 rfl hl (by decide) rfl (fun ls hl => ?_)
        refine lv_ldc2 (v := 1000000000) hx hb hown (hts (.constantLong RX11 311 1000000000) (wmx 5 rfl)) dX11_crooked_60 ?_
        refine lv_lstore (lv' := [(4, .long 1000000000), (3, .int (q1 + (3 * (fm10 33)))), (0, .ref h0), (1, .int (nI j6)), (2, .int q1)]) hx hb dX11_crooked_63 hl (by decide) rfl (fun ls hl => ?_)
        refine lv_iconst (v := 0) hx hb dX11_crooked_65 (by decide) ?_
        refine lv_istore (lv' := [(6, .int 0), (4, .long 1000000000), (3, .int (q1 + (3 * (fm10 33)))), (0, .ref h0), (1, .int (nI j6)), (2, .int q1)]) hx hb dX11_crooked_66 hl (by decide) rfl (fun ls hl => ?_)
        refine (fun (K : ∀ (d68 : Nat) (k68 : Nat) (a68_4 : Int64) (H : Heap) (locs : List Loc) (ls : Array Slot), k68 + d68 = j6 → a68_4 = ckF (100 - (q1 + (3 * (fm10 33)))) k68 → va_P (dC, dI) vwCl [(h0, .inr (11, f_h0)), (m10, .inl (cI, 34, .inl fm10))] H → va_S (fun _ : Nat => False) s.heap H locs → lv_has ls 7 [(6, .int (nI k68)), (4, .long a68_4), (3, .int (q1 + (3 * (fm10 33)))), (0, .ref h0), (1, .int (nI j6)), (2, .int q1)] → W p l e _ s m _ below meth c H locs _ _ _ (F0 m 68 ls [])) => K j6 0 1000000000 _ _ _ (by omega) rfl hP hS (lv_sub hl [0, 1, 2, 3, 4, 5] rfl)) ?_
        intro d68
        induction d68 with
        | zero =>
          intro k68 a68_4 H locs ls hk68 hv68_0 hP hS hl
          refine lv_iload hx hb dX11_crooked_68 (lv_at hl 0 rfl) ?_
          refine lv_iload_n hx hb dX11_crooked_70 rfl (lv_at hl 4 rfl) ?_
          refine lv_icmp_ge (tgt := 94) hx hb dX11_crooked_71 (by decide) (fun c18 => ?_) (fun c18 => ?_)
          ·
            have c18 : j6 ≤ k68 := (nI_leI (a := j6) (b := k68) (by omega) (by omega)).mp c18
            refine lv_lload hx hb dX11_crooked_94 (lv_at hl 1 rfl) ?_
            refine lv_l2i hx hb dX11_crooked_96 rfl ?_
            exact W.iret (v := a68_4.toInt32) hx hb hr (fun t ht hW => ⟨⟨a68_4.toInt32, (fun _ => 0), rfl, (ck_y hw5 hw12 (by omega) (by first | exact (if_pos c14).symm | exact (if_neg c14).symm | exact (if_neg (fa_len c14)).symm | exact (if_pos (fa_nle c14)).symm) (show k68 = j6 from by omega) hv68_0), trivial⟩, hS.F ht⟩) hS.2.2 dX11_crooked_97
          ·
            have c18 : ¬ j6 ≤ k68 := fun h => c18 ((nI_leI (a := j6) (b := k68) (by omega) (by omega)).mpr h)
            omega
        | succ d68 ih68 =>
          intro k68 a68_4 H locs ls hk68 hv68_0 hP hS hl
          refine lv_iload hx hb dX11_crooked_68 (lv_at hl 0 rfl) ?_
          refine lv_iload_n hx hb dX11_crooked_70 rfl (lv_at hl 4 rfl) ?_
          refine lv_icmp_ge (tgt := 94) hx hb dX11_crooked_71 (by decide) (fun c19 => ?_) (fun c19 => ?_)
          ·
            have c19 : j6 ≤ k68 := (nI_leI (a := j6) (b := k68) (by omega) (by omega)).mp c19
            omega
          ·
            have c19 : ¬ j6 ≤ k68 := fun h => c19 ((nI_leI (a := j6) (b := k68) (by omega) (by omega)).mpr h)
            refine lv_lload hx hb dX11_crooked_74 (lv_at hl 1 rfl) ?_
            refine lv_bipush (v := 100) hx hb dX11_crooked_76 (by decide) ?_
            refine lv_iload_n hx hb dX11_crooked_78 rfl (lv_at hl 2 rfl) ?_
            refine lv_isub hx hb dX11_crooked_79 ?_
            refine lv_i2l hx hb dX11_crooked_80 rfl ?_
            refine lv_lmul hx hb dX11_crooked_81 ?_
            refine lv_ldc2 (v := 100) hx hb hown (hts (.constantLong RX11 309 100) (wmx 2 rfl)) dX11_crooked_82 ?_
            refine lv_ldiv hx hb dX11_crooked_85 (by decide) ?_
            refine lv_lstore (lv' := [(4, .long ((a68_4 * ((100 - (q1 + (3 * (fm10 33)))).toInt64)) / 100)), (6, .int (nI k68)), (3, .int (q1 + (3 * (fm10 33)))), (0, .ref h0), (1, .int (nI j6)), (2, .int q1)]) hx hb dX11_crooked_86 hl (by decide) rfl (fun ls hl => ?_)
            refine lv_iinc (v := nI (k68 + 1)) (lv' := [(6, .int (nI (k68 + 1))), (4, .long ((a68_4 * ((100 - (q1 + (3 * (fm10 33)))).toInt64)) / 100)), (3, .int (q1 + (3 * (fm10 33)))), (0, .ref h0), (1, .int (nI j6)), (2, .int q1)]) hx hb dX11_crooked_88 hl (k := 1) rfl ((rfl : nI k68 + Int32.ofInt 1 = nI k68 + 1).trans (nI_add k68 1)) (by decide) rfl (fun ls hl => ?_)
            refine lv_goto (tgt := 68) hx hb dX11_crooked_91 (by decide) ?_
            exact ih68 (k68 + 1) ((a68_4 * ((100 - (q1 + (3 * (fm10 33)))).toInt64)) / 100) _ _ _ (by omega) (by rw [hv68_0]; rfl) hP hS (lv_sub hl [0, 1, 2, 3, 4, 5] rfl)
    ·
      refine lv_if_ne (tgt := 27) hx hb dX11_crooked_21 (by decide) (fun c20 => ?_) (fun c20 => ?_)
      · exact absurd c20 (by decide)
      clear c20
      refine lv_ldc (v := (-1000000002)) hx hb hown (hts (.constant RX11 111 (-1000000002)) (wmx 3 rfl)) dX11_crooked_24 ?_
      exact W.iret (v := (-1000000002)) hx hb hr (fun t ht hW => ⟨⟨(-1000000002), (fun _ => 0), rfl, (ck_q hw5 hw12), trivial⟩, hS.F ht⟩) hS.2.2 dX11_crooked_26
  ·
    refine lv_if_eq (tgt := 24) hx hb dX11_crooked_9 (by decide) (fun c21 => ?_) (fun c21 => ?_)
    rotate_left
    · exact absurd c21 (by decide)
    clear c21
    refine lv_ldc (v := (-1000000002)) hx hb hown (hts (.constant RX11 111 (-1000000002)) (wmx 3 rfl)) dX11_crooked_24 ?_
    exact W.iret (v := (-1000000002)) hx hb hr (fun t ht hW => ⟨⟨(-1000000002), (fun _ => 0), rfl, (ck_n hw5), trivial⟩, hS.F ht⟩) hS.2.2 dX11_crooked_26
