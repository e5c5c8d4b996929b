set_option maxHeartbeats 4000000 in
set_option maxRecDepth 100000 in
theorem c_X10_crooked (l : Launch) (dC : Nat → ClassId) (dI : Nat → Nat → Nat) (cI cZ cQ : ClassId) (h0 : Nat) (x6 : Nat) (f_h0 : List Value) (cu : Int32) (f_x6 : List Value) (q0 : Int32) (q1 : Int32) (sz : Nat) (e_h0_6 : f_h0[6]? = some (.ref x6)) (e_x6_1 : f_x6[1]? = some (.int cu)) : Met l yX10_crooked wsX10_crooked ({ frames := 1, cells := 0, slots := 0, locals := 62 }) (va_Pc [.ref h0, .int q0, .int q1] (fun U => U.heap.size = sz ∧ va_P (dC, dI) vwCl [(h0, .inr (10, f_h0)), (x6, .inr (1, f_x6))] U.heap ∧ va_K (dC, dI) vwCl (tys0 cI cZ cQ) U)) (va_Qi (fun (r : Int32) (u : Nat → Nat) => True) (fun (_ : Nat → Nat) (_ : State) => True) (fun _ : Nat => False)) 0 0 (fun _ : Nat => False) := by
  refine Met.ofW (cc := cX10_crooked) (maxL := 7) (ret := (some .int)) (by decide) rfl ?_
  intro p e s m args below meth c s₁ B hml hv
  obtain ⟨rfl, hsz, hP, hK⟩ := hv
  have hx := B.exec
  have hb := B.bytes
  have hr := B.returns
  have hts := atoms_spec (ws := wsX10_crooked) B.pre
  have hown : s.vm.findClass RX10 = some m.cls := findClass_of_methodNamed B.named
  have hlocks := B.notSynchronized
  have hi_X1 : ∀ w ∈ u_ws RX1 TX1 8, w ∈ wsX10_crooked := fun _ h => List.mem_cons_of_mem _ (List.mem_append_right _ (h))
  have hi_X10 : ∀ w ∈ u_ws RX10 TX10 14, w ∈ wsX10_crooked := fun _ h => List.mem_cons_of_mem _ (List.mem_append_left _ (List.mem_append_right _ (h)))
  subst hsz
  have hS : va_S (fun _ : Nat => False) s.heap s.heap [] := va_S.rf
  have hl := lv_entry ([.ref h0, .int q0, .int q1]) (n := 7) (Nat.le_of_ble_eq_true rfl)
  rw [lg_entry_eq]
  generalize (lg_sl ([.ref h0, .int q0, .int q1]) ++ List.replicate (7 - (lg_sl ([.ref h0, .int q0, .int q1])).length) Slot.unset).toArray = ls at hl ⊢
  have hl : lv_has ls 7 [(0, .ref h0), (1, .int q0), (2, .int q1)] := hl
  refine lv_iload_n hx hb dX10_crooked_0 rfl (lv_at hl 1 rfl) ?_
  refine lv_iconst (v := 0) hx hb dX10_crooked_1 (by decide) ?_
  refine lv_bipush (v := 60) hx hb dX10_crooked_2 (by decide) ?_
  have hPc := hP.sub (ws' := []) [] rfl
  refine va_calli (va_runS (As := [.int q0, .int 0, .int 60]) (rest := []) ⟨hx, hb, hml, hown, hts⟩ (c_X10_within l dC dI cI cZ cQ q0 0 60 s.heap.size ) (va_cwS 3 hts gX10_crooked_X10_within rfl rfl rfl (by decide +kernel) ⟨Nat.le_of_ble_eq_true rfl, Nat.le_of_ble_eq_true rfl⟩) ⟨fun a U g mk q => by obtain ⟨q0, q1, qP, qK⟩ := q; exact ⟨q0, q1, qP, va_K.moved (u := U) (U := U.calling g mk a) (Vm.Alike.refl U.vm) qK⟩, fun U hU hW => ⟨rfl, by rw [hU], by rw [hU]; exact hPc, va_K.moved hW.alike hK⟩⟩ rfl rfl hl.1 rfl (lv_room (Nat.le_of_ble_eq_true rfl)) dX10_crooked_4 ⟨Nat.le_of_ble_eq_true rfl, Nat.le_of_ble_eq_true rfl⟩) hS (fun q _ h => False.elim h) (fun q h => False.elim h) (fun r1 u2 t H1 locs ht hvm hw3 hB hz1 hk1 hS => ?_)
  have hP := hP.kept (fun k q hk => hk1 q.1 (hP k q hk).lt (fun h => h))
  clear hz1 hk1 hPc
  generalize H1 = H at hP hS ht ⊢
  try dsimp only at hw3
  rcases hw3 with ⟨rfl, hw3⟩ | ⟨rfl, hw3⟩
  ·
    obtain ⟨j4, haj4, hbj4, rfl⟩ := x_rng (a := 0) (b := 60) (by decide) (by decide) hw3
    refine lv_if_eq (tgt := 20) hx hb dX10_crooked_7 (by decide) (fun c5 => ?_) (fun c5 => ?_)
    · exact absurd c5 (by decide)
    clear c5
    refine lv_iload_n hx hb dX10_crooked_10 rfl (lv_at hl 2 rfl) ?_
    refine lv_iconst (v := 0) hx hb dX10_crooked_11 (by decide) ?_
    refine lv_bipush (v := 100) hx hb dX10_crooked_12 (by decide) ?_
    have hPc := hP.sub (ws' := []) [] rfl
    refine va_calli (va_runS (As := [.int q1, .int 0, .int 100]) (rest := []) ⟨hx, hb, hml, hown, hts⟩ (c_X10_within l dC dI cI cZ cQ q1 0 100 H.size ) (va_cwS 3 hts gX10_crooked_X10_within rfl rfl rfl (by decide +kernel) ⟨Nat.le_of_ble_eq_true rfl, Nat.le_of_ble_eq_true rfl⟩) ⟨fun a U g mk q => by obtain ⟨q0, q1, qP, qK⟩ := q; exact ⟨q0, q1, qP, va_K.moved (u := U) (U := U.calling g mk a) (Vm.Alike.refl U.vm) qK⟩, fun U hU hW => ⟨rfl, by rw [hU], by rw [hU]; exact hPc, va_K.moved hW.alike hK⟩⟩ rfl rfl hl.1 rfl (lv_room (Nat.le_of_ble_eq_true rfl)) dX10_crooked_14 ⟨Nat.le_of_ble_eq_true rfl, Nat.le_of_ble_eq_true rfl⟩) hS (fun q _ h => False.elim h) (fun q h => False.elim h) (fun r6 u7 t H1 locs ht hvm hw8 hB hz1 hk1 hS => ?_)
    have hP := hP.kept (fun k q hk => hk1 q.1 (hP k q hk).lt (fun h => h))
    clear hz1 hk1 hPc
    generalize H1 = H at hP hS ht ⊢
    try dsimp only at hw8
    rcases hw8 with ⟨rfl, hw8⟩ | ⟨rfl, hw8⟩
    ·
      obtain ⟨j9, haj9, hbj9, rfl⟩ := x_rng (a := 0) (b := 100) (by decide) (by decide) hw8
      refine lv_if_ne (tgt := 23) hx hb dX10_crooked_17 (by decide) (fun c10 => ?_) (fun c10 => ?_)
      rotate_left
      · exact absurd c10 (by decide)
      clear c10
      refine lv_bipush (v := 100) hx hb dX10_crooked_23 (by decide) ?_
      refine lv_bipush (v := 100) hx hb dX10_crooked_25 (by decide) ?_
      refine lv_iload_n hx hb dX10_crooked_27 rfl (lv_at hl 2 rfl) ?_
      refine lv_iconst (v := 3) hx hb dX10_crooked_28 (by decide) ?_
      refine lv_aload_n hx hb dX10_crooked_29 rfl (lv_at hl 0 rfl) ?_
      refine va_get (D := (dC, dI)) (ci := 10) (v := .ref x6) (C := RX10) (T := TX10) (N := 14) hx hb hts hi_X10 hown hK hP 0 rfl rfl 6 (by decide) (hts (.fieldLink RX10 42 "LeftQuills" "desk" "LLeftQuills$Desk;") (wmx 2 rfl)) (fun _ h9 => h9) e_h0_6 dX10_crooked_30 ?_
      refine va_get (D := (dC, dI)) (ci := 1) (v := .int cu) (C := RX1) (T := TX1) (N := 8) hx hb hts hi_X1 hown hK hP 1 rfl rfl 1 (by decide) (hts (.fieldLink RX10 142 "LeftQuills$Desk" "cuts" "I") (wmx 3 rfl)) (fun _ h9 => h9) e_x6_1 dX10_crooked_33 ?_
      refine lv_imul hx hb dX10_crooked_36 ?_
      refine lv_topi (fun z11 ez11 => ?_)
      refine lv_iadd hx hb dX10_crooked_37 ?_
      refine lv_topi (fun z12 ez12 => ?_)
      refine va_mmin hx hb (hml.trans hl.1.symm) hown (hts (.methodLink RX10 265 Lib.Math.min.name) (wmx 4 rfl)) (hts (.static Lib.Math.min.name) (wmx 5 rfl)) (hts (.initialized "java/lang/Math") (wmx 6 rfl)) (hts (.code Lib.Math.min.name Lib.Math.min.code 2 (some .int)) (wmx 7 rfl)) (Nat.le_of_ble_eq_true rfl) (Nat.le_of_ble_eq_true rfl) (Nat.le_of_ble_eq_true rfl) (Nat.le_of_ble_eq_true rfl) dX10_crooked_38 ?_
      refine lv_topi (fun z13 ez13 => ?_)
      refine lv_isub hx hb dX10_crooked_41 ?_
      refine lv_topi (fun z14 ez14 => ?_)
      refine lv_istore_n (lv' := [(3, .int z14), (0, .ref h0), (1, .int (nI j4)), (2, .int (nI j9))]) hx hb dX10_crooked_42 rfl hl (by decide) rfl (fun ls hl => ?_)
      refine lv_ldc2 (v := 1000000000) hx hb hown (hts (.constantLong RX10 270 1000000000) (wmx 8 rfl)) dX10_crooked_43 ?_
      refine lv_lstore (lv' := [(4, .long 1000000000), (3, .int z14), (0, .ref h0), (1, .int (nI j4)), (2, .int (nI j9))]) hx hb dX10_crooked_46 hl (by decide) rfl (fun ls hl => ?_)
      refine lv_iconst (v := 0) hx hb dX10_crooked_48 (by decide) ?_
      refine lv_istore (lv' := [(6, .int 0), (4, .long 1000000000), (3, .int z14), (0, .ref h0), (1, .int (nI j4)), (2, .int (nI j9))]) hx hb dX10_crooked_49 hl (by decide) rfl (fun ls hl => ?_)
      refine (fun (K : ∀ (d51 : Nat) (k51 : Nat) (a51_4 : Int64) (H : Heap) (locs : List Loc) (ls : Array Slot), k51 + d51 = j4 → va_P (dC, dI) vwCl [(h0, .inr (10, f_h0)), (x6, .inr (1, f_x6))] H → va_S (fun _ : Nat => False) s.heap H locs → lv_has ls 7 [(6, .int (nI k51)), (4, .long a51_4), (3, .int z14), (0, .ref h0), (1, .int (nI j4)), (2, .int (nI j9))] → W p l e _ s m _ below meth c H locs _ _ _ (F0 m 51 ls [])) => K j4 0 1000000000 _ _ _ (by omega) hP hS (lv_sub hl [0, 1, 2, 3, 4, 5] rfl)) ?_
      intro d51
      induction d51 with
      | zero =>
        intro k51 a51_4 H locs ls hk51 hP hS hl
        refine lv_iload hx hb dX10_crooked_51 (lv_at hl 0 rfl) ?_
        refine lv_iload_n hx hb dX10_crooked_53 rfl (lv_at hl 4 rfl) ?_
        refine lv_icmp_ge (tgt := 74) hx hb dX10_crooked_54 (by decide) (fun c15 => ?_) (fun c15 => ?_)
        ·
          have c15 : j4 ≤ k51 := (nI_leI (a := j4) (b := k51) (by omega) (by omega)).mp c15
          refine lv_lload hx hb dX10_crooked_74 (lv_at hl 1 rfl) ?_
          refine lv_l2i hx hb dX10_crooked_76 rfl ?_
          exact W.iret (v := a51_4.toInt32) hx hb hr (fun t ht hW => ⟨⟨a51_4.toInt32, (fun _ => 0), rfl, trivial, trivial⟩, hS.F ht⟩) hS.2.2 dX10_crooked_77
        ·
          have c15 : ¬ j4 ≤ k51 := fun h => c15 ((nI_leI (a := j4) (b := k51) (by omega) (by omega)).mpr h)
          omega
      | succ d51 ih51 =>
        intro k51 a51_4 H locs ls hk51 hP hS hl
        refine lv_iload hx hb dX10_crooked_51 (lv_at hl 0 rfl) ?_
        refine lv_iload_n hx hb dX10_crooked_53 rfl (lv_at hl 4 rfl) ?_
        refine lv_icmp_ge (tgt := 74) hx hb dX10_crooked_54 (by decide) (fun c16 => ?_) (fun c16 => ?_)
        ·
          have c16 : j4 ≤ k51 := (nI_leI (a := j4) (b := k51) (by omega) (by omega)).mp c16
          omega
        ·
          have c16 : ¬ j4 ≤ k51 := fun h => c16 ((nI_leI (a := j4) (b := k51) (by omega) (by omega)).mpr h)
          refine lv_lload hx hb dX10_crooked_57 (lv_at hl 1 rfl) ?_
          refine lv_iload_n hx hb dX10_crooked_59 rfl (lv_at hl 2 rfl) ?_
          refine lv_i2l hx hb dX10_crooked_60 rfl ?_
          refine lv_lmul hx hb dX10_crooked_61 ?_
          refine lv_topl (fun z17 ez17 => ?_)
          refine lv_ldc2 (v := 100) hx hb hown (hts (.constantLong RX10 272 100) (wmx 9 rfl)) dX10_crooked_62 ?_
          refine lv_ldiv hx hb dX10_crooked_65 (by decide) ?_
          refine lv_topl (fun z18 ez18 => ?_)
          refine lv_lstore (lv' := [(4, .long z18), (6, .int (nI k51)), (3, .int z14), (0, .ref h0), (1, .int (nI j4)), (2, .int (nI j9))]) hx hb dX10_crooked_66 hl (by decide) rfl (fun ls hl => ?_)
          refine lv_iinc (v := nI (k51 + 1)) (lv' := [(6, .int (nI (k51 + 1))), (4, .long z18), (3, .int z14), (0, .ref h0), (1, .int (nI j4)), (2, .int (nI j9))]) hx hb dX10_crooked_68 hl (k := 1) rfl ((rfl : nI k51 + Int32.ofInt 1 = nI k51 + 1).trans (nI_add k51 1)) (by decide) rfl (fun ls hl => ?_)
          refine lv_goto (tgt := 51) hx hb dX10_crooked_71 (by decide) ?_
          exact ih51 (k51 + 1) z18 _ _ _ (by omega) hP hS (lv_sub hl [0, 1, 2, 3, 4, 5] rfl)
    ·
      refine lv_if_ne (tgt := 23) hx hb dX10_crooked_17 (by decide) (fun c19 => ?_) (fun c19 => ?_)
      · exact absurd c19 (by decide)
      clear c19
      refine lv_ldc (v := (-1000000002)) hx hb hown (hts (.constant RX10 103 (-1000000002)) (wmx 1 rfl)) dX10_crooked_20 ?_
      exact W.iret (v := (-1000000002)) hx hb hr (fun t ht hW => ⟨⟨(-1000000002), (fun _ => 0), rfl, trivial, trivial⟩, hS.F ht⟩) hS.2.2 dX10_crooked_22
  ·
    refine lv_if_eq (tgt := 20) hx hb dX10_crooked_7 (by decide) (fun c20 => ?_) (fun c20 => ?_)
    rotate_left
    · exact absurd c20 (by decide)
    clear c20
    refine lv_ldc (v := (-1000000002)) hx hb hown (hts (.constant RX10 103 (-1000000002)) (wmx 1 rfl)) dX10_crooked_20 ?_
    exact W.iret (v := (-1000000002)) hx hb hr (fun t ht hW => ⟨⟨(-1000000002), (fun _ => 0), rfl, trivial, trivial⟩, hS.F ht⟩) hS.2.2 dX10_crooked_22
