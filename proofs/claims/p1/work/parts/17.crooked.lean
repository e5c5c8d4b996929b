set_option maxHeartbeats 4000000 in
set_option maxRecDepth 100000 in
theorem c_X10_crooked (l : Launch) (dC : Nat → ClassId) (dI : Nat → Nat → Nat) (cI cZ cQ : ClassId) (h0 : Nat) (hd : Nat) (a0 : Int32) (a1 : Int32) (f_h0 : List Value) (f_hd : List Value) (sz : Nat) (e_h0_6 : f_h0[6]? = some (.ref hd)) (e_hd_1 : f_hd[1]? = some (.int 0)) : Met l yX10_crooked wsX10_crooked ({ frames := 1, cells := 0, slots := 0, locals := 62 }) (va_Pc [.ref h0, .int a0, .int a1] (fun U => U.heap.size = sz ∧ va_P (dC, dI) vwCl [(h0, .inr (10, f_h0)), (hd, .inr (1, f_hd))] U.heap ∧ va_K (dC, dI) vwCl (tys0 cI cZ cQ) U)) (va_Qi (fun (r : Int32) (u : Nat → Nat) => r = if (0 ≤ a0 ∧ a0 ≤ 60) ∧ (0 ≤ a1 ∧ a1 ≤ 100) then (ckI (ckst a1) a0.toNatClampNeg).toInt32 else (-1000000002)) (fun (_ : Nat → Nat) (_ : State) => True) (fun _ : Nat => False)) 0 0 (fun _ : Nat => False) := by
  refine Met.ofW (cc := cX10_crooked) (maxL := 7) (ret := (some .int)) (by decide) rfl ?_
  intro p e s m args below meth c s₁ B hml hv
  obtain ⟨rfl, hsz, hP, hK⟩ := hv
  have hx := B.exec
  have hb := B.bytes
  have hr := B.returns
  have hts := atoms_spec (ws := wsX10_crooked) B.pre
  have hown : s.vm.findClass RX10 = some m.cls := findClass_of_methodNamed B.named
  have hlocks := B.notSynchronized
  have hi_X1 : ∀ w ∈ u_ws RX1 TX1 8, w ∈ wsX10_crooked := by decide +kernel
  have hi_X10 : ∀ w ∈ u_ws RX10 TX10 14, w ∈ wsX10_crooked := by decide +kernel
  subst hsz
  have hS : va_S (fun _ : Nat => False) s.heap s.heap [] := va_S.rf
  have hl := lv_entry ([.ref h0, .int a0, .int a1]) (n := 7) (Nat.le_of_ble_eq_true rfl)
  rw [lg_entry_eq]
  generalize (lg_sl ([.ref h0, .int a0, .int a1]) ++ List.replicate (7 - (lg_sl ([.ref h0, .int a0, .int a1])).length) Slot.unset).toArray = ls at hl ⊢
  have hl : lv_has ls 7 [(0, .ref h0), (1, .int a0), (2, .int a1)] := hl
  refine lv_iload_n hx hb dX10_crooked_0 rfl (lv_at hl 1 rfl) ?_
  refine lv_iconst (v := 0) hx hb dX10_crooked_1 (by decide) ?_
  refine lv_bipush (v := 60) hx hb dX10_crooked_2 (by decide) ?_
  have hPc := hP.sub (ws' := []) [] rfl
  refine va_calli (va_runS (As := [.int a0, .int 0, .int 60]) (rest := []) ⟨hx, hb, hml, hown, hts⟩ (c_X10_within l dC dI cI cZ cQ a0 0 60 s.heap.size ) (va_cwS 3 hts gX10_crooked_X10_within rfl rfl rfl (by decide +kernel) ⟨Nat.le_of_ble_eq_true rfl, Nat.le_of_ble_eq_true rfl⟩) ⟨fun a U g mk q => by obtain ⟨q0, q1, qP, qK⟩ := q; exact ⟨q0, q1, qP, va_K.moved (u := U) (U := U.calling g mk a) (Vm.Alike.refl U.vm) qK⟩, fun U hU hW => ⟨rfl, by rw [hU], by rw [hU]; exact hPc, va_K.moved hW.alike hK⟩⟩ rfl rfl hl.1 rfl (lv_room (Nat.le_of_ble_eq_true rfl)) dX10_crooked_4 ⟨Nat.le_of_ble_eq_true rfl, Nat.le_of_ble_eq_true rfl⟩) hS (fun q _ h => False.elim h) (fun q h => False.elim h) (fun r1 u2 t H1 locs ht hvm hw3 hB hz1 hk1 hS => ?_)
  have hP := hP.kept (fun k q hk => hk1 q.1 (hP k q hk).lt (fun h => h))
  clear hz1 hk1 hPc
  generalize H1 = H at hP hS ht ⊢
  try dsimp only at hw3
  rcases hw3 with ⟨rfl, hw3⟩ | ⟨rfl, hw3⟩
  ·
    refine lv_if_eq (tgt := 20) hx hb dX10_crooked_7 (by decide) (fun c4 => ?_) (fun c4 => ?_)
    · exact absurd c4 (by decide)
    clear c4
    refine lv_iload_n hx hb dX10_crooked_10 rfl (lv_at hl 2 rfl) ?_
    refine lv_iconst (v := 0) hx hb dX10_crooked_11 (by decide) ?_
    refine lv_bipush (v := 100) hx hb dX10_crooked_12 (by decide) ?_
    have hPc := hP.sub (ws' := []) [] rfl
    refine va_calli (va_runS (As := [.int a1, .int 0, .int 100]) (rest := []) ⟨hx, hb, hml, hown, hts⟩ (c_X10_within l dC dI cI cZ cQ a1 0 100 H.size ) (va_cwS 3 hts gX10_crooked_X10_within rfl rfl rfl (by decide +kernel) ⟨Nat.le_of_ble_eq_true rfl, Nat.le_of_ble_eq_true rfl⟩) ⟨fun a U g mk q => by obtain ⟨q0, q1, qP, qK⟩ := q; exact ⟨q0, q1, qP, va_K.moved (u := U) (U := U.calling g mk a) (Vm.Alike.refl U.vm) qK⟩, fun U hU hW => ⟨rfl, by rw [hU], by rw [hU]; exact hPc, va_K.moved hW.alike hK⟩⟩ rfl rfl hl.1 rfl (lv_room (Nat.le_of_ble_eq_true rfl)) dX10_crooked_14 ⟨Nat.le_of_ble_eq_true rfl, Nat.le_of_ble_eq_true rfl⟩) hS (fun q _ h => False.elim h) (fun q h => False.elim h) (fun r5 u6 t H1 locs ht hvm hw7 hB hz1 hk1 hS => ?_)
    have hP := hP.kept (fun k q hk => hk1 q.1 (hP k q hk).lt (fun h => h))
    clear hz1 hk1 hPc
    generalize H1 = H at hP hS ht ⊢
    try dsimp only at hw7
    rcases hw7 with ⟨rfl, hw7⟩ | ⟨rfl, hw7⟩
    ·
      refine lv_if_ne (tgt := 23) hx hb dX10_crooked_17 (by decide) (fun c8 => ?_) (fun c8 => ?_)
      rotate_left
      · exact absurd c8 (by decide)
      clear c8
      refine lv_bipush (v := 100) hx hb dX10_crooked_23 (by decide) ?_
      refine lv_bipush (v := 100) hx hb dX10_crooked_25 (by decide) ?_
      refine lv_iload_n hx hb dX10_crooked_27 rfl (lv_at hl 2 rfl) ?_
      refine lv_iconst (v := 3) hx hb dX10_crooked_28 (by decide) ?_
      refine lv_aload_n hx hb dX10_crooked_29 rfl (lv_at hl 0 rfl) ?_
      refine va_get (D := (dC, dI)) (ci := 10) (v := .ref hd) (C := RX10) (T := TX10) (N := 14) hx hb hts hi_X10 hown hK hP 0 rfl rfl 6 (by decide) (hts (.fieldLink RX10 42 "LeftQuills" "desk" "LLeftQuills$Desk;") (by decide +kernel)) (fun _ h9 => h9) e_h0_6 dX10_crooked_30 ?_
      refine va_get (D := (dC, dI)) (ci := 1) (v := .int 0) (C := RX1) (T := TX1) (N := 8) hx hb hts hi_X1 hown hK hP 1 rfl rfl 1 (by decide) (hts (.fieldLink RX10 142 "LeftQuills$Desk" "cuts" "I") (by decide +kernel)) (fun _ h9 => h9) e_hd_1 dX10_crooked_33 ?_
      refine lv_imul hx hb dX10_crooked_36 ?_
      refine lv_topi (fun z9 ez9 => ?_)
      obtain rfl : z9 = 0 := ez9.trans (by decide)
      refine lv_iadd hx hb dX10_crooked_37 ?_
      refine lv_topi (fun z10 ez10 => ?_)
      refine va_mmin hx hb (hml.trans hl.1.symm) hown (hts (.methodLink RX10 265 Lib.Math.min.name) (by decide +kernel)) (hts (.static Lib.Math.min.name) (by decide +kernel)) (hts (.initialized "java/lang/Math") (by decide +kernel)) (hts (.code Lib.Math.min.name Lib.Math.min.code 2 (some .int)) (by decide +kernel)) (Nat.le_of_ble_eq_true rfl) (Nat.le_of_ble_eq_true rfl) (Nat.le_of_ble_eq_true rfl) (Nat.le_of_ble_eq_true rfl) dX10_crooked_38 ?_
      refine lv_topi (fun z11 ez11 => ?_)
      refine lv_isub hx hb dX10_crooked_41 ?_
      refine lv_topi (fun z12 ez12 => ?_)
      refine lv_istore_n (lv' := [(3, .int z12), (0, .ref h0), (1, .int a0), (2, .int a1)]) hx hb dX10_crooked_42 rfl hl (by decide) rfl (fun ls hl => ?_)
      refine lv_ldc2 (v := 1000000000) hx hb hown (hts (.constantLong RX10 270 1000000000) (by decide +kernel)) dX10_crooked_43 ?_
      refine lv_lstore (lv' := [(4, .long 1000000000), (3, .int z12), (0, .ref h0), (1, .int a0), (2, .int a1)]) hx hb dX10_crooked_46 hl (by decide) rfl (fun ls hl => ?_)
      refine lv_iconst (v := 0) hx hb dX10_crooked_48 (by decide) ?_
      refine lv_istore (lv' := [(6, .int 0), (4, .long 1000000000), (3, .int z12), (0, .ref h0), (1, .int a0), (2, .int a1)]) hx hb dX10_crooked_49 hl (by decide) rfl (fun ls hl => ?_)
      obtain ⟨n, hn60, ha⟩ := x_nI60 hw3
      obtain rfl : z12 = ckst a1 := x_ckc ez10 ez11 ez12
      obtain ⟨d, hd0⟩ : ∃ d : Nat, 0 + d = n := ⟨n, by omega⟩
      obtain ⟨k, hk9, hd⟩ : ∃ k : Nat, lv_has ls 7 [(6, .int (nI k)), (4, .long (ckI (ckst a1) k)), (3, .int (ckst a1)), (0, .ref h0), (1, .int a0), (2, .int a1)] ∧ k + d = n := ⟨0, lv_sub hl [0, 1, 2, 3, 4, 5] rfl, hd0⟩
      clear hd0 hl
      have hl := hk9
      clear hk9
      induction d generalizing k ls with
      | zero =>
        have hkn : k = n := by omega
        refine lv_iload hx hb dX10_crooked_51 (lv_at hl 0 rfl) ?_
        refine lv_iload_n hx hb dX10_crooked_53 rfl (lv_at hl 4 rfl) ?_
        refine lv_icmp_ge (tgt := 74) hx hb dX10_crooked_54 (by decide) (fun c13 => ?_) (fun c13 => ?_)
        rotate_left
        · exact absurd (by rw [ha]; exact nI_le (by omega) (by omega)) c13
        refine lv_lload hx hb dX10_crooked_74 (lv_at hl 1 rfl) ?_
        refine lv_l2i hx hb dX10_crooked_76 rfl ?_
        exact W.iret (v := (ckI (ckst a1) k).toInt32) hx hb hr (fun t ht hW => ⟨⟨(ckI (ckst a1) k).toInt32, (fun _ => 0), rfl, by rw [if_pos ⟨hw3, hw7⟩, ha, nI_clamp (by omega), ← hkn], trivial⟩, hS.F ht⟩) hS.2.2 dX10_crooked_77
      | succ d ih =>
        refine lv_iload hx hb dX10_crooked_51 (lv_at hl 0 rfl) ?_
        refine lv_iload_n hx hb dX10_crooked_53 rfl (lv_at hl 4 rfl) ?_
        refine lv_icmp_ge (tgt := 74) hx hb dX10_crooked_54 (by decide) (fun c14 => ?_) (fun c14 => ?_)
        · exact absurd (by rw [ha] at c14; exact c14) (nI_ge (by omega) (by omega))
        refine lv_lload hx hb dX10_crooked_57 (lv_at hl 1 rfl) ?_
        refine lv_iload_n hx hb dX10_crooked_59 rfl (lv_at hl 2 rfl) ?_
        refine lv_i2l hx hb dX10_crooked_60 rfl ?_
        refine lv_lmul hx hb dX10_crooked_61 ?_
        refine lv_topl (fun z15 ez15 => ?_)
        refine lv_ldc2 (v := 100) hx hb hown (hts (.constantLong RX10 272 100) (by decide +kernel)) dX10_crooked_62 ?_
        refine lv_ldiv hx hb dX10_crooked_65 (by decide) ?_
        refine lv_topl (fun z16 ez16 => ?_)
        refine lv_lstore (lv' := [(4, .long z16), (6, .int (nI k)), (3, .int (ckst a1)), (0, .ref h0), (1, .int a0), (2, .int a1)]) hx hb dX10_crooked_66 hl (by decide) rfl (fun ls hl => ?_)
        obtain ⟨z17, ez17⟩ : ∃ y : Int32, y = (nI k) + 1 := ⟨_, rfl⟩
        refine lv_iinc (v := z17) (lv' := [(6, .int z17), (4, .long z16), (3, .int (ckst a1)), (0, .ref h0), (1, .int a0), (2, .int a1)]) hx hb dX10_crooked_68 hl (k := 1) rfl (by rw [ez17]; rfl) (by decide) rfl (fun ls hl => ?_)
        refine lv_goto (tgt := 51) hx hb dX10_crooked_71 (by decide) ?_
        obtain rfl : z17 = nI (k + 1) := ez17.trans (nI_1 k)
        obtain rfl : z16 = ckI (ckst a1) (k + 1) := by rw [ez16, ez15]; rfl
        exact ih ls (k + 1) (by omega) (lv_sub hl [0, 1, 2, 3, 4, 5] rfl)
    ·
      refine lv_if_ne (tgt := 23) hx hb dX10_crooked_17 (by decide) (fun c18 => ?_) (fun c18 => ?_)
      · exact absurd c18 (by decide)
      clear c18
      refine lv_ldc (v := (-1000000002)) hx hb hown (hts (.constant RX10 103 (-1000000002)) (by decide +kernel)) dX10_crooked_20 ?_
      exact W.iret (v := (-1000000002)) hx hb hr (fun t ht hW => ⟨⟨(-1000000002), (fun _ => 0), rfl, (if_neg (fun h => hw7 h.2)).symm, trivial⟩, hS.F ht⟩) hS.2.2 dX10_crooked_22
  ·
    refine lv_if_eq (tgt := 20) hx hb dX10_crooked_7 (by decide) (fun c19 => ?_) (fun c19 => ?_)
    rotate_left
    · exact absurd c19 (by decide)
    clear c19
    refine lv_ldc (v := (-1000000002)) hx hb hown (hts (.constant RX10 103 (-1000000002)) (by decide +kernel)) dX10_crooked_20 ?_
    exact W.iret (v := (-1000000002)) hx hb hr (fun t ht hW => ⟨⟨(-1000000002), (fun _ => 0), rfl, (if_neg (fun h => hw3 h.1)).symm, trivial⟩, hS.F ht⟩) hS.2.2 dX10_crooked_22
set_option maxHeartbeats 4000000 in
set_option maxRecDepth 100000 in
theorem c_X11_crooked (l : Launch) (dC : Nat → ClassId) (dI : Nat → Nat → Nat) (cI cZ cQ : ClassId) (h0 : Nat) (hw : Nat) (a0 : Int32) (a1 : Int32) (f_h0 : List Value) (sz : Nat) (e_h0_10 : f_h0[10]? = some (.ref hw)) : Met l yX11_crooked wsX11_crooked ({ frames := 1, cells := 0, slots := 0, locals := 65 }) (va_Pc [.ref h0, .int a0, .int a1] (fun U => U.heap.size = sz ∧ va_P (dC, dI) vwCl [(h0, .inr (11, f_h0)), (hw, .inl (cI, 34, .inl (fun _ => 0)))] U.heap ∧ va_K (dC, dI) vwCl (tys0 cI cZ cQ) U)) (va_Qi (fun (r : Int32) (u : Nat → Nat) => r = if (0 ≤ a0 ∧ a0 ≤ 60) ∧ (0 ≤ a1 ∧ a1 ≤ 100) then (ckI (ckst a1) a0.toNatClampNeg).toInt32 else (-1000000002)) (fun (_ : Nat → Nat) (_ : State) => True) (fun _ : Nat => False)) 0 0 (fun _ : Nat => False) := by
  refine Met.ofW (cc := cX11_crooked) (maxL := 7) (ret := (some .int)) (by decide) rfl ?_
  intro p e s m args below meth c s₁ B hml hv
  obtain ⟨rfl, hsz, hP, hK⟩ := hv
  have hx := B.exec
  have hb := B.bytes
  have hr := B.returns
  have hts := atoms_spec (ws := wsX11_crooked) B.pre
  have hown : s.vm.findClass RX11 = some m.cls := findClass_of_methodNamed B.named
  have hlocks := B.notSynchronized
  have hi_X11 : ∀ w ∈ u_ws RX11 TX11 46, w ∈ wsX11_crooked := by decide +kernel
  subst hsz
  have hS : va_S (fun _ : Nat => False) s.heap s.heap [] := va_S.rf
  have hl := lv_entry ([.ref h0, .int a0, .int a1]) (n := 7) (Nat.le_of_ble_eq_true rfl)
  rw [lg_entry_eq]
  generalize (lg_sl ([.ref h0, .int a0, .int a1]) ++ List.replicate (7 - (lg_sl ([.ref h0, .int a0, .int a1])).length) Slot.unset).toArray = ls at hl ⊢
  have hl : lv_has ls 7 [(0, .ref h0), (1, .int a0), (2, .int a1)] := hl
  refine lv_iload_n hx hb dX11_crooked_0 rfl (lv_at hl 1 rfl) ?_
  refine lv_i2l hx hb dX11_crooked_1 rfl ?_
  refine lv_lconst (v := 0) hx hb dX11_crooked_2 (by decide) ?_
  refine lv_topl (fun z1 ez1 => ?_)
  obtain rfl : z1 = (0 : Int32).toInt64 := ez1.trans (by decide)
  refine lv_ldc2 (v := 60) hx hb hown (hts (.constantLong RX11 254 60) (by decide +kernel)) dX11_crooked_3 ?_
  refine lv_topl (fun z2 ez2 => ?_)
  obtain rfl : z2 = (60 : Int32).toInt64 := ez2.trans (by decide)
  have hPc := hP.sub (ws' := []) [] rfl
  refine va_calli (va_runS (As := [.long a0.toInt64, .long ((0 : Int32).toInt64), .long ((60 : Int32).toInt64)]) (rest := []) ⟨hx, hb, hml, hown, hts⟩ (c_X11_in l dC dI cI cZ cQ a0 0 60 s.heap.size ) (va_cwS 3 hts gX11_crooked_X11_in rfl rfl rfl (by decide +kernel) ⟨Nat.le_of_ble_eq_true rfl, Nat.le_of_ble_eq_true rfl⟩) ⟨fun a U g mk q => by obtain ⟨q0, q1, qP, qK⟩ := q; exact ⟨q0, q1, qP, va_K.moved (u := U) (U := U.calling g mk a) (Vm.Alike.refl U.vm) qK⟩, fun U hU hW => ⟨rfl, by rw [hU], by rw [hU]; exact hPc, va_K.moved hW.alike hK⟩⟩ rfl rfl hl.1 rfl (lv_room (Nat.le_of_ble_eq_true rfl)) dX11_crooked_6 ⟨Nat.le_of_ble_eq_true rfl, Nat.le_of_ble_eq_true rfl⟩) hS (fun q _ h => False.elim h) (fun q h => False.elim h) (fun r3 u4 t H1 locs ht hvm hw5 hB hz1 hk1 hS => ?_)
  have hP := hP.kept (fun k q hk => hk1 q.1 (hP k q hk).lt (fun h => h))
  clear hz1 hk1 hPc
  generalize H1 = H at hP hS ht ⊢
  try dsimp only at hw5
  rcases hw5 with ⟨rfl, hw5⟩ | ⟨rfl, hw5⟩
  ·
    refine lv_if_eq (tgt := 24) hx hb dX11_crooked_9 (by decide) (fun c6 => ?_) (fun c6 => ?_)
    · exact absurd c6 (by decide)
    clear c6
    refine lv_iload_n hx hb dX11_crooked_12 rfl (lv_at hl 2 rfl) ?_
    refine lv_i2l hx hb dX11_crooked_13 rfl ?_
    refine lv_lconst (v := 0) hx hb dX11_crooked_14 (by decide) ?_
    refine lv_topl (fun z7 ez7 => ?_)
    obtain rfl : z7 = (0 : Int32).toInt64 := ez7.trans (by decide)
    refine lv_ldc2 (v := 100) hx hb hown (hts (.constantLong RX11 309 100) (by decide +kernel)) dX11_crooked_15 ?_
    refine lv_topl (fun z8 ez8 => ?_)
    obtain rfl : z8 = (100 : Int32).toInt64 := ez8.trans (by decide)
    have hPc := hP.sub (ws' := []) [] rfl
    refine va_calli (va_runS (As := [.long a1.toInt64, .long ((0 : Int32).toInt64), .long ((100 : Int32).toInt64)]) (rest := []) ⟨hx, hb, hml, hown, hts⟩ (c_X11_in l dC dI cI cZ cQ a1 0 100 H.size ) (va_cwS 3 hts gX11_crooked_X11_in rfl rfl rfl (by decide +kernel) ⟨Nat.le_of_ble_eq_true rfl, Nat.le_of_ble_eq_true rfl⟩) ⟨fun a U g mk q => by obtain ⟨q0, q1, qP, qK⟩ := q; exact ⟨q0, q1, qP, va_K.moved (u := U) (U := U.calling g mk a) (Vm.Alike.refl U.vm) qK⟩, fun U hU hW => ⟨rfl, by rw [hU], by rw [hU]; exact hPc, va_K.moved hW.alike hK⟩⟩ rfl rfl hl.1 rfl (lv_room (Nat.le_of_ble_eq_true rfl)) dX11_crooked_18 ⟨Nat.le_of_ble_eq_true rfl, Nat.le_of_ble_eq_true rfl⟩) hS (fun q _ h => False.elim h) (fun q h => False.elim h) (fun r9 u10 t H1 locs ht hvm hw11 hB hz1 hk1 hS => ?_)
    have hP := hP.kept (fun k q hk => hk1 q.1 (hP k q hk).lt (fun h => h))
    clear hz1 hk1 hPc
    generalize H1 = H at hP hS ht ⊢
    try dsimp only at hw11
    rcases hw11 with ⟨rfl, hw11⟩ | ⟨rfl, hw11⟩
    ·
      refine lv_if_ne (tgt := 27) hx hb dX11_crooked_21 (by decide) (fun c12 => ?_) (fun c12 => ?_)
      rotate_left
      · exact absurd c12 (by decide)
      clear c12
      refine lv_iload_n hx hb dX11_crooked_27 rfl (lv_at hl 2 rfl) ?_
      refine lv_iconst (v := 3) hx hb dX11_crooked_28 (by decide) ?_
      refine lv_aload_n hx hb dX11_crooked_29 rfl (lv_at hl 0 rfl) ?_
      refine va_get (D := (dC, dI)) (ci := 11) (v := .ref hw) (C := RX11) (T := TX11) (N := 46) hx hb hts hi_X11 hown hK hP 0 rfl rfl 10 (by decide) (hts (.fieldLink RX11 28 "LeftQuillsModel" "now" "[I") (by decide +kernel)) (fun _ h9 => h9) e_h0_10 dX11_crooked_30 ?_
      refine lv_bipush (v := 33) hx hb dX11_crooked_33 (by decide) ?_
      refine va_iald hx hb hK hP 1 0 rfl rfl (vp_in_iff.mpr ⟨by decide, by decide⟩) dX11_crooked_35 ?_
      refine W.eq (g2 := F0 m 36 ls (.int 0 :: [.int 3, .int a1])) rfl ?_
      refine lv_imul hx hb dX11_crooked_36 ?_
      refine lv_topi (fun z13 ez13 => ?_)
      obtain rfl : z13 = 0 := ez13.trans (by decide)
      refine lv_iadd hx hb dX11_crooked_37 ?_
      refine lv_topi (fun z14 ez14 => ?_)
      refine lv_bipush (v := 100) hx hb dX11_crooked_38 (by decide) ?_
      refine lv_icmp_ge (tgt := 57) hx hb dX11_crooked_40 (by decide) (fun c15 => ?_) (fun c15 => ?_)
      ·
        refine lv_bipush (v := 100) hx hb dX11_crooked_57 (by decide) ?_
        refine lv_istore_n (lv' := [(3, .int 100), (0, .ref h0), (1, .int a0), (2, .int a1)]) hx hb dX11_crooked_59 rfl hl (by decide) rfl (fun ls hl => ?_)
        refine lv_ldc2 (v := 1000000000) hx hb hown (hts (.constantLong RX11 311 1000000000) (by decide +kernel)) dX11_crooked_60 ?_
        refine lv_lstore (lv' := [(4, .long 1000000000), (3, .int 100), (0, .ref h0), (1, .int a0), (2, .int a1)]) hx hb dX11_crooked_63 hl (by decide) rfl (fun ls hl => ?_)
        refine lv_iconst (v := 0) hx hb dX11_crooked_65 (by decide) ?_
        refine lv_istore (lv' := [(6, .int 0), (4, .long 1000000000), (3, .int 100), (0, .ref h0), (1, .int a0), (2, .int a1)]) hx hb dX11_crooked_66 hl (by decide) rfl (fun ls hl => ?_)
        obtain ⟨n, hn60, ha⟩ := x_nI60 hw5
        have hv : 100 - (100 : Int32) = ckst a1 := x_ckm1 ez14 c15
        obtain ⟨d, hd0⟩ : ∃ d : Nat, 0 + d = n := ⟨n, by omega⟩
        obtain ⟨k, hk9, hd⟩ : ∃ k : Nat, lv_has ls 7 [(6, .int (nI k)), (4, .long (ckI (ckst a1) k)), (3, .int 100), (0, .ref h0), (1, .int a0), (2, .int a1)] ∧ k + d = n := ⟨0, lv_sub hl [0, 1, 2, 3, 4, 5] rfl, hd0⟩
        clear hd0 hl
        have hl := hk9
        clear hk9
        induction d generalizing k ls with
        | zero =>
          have hkn : k = n := by omega
          refine lv_iload hx hb dX11_crooked_68 (lv_at hl 0 rfl) ?_
          refine lv_iload_n hx hb dX11_crooked_70 rfl (lv_at hl 4 rfl) ?_
          refine lv_icmp_ge (tgt := 94) hx hb dX11_crooked_71 (by decide) (fun c16 => ?_) (fun c16 => ?_)
          rotate_left
          · exact absurd (by rw [ha]; exact nI_le (by omega) (by omega)) c16
          refine lv_lload hx hb dX11_crooked_94 (lv_at hl 1 rfl) ?_
          refine lv_l2i hx hb dX11_crooked_96 rfl ?_
          exact W.iret (v := (ckI (ckst a1) k).toInt32) hx hb hr (fun t ht hW => ⟨⟨(ckI (ckst a1) k).toInt32, (fun _ => 0), rfl, by rw [if_pos ⟨hw5, hw11⟩, ha, nI_clamp (by omega), ← hkn], trivial⟩, hS.F ht⟩) hS.2.2 dX11_crooked_97
        | succ d ih =>
          refine lv_iload hx hb dX11_crooked_68 (lv_at hl 0 rfl) ?_
          refine lv_iload_n hx hb dX11_crooked_70 rfl (lv_at hl 4 rfl) ?_
          refine lv_icmp_ge (tgt := 94) hx hb dX11_crooked_71 (by decide) (fun c17 => ?_) (fun c17 => ?_)
          · exact absurd (by rw [ha] at c17; exact c17) (nI_ge (by omega) (by omega))
          refine lv_lload hx hb dX11_crooked_74 (lv_at hl 1 rfl) ?_
          refine lv_bipush (v := 100) hx hb dX11_crooked_76 (by decide) ?_
          refine lv_iload_n hx hb dX11_crooked_78 rfl (lv_at hl 2 rfl) ?_
          refine lv_isub hx hb dX11_crooked_79 ?_
          refine lv_topi (fun z18 ez18 => ?_)
          obtain rfl : z18 = 0 := ez18.trans (by decide)
          refine lv_i2l hx hb dX11_crooked_80 rfl ?_
          refine lv_lmul hx hb dX11_crooked_81 ?_
          refine lv_topl (fun z19 ez19 => ?_)
          refine lv_ldc2 (v := 100) hx hb hown (hts (.constantLong RX11 309 100) (by decide +kernel)) dX11_crooked_82 ?_
          refine lv_ldiv hx hb dX11_crooked_85 (by decide) ?_
          refine lv_topl (fun z20 ez20 => ?_)
          refine lv_lstore (lv' := [(4, .long z20), (6, .int (nI k)), (3, .int 100), (0, .ref h0), (1, .int a0), (2, .int a1)]) hx hb dX11_crooked_86 hl (by decide) rfl (fun ls hl => ?_)
          obtain ⟨z21, ez21⟩ : ∃ y : Int32, y = (nI k) + 1 := ⟨_, rfl⟩
          refine lv_iinc (v := z21) (lv' := [(6, .int z21), (4, .long z20), (3, .int 100), (0, .ref h0), (1, .int a0), (2, .int a1)]) hx hb dX11_crooked_88 hl (k := 1) rfl (by rw [ez21]; rfl) (by decide) rfl (fun ls hl => ?_)
          refine lv_goto (tgt := 68) hx hb dX11_crooked_91 (by decide) ?_
          obtain rfl : z21 = nI (k + 1) := ez21.trans (nI_1 k)
          obtain rfl : z20 = ckI (ckst a1) (k + 1) := by rw [ez20, ez19, ez18, hv]; rfl
          exact ih ls (k + 1) (by omega) (lv_sub hl [0, 1, 2, 3, 4, 5] rfl)
      ·
        refine lv_iload_n hx hb dX11_crooked_43 rfl (lv_at hl 2 rfl) ?_
        refine lv_iconst (v := 3) hx hb dX11_crooked_44 (by decide) ?_
        refine lv_aload_n hx hb dX11_crooked_45 rfl (lv_at hl 0 rfl) ?_
        refine va_get (D := (dC, dI)) (ci := 11) (v := .ref hw) (C := RX11) (T := TX11) (N := 46) hx hb hts hi_X11 hown hK hP 0 rfl rfl 10 (by decide) (hts (.fieldLink RX11 28 "LeftQuillsModel" "now" "[I") (by decide +kernel)) (fun _ h9 => h9) e_h0_10 dX11_crooked_46 ?_
        refine lv_bipush (v := 33) hx hb dX11_crooked_49 (by decide) ?_
        refine va_iald hx hb hK hP 1 0 rfl rfl (vp_in_iff.mpr ⟨by decide, by decide⟩) dX11_crooked_51 ?_
        refine W.eq (g2 := F0 m 52 ls (.int 0 :: [.int 3, .int a1])) rfl ?_
        refine lv_imul hx hb dX11_crooked_52 ?_
        refine lv_topi (fun z22 ez22 => ?_)
        obtain rfl : z22 = 0 := ez22.trans (by decide)
        refine lv_iadd hx hb dX11_crooked_53 ?_
        refine lv_topi (fun z23 ez23 => ?_)
        refine lv_goto (tgt := 59) hx hb dX11_crooked_54 (by decide) ?_
        refine lv_istore_n (lv' := [(3, .int z23), (0, .ref h0), (1, .int a0), (2, .int a1)]) hx hb dX11_crooked_59 rfl hl (by decide) rfl (fun ls hl => ?_)
        refine lv_ldc2 (v := 1000000000) hx hb hown (hts (.constantLong RX11 311 1000000000) (by decide +kernel)) dX11_crooked_60 ?_
        refine lv_lstore (lv' := [(4, .long 1000000000), (3, .int z23), (0, .ref h0), (1, .int a0), (2, .int a1)]) hx hb dX11_crooked_63 hl (by decide) rfl (fun ls hl => ?_)
        refine lv_iconst (v := 0) hx hb dX11_crooked_65 (by decide) ?_
        refine lv_istore (lv' := [(6, .int 0), (4, .long 1000000000), (3, .int z23), (0, .ref h0), (1, .int a0), (2, .int a1)]) hx hb dX11_crooked_66 hl (by decide) rfl (fun ls hl => ?_)
        obtain ⟨n, hn60, ha⟩ := x_nI60 hw5
        have hv : 100 - z23 = ckst a1 := x_ckm2 ez14 c15 ez23
        obtain ⟨d, hd0⟩ : ∃ d : Nat, 0 + d = n := ⟨n, by omega⟩
        obtain ⟨k, hk9, hd⟩ : ∃ k : Nat, lv_has ls 7 [(6, .int (nI k)), (4, .long (ckI (ckst a1) k)), (3, .int z23), (0, .ref h0), (1, .int a0), (2, .int a1)] ∧ k + d = n := ⟨0, lv_sub hl [0, 1, 2, 3, 4, 5] rfl, hd0⟩
        clear hd0 hl
        have hl := hk9
        clear hk9
        induction d generalizing k ls with
        | zero =>
          have hkn : k = n := by omega
          refine lv_iload hx hb dX11_crooked_68 (lv_at hl 0 rfl) ?_
          refine lv_iload_n hx hb dX11_crooked_70 rfl (lv_at hl 4 rfl) ?_
          refine lv_icmp_ge (tgt := 94) hx hb dX11_crooked_71 (by decide) (fun c24 => ?_) (fun c24 => ?_)
          rotate_left
          · exact absurd (by rw [ha]; exact nI_le (by omega) (by omega)) c24
          refine lv_lload hx hb dX11_crooked_94 (lv_at hl 1 rfl) ?_
          refine lv_l2i hx hb dX11_crooked_96 rfl ?_
          exact W.iret (v := (ckI (ckst a1) k).toInt32) hx hb hr (fun t ht hW => ⟨⟨(ckI (ckst a1) k).toInt32, (fun _ => 0), rfl, by rw [if_pos ⟨hw5, hw11⟩, ha, nI_clamp (by omega), ← hkn], trivial⟩, hS.F ht⟩) hS.2.2 dX11_crooked_97
        | succ d ih =>
          refine lv_iload hx hb dX11_crooked_68 (lv_at hl 0 rfl) ?_
          refine lv_iload_n hx hb dX11_crooked_70 rfl (lv_at hl 4 rfl) ?_
          refine lv_icmp_ge (tgt := 94) hx hb dX11_crooked_71 (by decide) (fun c25 => ?_) (fun c25 => ?_)
          · exact absurd (by rw [ha] at c25; exact c25) (nI_ge (by omega) (by omega))
          refine lv_lload hx hb dX11_crooked_74 (lv_at hl 1 rfl) ?_
          refine lv_bipush (v := 100) hx hb dX11_crooked_76 (by decide) ?_
          refine lv_iload_n hx hb dX11_crooked_78 rfl (lv_at hl 2 rfl) ?_
          refine lv_isub hx hb dX11_crooked_79 ?_
          refine lv_topi (fun z26 ez26 => ?_)
          refine lv_i2l hx hb dX11_crooked_80 rfl ?_
          refine lv_lmul hx hb dX11_crooked_81 ?_
          refine lv_topl (fun z27 ez27 => ?_)
          refine lv_ldc2 (v := 100) hx hb hown (hts (.constantLong RX11 309 100) (by decide +kernel)) dX11_crooked_82 ?_
          refine lv_ldiv hx hb dX11_crooked_85 (by decide) ?_
          refine lv_topl (fun z28 ez28 => ?_)
          refine lv_lstore (lv' := [(4, .long z28), (6, .int (nI k)), (3, .int z23), (0, .ref h0), (1, .int a0), (2, .int a1)]) hx hb dX11_crooked_86 hl (by decide) rfl (fun ls hl => ?_)
          obtain ⟨z29, ez29⟩ : ∃ y : Int32, y = (nI k) + 1 := ⟨_, rfl⟩
          refine lv_iinc (v := z29) (lv' := [(6, .int z29), (4, .long z28), (3, .int z23), (0, .ref h0), (1, .int a0), (2, .int a1)]) hx hb dX11_crooked_88 hl (k := 1) rfl (by rw [ez29]; rfl) (by decide) rfl (fun ls hl => ?_)
          refine lv_goto (tgt := 68) hx hb dX11_crooked_91 (by decide) ?_
          obtain rfl : z29 = nI (k + 1) := ez29.trans (nI_1 k)
          obtain rfl : z28 = ckI (ckst a1) (k + 1) := by rw [ez28, ez27, ez26, hv]; rfl
          exact ih ls (k + 1) (by omega) (lv_sub hl [0, 1, 2, 3, 4, 5] rfl)
    ·
      refine lv_if_ne (tgt := 27) hx hb dX11_crooked_21 (by decide) (fun c30 => ?_) (fun c30 => ?_)
      · exact absurd c30 (by decide)
      clear c30
      refine lv_ldc (v := (-1000000002)) hx hb hown (hts (.constant RX11 111 (-1000000002)) (by decide +kernel)) dX11_crooked_24 ?_
      exact W.iret (v := (-1000000002)) hx hb hr (fun t ht hW => ⟨⟨(-1000000002), (fun _ => 0), rfl, (if_neg (fun h => hw11 h.2)).symm, trivial⟩, hS.F ht⟩) hS.2.2 dX11_crooked_26
  ·
    refine lv_if_eq (tgt := 24) hx hb dX11_crooked_9 (by decide) (fun c31 => ?_) (fun c31 => ?_)
    rotate_left
    · exact absurd c31 (by decide)
    clear c31
    refine lv_ldc (v := (-1000000002)) hx hb hown (hts (.constant RX11 111 (-1000000002)) (by decide +kernel)) dX11_crooked_24 ?_
    exact W.iret (v := (-1000000002)) hx hb hr (fun t ht hW => ⟨⟨(-1000000002), (fun _ => 0), rfl, (if_neg (fun h => hw5 h.1)).symm, trivial⟩, hS.F ht⟩) hS.2.2 dX11_crooked_26
