set_option maxHeartbeats 4000000 in
set_option maxRecDepth 100000 in
theorem c_X11_crooked (l : Launch) (dC : Nat → ClassId) (dI : Nat → Nat → Nat) (cI cZ cQ : ClassId) (h0 : Nat) (m10 : Nat) (f_h0 : List Value) (fm10 : Nat → Int32) (q0 : Int32) (q1 : Int32) (sz : Nat) (e_h0_10 : f_h0[10]? = some (.ref m10)) : Met l yX11_crooked wsX11_crooked ({ frames := 1, cells := 0, slots := 0, locals := 65 }) (va_Pc [.ref h0, .int q0, .int q1] (fun U => U.heap.size = sz ∧ va_P (dC, dI) vwCl [(h0, .inr (11, f_h0)), (m10, .inl (cI, 34, .inl fm10))] U.heap ∧ va_K (dC, dI) vwCl (tys0 cI cZ cQ) U)) (va_Qi (fun (r : Int32) (u : Nat → Nat) => True) (fun (_ : Nat → Nat) (_ : State) => True) (fun _ : Nat => False)) 0 0 (fun _ : Nat => False) := by
  refine Met.ofW (cc := cX11_crooked) (maxL := 7) (ret := (some .int)) (by decide) rfl ?_
  intro p e s m args below meth c s₁ B hml hv
  obtain ⟨rfl, hsz, hP, hK⟩ := hv
  have hx := B.exec
  have hb := B.bytes
  have hr := B.returns
  have hts := atoms_spec (ws := wsX11_crooked) B.pre
  have hown : s.vm.findClass RX11 = some m.cls := findClass_of_methodNamed B.named
  have hlocks := B.notSynchronized
  have hi_X11 : ∀ w ∈ u_ws RX11 TX11 46, w ∈ wsX11_crooked := fun _ h => List.mem_cons_of_mem _ (List.mem_append_right _ (h))
  subst hsz
  have hS : va_S (fun _ : Nat => False) s.heap s.heap [] := va_S.rf
  have hl := lv_entry ([.ref h0, .int q0, .int q1]) (n := 7) (Nat.le_of_ble_eq_true rfl)
  rw [lg_entry_eq]
  generalize (lg_sl ([.ref h0, .int q0, .int q1]) ++ List.replicate (7 - (lg_sl ([.ref h0, .int q0, .int q1])).length) Slot.unset).toArray = ls at hl ⊢
  have hl : lv_has ls 7 [(0, .ref h0), (1, .int q0), (2, .int q1)] := hl
  refine lv_iload_n hx hb dX11_crooked_0 rfl (lv_at hl 1 rfl) ?_
  refine lv_i2l hx hb dX11_crooked_1 rfl ?_
  refine lv_lconst (v := 0) hx hb dX11_crooked_2 (by decide) ?_
  refine lv_topl (fun z1 ez1 => ?_)
  obtain rfl : z1 = (0 : Int32).toInt64 := ez1.trans (by decide)
  refine lv_ldc2 (v := 60) hx hb hown (hts (.constantLong RX11 254 60) (wmx 1 rfl)) dX11_crooked_3 ?_
  refine lv_topl (fun z2 ez2 => ?_)
  obtain rfl : z2 = (60 : Int32).toInt64 := ez2.trans (by decide)
  have hPc := hP.sub (ws' := []) [] rfl
  refine va_calli (va_runS (As := [.long q0.toInt64, .long ((0 : Int32).toInt64), .long ((60 : Int32).toInt64)]) (rest := []) ⟨hx, hb, hml, hown, hts⟩ (c_X11_in l dC dI cI cZ cQ q0 0 60 s.heap.size ) (va_cwS 3 hts gX11_crooked_X11_in rfl rfl rfl (by decide +kernel) ⟨Nat.le_of_ble_eq_true rfl, Nat.le_of_ble_eq_true rfl⟩) ⟨fun a U g mk q => by obtain ⟨q0, q1, qP, qK⟩ := q; exact ⟨q0, q1, qP, va_K.moved (u := U) (U := U.calling g mk a) (Vm.Alike.refl U.vm) qK⟩, fun U hU hW => ⟨rfl, by rw [hU], by rw [hU]; exact hPc, va_K.moved hW.alike hK⟩⟩ rfl rfl hl.1 rfl (lv_room (Nat.le_of_ble_eq_true rfl)) dX11_crooked_6 ⟨Nat.le_of_ble_eq_true rfl, Nat.le_of_ble_eq_true rfl⟩) hS (fun q _ h => False.elim h) (fun q h => False.elim h) (fun r3 u4 t H1 locs ht hvm hw5 hB hz1 hk1 hS => ?_)
  have hP := hP.kept (fun k q hk => hk1 q.1 (hP k q hk).lt (fun h => h))
  clear hz1 hk1 hPc
  generalize H1 = H at hP hS ht ⊢
  try dsimp only at hw5
  rcases hw5 with ⟨rfl, hw5⟩ | ⟨rfl, hw5⟩
  ·
    obtain ⟨j6, haj6, hbj6, rfl⟩ := x_rng (a := 0) (b := 60) (by decide) (by decide) hw5
    refine lv_if_eq (tgt := 24) hx hb dX11_crooked_9 (by decide) (fun c7 => ?_) (fun c7 => ?_)
    · exact absurd c7 (by decide)
    clear c7
    refine lv_iload_n hx hb dX11_crooked_12 rfl (lv_at hl 2 rfl) ?_
    refine lv_i2l hx hb dX11_crooked_13 rfl ?_
    refine lv_lconst (v := 0) hx hb dX11_crooked_14 (by decide) ?_
    refine lv_topl (fun z8 ez8 => ?_)
    obtain rfl : z8 = (0 : Int32).toInt64 := ez8.trans (by decide)
    refine lv_ldc2 (v := 100) hx hb hown (hts (.constantLong RX11 309 100) (wmx 2 rfl)) dX11_crooked_15 ?_
    refine lv_topl (fun z9 ez9 => ?_)
    obtain rfl : z9 = (100 : Int32).toInt64 := ez9.trans (by decide)
    have hPc := hP.sub (ws' := []) [] rfl
    refine va_calli (va_runS (As := [.long q1.toInt64, .long ((0 : Int32).toInt64), .long ((100 : Int32).toInt64)]) (rest := []) ⟨hx, hb, hml, hown, hts⟩ (c_X11_in l dC dI cI cZ cQ q1 0 100 H.size ) (va_cwS 3 hts gX11_crooked_X11_in rfl rfl rfl (by decide +kernel) ⟨Nat.le_of_ble_eq_true rfl, Nat.le_of_ble_eq_true rfl⟩) ⟨fun a U g mk q => by obtain ⟨q0, q1, qP, qK⟩ := q; exact ⟨q0, q1, qP, va_K.moved (u := U) (U := U.calling g mk a) (Vm.Alike.refl U.vm) qK⟩, fun U hU hW => ⟨rfl, by rw [hU], by rw [hU]; exact hPc, va_K.moved hW.alike hK⟩⟩ rfl rfl hl.1 rfl (lv_room (Nat.le_of_ble_eq_true rfl)) dX11_crooked_18 ⟨Nat.le_of_ble_eq_true rfl, Nat.le_of_ble_eq_true rfl⟩) hS (fun q _ h => False.elim h) (fun q h => False.elim h) (fun r10 u11 t H1 locs ht hvm hw12 hB hz1 hk1 hS => ?_)
    have hP := hP.kept (fun k q hk => hk1 q.1 (hP k q hk).lt (fun h => h))
    clear hz1 hk1 hPc
    generalize H1 = H at hP hS ht ⊢
    try dsimp only at hw12
    rcases hw12 with ⟨rfl, hw12⟩ | ⟨rfl, hw12⟩
    ·
      obtain ⟨j13, haj13, hbj13, rfl⟩ := x_rng (a := 0) (b := 100) (by decide) (by decide) hw12
      refine lv_if_ne (tgt := 27) hx hb dX11_crooked_21 (by decide) (fun c14 => ?_) (fun c14 => ?_)
      rotate_left
      · exact absurd c14 (by decide)
      clear c14
      refine lv_iload_n hx hb dX11_crooked_27 rfl (lv_at hl 2 rfl) ?_
      refine lv_iconst (v := 3) hx hb dX11_crooked_28 (by decide) ?_
      refine lv_aload_n hx hb dX11_crooked_29 rfl (lv_at hl 0 rfl) ?_
      refine va_get (D := (dC, dI)) (ci := 11) (v := .ref m10) (C := RX11) (T := TX11) (N := 46) hx hb hts hi_X11 hown hK hP 0 rfl rfl 10 (by decide) (hts (.fieldLink RX11 28 "LeftQuillsModel" "now" "[I") (wmx 4 rfl)) (fun _ h9 => h9) e_h0_10 dX11_crooked_30 ?_
      refine lv_bipush (v := 33) hx hb dX11_crooked_33 (by decide) ?_
      refine va_iald hx hb hK hP 1 0 rfl rfl (vp_in_iff.mpr ⟨by decide, by decide⟩) dX11_crooked_35 ?_
      refine W.eq (g2 := F0 m 36 ls [.int (fm10 33), .int 3, .int (nI j13)]) (congrArg (fun y9 => F0 m 36 ls (.int (fm10 y9) :: [.int 3, .int (nI j13)])) ((show ((33 : Int32)).toNatClampNeg = 33 from by decide))) ?_
      refine lv_imul hx hb dX11_crooked_36 ?_
      refine lv_topi (fun z15 ez15 => ?_)
      refine lv_iadd hx hb dX11_crooked_37 ?_
      refine lv_topi (fun z16 ez16 => ?_)
      refine lv_bipush (v := 100) hx hb dX11_crooked_38 (by decide) ?_
      refine lv_icmp_ge (tgt := 57) hx hb dX11_crooked_40 (by decide) (fun c17 => ?_) (fun c17 => ?_)
      ·
        refine lv_bipush (v := 100) hx hb dX11_crooked_57 (by decide) ?_
        refine lv_istore_n (lv' := [(3, .int 100), (0, .ref h0), (1, .int (nI j6)), (2, .int (nI j13))]) hx hb dX11_crooked_59 rfl hl (by decide) rfl (fun ls hl => ?_)
        refine lv_ldc2 (v := 1000000000) hx hb hown (hts (.constantLong RX11 311 1000000000) (wmx 5 rfl)) dX11_crooked_60 ?_
        refine lv_lstore (lv' := [(4, .long 1000000000), (3, .int 100), (0, .ref h0), (1, .int (nI j6)), (2, .int (nI j13))]) hx hb dX11_crooked_63 hl (by decide) rfl (fun ls hl => ?_)
        refine lv_iconst (v := 0) hx hb dX11_crooked_65 (by decide) ?_
        refine lv_istore (lv' := [(6, .int 0), (4, .long 1000000000), (3, .int 100), (0, .ref h0), (1, .int (nI j6)), (2, .int (nI j13))]) hx hb dX11_crooked_66 hl (by decide) rfl (fun ls hl => ?_)
        refine (fun (K : ∀ (d68 : Nat) (k68 : Nat) (a68_4 : Int64) (H : Heap) (locs : List Loc) (ls : Array Slot), k68 + d68 = j6 → va_P (dC, dI) vwCl [(h0, .inr (11, f_h0)), (m10, .inl (cI, 34, .inl fm10))] H → va_S (fun _ : Nat => False) s.heap H locs → lv_has ls 7 [(6, .int (nI k68)), (4, .long a68_4), (3, .int 100), (0, .ref h0), (1, .int (nI j6)), (2, .int (nI j13))] → W p l e _ s m _ below meth c H locs _ _ _ (F0 m 68 ls [])) => K j6 0 1000000000 _ _ _ (by omega) hP hS (lv_sub hl [0, 1, 2, 3, 4, 5] rfl)) ?_
        intro d68
        induction d68 with
        | zero =>
          intro k68 a68_4 H locs ls hk68 hP hS hl
          refine lv_iload hx hb dX11_crooked_68 (lv_at hl 0 rfl) ?_
          refine lv_iload_n hx hb dX11_crooked_70 rfl (lv_at hl 4 rfl) ?_
          refine lv_icmp_ge (tgt := 94) hx hb dX11_crooked_71 (by decide) (fun c18 => ?_) (fun c18 => ?_)
          ·
            have c18 : j6 ≤ k68 := (nI_leI (a := j6) (b := k68) (by omega) (by omega)).mp c18
            refine lv_lload hx hb dX11_crooked_94 (lv_at hl 1 rfl) ?_
            refine lv_l2i hx hb dX11_crooked_96 rfl ?_
            exact W.iret (v := a68_4.toInt32) hx hb hr (fun t ht hW => ⟨⟨a68_4.toInt32, (fun _ => 0), rfl, trivial, trivial⟩, hS.F ht⟩) hS.2.2 dX11_crooked_97
          ·
            have c18 : ¬ j6 ≤ k68 := fun h => c18 ((nI_leI (a := j6) (b := k68) (by omega) (by omega)).mpr h)
            omega
        | succ d68 ih68 =>
          intro k68 a68_4 H locs ls hk68 hP hS hl
          refine lv_iload hx hb dX11_crooked_68 (lv_at hl 0 rfl) ?_
          refine lv_iload_n hx hb dX11_crooked_70 rfl (lv_at hl 4 rfl) ?_
          refine lv_icmp_ge (tgt := 94) hx hb dX11_crooked_71 (by decide) (fun c19 => ?_) (fun c19 => ?_)
          ·
            have c19 : j6 ≤ k68 := (nI_leI (a := j6) (b := k68) (by omega) (by omega)).mp c19
            omega
          ·
            have c19 : ¬ j6 ≤ k68 := fun h => c19 ((nI_leI (a := j6) (b := k68) (by omega) (by omega)).mpr h)
            refine lv_lload hx hb dX11_crooked_74 (lv_at hl 1 rfl) ?_
            refine lv_bipush (v := 100) hx hb dX11_crooked_76 (by decide) ?_
            refine lv_iload_n hx hb dX11_crooked_78 rfl (lv_at hl 2 rfl) ?_
            refine lv_isub hx hb dX11_crooked_79 ?_
            refine lv_topi (fun z20 ez20 => ?_)
            obtain rfl : z20 = 0 := ez20.trans (by decide)
            refine lv_i2l hx hb dX11_crooked_80 rfl ?_
            refine lv_lmul hx hb dX11_crooked_81 ?_
            refine lv_topl (fun z21 ez21 => ?_)
            refine lv_ldc2 (v := 100) hx hb hown (hts (.constantLong RX11 309 100) (wmx 2 rfl)) dX11_crooked_82 ?_
            refine lv_ldiv hx hb dX11_crooked_85 (by decide) ?_
            refine lv_topl (fun z22 ez22 => ?_)
            refine lv_lstore (lv' := [(4, .long z22), (6, .int (nI k68)), (3, .int 100), (0, .ref h0), (1, .int (nI j6)), (2, .int (nI j13))]) hx hb dX11_crooked_86 hl (by decide) rfl (fun ls hl => ?_)
            refine lv_iinc (v := nI (k68 + 1)) (lv' := [(6, .int (nI (k68 + 1))), (4, .long z22), (3, .int 100), (0, .ref h0), (1, .int (nI j6)), (2, .int (nI j13))]) hx hb dX11_crooked_88 hl (k := 1) rfl ((rfl : nI k68 + Int32.ofInt 1 = nI k68 + 1).trans (nI_add k68 1)) (by decide) rfl (fun ls hl => ?_)
            refine lv_goto (tgt := 68) hx hb dX11_crooked_91 (by decide) ?_
            exact ih68 (k68 + 1) z22 _ _ _ (by omega) hP hS (lv_sub hl [0, 1, 2, 3, 4, 5] rfl)
      ·
        refine lv_iload_n hx hb dX11_crooked_43 rfl (lv_at hl 2 rfl) ?_
        refine lv_iconst (v := 3) hx hb dX11_crooked_44 (by decide) ?_
        refine lv_aload_n hx hb dX11_crooked_45 rfl (lv_at hl 0 rfl) ?_
        refine va_get (D := (dC, dI)) (ci := 11) (v := .ref m10) (C := RX11) (T := TX11) (N := 46) hx hb hts hi_X11 hown hK hP 0 rfl rfl 10 (by decide) (hts (.fieldLink RX11 28 "LeftQuillsModel" "now" "[I") (wmx 4 rfl)) (fun _ h9 => h9) e_h0_10 dX11_crooked_46 ?_
        refine lv_bipush (v := 33) hx hb dX11_crooked_49 (by decide) ?_
        refine va_iald hx hb hK hP 1 0 rfl rfl (vp_in_iff.mpr ⟨by decide, by decide⟩) dX11_crooked_51 ?_
        refine W.eq (g2 := F0 m 52 ls [.int (fm10 33), .int 3, .int (nI j13)]) (congrArg (fun y9 => F0 m 52 ls (.int (fm10 y9) :: [.int 3, .int (nI j13)])) ((show ((33 : Int32)).toNatClampNeg = 33 from by decide))) ?_
        refine lv_imul hx hb dX11_crooked_52 ?_
        refine lv_topi (fun z23 ez23 => ?_)
        refine lv_iadd hx hb dX11_crooked_53 ?_
        refine lv_topi (fun z24 ez24 => ?_)
        refine lv_goto (tgt := 59) hx hb dX11_crooked_54 (by decide) ?_
        refine lv_istore_n (lv' := [(3, .int z24), (0, .ref h0), (1, .int (nI j6)), (2, .int (nI j13))]) hx hb dX11_crooked_59 rfl hl (by decide) rfl (fun ls hl => ?_)
        refine lv_ldc2 (v := 1000000000) hx hb hown (hts (.constantLong RX11 311 1000000000) (wmx 5 rfl)) dX11_crooked_60 ?_
        refine lv_lstore (lv' := [(4, .long 1000000000), (3, .int z24), (0, .ref h0), (1, .int (nI j6)), (2, .int (nI j13))]) hx hb dX11_crooked_63 hl (by decide) rfl (fun ls hl => ?_)
        refine lv_iconst (v := 0) hx hb dX11_crooked_65 (by decide) ?_
        refine lv_istore (lv' := [(6, .int 0), (4, .long 1000000000), (3, .int z24), (0, .ref h0), (1, .int (nI j6)), (2, .int (nI j13))]) hx hb dX11_crooked_66 hl (by decide) rfl (fun ls hl => ?_)
        refine (fun (K : ∀ (d68 : Nat) (k68 : Nat) (a68_4 : Int64) (H : Heap) (locs : List Loc) (ls : Array Slot), k68 + d68 = j6 → va_P (dC, dI) vwCl [(h0, .inr (11, f_h0)), (m10, .inl (cI, 34, .inl fm10))] H → va_S (fun _ : Nat => False) s.heap H locs → lv_has ls 7 [(6, .int (nI k68)), (4, .long a68_4), (3, .int z24), (0, .ref h0), (1, .int (nI j6)), (2, .int (nI j13))] → W p l e _ s m _ below meth c H locs _ _ _ (F0 m 68 ls [])) => K j6 0 1000000000 _ _ _ (by omega) hP hS (lv_sub hl [0, 1, 2, 3, 4, 5] rfl)) ?_
        intro d68
        induction d68 with
        | zero =>
          intro k68 a68_4 H locs ls hk68 hP hS hl
          refine lv_iload hx hb dX11_crooked_68 (lv_at hl 0 rfl) ?_
          refine lv_iload_n hx hb dX11_crooked_70 rfl (lv_at hl 4 rfl) ?_
          refine lv_icmp_ge (tgt := 94) hx hb dX11_crooked_71 (by decide) (fun c25 => ?_) (fun c25 => ?_)
          ·
            have c25 : j6 ≤ k68 := (nI_leI (a := j6) (b := k68) (by omega) (by omega)).mp c25
            refine lv_lload hx hb dX11_crooked_94 (lv_at hl 1 rfl) ?_
            refine lv_l2i hx hb dX11_crooked_96 rfl ?_
            exact W.iret (v := a68_4.toInt32) hx hb hr (fun t ht hW => ⟨⟨a68_4.toInt32, (fun _ => 0), rfl, trivial, trivial⟩, hS.F ht⟩) hS.2.2 dX11_crooked_97
          ·
            have c25 : ¬ j6 ≤ k68 := fun h => c25 ((nI_leI (a := j6) (b := k68) (by omega) (by omega)).mpr h)
            omega
        | succ d68 ih68 =>
          intro k68 a68_4 H locs ls hk68 hP hS hl
          refine lv_iload hx hb dX11_crooked_68 (lv_at hl 0 rfl) ?_
          refine lv_iload_n hx hb dX11_crooked_70 rfl (lv_at hl 4 rfl) ?_
          refine lv_icmp_ge (tgt := 94) hx hb dX11_crooked_71 (by decide) (fun c26 => ?_) (fun c26 => ?_)
          ·
            have c26 : j6 ≤ k68 := (nI_leI (a := j6) (b := k68) (by omega) (by omega)).mp c26
            omega
          ·
            have c26 : ¬ j6 ≤ k68 := fun h => c26 ((nI_leI (a := j6) (b := k68) (by omega) (by omega)).mpr h)
            refine lv_lload hx hb dX11_crooked_74 (lv_at hl 1 rfl) ?_
            refine lv_bipush (v := 100) hx hb dX11_crooked_76 (by decide) ?_
            refine lv_iload_n hx hb dX11_crooked_78 rfl (lv_at hl 2 rfl) ?_
            refine lv_isub hx hb dX11_crooked_79 ?_
            refine lv_topi (fun z27 ez27 => ?_)
            refine lv_i2l hx hb dX11_crooked_80 rfl ?_
            refine lv_lmul hx hb dX11_crooked_81 ?_
            refine lv_topl (fun z28 ez28 => ?_)
            refine lv_ldc2 (v := 100) hx hb hown (hts (.constantLong RX11 309 100) (wmx 2 rfl)) dX11_crooked_82 ?_
            refine lv_ldiv hx hb dX11_crooked_85 (by decide) ?_
            refine lv_topl (fun z29 ez29 => ?_)
            refine lv_lstore (lv' := [(4, .long z29), (6, .int (nI k68)), (3, .int z24), (0, .ref h0), (1, .int (nI j6)), (2, .int (nI j13))]) hx hb dX11_crooked_86 hl (by decide) rfl (fun ls hl => ?_)
            refine lv_iinc (v := nI (k68 + 1)) (lv' := [(6, .int (nI (k68 + 1))), (4, .long z29), (3, .int z24), (0, .ref h0), (1, .int (nI j6)), (2, .int (nI j13))]) hx hb dX11_crooked_88 hl (k := 1) rfl ((rfl : nI k68 + Int32.ofInt 1 = nI k68 + 1).trans (nI_add k68 1)) (by decide) rfl (fun ls hl => ?_)
            refine lv_goto (tgt := 68) hx hb dX11_crooked_91 (by decide) ?_
            exact ih68 (k68 + 1) z29 _ _ _ (by omega) hP hS (lv_sub hl [0, 1, 2, 3, 4, 5] rfl)
    ·
      refine lv_if_ne (tgt := 27) hx hb dX11_crooked_21 (by decide) (fun c30 => ?_) (fun c30 => ?_)
      · exact absurd c30 (by decide)
      clear c30
      refine lv_ldc (v := (-1000000002)) hx hb hown (hts (.constant RX11 111 (-1000000002)) (wmx 3 rfl)) dX11_crooked_24 ?_
      exact W.iret (v := (-1000000002)) hx hb hr (fun t ht hW => ⟨⟨(-1000000002), (fun _ => 0), rfl, trivial, trivial⟩, hS.F ht⟩) hS.2.2 dX11_crooked_26
  ·
    refine lv_if_eq (tgt := 24) hx hb dX11_crooked_9 (by decide) (fun c31 => ?_) (fun c31 => ?_)
    rotate_left
    · exact absurd c31 (by decide)
    clear c31
    refine lv_ldc (v := (-1000000002)) hx hb hown (hts (.constant RX11 111 (-1000000002)) (wmx 3 rfl)) dX11_crooked_24 ?_
    exact W.iret (v := (-1000000002)) hx hb hr (fun t ht hW => ⟨⟨(-1000000002), (fun _ => 0), rfl, trivial, trivial⟩, hS.F ht⟩) hS.2.2 dX11_crooked_26
