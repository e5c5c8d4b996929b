set_option maxHeartbeats 4000000 in
set_option maxRecDepth 100000 in
theorem c_X11_dearer (l : Launch) (dC : Nat → ClassId) (dI : Nat → Nat → Nat) (cI cZ cQ : ClassId) (h0 : Nat) (nq : Nat) (nh : Nat) (m3 : Nat) (m4 : Nat) (m5 : Nat) (m7 : Nat) (m8 : Nat) (m9 : Nat) (m10 : Nat) (f_h0 : List Value) (fm3 : Nat → Int32) (fm4 : Nat → Int32) (fm5 : Nat → Int32) (fm7 : Nat → Int32) (fm8 : Nat → Int32) (fm9 : Nat → Int32) (fm10 : Nat → Int32) (sz : Nat) (e_h0_2 : f_h0[2]? = some (.int (nI nq))) (e_h0_6 : f_h0[6]? = some (.int (nI nh))) (e_h0_3 : f_h0[3]? = some (.ref m3)) (e_h0_4 : f_h0[4]? = some (.ref m4)) (e_h0_5 : f_h0[5]? = some (.ref m5)) (e_h0_7 : f_h0[7]? = some (.ref m7)) (e_h0_8 : f_h0[8]? = some (.ref m8)) (e_h0_9 : f_h0[9]? = some (.ref m9)) (e_h0_10 : f_h0[10]? = some (.ref m10)) (hnq : nq ≤ 8) (hci : cIn fm5 nq) (hnh : nh ≤ 4) : Met l yX11_dearer wsX11_dearer ({ frames := 5, cells := 0, slots := 0, locals := 157 }) (va_Pc [.ref h0] (fun U => U.heap.size = sz ∧ va_P (dC, dI) vwCl [(h0, .inr (11, f_h0)), (m3, .inl (cI, 8, .inl fm3)), (m4, .inl (cI, 8, .inl fm4)), (m5, .inl (cI, 8, .inl fm5)), (m7, .inl (cI, 4, .inl fm7)), (m8, .inl (cI, 4, .inl fm8)), (m9, .inl (cI, 4, .inl fm9)), (m10, .inl (cI, 34, .inl fm10))] U.heap ∧ va_K (dC, dI) vwCl (tys0 cI cZ cQ) U)) (va_Qi (fun (r : Int32) (u : Nat → Nat) => True) (fun (_ : Nat → Nat) (_ : State) => True) (fun _ : Nat => False)) 0 0 (fun _ : Nat => False) := by
  refine Met.ofW (cc := cX11_dearer) (maxL := 4) (ret := (some .int)) (by decide) rfl ?_
  intro p e s m args below meth c s₁ B hml hv
  obtain ⟨rfl, hsz, hP, hK⟩ := hv
  have hx := B.exec
  have hb := B.bytes
  have hr := B.returns
  have hts := atoms_spec (ws := wsX11_dearer) B.pre
  have hown : s.vm.findClass RX11 = some m.cls := findClass_of_methodNamed B.named
  have hlocks := B.notSynchronized
  have hi_X11 : ∀ w ∈ u_ws RX11 TX11 46, w ∈ wsX11_dearer := fun _ h => List.mem_cons_of_mem _ (List.mem_append_right _ (h))
  subst hsz
  have hS : va_S (fun _ : Nat => False) s.heap s.heap [] := va_S.rf
  have hl := lv_entry ([.ref h0]) (n := 4) (Nat.le_of_ble_eq_true rfl)
  rw [lg_entry_eq]
  generalize (lg_sl ([.ref h0]) ++ List.replicate (4 - (lg_sl ([.ref h0])).length) Slot.unset).toArray = ls at hl ⊢
  have hl : lv_has ls 4 [(0, .ref h0)] := hl
  refine lv_ldcw (v := 100000) hx hb hown (hts (.constant RX11 306 100000) (wmx 1 rfl)) dX11_dearer_0 ?_
  refine lv_istore_n (lv' := [(1, .int 100000), (0, .ref h0)]) hx hb dX11_dearer_3 rfl hl (by decide) rfl (fun ls hl => ?_)
  refine lv_iconst (v := 0) hx hb dX11_dearer_4 (by decide) ?_
  refine lv_istore_n (lv' := [(2, .int 0), (1, .int 100000), (0, .ref h0)]) hx hb dX11_dearer_5 rfl hl (by decide) rfl (fun ls hl => ?_)
  refine (fun (K : ∀ (d6 : Nat) (k6 : Nat) (a6_1 : Int32) (H : Heap) (locs : List Loc) (ls : Array Slot), k6 + d6 = nq → va_P (dC, dI) vwCl [(h0, .inr (11, f_h0)), (m3, .inl (cI, 8, .inl fm3)), (m4, .inl (cI, 8, .inl fm4)), (m5, .inl (cI, 8, .inl fm5)), (m7, .inl (cI, 4, .inl fm7)), (m8, .inl (cI, 4, .inl fm8)), (m9, .inl (cI, 4, .inl fm9)), (m10, .inl (cI, 34, .inl fm10))] H → va_S (fun _ : Nat => False) s.heap H locs → lv_has ls 4 [(2, .int (nI k6)), (1, .int a6_1), (0, .ref h0)] → W p l e _ s m _ below meth c H locs _ _ _ (F0 m 6 ls [])) => K nq 0 100000 _ _ _ (by omega) hP hS (lv_sub hl [0, 1, 2] rfl)) ?_
  intro d6
  induction d6 with
  | zero =>
    intro k6 a6_1 H locs ls hk6 hP hS hl
    refine lv_iload_n hx hb dX11_dearer_6 rfl (lv_at hl 0 rfl) ?_
    refine lv_aload_n hx hb dX11_dearer_7 rfl (lv_at hl 2 rfl) ?_
    refine va_get (D := (dC, dI)) (ci := 11) (v := .int (nI nq)) (C := RX11) (T := TX11) (N := 46) hx hb hts hi_X11 hown hK hP 0 rfl rfl 2 (by decide) (hts (.fieldLink RX11 99 "LeftQuillsModel" "quills" "I") (wmx 2 rfl)) (fun _ h9 => h9) e_h0_2 dX11_dearer_8 ?_
    refine lv_icmp_ge (tgt := 64) hx hb dX11_dearer_11 (by decide) (fun c1 => ?_) (fun c1 => ?_)
    ·
      have c1 : nq ≤ k6 := (nI_leI (a := nq) (b := k6) (by omega) (by omega)).mp c1
      refine lv_iload_n hx hb dX11_dearer_64 rfl (lv_at hl 1 rfl) ?_
      exact W.iret (v := a6_1) hx hb hr (fun t ht hW => ⟨⟨a6_1, (fun _ => 0), rfl, trivial, trivial⟩, hS.F ht⟩) hS.2.2 dX11_dearer_65
    ·
      have c1 : ¬ nq ≤ k6 := fun h => c1 ((nI_leI (a := nq) (b := k6) (by omega) (by omega)).mpr h)
      omega
  | succ d6 ih6 =>
    intro k6 a6_1 H locs ls hk6 hP hS hl
    refine lv_iload_n hx hb dX11_dearer_6 rfl (lv_at hl 0 rfl) ?_
    refine lv_aload_n hx hb dX11_dearer_7 rfl (lv_at hl 2 rfl) ?_
    refine va_get (D := (dC, dI)) (ci := 11) (v := .int (nI nq)) (C := RX11) (T := TX11) (N := 46) hx hb hts hi_X11 hown hK hP 0 rfl rfl 2 (by decide) (hts (.fieldLink RX11 99 "LeftQuillsModel" "quills" "I") (wmx 2 rfl)) (fun _ h9 => h9) e_h0_2 dX11_dearer_8 ?_
    refine lv_icmp_ge (tgt := 64) hx hb dX11_dearer_11 (by decide) (fun c2 => ?_) (fun c2 => ?_)
    ·
      have c2 : nq ≤ k6 := (nI_leI (a := nq) (b := k6) (by omega) (by omega)).mp c2
      omega
    ·
      have c2 : ¬ nq ≤ k6 := fun h => c2 ((nI_leI (a := nq) (b := k6) (by omega) (by omega)).mpr h)
      refine lv_iconst (v := 0) hx hb dX11_dearer_14 (by decide) ?_
      refine lv_istore_n (lv' := [(3, .int 0), (2, .int (nI k6)), (1, .int a6_1), (0, .ref h0)]) hx hb dX11_dearer_15 rfl hl (by decide) rfl (fun ls hl => ?_)
      refine (fun (K : ∀ (d16 : Nat) (k16 : Nat) (a16_1 : Int32) (H : Heap) (locs : List Loc) (ls : Array Slot), k16 + d16 = nh → va_P (dC, dI) vwCl [(h0, .inr (11, f_h0)), (m3, .inl (cI, 8, .inl fm3)), (m4, .inl (cI, 8, .inl fm4)), (m5, .inl (cI, 8, .inl fm5)), (m7, .inl (cI, 4, .inl fm7)), (m8, .inl (cI, 4, .inl fm8)), (m9, .inl (cI, 4, .inl fm9)), (m10, .inl (cI, 34, .inl fm10))] H → va_S (fun _ : Nat => False) s.heap H locs → lv_has ls 4 [(3, .int (nI k16)), (1, .int a16_1), (2, .int (nI k6)), (0, .ref h0)] → W p l e _ s m _ below meth c H locs _ _ _ (F0 m 16 ls [])) => K nh 0 a6_1 _ _ _ (by omega) hP hS (lv_sub hl [0, 2, 1, 3] rfl)) ?_
      intro d16
      induction d16 with
      | zero =>
        intro k16 a16_1 H locs ls hk16 hP hS hl
        refine lv_iload_n hx hb dX11_dearer_16 rfl (lv_at hl 0 rfl) ?_
        refine lv_aload_n hx hb dX11_dearer_17 rfl (lv_at hl 3 rfl) ?_
        refine va_get (D := (dC, dI)) (ci := 11) (v := .int (nI nh)) (C := RX11) (T := TX11) (N := 46) hx hb hts hi_X11 hown hK hP 0 rfl rfl 6 (by decide) (hts (.fieldLink RX11 106 "LeftQuillsModel" "hands" "I") (wmx 3 rfl)) (fun _ h9 => h9) e_h0_6 dX11_dearer_18 ?_
        refine lv_icmp_ge (tgt := 58) hx hb dX11_dearer_21 (by decide) (fun c3 => ?_) (fun c3 => ?_)
        ·
          have c3 : nh ≤ k16 := (nI_leI (a := nh) (b := k16) (by omega) (by omega)).mp c3
          refine lv_iinc (v := nI (k6 + 1)) (lv' := [(2, .int (nI (k6 + 1))), (3, .int (nI k16)), (1, .int a16_1), (0, .ref h0)]) hx hb dX11_dearer_58 hl (k := 2) rfl ((rfl : nI k6 + Int32.ofInt 1 = nI k6 + 1).trans (nI_add k6 1)) (by decide) rfl (fun ls hl => ?_)
          refine lv_goto (tgt := 6) hx hb dX11_dearer_61 (by decide) ?_
          exact ih6 (k6 + 1) a16_1 _ _ _ (by omega) hP hS (lv_sub hl [0, 2, 3] rfl)
        ·
          have c3 : ¬ nh ≤ k16 := fun h => c3 ((nI_leI (a := nh) (b := k16) (by omega) (by omega)).mpr h)
          omega
      | succ d16 ih16 =>
        intro k16 a16_1 H locs ls hk16 hP hS hl
        refine lv_iload_n hx hb dX11_dearer_16 rfl (lv_at hl 0 rfl) ?_
        refine lv_aload_n hx hb dX11_dearer_17 rfl (lv_at hl 3 rfl) ?_
        refine va_get (D := (dC, dI)) (ci := 11) (v := .int (nI nh)) (C := RX11) (T := TX11) (N := 46) hx hb hts hi_X11 hown hK hP 0 rfl rfl 6 (by decide) (hts (.fieldLink RX11 106 "LeftQuillsModel" "hands" "I") (wmx 3 rfl)) (fun _ h9 => h9) e_h0_6 dX11_dearer_18 ?_
        refine lv_icmp_ge (tgt := 58) hx hb dX11_dearer_21 (by decide) (fun c4 => ?_) (fun c4 => ?_)
        ·
          have c4 : nh ≤ k16 := (nI_leI (a := nh) (b := k16) (by omega) (by omega)).mp c4
          omega
        ·
          have c4 : ¬ nh ≤ k16 := fun h => c4 ((nI_leI (a := nh) (b := k16) (by omega) (by omega)).mpr h)
          refine lv_iload_n hx hb dX11_dearer_24 rfl (lv_at hl 1 rfl) ?_
          refine lv_aload_n hx hb dX11_dearer_25 rfl (lv_at hl 3 rfl) ?_
          refine va_get (D := (dC, dI)) (ci := 11) (v := .ref m3) (C := RX11) (T := TX11) (N := 46) hx hb hts hi_X11 hown hK hP 0 rfl rfl 3 (by decide) (hts (.fieldLink RX11 7 "LeftQuillsModel" "wing" "[I") (wmx 4 rfl)) (fun _ h9 => h9) e_h0_3 dX11_dearer_26 ?_
          refine lv_iload_n hx hb dX11_dearer_29 rfl (lv_at hl 2 rfl) ?_
          refine va_iald hx hb hK hP 1 0 rfl rfl (vp_in_nI (n := k6) (N := 8) (by omega) (by decide)) dX11_dearer_30 ?_
          refine W.eq (g2 := F0 m 31 ls [.int (fm3 k6), .int a16_1]) (congrArg (fun y9 => F0 m 31 ls (.int (fm3 y9) :: [.int a16_1])) ((nI_clamp (n := k6) (by omega)))) ?_
          refine lv_if_ne (tgt := 43) hx hb dX11_dearer_31 (by decide) (fun c5 => ?_) (fun c5 => ?_)
          ·
            refine lv_aload_n hx hb dX11_dearer_43 rfl (lv_at hl 3 rfl) ?_
            refine lv_iload_n hx hb dX11_dearer_44 rfl (lv_at hl 2 rfl) ?_
            refine lv_iload_n hx hb dX11_dearer_45 rfl (lv_at hl 0 rfl) ?_
            have hPc := hP.sub (ws' := [(h0, .inr (11, f_h0)), (m3, .inl (cI, 8, .inl fm3)), (m4, .inl (cI, 8, .inl fm4)), (m5, .inl (cI, 8, .inl fm5)), (m7, .inl (cI, 4, .inl fm7)), (m8, .inl (cI, 4, .inl fm8)), (m9, .inl (cI, 4, .inl fm9)), (m10, .inl (cI, 34, .inl fm10))]) [0, 1, 2, 3, 4, 5, 6, 7] rfl
            refine va_calli (va_runV (As := [.int (nI k6), .int (nI k16)]) (rest := [.int a16_1]) ⟨hx, hb, hml, hown, hts⟩ (c_X11_goodNow l dC dI cI cZ cQ h0 m3 m4 m5 m7 m8 m9 m10 f_h0 fm3 fm4 fm5 fm7 fm8 fm9 fm10 k6 k16 nq H.size e_h0_3 e_h0_4 e_h0_5 e_h0_7 e_h0_8 e_h0_9 e_h0_10 (by omega) (by first | assumption | decide) (by omega) (by omega)) (cwV 2 hts gX11_dearer_X11_goodNow rfl rfl rfl (by decide +kernel) ⟨Nat.le_of_ble_eq_true rfl, Nat.le_of_ble_eq_true rfl⟩) ⟨fun a U g mk q => by obtain ⟨q0, q1, qP, qK⟩ := q; exact ⟨q0, q1, qP, va_K.moved (u := U) (U := U.calling g mk a) (Vm.Alike.refl U.vm) qK⟩, va_recv hK hP (ci := 11) (q0 := 0) rfl rfl, fun U hU hW => ⟨rfl, by rw [hU], by rw [hU]; exact hPc, va_K.moved hW.alike hK⟩⟩ rfl rfl hl.1 rfl (lv_room (Nat.le_of_ble_eq_true rfl)) dX11_dearer_46 ⟨Nat.le_of_ble_eq_true rfl, Nat.le_of_ble_eq_true rfl⟩) hS (fun q _ h => False.elim h) (fun q h => False.elim h) (fun r6 u7 t H1 locs ht hvm hw8 hB hz1 hk1 hS => ?_)
            have hP := hP.kept (fun k q hk => hk1 q.1 (hP k q hk).lt (fun h => h))
            clear hz1 hk1 hPc
            generalize H1 = H at hP hS ht ⊢
            try dsimp only at hw8
            refine lv_ineg hx hb dX11_dearer_49 ?_
            refine lv_topi (fun z9 ez9 => ?_)
            refine lv_iadd hx hb dX11_dearer_50 ?_
            refine lv_topi (fun z10 ez10 => ?_)
            refine lv_istore_n (lv' := [(1, .int z10), (3, .int (nI k16)), (2, .int (nI k6)), (0, .ref h0)]) hx hb dX11_dearer_51 rfl hl (by decide) rfl (fun ls hl => ?_)
            refine lv_iinc (v := nI (k16 + 1)) (lv' := [(3, .int (nI (k16 + 1))), (1, .int z10), (2, .int (nI k6)), (0, .ref h0)]) hx hb dX11_dearer_52 hl (k := 1) rfl ((rfl : nI k16 + Int32.ofInt 1 = nI k16 + 1).trans (nI_add k16 1)) (by decide) rfl (fun ls hl => ?_)
            refine lv_goto (tgt := 16) hx hb dX11_dearer_55 (by decide) ?_
            exact ih16 (k16 + 1) z10 _ _ _ (by omega) hP hS (lv_sub hl [0, 1, 2, 3] rfl)
          ·
            refine lv_aload_n hx hb dX11_dearer_34 rfl (lv_at hl 3 rfl) ?_
            refine lv_iload_n hx hb dX11_dearer_35 rfl (lv_at hl 2 rfl) ?_
            refine lv_iload_n hx hb dX11_dearer_36 rfl (lv_at hl 0 rfl) ?_
            have hPc := hP.sub (ws' := [(h0, .inr (11, f_h0)), (m3, .inl (cI, 8, .inl fm3)), (m4, .inl (cI, 8, .inl fm4)), (m5, .inl (cI, 8, .inl fm5)), (m7, .inl (cI, 4, .inl fm7)), (m8, .inl (cI, 4, .inl fm8)), (m9, .inl (cI, 4, .inl fm9)), (m10, .inl (cI, 34, .inl fm10))]) [0, 1, 2, 3, 4, 5, 6, 7] rfl
            refine va_calli (va_runV (As := [.int (nI k6), .int (nI k16)]) (rest := [.int a16_1]) ⟨hx, hb, hml, hown, hts⟩ (c_X11_goodNow l dC dI cI cZ cQ h0 m3 m4 m5 m7 m8 m9 m10 f_h0 fm3 fm4 fm5 fm7 fm8 fm9 fm10 k6 k16 nq H.size e_h0_3 e_h0_4 e_h0_5 e_h0_7 e_h0_8 e_h0_9 e_h0_10 (by omega) (by first | assumption | decide) (by omega) (by omega)) (cwV 2 hts gX11_dearer_X11_goodNow rfl rfl rfl (by decide +kernel) ⟨Nat.le_of_ble_eq_true rfl, Nat.le_of_ble_eq_true rfl⟩) ⟨fun a U g mk q => by obtain ⟨q0, q1, qP, qK⟩ := q; exact ⟨q0, q1, qP, va_K.moved (u := U) (U := U.calling g mk a) (Vm.Alike.refl U.vm) qK⟩, va_recv hK hP (ci := 11) (q0 := 0) rfl rfl, fun U hU hW => ⟨rfl, by rw [hU], by rw [hU]; exact hPc, va_K.moved hW.alike hK⟩⟩ rfl rfl hl.1 rfl (lv_room (Nat.le_of_ble_eq_true rfl)) dX11_dearer_37 ⟨Nat.le_of_ble_eq_true rfl, Nat.le_of_ble_eq_true rfl⟩) hS (fun q _ h => False.elim h) (fun q h => False.elim h) (fun r11 u12 t H1 locs ht hvm hw13 hB hz1 hk1 hS => ?_)
            have hP := hP.kept (fun k q hk => hk1 q.1 (hP k q hk).lt (fun h => h))
            clear hz1 hk1 hPc
            generalize H1 = H at hP hS ht ⊢
            try dsimp only at hw13
            refine lv_goto (tgt := 50) hx hb dX11_dearer_40 (by decide) ?_
            refine lv_iadd hx hb dX11_dearer_50 ?_
            refine lv_topi (fun z14 ez14 => ?_)
            refine lv_istore_n (lv' := [(1, .int z14), (3, .int (nI k16)), (2, .int (nI k6)), (0, .ref h0)]) hx hb dX11_dearer_51 rfl hl (by decide) rfl (fun ls hl => ?_)
            refine lv_iinc (v := nI (k16 + 1)) (lv' := [(3, .int (nI (k16 + 1))), (1, .int z14), (2, .int (nI k6)), (0, .ref h0)]) hx hb dX11_dearer_52 hl (k := 1) rfl ((rfl : nI k16 + Int32.ofInt 1 = nI k16 + 1).trans (nI_add k16 1)) (by decide) rfl (fun ls hl => ?_)
            refine lv_goto (tgt := 16) hx hb dX11_dearer_55 (by decide) ?_
            exact ih16 (k16 + 1) z14 _ _ _ (by omega) hP hS (lv_sub hl [0, 1, 2, 3] rfl)
