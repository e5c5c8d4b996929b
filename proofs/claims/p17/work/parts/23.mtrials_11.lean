set_option maxHeartbeats 4000000 in
set_option maxRecDepth 100000 in
theorem c_X11_handsThatFit (l : Launch) (dC : Nat → ClassId) (dI : Nat → Nat → Nat) (cI cZ cQ : ClassId) (h0 : Nat) (nq : Nat) (nh : Nat) (m3 : Nat) (m4 : Nat) (m5 : Nat) (m7 : Nat) (m8 : Nat) (wm : Nat) (m38 : Nat) (m39 : Nat) (m40 : Nat) (f_h0 : List Value) (fm3 : Nat → Int32) (fm4 : Nat → Int32) (fm5 : Nat → Int32) (fm7 : Nat → Int32) (fm8 : Nat → Int32) (fm38 : Nat → Int32) (fm39 : Nat → Int32) (fm40 : Nat → Int32) (sz : Nat) (e_h0_2 : f_h0[2]? = some (.int (nI nq))) (e_h0_6 : f_h0[6]? = some (.int (nI nh))) (e_h0_3 : f_h0[3]? = some (.ref m3)) (e_h0_4 : f_h0[4]? = some (.ref m4)) (e_h0_5 : f_h0[5]? = some (.ref m5)) (e_h0_7 : f_h0[7]? = some (.ref m7)) (e_h0_8 : f_h0[8]? = some (.ref m8)) (e_h0_37 : f_h0[37]? = some (.int (nI wm))) (e_h0_38 : f_h0[38]? = some (.ref m38)) (e_h0_39 : f_h0[39]? = some (.ref m39)) (e_h0_40 : f_h0[40]? = some (.ref m40)) (hnq : nq ≤ 8) (hci : cIn fm5 nq) (hnh : nh ≤ 4) (hwm : wm ≤ 6) (hqi : qLt fm38 wm nq) (hpi : cIn fm39 wm) : Met l yX11_handsThatFit wsX11_handsThatFit ({ frames := 4, cells := 0, slots := 0, locals := 134 }) (va_Pc [.ref h0] (fun U => U.heap.size = sz ∧ va_P (dC, dI) vwCl [(h0, .inr (11, f_h0)), (m3, .inl (cI, 8, .inl fm3)), (m4, .inl (cI, 8, .inl fm4)), (m5, .inl (cI, 8, .inl fm5)), (m7, .inl (cI, 4, .inl fm7)), (m8, .inl (cI, 4, .inl fm8)), (m38, .inl (cI, 6, .inl fm38)), (m39, .inl (cI, 6, .inl fm39)), (m40, .inl (cI, 6, .inl fm40))] U.heap ∧ va_K (dC, dI) vwCl (tys0 cI cZ cQ) U)) (va_Qi (fun (r : Int32) (u : Nat → Nat) => True) (fun (_ : Nat → Nat) (_ : State) => True) (fun _ : Nat => False)) 0 0 (fun _ : Nat => False) := by
  refine Met.ofW (cc := cX11_handsThatFit) (maxL := 5) (ret := (some .int)) (by decide) rfl ?_
  intro p e s m args below meth c s₁ B hml hv
  obtain ⟨rfl, hsz, hP, hK⟩ := hv
  have hx := B.exec
  have hb := B.bytes
  have hr := B.returns
  have hts := atoms_spec (ws := wsX11_handsThatFit) B.pre
  have hown : s.vm.findClass RX11 = some m.cls := findClass_of_methodNamed B.named
  have hlocks := B.notSynchronized
  have hi_X11 : ∀ w ∈ u_ws RX11 TX11 46, w ∈ wsX11_handsThatFit := fun _ h => List.mem_cons_of_mem _ (List.mem_append_right _ (h))
  subst hsz
  have hS : va_S (fun _ : Nat => False) s.heap s.heap [] := va_S.rf
  have hl := lv_entry ([.ref h0]) (n := 5) (Nat.le_of_ble_eq_true rfl)
  rw [lg_entry_eq]
  generalize (lg_sl ([.ref h0]) ++ List.replicate (5 - (lg_sl ([.ref h0])).length) Slot.unset).toArray = ls at hl ⊢
  have hl : lv_has ls 5 [(0, .ref h0)] := hl
  refine lv_iconst (v := 0) hx hb dX11_handsThatFit_0 (by decide) ?_
  refine lv_istore_n (lv' := [(1, .int 0), (0, .ref h0)]) hx hb dX11_handsThatFit_1 rfl hl (by decide) rfl (fun ls hl => ?_)
  refine lv_iconst (v := 0) hx hb dX11_handsThatFit_2 (by decide) ?_
  refine lv_istore_n (lv' := [(2, .int 0), (1, .int 0), (0, .ref h0)]) hx hb dX11_handsThatFit_3 rfl hl (by decide) rfl (fun ls hl => ?_)
  refine (fun (K : ∀ (d4 : Nat) (k4 : Nat) (a4_1 : Int32) (H : Heap) (locs : List Loc) (ls : Array Slot), k4 + d4 = nh → va_P (dC, dI) vwCl [(h0, .inr (11, f_h0)), (m3, .inl (cI, 8, .inl fm3)), (m4, .inl (cI, 8, .inl fm4)), (m5, .inl (cI, 8, .inl fm5)), (m7, .inl (cI, 4, .inl fm7)), (m8, .inl (cI, 4, .inl fm8)), (m38, .inl (cI, 6, .inl fm38)), (m39, .inl (cI, 6, .inl fm39)), (m40, .inl (cI, 6, .inl fm40))] H → va_S (fun _ : Nat => False) s.heap H locs → lv_has ls 5 [(2, .int (nI k4)), (1, .int a4_1), (0, .ref h0)] → W p l e _ s m _ below meth c H locs _ _ _ (F0 m 4 ls [])) => K nh 0 0 _ _ _ (by omega) hP hS (lv_sub hl [0, 1, 2] rfl)) ?_
  intro d4
  induction d4 with
  | zero =>
    intro k4 a4_1 H locs ls hk4 hP hS hl
    refine lv_iload_n hx hb dX11_handsThatFit_4 rfl (lv_at hl 0 rfl) ?_
    refine lv_aload_n hx hb dX11_handsThatFit_5 rfl (lv_at hl 2 rfl) ?_
    refine va_get (D := (dC, dI)) (ci := 11) (v := .int (nI nh)) (C := RX11) (T := TX11) (N := 46) hx hb hts hi_X11 hown hK hP 0 rfl rfl 6 (by decide) (hts (.fieldLink RX11 106 "LeftQuillsModel" "hands" "I") (wmx 1 rfl)) (fun _ h9 => h9) e_h0_6 dX11_handsThatFit_6 ?_
    refine lv_icmp_ge (tgt := 91) hx hb dX11_handsThatFit_9 (by decide) (fun c1 => ?_) (fun c1 => ?_)
    ·
      have c1 : nh ≤ k4 := (nI_leI (a := nh) (b := k4) (by omega) (by omega)).mp c1
      refine lv_iload_n hx hb dX11_handsThatFit_91 rfl (lv_at hl 1 rfl) ?_
      exact W.iret (v := a4_1) hx hb hr (fun t ht hW => ⟨⟨a4_1, (fun _ => 0), rfl, trivial, trivial⟩, hS.F ht⟩) hS.2.2 dX11_handsThatFit_92
    ·
      have c1 : ¬ nh ≤ k4 := fun h => c1 ((nI_leI (a := nh) (b := k4) (by omega) (by omega)).mpr h)
      omega
  | succ d4 ih4 =>
    intro k4 a4_1 H locs ls hk4 hP hS hl
    refine lv_iload_n hx hb dX11_handsThatFit_4 rfl (lv_at hl 0 rfl) ?_
    refine lv_aload_n hx hb dX11_handsThatFit_5 rfl (lv_at hl 2 rfl) ?_
    refine va_get (D := (dC, dI)) (ci := 11) (v := .int (nI nh)) (C := RX11) (T := TX11) (N := 46) hx hb hts hi_X11 hown hK hP 0 rfl rfl 6 (by decide) (hts (.fieldLink RX11 106 "LeftQuillsModel" "hands" "I") (wmx 1 rfl)) (fun _ h9 => h9) e_h0_6 dX11_handsThatFit_6 ?_
    refine lv_icmp_ge (tgt := 91) hx hb dX11_handsThatFit_9 (by decide) (fun c2 => ?_) (fun c2 => ?_)
    ·
      have c2 : nh ≤ k4 := (nI_leI (a := nh) (b := k4) (by omega) (by omega)).mp c2
      omega
    ·
      have c2 : ¬ nh ≤ k4 := fun h => c2 ((nI_leI (a := nh) (b := k4) (by omega) (by omega)).mpr h)
      refine lv_iconst (v := 1) hx hb dX11_handsThatFit_12 (by decide) ?_
      refine lv_istore_n (lv' := [(3, .int 1), (2, .int (nI k4)), (1, .int a4_1), (0, .ref h0)]) hx hb dX11_handsThatFit_13 rfl hl (by decide) rfl (fun ls hl => ?_)
      refine lv_iconst (v := 0) hx hb dX11_handsThatFit_14 (by decide) ?_
      refine lv_istore (lv' := [(4, .int 0), (3, .int 1), (2, .int (nI k4)), (1, .int a4_1), (0, .ref h0)]) hx hb dX11_handsThatFit_15 hl (by decide) rfl (fun ls hl => ?_)
      refine (fun (K : ∀ (d17 : Nat) (k17 : Nat) (a17_3 : Nat) (H : Heap) (locs : List Loc) (ls : Array Slot), k17 + d17 = wm → a17_3 ≤ 1 → va_P (dC, dI) vwCl [(h0, .inr (11, f_h0)), (m3, .inl (cI, 8, .inl fm3)), (m4, .inl (cI, 8, .inl fm4)), (m5, .inl (cI, 8, .inl fm5)), (m7, .inl (cI, 4, .inl fm7)), (m8, .inl (cI, 4, .inl fm8)), (m38, .inl (cI, 6, .inl fm38)), (m39, .inl (cI, 6, .inl fm39)), (m40, .inl (cI, 6, .inl fm40))] H → va_S (fun _ : Nat => False) s.heap H locs → lv_has ls 5 [(4, .int (nI k17)), (3, .int (nI a17_3)), (2, .int (nI k4)), (1, .int a4_1), (0, .ref h0)] → W p l e _ s m _ below meth c H locs _ _ _ (F0 m 17 ls [])) => K wm 0 1 _ _ _ (by omega) (by omega) hP hS (lv_sub hl [0, 1, 2, 3, 4] rfl)) ?_
      intro d17
      induction d17 with
      | zero =>
        intro k17 a17_3 H locs ls hk17 hn17_3 hP hS hl
        refine lv_iload hx hb dX11_handsThatFit_17 (lv_at hl 0 rfl) ?_
        refine lv_aload_n hx hb dX11_handsThatFit_19 rfl (lv_at hl 4 rfl) ?_
        refine va_get (D := (dC, dI)) (ci := 11) (v := .int (nI wm)) (C := RX11) (T := TX11) (N := 46) hx hb hts hi_X11 hown hK hP 0 rfl rfl 37 (by decide) (hts (.fieldLink RX11 168 "LeftQuillsModel" "wornMany" "I") (wmx 2 rfl)) (fun _ h9 => h9) e_h0_37 dX11_handsThatFit_20 ?_
        refine lv_icmp_ge (tgt := 71) hx hb dX11_handsThatFit_23 (by decide) (fun c3 => ?_) (fun c3 => ?_)
        ·
          have c3 : wm ≤ k17 := (nI_leI (a := wm) (b := k17) (by omega) (by omega)).mp c3
          refine lv_iload_n hx hb dX11_handsThatFit_71 rfl (lv_at hl 3 rfl) ?_
          refine lv_iload_n hx hb dX11_handsThatFit_72 rfl (lv_at hl 1 rfl) ?_
          refine lv_if_eq (tgt := 82) hx hb dX11_handsThatFit_73 (by decide) (fun c4 => ?_) (fun c4 => ?_)
          ·
            have c4 : a17_3 = 0 := (nI_eq (a := a17_3) (b := 0) (by omega) (by omega)).mp c4
            refine lv_iconst (v := 0) hx hb dX11_handsThatFit_82 (by decide) ?_
            refine lv_ior hx hb dX11_handsThatFit_83 ?_
            refine lv_topi (fun z5 ez5 => ?_)
            refine lv_istore_n (lv' := [(1, .int z5), (4, .int (nI k17)), (3, .int (nI a17_3)), (2, .int (nI k4)), (0, .ref h0)]) hx hb dX11_handsThatFit_84 rfl hl (by decide) rfl (fun ls hl => ?_)
            refine lv_iinc (v := nI (k4 + 1)) (lv' := [(2, .int (nI (k4 + 1))), (1, .int z5), (4, .int (nI k17)), (3, .int (nI a17_3)), (0, .ref h0)]) hx hb dX11_handsThatFit_85 hl (k := 3) rfl ((rfl : nI k4 + Int32.ofInt 1 = nI k4 + 1).trans (nI_add k4 1)) (by decide) rfl (fun ls hl => ?_)
            refine lv_goto (tgt := 4) hx hb dX11_handsThatFit_88 (by decide) ?_
            exact ih4 (k4 + 1) z5 _ _ _ (by omega) hP hS (lv_sub hl [0, 1, 4] rfl)
          ·
            have c4 : ¬ a17_3 = 0 := fun h => c4 ((nI_eq (a := a17_3) (b := 0) (by omega) (by omega)).mpr h)
            refine lv_iconst (v := 1) hx hb dX11_handsThatFit_76 (by decide) ?_
            refine lv_iload_n hx hb dX11_handsThatFit_77 rfl (lv_at hl 2 rfl) ?_
            refine lv_ishl hx hb dX11_handsThatFit_78 ?_
            refine lv_topi (fun z6 ez6 => ?_)
            refine lv_goto (tgt := 83) hx hb dX11_handsThatFit_79 (by decide) ?_
            refine lv_ior hx hb dX11_handsThatFit_83 ?_
            refine lv_topi (fun z7 ez7 => ?_)
            refine lv_istore_n (lv' := [(1, .int z7), (4, .int (nI k17)), (3, .int (nI a17_3)), (2, .int (nI k4)), (0, .ref h0)]) hx hb dX11_handsThatFit_84 rfl hl (by decide) rfl (fun ls hl => ?_)
            refine lv_iinc (v := nI (k4 + 1)) (lv' := [(2, .int (nI (k4 + 1))), (1, .int z7), (4, .int (nI k17)), (3, .int (nI a17_3)), (0, .ref h0)]) hx hb dX11_handsThatFit_85 hl (k := 3) rfl ((rfl : nI k4 + Int32.ofInt 1 = nI k4 + 1).trans (nI_add k4 1)) (by decide) rfl (fun ls hl => ?_)
            refine lv_goto (tgt := 4) hx hb dX11_handsThatFit_88 (by decide) ?_
            exact ih4 (k4 + 1) z7 _ _ _ (by omega) hP hS (lv_sub hl [0, 1, 4] rfl)
        ·
          have c3 : ¬ wm ≤ k17 := fun h => c3 ((nI_leI (a := wm) (b := k17) (by omega) (by omega)).mpr h)
          omega
      | succ d17 ih17 =>
        intro k17 a17_3 H locs ls hk17 hn17_3 hP hS hl
        refine lv_iload hx hb dX11_handsThatFit_17 (lv_at hl 0 rfl) ?_
        refine lv_aload_n hx hb dX11_handsThatFit_19 rfl (lv_at hl 4 rfl) ?_
        refine va_get (D := (dC, dI)) (ci := 11) (v := .int (nI wm)) (C := RX11) (T := TX11) (N := 46) hx hb hts hi_X11 hown hK hP 0 rfl rfl 37 (by decide) (hts (.fieldLink RX11 168 "LeftQuillsModel" "wornMany" "I") (wmx 2 rfl)) (fun _ h9 => h9) e_h0_37 dX11_handsThatFit_20 ?_
        refine lv_icmp_ge (tgt := 71) hx hb dX11_handsThatFit_23 (by decide) (fun c8 => ?_) (fun c8 => ?_)
        ·
          have c8 : wm ≤ k17 := (nI_leI (a := wm) (b := k17) (by omega) (by omega)).mp c8
          omega
        ·
          have c8 : ¬ wm ≤ k17 := fun h => c8 ((nI_leI (a := wm) (b := k17) (by omega) (by omega)).mpr h)
          refine lv_iload_n hx hb dX11_handsThatFit_26 rfl (lv_at hl 1 rfl) ?_
          refine lv_if_eq (tgt := 63) hx hb dX11_handsThatFit_27 (by decide) (fun c9 => ?_) (fun c9 => ?_)
          ·
            have c9 : a17_3 = 0 := (nI_eq (a := a17_3) (b := 0) (by omega) (by omega)).mp c9
            refine lv_iconst (v := 0) hx hb dX11_handsThatFit_63 (by decide) ?_
            refine lv_istore_n (lv' := [(3, .int 0), (4, .int (nI k17)), (2, .int (nI k4)), (1, .int a4_1), (0, .ref h0)]) hx hb dX11_handsThatFit_64 rfl hl (by decide) rfl (fun ls hl => ?_)
            refine lv_iinc (v := nI (k17 + 1)) (lv' := [(4, .int (nI (k17 + 1))), (3, .int 0), (2, .int (nI k4)), (1, .int a4_1), (0, .ref h0)]) hx hb dX11_handsThatFit_65 hl (k := 1) rfl ((rfl : nI k17 + Int32.ofInt 1 = nI k17 + 1).trans (nI_add k17 1)) (by decide) rfl (fun ls hl => ?_)
            refine lv_goto (tgt := 17) hx hb dX11_handsThatFit_68 (by decide) ?_
            exact ih17 (k17 + 1) 0 _ _ _ (by omega) (by omega) hP hS (lv_sub hl [0, 1, 2, 3, 4] rfl)
          ·
            have c9 : ¬ a17_3 = 0 := fun h => c9 ((nI_eq (a := a17_3) (b := 0) (by omega) (by omega)).mpr h)
            refine lv_aload_n hx hb dX11_handsThatFit_30 rfl (lv_at hl 4 rfl) ?_
            refine lv_aload_n hx hb dX11_handsThatFit_31 rfl (lv_at hl 4 rfl) ?_
            refine va_get (D := (dC, dI)) (ci := 11) (v := .ref m38) (C := RX11) (T := TX11) (N := 46) hx hb hts hi_X11 hown hK hP 0 rfl rfl 38 (by decide) (hts (.fieldLink RX11 74 "LeftQuillsModel" "wornQuill" "[I") (wmx 3 rfl)) (fun _ h9 => h9) e_h0_38 dX11_handsThatFit_32 ?_
            refine lv_iload hx hb dX11_handsThatFit_35 (lv_at hl 0 rfl) ?_
            refine va_iald hx hb hK hP 6 0 rfl rfl (vp_in_nI (n := k17) (N := 6) (by omega) (by decide)) dX11_handsThatFit_37 ?_
            refine W.eq (g2 := F0 m 38 ls [.int (fm38 k17), .ref h0]) (congrArg (fun y9 => F0 m 38 ls (.int (fm38 y9) :: [.ref h0])) ((nI_clamp (n := k17) (by omega)))) ?_
            refine lv_topi (fun z10 ez10 => ?_)
            obtain ⟨j11, hj11, ejj11⟩ := hqi k17 (by omega)
            obtain rfl : z10 = nI j11 := ez10.trans (ejj11)
            refine lv_iload_n hx hb dX11_handsThatFit_38 rfl (lv_at hl 2 rfl) ?_
            refine lv_aload_n hx hb dX11_handsThatFit_39 rfl (lv_at hl 4 rfl) ?_
            refine va_get (D := (dC, dI)) (ci := 11) (v := .ref m39) (C := RX11) (T := TX11) (N := 46) hx hb hts hi_X11 hown hK hP 0 rfl rfl 39 (by decide) (hts (.fieldLink RX11 77 "LeftQuillsModel" "wornPages" "[I") (wmx 4 rfl)) (fun _ h9 => h9) e_h0_39 dX11_handsThatFit_40 ?_
            refine lv_iload hx hb dX11_handsThatFit_43 (lv_at hl 0 rfl) ?_
            refine va_iald hx hb hK hP 7 0 rfl rfl (vp_in_nI (n := k17) (N := 6) (by omega) (by decide)) dX11_handsThatFit_45 ?_
            refine W.eq (g2 := F0 m 46 ls [.int (fm39 k17), .int (nI k4), .int (nI j11), .ref h0]) (congrArg (fun y9 => F0 m 46 ls (.int (fm39 y9) :: [.int (nI k4), .int (nI j11), .ref h0])) ((nI_clamp (n := k17) (by omega)))) ?_
            refine lv_topi (fun z12 ez12 => ?_)
            obtain ⟨j13, hj13, ejj13⟩ := hpi k17 (by omega)
            obtain rfl : z12 = nI j13 := ez12.trans (ejj13)
            have hPc := hP.sub (ws' := [(h0, .inr (11, f_h0)), (m3, .inl (cI, 8, .inl fm3)), (m4, .inl (cI, 8, .inl fm4)), (m5, .inl (cI, 8, .inl fm5)), (m7, .inl (cI, 4, .inl fm7)), (m8, .inl (cI, 4, .inl fm8))]) [0, 1, 2, 3, 4, 5] rfl
            refine va_calli (va_runV (As := [.int (nI j11), .int (nI k4), .int (nI j13)]) (rest := []) ⟨hx, hb, hml, hown, hts⟩ (c_X11_softAfter l dC dI cI cZ cQ h0 m3 m4 m5 m7 m8 f_h0 fm3 fm4 fm5 fm7 fm8 j11 k4 j13 nq H.size e_h0_3 e_h0_4 e_h0_5 e_h0_7 e_h0_8 (by omega) (by first | assumption | decide) (by omega) (by omega) (by omega)) (cwV 3 hts gX11_handsThatFit_X11_softAfter rfl rfl rfl (by decide +kernel) ⟨Nat.le_of_ble_eq_true rfl, Nat.le_of_ble_eq_true rfl⟩) ⟨fun a U g mk q => by obtain ⟨q0, q1, qP, qK⟩ := q; exact ⟨q0, q1, qP, va_K.moved (u := U) (U := U.calling g mk a) (Vm.Alike.refl U.vm) qK⟩, va_recv hK hP (ci := 11) (q0 := 0) rfl rfl, fun U hU hW => ⟨rfl, by rw [hU], by rw [hU]; exact hPc, va_K.moved hW.alike hK⟩⟩ rfl rfl hl.1 rfl (lv_room (Nat.le_of_ble_eq_true rfl)) dX11_handsThatFit_46 ⟨Nat.le_of_ble_eq_true rfl, Nat.le_of_ble_eq_true rfl⟩) hS (fun q _ h => False.elim h) (fun q h => False.elim h) (fun r14 u15 t H1 locs ht hvm hw16 hB hz1 hk1 hS => ?_)
            have hP := hP.kept (fun k q hk => hk1 q.1 (hP k q hk).lt (fun h => h))
            clear hz1 hk1 hPc
            generalize H1 = H at hP hS ht ⊢
            try dsimp only at hw16
            refine lv_aload_n hx hb dX11_handsThatFit_49 rfl (lv_at hl 4 rfl) ?_
            refine va_get (D := (dC, dI)) (ci := 11) (v := .ref m40) (C := RX11) (T := TX11) (N := 46) hx hb hts hi_X11 hown hK hP 0 rfl rfl 40 (by decide) (hts (.fieldLink RX11 80 "LeftQuillsModel" "wornSoft" "[I") (wmx 5 rfl)) (fun _ h9 => h9) e_h0_40 dX11_handsThatFit_50 ?_
            refine lv_iload hx hb dX11_handsThatFit_53 (lv_at hl 0 rfl) ?_
            refine va_iald hx hb hK hP 8 0 rfl rfl (vp_in_nI (n := k17) (N := 6) (by omega) (by decide)) dX11_handsThatFit_55 ?_
            refine W.eq (g2 := F0 m 56 ls [.int (fm40 k17), .int r14]) (congrArg (fun y9 => F0 m 56 ls (.int (fm40 y9) :: [.int r14])) ((nI_clamp (n := k17) (by omega)))) ?_
            refine lv_icmp_ne (tgt := 63) hx hb dX11_handsThatFit_56 (by decide) (fun c17 => ?_) (fun c17 => ?_)
            ·
              refine lv_iconst (v := 0) hx hb dX11_handsThatFit_63 (by decide) ?_
              refine lv_istore_n (lv' := [(3, .int 0), (4, .int (nI k17)), (2, .int (nI k4)), (1, .int a4_1), (0, .ref h0)]) hx hb dX11_handsThatFit_64 rfl hl (by decide) rfl (fun ls hl => ?_)
              refine lv_iinc (v := nI (k17 + 1)) (lv' := [(4, .int (nI (k17 + 1))), (3, .int 0), (2, .int (nI k4)), (1, .int a4_1), (0, .ref h0)]) hx hb dX11_handsThatFit_65 hl (k := 1) rfl ((rfl : nI k17 + Int32.ofInt 1 = nI k17 + 1).trans (nI_add k17 1)) (by decide) rfl (fun ls hl => ?_)
              refine lv_goto (tgt := 17) hx hb dX11_handsThatFit_68 (by decide) ?_
              exact ih17 (k17 + 1) 0 _ _ _ (by omega) (by omega) hP hS (lv_sub hl [0, 1, 2, 3, 4] rfl)
            ·
              refine lv_iconst (v := 1) hx hb dX11_handsThatFit_59 (by decide) ?_
              refine lv_goto (tgt := 64) hx hb dX11_handsThatFit_60 (by decide) ?_
              refine lv_istore_n (lv' := [(3, .int 1), (4, .int (nI k17)), (2, .int (nI k4)), (1, .int a4_1), (0, .ref h0)]) hx hb dX11_handsThatFit_64 rfl hl (by decide) rfl (fun ls hl => ?_)
              refine lv_iinc (v := nI (k17 + 1)) (lv' := [(4, .int (nI (k17 + 1))), (3, .int 1), (2, .int (nI k4)), (1, .int a4_1), (0, .ref h0)]) hx hb dX11_handsThatFit_65 hl (k := 1) rfl ((rfl : nI k17 + Int32.ofInt 1 = nI k17 + 1).trans (nI_add k17 1)) (by decide) rfl (fun ls hl => ?_)
              refine lv_goto (tgt := 17) hx hb dX11_handsThatFit_68 (by decide) ?_
              exact ih17 (k17 + 1) 1 _ _ _ (by omega) (by omega) hP hS (lv_sub hl [0, 1, 2, 3, 4] rfl)
