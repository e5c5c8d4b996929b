set_option maxHeartbeats 4000000 in
set_option maxRecDepth 100000 in
theorem c_X11_pagesFrom (l : Launch) (dC : Nat → ClassId) (dI : Nat → Nat → Nat) (cI cZ cQ : ClassId) (h0 : Nat) (m3 : Nat) (m4 : Nat) (m5 : Nat) (m7 : Nat) (m8 : Nat) (m9 : Nat) (m10 : Nat) (f_h0 : List Value) (fm3 : Nat → Int32) (fm4 : Nat → Int32) (fm5 : Nat → Int32) (fm7 : Nat → Int32) (fm8 : Nat → Int32) (fm9 : Nat → Int32) (fm10 : Nat → Int32) (a0 : Int32) (j : Nat) (k : Nat) (mo : Nat) (nq : Nat) (sz : Nat) (e_h0_3 : fAt f_h0 3 = some (.ref m3)) (e_h0_4 : fAt f_h0 4 = some (.ref m4)) (e_h0_5 : fAt f_h0 5 = some (.ref m5)) (e_h0_7 : fAt f_h0 7 = some (.ref m7)) (e_h0_8 : fAt f_h0 8 = some (.ref m8)) (e_h0_9 : fAt f_h0 9 = some (.ref m9)) (e_h0_10 : fAt f_h0 10 = some (.ref m10)) (hnq : nq ≤ 8) (hci : cIn fm5 nq) (hj : j < nq) (hk : k < 4) (hmo : mo ≤ 999) : Met l yX11_pagesFrom wsX11_pagesFrom ({ frames := 3, cells := 0, slots := 0, locals := 109 }) (va_Pc [.ref h0, .int a0, .int (nI j), .int (nI k), .int (nI mo)] (fun U => U.heap.size = sz ∧ va_P (dC, dI) vwCl [(h0, .inr (11, f_h0)), (m3, .inl (cI, 8, .inl fm3)), (m4, .inl (cI, 8, .inl fm4)), (m5, .inl (cI, 8, .inl fm5)), (m7, .inl (cI, 4, .inl fm7)), (m8, .inl (cI, 4, .inl fm8)), (m9, .inl (cI, 4, .inl fm9)), (m10, .inl (cI, 34, .inl fm10))] U.heap ∧ va_K (dC, dI) vwCl (tys0 cI cZ cQ) U)) (va_Qi (fun (r : Int32) (u : Nat → Nat) => True) (fun (_ : Nat → Nat) (_ : State) => True) (fun _ : Nat => False)) 0 0 (fun _ : Nat => False) := by
  refine Met.ofW (cc := cX11_pagesFrom) (maxL := 7) (ret := (some .int)) (by decide) rfl ?_
  intro p e s m args below meth c s₁ B hml hv
  obtain ⟨rfl, hsz, hP, hK⟩ := hv
  have hx := B.exec
  have hb := B.bytes
  have hr := B.returns
  have hts := atoms_spec (ws := wsX11_pagesFrom) B.pre
  have hown : s.vm.findClass RX11 = some m.cls := findClass_of_methodNamed B.named
  have hlocks := B.notSynchronized
  have hi_X11 : ∀ w ∈ u_ws RX11 TX11 46, w ∈ wsX11_pagesFrom := fun _ h => List.mem_cons_of_mem _ (List.mem_append_right _ (h))
  subst hsz
  have hS : va_S (fun _ : Nat => False) s.heap s.heap [] := va_S.rf
  have hl := lv_entry ([.ref h0, .int a0, .int (nI j), .int (nI k), .int (nI mo)]) (n := 7) (Nat.le_of_ble_eq_true rfl)
  rw [lg_entry_eq]
  generalize (lg_sl ([.ref h0, .int a0, .int (nI j), .int (nI k), .int (nI mo)]) ++ List.replicate (7 - (lg_sl ([.ref h0, .int a0, .int (nI j), .int (nI k), .int (nI mo)])).length) Slot.unset).toArray = ls at hl ⊢
  have hl : lv_has ls 7 [(0, .ref h0), (1, .int a0), (2, .int (nI j)), (3, .int (nI k)), (4, .int (nI mo))] := hl
  refine lv_iconst (v := 0) hx hb dX11_pagesFrom_0 (by decide) ?_
  refine lv_istore (lv' := [(5, .int 0), (0, .ref h0), (1, .int a0), (2, .int (nI j)), (3, .int (nI k)), (4, .int (nI mo))]) hx hb dX11_pagesFrom_1 hl (by decide) rfl (fun ls hl => ?_)
  refine lv_aload_n hx hb dX11_pagesFrom_3 rfl (lv_at hl 1 rfl) ?_
  refine lv_iload_n hx hb dX11_pagesFrom_4 rfl (lv_at hl 2 rfl) ?_
  refine lv_iload_n hx hb dX11_pagesFrom_5 rfl (lv_at hl 3 rfl) ?_
  refine lv_iload_n hx hb dX11_pagesFrom_6 rfl (lv_at hl 4 rfl) ?_
  have hPc := hP.sub (ws' := [(h0, .inr (11, f_h0)), (m3, .inl (cI, 8, .inl fm3)), (m4, .inl (cI, 8, .inl fm4)), (m5, .inl (cI, 8, .inl fm5)), (m7, .inl (cI, 4, .inl fm7)), (m8, .inl (cI, 4, .inl fm8))]) [0, 1, 2, 3, 4, 5] rfl
  refine va_calli (va_runV (As := [.int a0, .int (nI j), .int (nI k)]) (rest := []) ⟨hx, hb, hml, hown, hts⟩ (c_X11_softBehind l dC dI cI cZ cQ h0 m3 m4 m5 m7 m8 f_h0 fm3 fm4 fm5 fm7 fm8 a0 j k nq s.heap.size e_h0_3 e_h0_4 e_h0_5 e_h0_7 e_h0_8 (by omega) (by first | assumption | decide) (by omega) (by omega)) (cwV 3 hts gX11_pagesFrom_X11_softBehind rfl rfl rfl hd_X11_softBehind_RX11 ⟨Nat.le_of_ble_eq_true rfl, Nat.le_of_ble_eq_true rfl⟩) (pv_R (va_recv hK hP (ci := 11) (q0 := 0) rfl rfl) hK hPc) rfl rfl hl.1 rfl (lv_room (Nat.le_of_ble_eq_true rfl)) dX11_pagesFrom_7 ⟨Nat.le_of_ble_eq_true rfl, Nat.le_of_ble_eq_true rfl⟩) hS (fun q _ h => False.elim h) (fun q h => False.elim h) (fun r1 u2 t H1 locs ht hvm hw3 hB hz1 hk1 hS => ?_)
  have hP := hP.kept (fun k q hk => hk1 q.1 (hP k q hk).lt (fun h => h))
  clear hz1 hk1 hPc
  generalize H1 = H at hP hS ht ⊢
  try dsimp only at hw3
  refine lv_istore (lv' := [(6, .int r1), (5, .int 0), (0, .ref h0), (1, .int a0), (2, .int (nI j)), (3, .int (nI k)), (4, .int (nI mo))]) hx hb dX11_pagesFrom_10 hl (by decide) rfl (fun ls hl => ?_)
  refine (fun (K : ∀ (d12 : Nat) (k12 : Nat) (a12_6 : Int32) (H : Heap) (locs : List Loc) (ls : Array Slot), k12 + d12 = mo → va_P (dC, dI) vwCl [(h0, .inr (11, f_h0)), (m3, .inl (cI, 8, .inl fm3)), (m4, .inl (cI, 8, .inl fm4)), (m5, .inl (cI, 8, .inl fm5)), (m7, .inl (cI, 4, .inl fm7)), (m8, .inl (cI, 4, .inl fm8)), (m9, .inl (cI, 4, .inl fm9)), (m10, .inl (cI, 34, .inl fm10))] H → va_S (fun _ : Nat => False) s.heap H locs → lv_has ls 7 [(5, .int (nI k12)), (6, .int a12_6), (0, .ref h0), (1, .int a0), (2, .int (nI j)), (3, .int (nI k)), (4, .int (nI mo))] → W p l e _ s m _ below meth c H locs _ _ _ (F0 m 12 ls [])) => K mo 0 r1 _ _ _ (by omega) hP hS (lv_sub hl [1, 0, 2, 3, 4, 5, 6] rfl)) ?_
  intro d12
  induction d12 with
  | zero =>
    intro k12 a12_6 H locs ls hk12 hP hS hl
    refine lv_iload hx hb dX11_pagesFrom_12 (lv_at hl 0 rfl) ?_
    refine lv_iload hx hb dX11_pagesFrom_14 (lv_at hl 6 rfl) ?_
    refine lv_icmp_ge (tgt := 59) hx hb dX11_pagesFrom_16 (by decide) (fun c4 => ?_) (fun c4 => ?_)
    ·
      have c4 : mo ≤ k12 := (nI_leI (a := mo) (b := k12) (by omega) (by omega)).mp c4
      refine lv_iload hx hb dX11_pagesFrom_59 (lv_at hl 0 rfl) ?_
      exact W.iret (v := nI k12) hx hb hr (fun t ht hW => ⟨⟨nI k12, (fun _ => 0), rfl, trivial, trivial⟩, hS.F ht⟩) hS.2.2 dX11_pagesFrom_61
    ·
      have c4 : ¬ mo ≤ k12 := fun h => c4 ((nI_leI (a := mo) (b := k12) (by omega) (by omega)).mpr h)
      omega
  | succ d12 ih12 =>
    intro k12 a12_6 H locs ls hk12 hP hS hl
    refine lv_iload hx hb dX11_pagesFrom_12 (lv_at hl 0 rfl) ?_
    refine lv_iload hx hb dX11_pagesFrom_14 (lv_at hl 6 rfl) ?_
    refine lv_icmp_ge (tgt := 59) hx hb dX11_pagesFrom_16 (by decide) (fun c5 => ?_) (fun c5 => ?_)
    ·
      have c5 : mo ≤ k12 := (nI_leI (a := mo) (b := k12) (by omega) (by omega)).mp c5
      omega
    ·
      have c5 : ¬ mo ≤ k12 := fun h => c5 ((nI_leI (a := mo) (b := k12) (by omega) (by omega)).mpr h)
      refine lv_iload hx hb dX11_pagesFrom_19 (lv_at hl 1 rfl) ?_
      refine lv_bipush (v := 50) hx hb dX11_pagesFrom_21 (by decide) ?_
      refine lv_icmp_gt (tgt := 59) hx hb dX11_pagesFrom_23 (by decide) (fun c6 => ?_) (fun c6 => ?_)
      ·
        refine lv_iload hx hb dX11_pagesFrom_59 (lv_at hl 0 rfl) ?_
        exact W.iret (v := nI k12) hx hb hr (fun t ht hW => ⟨⟨nI k12, (fun _ => 0), rfl, trivial, trivial⟩, hS.F ht⟩) hS.2.2 dX11_pagesFrom_61
      ·
        refine lv_aload_n hx hb dX11_pagesFrom_26 rfl (lv_at hl 2 rfl) ?_
        refine lv_aload_n hx hb dX11_pagesFrom_27 rfl (lv_at hl 2 rfl) ?_
        refine va_get (D := (dC, dI)) (ci := 11) (v := .ref m10) (C := RX11) (T := TX11) (N := 46) hx hb hts hi_X11 hown hK hP 0 rfl rfl 10 (by decide) (hts (.fieldLink RX11 28 "LeftQuillsModel" "now" "[I") (wmx 1 rfl)) (fun _ h9 => h9) e_h0_10 dX11_pagesFrom_28 ?_
        refine lv_bipush (v := 8) hx hb dX11_pagesFrom_31 (by decide) ?_
        refine lv_iload_n hx hb dX11_pagesFrom_33 rfl (lv_at hl 4 rfl) ?_
        refine lv_iadd hx hb dX11_pagesFrom_34 ?_
        refine lv_topi (fun z7 ez7 => ?_)
        obtain rfl : z7 = nI (8 + j) := ez7.trans (nI_add 8 j)
        refine va_iald hx hb hK hP 7 0 rfl rfl (vp_in_nI (n := 8 + j) (N := 34) (by omega) (by decide)) dX11_pagesFrom_35 ?_
        refine W.eq (g2 := F0 m 36 ls [.int (fm10 (8 + j)), .ref h0]) (congrArg (fun y9 => F0 m 36 ls (.int (fm10 y9) :: [.ref h0])) ((nI_clamp (n := 8 + j) (by omega)))) ?_
        refine lv_iload_n hx hb dX11_pagesFrom_36 rfl (lv_at hl 5 rfl) ?_
        have hPc := hP.sub (ws' := [(h0, .inr (11, f_h0)), (m9, .inl (cI, 4, .inl fm9))]) [0, 6] rfl
        refine va_calli (va_runV (As := [.int (fm10 (8 + j)), .int (nI k)]) (rest := []) ⟨hx, hb, hml, hown, hts⟩ (c_X11_suits l dC dI cI cZ cQ h0 m9 f_h0 fm9 (fm10 (8 + j)) k H.size e_h0_9 (by omega)) (cwV 2 hts gX11_pagesFrom_X11_suits rfl rfl rfl hd_X11_suits_RX11 ⟨Nat.le_of_ble_eq_true rfl, Nat.le_of_ble_eq_true rfl⟩) (pv_R (va_recv hK hP (ci := 11) (q0 := 0) rfl rfl) hK hPc) rfl rfl hl.1 rfl (lv_room (Nat.le_of_ble_eq_true rfl)) dX11_pagesFrom_37 ⟨Nat.le_of_ble_eq_true rfl, Nat.le_of_ble_eq_true rfl⟩) hS (fun q _ h => False.elim h) (fun q h => False.elim h) (fun r8 u9 t H1 locs ht hvm hw10 hB hz1 hk1 hS => ?_)
        have hP := hP.kept (fun k q hk => hk1 q.1 (hP k q hk).lt (fun h => h))
        clear hz1 hk1 hPc
        generalize H1 = H at hP hS ht ⊢
        try dsimp only at hw10
        rcases hw10 with rfl | rfl
        ·
          refine lv_if_eq (tgt := 59) hx hb dX11_pagesFrom_40 (by decide) (fun c11 => ?_) (fun c11 => ?_)
          · exact absurd c11 (by decide)
          clear c11
          refine lv_iinc (v := nI (k12 + 1)) (lv' := [(5, .int (nI (k12 + 1))), (6, .int a12_6), (0, .ref h0), (1, .int a0), (2, .int (nI j)), (3, .int (nI k)), (4, .int (nI mo))]) hx hb dX11_pagesFrom_43 hl (k := 0) rfl ((rfl : nI k12 + Int32.ofInt 1 = nI k12 + 1).trans (nI_add k12 1)) (by decide) rfl (fun ls hl => ?_)
          refine lv_aload_n hx hb dX11_pagesFrom_46 rfl (lv_at hl 2 rfl) ?_
          refine lv_iload hx hb dX11_pagesFrom_47 (lv_at hl 1 rfl) ?_
          refine lv_iload_n hx hb dX11_pagesFrom_49 rfl (lv_at hl 4 rfl) ?_
          refine lv_iload_n hx hb dX11_pagesFrom_50 rfl (lv_at hl 5 rfl) ?_
          have hPc := hP.sub (ws' := [(h0, .inr (11, f_h0)), (m3, .inl (cI, 8, .inl fm3)), (m4, .inl (cI, 8, .inl fm4)), (m5, .inl (cI, 8, .inl fm5)), (m7, .inl (cI, 4, .inl fm7)), (m8, .inl (cI, 4, .inl fm8))]) [0, 1, 2, 3, 4, 5] rfl
          refine va_calli (va_runV (As := [.int a12_6, .int (nI j), .int (nI k)]) (rest := []) ⟨hx, hb, hml, hown, hts⟩ (c_X11_softBehind l dC dI cI cZ cQ h0 m3 m4 m5 m7 m8 f_h0 fm3 fm4 fm5 fm7 fm8 a12_6 j k nq H.size e_h0_3 e_h0_4 e_h0_5 e_h0_7 e_h0_8 (by omega) (by first | assumption | decide) (by omega) (by omega)) (cwV 3 hts gX11_pagesFrom_X11_softBehind rfl rfl rfl hd_X11_softBehind_RX11 ⟨Nat.le_of_ble_eq_true rfl, Nat.le_of_ble_eq_true rfl⟩) (pv_R (va_recv hK hP (ci := 11) (q0 := 0) rfl rfl) hK hPc) rfl rfl hl.1 rfl (lv_room (Nat.le_of_ble_eq_true rfl)) dX11_pagesFrom_51 ⟨Nat.le_of_ble_eq_true rfl, Nat.le_of_ble_eq_true rfl⟩) hS (fun q _ h => False.elim h) (fun q h => False.elim h) (fun r12 u13 t H1 locs ht hvm hw14 hB hz1 hk1 hS => ?_)
          have hP := hP.kept (fun k q hk => hk1 q.1 (hP k q hk).lt (fun h => h))
          clear hz1 hk1 hPc
          generalize H1 = H at hP hS ht ⊢
          try dsimp only at hw14
          refine lv_istore (lv' := [(6, .int r12), (5, .int (nI (k12 + 1))), (0, .ref h0), (1, .int a0), (2, .int (nI j)), (3, .int (nI k)), (4, .int (nI mo))]) hx hb dX11_pagesFrom_54 hl (by decide) rfl (fun ls hl => ?_)
          refine lv_goto (tgt := 12) hx hb dX11_pagesFrom_56 (by decide) ?_
          exact ih12 (k12 + 1) r12 _ _ _ (by omega) hP hS (lv_sub hl [1, 0, 2, 3, 4, 5, 6] rfl)
        ·
          refine lv_if_eq (tgt := 59) hx hb dX11_pagesFrom_40 (by decide) (fun c15 => ?_) (fun c15 => ?_)
          rotate_left
          · exact absurd c15 (by decide)
          clear c15
          refine lv_iload hx hb dX11_pagesFrom_59 (lv_at hl 0 rfl) ?_
          exact W.iret (v := nI k12) hx hb hr (fun t ht hW => ⟨⟨nI k12, (fun _ => 0), rfl, trivial, trivial⟩, hS.F ht⟩) hS.2.2 dX11_pagesFrom_61
set_option maxHeartbeats 4000000 in
set_option maxRecDepth 100000 in
theorem c_X11_goodNow (l : Launch) (dC : Nat → ClassId) (dI : Nat → Nat → Nat) (cI cZ cQ : ClassId) (h0 : Nat) (m3 : Nat) (m4 : Nat) (m5 : Nat) (m7 : Nat) (m8 : Nat) (m9 : Nat) (m10 : Nat) (f_h0 : List Value) (fm3 : Nat → Int32) (fm4 : Nat → Int32) (fm5 : Nat → Int32) (fm7 : Nat → Int32) (fm8 : Nat → Int32) (fm9 : Nat → Int32) (fm10 : Nat → Int32) (j : Nat) (k : Nat) (nq : Nat) (sz : Nat) (e_h0_3 : fAt f_h0 3 = some (.ref m3)) (e_h0_4 : fAt f_h0 4 = some (.ref m4)) (e_h0_5 : fAt f_h0 5 = some (.ref m5)) (e_h0_7 : fAt f_h0 7 = some (.ref m7)) (e_h0_8 : fAt f_h0 8 = some (.ref m8)) (e_h0_9 : fAt f_h0 9 = some (.ref m9)) (e_h0_10 : fAt f_h0 10 = some (.ref m10)) (hnq : nq ≤ 8) (hci : cIn fm5 nq) (hj : j < nq) (hk : k < 4) : Met l yX11_goodNow wsX11_goodNow ({ frames := 4, cells := 0, slots := 0, locals := 135 }) (va_Pc [.ref h0, .int (nI j), .int (nI k)] (fun U => U.heap.size = sz ∧ va_P (dC, dI) vwCl [(h0, .inr (11, f_h0)), (m3, .inl (cI, 8, .inl fm3)), (m4, .inl (cI, 8, .inl fm4)), (m5, .inl (cI, 8, .inl fm5)), (m7, .inl (cI, 4, .inl fm7)), (m8, .inl (cI, 4, .inl fm8)), (m9, .inl (cI, 4, .inl fm9)), (m10, .inl (cI, 34, .inl fm10))] U.heap ∧ va_K (dC, dI) vwCl (tys0 cI cZ cQ) U)) (va_Qi (fun (r : Int32) (u : Nat → Nat) => True) (fun (_ : Nat → Nat) (_ : State) => True) (fun _ : Nat => False)) 0 0 (fun _ : Nat => False) := by
  refine Met.ofW (cc := cX11_goodNow) (maxL := 3) (ret := (some .int)) (by decide) rfl ?_
  intro p e s m args below meth c s₁ B hml hv
  obtain ⟨rfl, hsz, hP, hK⟩ := hv
  have hx := B.exec
  have hb := B.bytes
  have hr := B.returns
  have hts := atoms_spec (ws := wsX11_goodNow) B.pre
  have hown : s.vm.findClass RX11 = some m.cls := findClass_of_methodNamed B.named
  have hlocks := B.notSynchronized
  have hi_X11 : ∀ w ∈ u_ws RX11 TX11 46, w ∈ wsX11_goodNow := fun _ h => List.mem_cons_of_mem _ (List.mem_append_right _ (h))
  subst hsz
  have hS : va_S (fun _ : Nat => False) s.heap s.heap [] := va_S.rf
  have hl := lv_entry ([.ref h0, .int (nI j), .int (nI k)]) (n := 3) (Nat.le_of_ble_eq_true rfl)
  rw [lg_entry_eq]
  generalize (lg_sl ([.ref h0, .int (nI j), .int (nI k)]) ++ List.replicate (3 - (lg_sl ([.ref h0, .int (nI j), .int (nI k)])).length) Slot.unset).toArray = ls at hl ⊢
  have hl : lv_has ls 3 [(0, .ref h0), (1, .int (nI j)), (2, .int (nI k))] := hl
  refine lv_aload_n hx hb dX11_goodNow_0 rfl (lv_at hl 0 rfl) ?_
  refine lv_aload_n hx hb dX11_goodNow_1 rfl (lv_at hl 0 rfl) ?_
  refine va_get (D := (dC, dI)) (ci := 11) (v := .ref m10) (C := RX11) (T := TX11) (N := 46) hx hb hts hi_X11 hown hK hP 0 rfl rfl 10 (by decide) (hts (.fieldLink RX11 28 "LeftQuillsModel" "now" "[I") (wmx 1 rfl)) (fun _ h9 => h9) e_h0_10 dX11_goodNow_2 ?_
  refine lv_bipush (v := 16) hx hb dX11_goodNow_5 (by decide) ?_
  refine lv_iload_n hx hb dX11_goodNow_7 rfl (lv_at hl 1 rfl) ?_
  refine lv_iadd hx hb dX11_goodNow_8 ?_
  refine lv_topi (fun z1 ez1 => ?_)
  obtain rfl : z1 = nI (16 + j) := ez1.trans (nI_add 16 j)
  refine va_iald hx hb hK hP 7 0 rfl rfl (vp_in_nI (n := 16 + j) (N := 34) (by omega) (by decide)) dX11_goodNow_9 ?_
  refine W.eq (g2 := F0 m 10 ls [.int (fm10 (16 + j)), .ref h0]) (congrArg (fun y9 => F0 m 10 ls (.int (fm10 y9) :: [.ref h0])) ((nI_clamp (n := 16 + j) (by omega)))) ?_
  refine lv_iload_n hx hb dX11_goodNow_10 rfl (lv_at hl 1 rfl) ?_
  refine lv_iload_n hx hb dX11_goodNow_11 rfl (lv_at hl 2 rfl) ?_
  refine lv_sipush (v := 999) hx hb dX11_goodNow_12 (by decide) ?_
  have hPc := hP.sub (ws' := [(h0, .inr (11, f_h0)), (m3, .inl (cI, 8, .inl fm3)), (m4, .inl (cI, 8, .inl fm4)), (m5, .inl (cI, 8, .inl fm5)), (m7, .inl (cI, 4, .inl fm7)), (m8, .inl (cI, 4, .inl fm8)), (m9, .inl (cI, 4, .inl fm9)), (m10, .inl (cI, 34, .inl fm10))]) [0, 1, 2, 3, 4, 5, 6, 7] rfl
  refine va_calli (va_runV (As := [.int (fm10 (16 + j)), .int (nI j), .int (nI k), .int 999]) (rest := []) ⟨hx, hb, hml, hown, hts⟩ (c_X11_pagesFrom l dC dI cI cZ cQ h0 m3 m4 m5 m7 m8 m9 m10 f_h0 fm3 fm4 fm5 fm7 fm8 fm9 fm10 (fm10 (16 + j)) j k 999 nq s.heap.size e_h0_3 e_h0_4 e_h0_5 e_h0_7 e_h0_8 e_h0_9 e_h0_10 (by omega) (by first | assumption | decide) (by omega) (by omega) (by omega)) (cwV 4 hts gX11_goodNow_X11_pagesFrom rfl rfl rfl hd_X11_pagesFrom_RX11 ⟨Nat.le_of_ble_eq_true rfl, Nat.le_of_ble_eq_true rfl⟩) (pv_R (va_recv hK hP (ci := 11) (q0 := 0) rfl rfl) hK hPc) rfl rfl hl.1 rfl (lv_room (Nat.le_of_ble_eq_true rfl)) dX11_goodNow_15 ⟨Nat.le_of_ble_eq_true rfl, Nat.le_of_ble_eq_true rfl⟩) hS (fun q _ h => False.elim h) (fun q h => False.elim h) (fun r2 u3 t H1 locs ht hvm hw4 hB hz1 hk1 hS => ?_)
  have hP := hP.kept (fun k q hk => hk1 q.1 (hP k q hk).lt (fun h => h))
  clear hz1 hk1 hPc
  generalize H1 = H at hP hS ht ⊢
  try dsimp only at hw4
  exact W.iret (v := r2) hx hb hr (fun t ht hW => ⟨⟨r2, (fun _ => 0), rfl, trivial, trivial⟩, hS.F ht⟩) hS.2.2 dX11_goodNow_18
set_option maxHeartbeats 4000000 in
set_option maxRecDepth 100000 in
theorem c_X11_goodPages (l : Launch) (dC : Nat → ClassId) (dI : Nat → Nat → Nat) (cI cZ cQ : ClassId) (h0 : Nat) (nq : Nat) (nh : Nat) (m3 : Nat) (m4 : Nat) (m5 : Nat) (m7 : Nat) (m8 : Nat) (m9 : Nat) (m10 : Nat) (f_h0 : List Value) (fm3 : Nat → Int32) (fm4 : Nat → Int32) (fm5 : Nat → Int32) (fm7 : Nat → Int32) (fm8 : Nat → Int32) (fm9 : Nat → Int32) (fm10 : Nat → Int32) (q0 : Int32) (q1 : Int32) (sz : Nat) (e_h0_2 : fAt f_h0 2 = some (.int (nI nq))) (e_h0_6 : fAt f_h0 6 = some (.int (nI nh))) (e_h0_3 : fAt f_h0 3 = some (.ref m3)) (e_h0_4 : fAt f_h0 4 = some (.ref m4)) (e_h0_5 : fAt f_h0 5 = some (.ref m5)) (e_h0_7 : fAt f_h0 7 = some (.ref m7)) (e_h0_8 : fAt f_h0 8 = some (.ref m8)) (e_h0_9 : fAt f_h0 9 = some (.ref m9)) (e_h0_10 : fAt f_h0 10 = some (.ref m10)) (hnq : nq ≤ 8) (hci : cIn fm5 nq) (hnh : nh ≤ 4) : Met l yX11_goodPages wsX11_goodPages ({ frames := 5, cells := 0, slots := 0, locals := 157 }) (va_Pc [.ref h0, .int q0, .int q1] (fun U => U.heap.size = sz ∧ va_P (dC, dI) vwCl [(h0, .inr (11, f_h0)), (m3, .inl (cI, 8, .inl fm3)), (m4, .inl (cI, 8, .inl fm4)), (m5, .inl (cI, 8, .inl fm5)), (m7, .inl (cI, 4, .inl fm7)), (m8, .inl (cI, 4, .inl fm8)), (m9, .inl (cI, 4, .inl fm9)), (m10, .inl (cI, 34, .inl fm10))] U.heap ∧ va_K (dC, dI) vwCl (tys0 cI cZ cQ) U)) (va_Qi (fun (r : Int32) (u : Nat → Nat) => True) (fun (_ : Nat → Nat) (_ : State) => True) (fun _ : Nat => False)) 0 0 (fun _ : Nat => False) := by
  refine Met.ofW (cc := cX11_goodPages) (maxL := 3) (ret := (some .int)) (by decide) rfl ?_
  intro p e s m args below meth c s₁ B hml hv
  obtain ⟨rfl, hsz, hP, hK⟩ := hv
  have hx := B.exec
  have hb := B.bytes
  have hr := B.returns
  have hts := atoms_spec (ws := wsX11_goodPages) B.pre
  have hown : s.vm.findClass RX11 = some m.cls := findClass_of_methodNamed B.named
  have hlocks := B.notSynchronized
  subst hsz
  have hS : va_S (fun _ : Nat => False) s.heap s.heap [] := va_S.rf
  have hl := lv_entry ([.ref h0, .int q0, .int q1]) (n := 3) (Nat.le_of_ble_eq_true rfl)
  rw [lg_entry_eq]
  generalize (lg_sl ([.ref h0, .int q0, .int q1]) ++ List.replicate (3 - (lg_sl ([.ref h0, .int q0, .int q1])).length) Slot.unset).toArray = ls at hl ⊢
  have hl : lv_has ls 3 [(0, .ref h0), (1, .int q0), (2, .int q1)] := hl
  refine lv_aload_n hx hb dX11_goodPages_0 rfl (lv_at hl 0 rfl) ?_
  refine lv_iload_n hx hb dX11_goodPages_1 rfl (lv_at hl 1 rfl) ?_
  have hPc := hP.sub (ws' := [(h0, .inr (11, f_h0))]) [0] rfl
  refine va_calli (va_runV (As := [.int q0]) (rest := []) ⟨hx, hb, hml, hown, hts⟩ (c_X11_isQuill l dC dI cI cZ cQ h0 (nI nq) f_h0 q0 s.heap.size e_h0_2 (nI_pos' (n := nq) (by omega))) (cwV 1 hts gX11_goodPages_X11_isQuill rfl rfl rfl hd_X11_isQuill_RX11 ⟨Nat.le_of_ble_eq_true rfl, Nat.le_of_ble_eq_true rfl⟩) (pv_R (va_recv hK hP (ci := 11) (q0 := 0) rfl rfl) hK hPc) rfl rfl hl.1 rfl (lv_room (Nat.le_of_ble_eq_true rfl)) dX11_goodPages_2 ⟨Nat.le_of_ble_eq_true rfl, Nat.le_of_ble_eq_true rfl⟩) hS (fun q _ h => False.elim h) (fun q h => False.elim h) (fun r1 u2 t H1 locs ht hvm hw3 hB hz1 hk1 hS => ?_)
  have hP := hP.kept (fun k q hk => hk1 q.1 (hP k q hk).lt (fun h => h))
  clear hz1 hk1 hPc
  generalize H1 = H at hP hS ht ⊢
  try dsimp only at hw3
  rcases hw3 with ⟨rfl, hw3⟩ | ⟨rfl, hw3⟩
  ·
    obtain ⟨j4, hj4, rfl⟩ := x_ix hw3 (by omega)
    refine lv_if_eq (tgt := 25) hx hb dX11_goodPages_5 (by decide) (fun c5 => ?_) (fun c5 => ?_)
    · exact absurd c5 (by decide)
    clear c5
    refine lv_aload_n hx hb dX11_goodPages_8 rfl (lv_at hl 0 rfl) ?_
    refine lv_iload_n hx hb dX11_goodPages_9 rfl (lv_at hl 2 rfl) ?_
    have hPc := hP.sub (ws' := [(h0, .inr (11, f_h0))]) [0] rfl
    refine va_calli (va_runV (As := [.int q1]) (rest := []) ⟨hx, hb, hml, hown, hts⟩ (c_X11_isHand l dC dI cI cZ cQ h0 (nI nh) f_h0 q1 H.size e_h0_6 (nI_pos' (n := nh) (by omega))) (cwV 1 hts gX11_goodPages_X11_isHand rfl rfl rfl hd_X11_isHand_RX11 ⟨Nat.le_of_ble_eq_true rfl, Nat.le_of_ble_eq_true rfl⟩) (pv_R (va_recv hK hP (ci := 11) (q0 := 0) rfl rfl) hK hPc) rfl rfl hl.1 rfl (lv_room (Nat.le_of_ble_eq_true rfl)) dX11_goodPages_10 ⟨Nat.le_of_ble_eq_true rfl, Nat.le_of_ble_eq_true rfl⟩) hS (fun q _ h => False.elim h) (fun q h => False.elim h) (fun r6 u7 t H1 locs ht hvm hw8 hB hz1 hk1 hS => ?_)
    have hP := hP.kept (fun k q hk => hk1 q.1 (hP k q hk).lt (fun h => h))
    clear hz1 hk1 hPc
    generalize H1 = H at hP hS ht ⊢
    try dsimp only at hw8
    rcases hw8 with ⟨rfl, hw8⟩ | ⟨rfl, hw8⟩
    ·
      obtain ⟨j9, hj9, rfl⟩ := x_ix hw8 (by omega)
      refine lv_if_eq (tgt := 25) hx hb dX11_goodPages_13 (by decide) (fun c10 => ?_) (fun c10 => ?_)
      · exact absurd c10 (by decide)
      clear c10
      refine lv_aload_n hx hb dX11_goodPages_16 rfl (lv_at hl 0 rfl) ?_
      refine lv_iload_n hx hb dX11_goodPages_17 rfl (lv_at hl 1 rfl) ?_
      refine lv_iload_n hx hb dX11_goodPages_18 rfl (lv_at hl 2 rfl) ?_
      have hPc := hP.sub (ws' := [(h0, .inr (11, f_h0)), (m3, .inl (cI, 8, .inl fm3)), (m4, .inl (cI, 8, .inl fm4)), (m5, .inl (cI, 8, .inl fm5)), (m7, .inl (cI, 4, .inl fm7)), (m8, .inl (cI, 4, .inl fm8)), (m9, .inl (cI, 4, .inl fm9)), (m10, .inl (cI, 34, .inl fm10))]) [0, 1, 2, 3, 4, 5, 6, 7] rfl
      refine va_calli (va_runV (As := [.int (nI j4), .int (nI j9)]) (rest := []) ⟨hx, hb, hml, hown, hts⟩ (c_X11_goodNow l dC dI cI cZ cQ h0 m3 m4 m5 m7 m8 m9 m10 f_h0 fm3 fm4 fm5 fm7 fm8 fm9 fm10 j4 j9 nq H.size e_h0_3 e_h0_4 e_h0_5 e_h0_7 e_h0_8 e_h0_9 e_h0_10 (by omega) (by first | assumption | decide) (by omega) (by omega)) (cwV 2 hts gX11_goodPages_X11_goodNow rfl rfl rfl hd_X11_goodNow_RX11 ⟨Nat.le_of_ble_eq_true rfl, Nat.le_of_ble_eq_true rfl⟩) (pv_R (va_recv hK hP (ci := 11) (q0 := 0) rfl rfl) hK hPc) rfl rfl hl.1 rfl (lv_room (Nat.le_of_ble_eq_true rfl)) dX11_goodPages_19 ⟨Nat.le_of_ble_eq_true rfl, Nat.le_of_ble_eq_true rfl⟩) hS (fun q _ h => False.elim h) (fun q h => False.elim h) (fun r11 u12 t H1 locs ht hvm hw13 hB hz1 hk1 hS => ?_)
      have hP := hP.kept (fun k q hk => hk1 q.1 (hP k q hk).lt (fun h => h))
      clear hz1 hk1 hPc
      generalize H1 = H at hP hS ht ⊢
      try dsimp only at hw13
      refine lv_goto (tgt := 27) hx hb dX11_goodPages_22 (by decide) ?_
      exact W.iret (v := r11) hx hb hr (fun t ht hW => ⟨⟨r11, (fun _ => 0), rfl, trivial, trivial⟩, hS.F ht⟩) hS.2.2 dX11_goodPages_27
    ·
      refine lv_if_eq (tgt := 25) hx hb dX11_goodPages_13 (by decide) (fun c14 => ?_) (fun c14 => ?_)
      rotate_left
      · exact absurd c14 (by decide)
      clear c14
      refine lv_ldc (v := (-1000000001)) hx hb hown (hts (.constant RX11 188 (-1000000001)) (wmx 1 rfl)) dX11_goodPages_25 ?_
      exact W.iret (v := (-1000000001)) hx hb hr (fun t ht hW => ⟨⟨(-1000000001), (fun _ => 0), rfl, trivial, trivial⟩, hS.F ht⟩) hS.2.2 dX11_goodPages_27
  ·
    refine lv_if_eq (tgt := 25) hx hb dX11_goodPages_5 (by decide) (fun c15 => ?_) (fun c15 => ?_)
    rotate_left
    · exact absurd c15 (by decide)
    clear c15
    refine lv_ldc (v := (-1000000001)) hx hb hown (hts (.constant RX11 188 (-1000000001)) (wmx 1 rfl)) dX11_goodPages_25 ?_
    exact W.iret (v := (-1000000001)) hx hb hr (fun t ht hW => ⟨⟨(-1000000001), (fun _ => 0), rfl, trivial, trivial⟩, hS.F ht⟩) hS.2.2 dX11_goodPages_27
set_option maxHeartbeats 4000000 in
set_option maxRecDepth 100000 in
theorem c_X11_lifeOf (l : Launch) (dC : Nat → ClassId) (dI : Nat → Nat → Nat) (cI cZ cQ : ClassId) (h0 : Nat) (m3 : Nat) (m4 : Nat) (m5 : Nat) (m7 : Nat) (m8 : Nat) (m9 : Nat) (m10 : Nat) (f_h0 : List Value) (fm3 : Nat → Int32) (fm4 : Nat → Int32) (fm5 : Nat → Int32) (fm7 : Nat → Int32) (fm8 : Nat → Int32) (fm9 : Nat → Int32) (fm10 : Nat → Int32) (j : Nat) (k : Nat) (nq : Nat) (sz : Nat) (e_h0_3 : fAt f_h0 3 = some (.ref m3)) (e_h0_4 : fAt f_h0 4 = some (.ref m4)) (e_h0_5 : fAt f_h0 5 = some (.ref m5)) (e_h0_7 : fAt f_h0 7 = some (.ref m7)) (e_h0_8 : fAt f_h0 8 = some (.ref m8)) (e_h0_9 : fAt f_h0 9 = some (.ref m9)) (e_h0_10 : fAt f_h0 10 = some (.ref m10)) (hnq : nq ≤ 8) (hci : cIn fm5 nq) (hj : j < nq) (hk : k < 4) : Met l yX11_lifeOf wsX11_lifeOf ({ frames := 5, cells := 0, slots := 0, locals := 157 }) (va_Pc [.ref h0, .int (nI j), .int (nI k)] (fun U => U.heap.size = sz ∧ va_P (dC, dI) vwCl [(h0, .inr (11, f_h0)), (m3, .inl (cI, 8, .inl fm3)), (m4, .inl (cI, 8, .inl fm4)), (m5, .inl (cI, 8, .inl fm5)), (m7, .inl (cI, 4, .inl fm7)), (m8, .inl (cI, 4, .inl fm8)), (m9, .inl (cI, 4, .inl fm9)), (m10, .inl (cI, 34, .inl fm10))] U.heap ∧ va_K (dC, dI) vwCl (tys0 cI cZ cQ) U)) (va_Qi (fun (r : Int32) (u : Nat → Nat) => True) (fun (_ : Nat → Nat) (_ : State) => True) (fun _ : Nat => False)) 0 0 (fun _ : Nat => False) := by
  refine Met.ofW (cc := cX11_lifeOf) (maxL := 6) (ret := (some .int)) (by decide) rfl ?_
  intro p e s m args below meth c s₁ B hml hv
  obtain ⟨rfl, hsz, hP, hK⟩ := hv
  have hx := B.exec
  have hb := B.bytes
  have hr := B.returns
  have hts := atoms_spec (ws := wsX11_lifeOf) B.pre
  have hown : s.vm.findClass RX11 = some m.cls := findClass_of_methodNamed B.named
  have hlocks := B.notSynchronized
  have hi_X11 : ∀ w ∈ u_ws RX11 TX11 46, w ∈ wsX11_lifeOf := fun _ h => List.mem_cons_of_mem _ (List.mem_append_right _ (h))
  subst hsz
  have hS : va_S (fun _ : Nat => False) s.heap s.heap [] := va_S.rf
  have hl := lv_entry ([.ref h0, .int (nI j), .int (nI k)]) (n := 6) (Nat.le_of_ble_eq_true rfl)
  rw [lg_entry_eq]
  generalize (lg_sl ([.ref h0, .int (nI j), .int (nI k)]) ++ List.replicate (6 - (lg_sl ([.ref h0, .int (nI j), .int (nI k)])).length) Slot.unset).toArray = ls at hl ⊢
  have hl : lv_has ls 6 [(0, .ref h0), (1, .int (nI j)), (2, .int (nI k))] := hl
  refine lv_aload_n hx hb dX11_lifeOf_0 rfl (lv_at hl 0 rfl) ?_
  refine lv_iload_n hx hb dX11_lifeOf_1 rfl (lv_at hl 1 rfl) ?_
  refine lv_iload_n hx hb dX11_lifeOf_2 rfl (lv_at hl 2 rfl) ?_
  have hPc := hP.sub (ws' := [(h0, .inr (11, f_h0)), (m3, .inl (cI, 8, .inl fm3)), (m4, .inl (cI, 8, .inl fm4)), (m5, .inl (cI, 8, .inl fm5)), (m7, .inl (cI, 4, .inl fm7)), (m8, .inl (cI, 4, .inl fm8)), (m9, .inl (cI, 4, .inl fm9)), (m10, .inl (cI, 34, .inl fm10))]) [0, 1, 2, 3, 4, 5, 6, 7] rfl
  refine va_calli (va_runV (As := [.int (nI j), .int (nI k)]) (rest := []) ⟨hx, hb, hml, hown, hts⟩ (c_X11_goodNow l dC dI cI cZ cQ h0 m3 m4 m5 m7 m8 m9 m10 f_h0 fm3 fm4 fm5 fm7 fm8 fm9 fm10 j k nq s.heap.size e_h0_3 e_h0_4 e_h0_5 e_h0_7 e_h0_8 e_h0_9 e_h0_10 (by omega) (by first | assumption | decide) (by omega) (by omega)) (cwV 2 hts gX11_lifeOf_X11_goodNow rfl rfl rfl hd_X11_goodNow_RX11 ⟨Nat.le_of_ble_eq_true rfl, Nat.le_of_ble_eq_true rfl⟩) (pv_R (va_recv hK hP (ci := 11) (q0 := 0) rfl rfl) hK hPc) rfl rfl hl.1 rfl (lv_room (Nat.le_of_ble_eq_true rfl)) dX11_lifeOf_3 ⟨Nat.le_of_ble_eq_true rfl, Nat.le_of_ble_eq_true rfl⟩) hS (fun q _ h => False.elim h) (fun q h => False.elim h) (fun r1 u2 t H1 locs ht hvm hw3 hB hz1 hk1 hS => ?_)
  have hP := hP.kept (fun k q hk => hk1 q.1 (hP k q hk).lt (fun h => h))
  clear hz1 hk1 hPc
  generalize H1 = H at hP hS ht ⊢
  try dsimp only at hw3
  refine lv_istore_n (lv' := [(3, .int r1), (0, .ref h0), (1, .int (nI j)), (2, .int (nI k))]) hx hb dX11_lifeOf_6 rfl hl (by decide) rfl (fun ls hl => ?_)
  refine lv_aload_n hx hb dX11_lifeOf_7 rfl (lv_at hl 1 rfl) ?_
  refine lv_iconst (v := 0) hx hb dX11_lifeOf_8 (by decide) ?_
  refine lv_iload_n hx hb dX11_lifeOf_9 rfl (lv_at hl 2 rfl) ?_
  refine lv_iload_n hx hb dX11_lifeOf_10 rfl (lv_at hl 3 rfl) ?_
  refine lv_sipush (v := 999) hx hb dX11_lifeOf_11 (by decide) ?_
  have hPc := hP.sub (ws' := [(h0, .inr (11, f_h0)), (m3, .inl (cI, 8, .inl fm3)), (m4, .inl (cI, 8, .inl fm4)), (m5, .inl (cI, 8, .inl fm5)), (m7, .inl (cI, 4, .inl fm7)), (m8, .inl (cI, 4, .inl fm8)), (m9, .inl (cI, 4, .inl fm9)), (m10, .inl (cI, 34, .inl fm10))]) [0, 1, 2, 3, 4, 5, 6, 7] rfl
  refine va_calli (va_runV (As := [.int 0, .int (nI j), .int (nI k), .int 999]) (rest := []) ⟨hx, hb, hml, hown, hts⟩ (c_X11_pagesFrom l dC dI cI cZ cQ h0 m3 m4 m5 m7 m8 m9 m10 f_h0 fm3 fm4 fm5 fm7 fm8 fm9 fm10 0 j k 999 nq H.size e_h0_3 e_h0_4 e_h0_5 e_h0_7 e_h0_8 e_h0_9 e_h0_10 (by omega) (by first | assumption | decide) (by omega) (by omega) (by omega)) (cwV 4 hts gX11_lifeOf_X11_pagesFrom rfl rfl rfl hd_X11_pagesFrom_RX11 ⟨Nat.le_of_ble_eq_true rfl, Nat.le_of_ble_eq_true rfl⟩) (pv_R (va_recv hK hP (ci := 11) (q0 := 0) rfl rfl) hK hPc) rfl rfl hl.1 rfl (lv_room (Nat.le_of_ble_eq_true rfl)) dX11_lifeOf_14 ⟨Nat.le_of_ble_eq_true rfl, Nat.le_of_ble_eq_true rfl⟩) hS (fun q _ h => False.elim h) (fun q h => False.elim h) (fun r4 u5 t H1 locs ht hvm hw6 hB hz1 hk1 hS => ?_)
  have hP := hP.kept (fun k q hk => hk1 q.1 (hP k q hk).lt (fun h => h))
  clear hz1 hk1 hPc
  generalize H1 = H at hP hS ht ⊢
  try dsimp only at hw6
  refine lv_istore (lv' := [(4, .int r4), (3, .int r1), (0, .ref h0), (1, .int (nI j)), (2, .int (nI k))]) hx hb dX11_lifeOf_17 hl (by decide) rfl (fun ls hl => ?_)
  refine lv_aload_n hx hb dX11_lifeOf_19 rfl (lv_at hl 2 rfl) ?_
  refine va_get (D := (dC, dI)) (ci := 11) (v := .ref m10) (C := RX11) (T := TX11) (N := 46) hx hb hts hi_X11 hown hK hP 0 rfl rfl 10 (by decide) (hts (.fieldLink RX11 28 "LeftQuillsModel" "now" "[I") (wmx 1 rfl)) (fun _ h9 => h9) e_h0_10 dX11_lifeOf_20 ?_
  refine lv_iload_n hx hb dX11_lifeOf_23 rfl (lv_at hl 3 rfl) ?_
  refine va_iald hx hb hK hP 7 0 rfl rfl (vp_in_nI (n := j) (N := 34) (by omega) (by decide)) dX11_lifeOf_24 ?_
  refine W.eq (g2 := F0 m 25 ls [.int (fm10 j)]) (congrArg (fun y9 => F0 m 25 ls (.int (fm10 y9) :: [])) ((nI_clamp (n := j) (by omega)))) ?_
  refine lv_istore (lv' := [(5, .int (fm10 j)), (4, .int r4), (3, .int r1), (0, .ref h0), (1, .int (nI j)), (2, .int (nI k))]) hx hb dX11_lifeOf_25 hl (by decide) rfl (fun ls hl => ?_)
  refine (fun (K : ∀ (d27 : Nat) (z27_5 : Int32) (z27_3 : Int32) (H : Heap) (locs : List Loc) (ls : Array Slot), z27_5.toInt < 5 + 5 * (d27 : Int) → va_P (dC, dI) vwCl [(h0, .inr (11, f_h0)), (m3, .inl (cI, 8, .inl fm3)), (m4, .inl (cI, 8, .inl fm4)), (m5, .inl (cI, 8, .inl fm5)), (m7, .inl (cI, 4, .inl fm7)), (m8, .inl (cI, 4, .inl fm8)), (m9, .inl (cI, 4, .inl fm9)), (m10, .inl (cI, 34, .inl fm10))] H → va_S (fun _ : Nat => False) s.heap H locs → lv_has ls 6 [(5, .int z27_5), (3, .int z27_3), (4, .int r4), (0, .ref h0), (1, .int (nI j)), (2, .int (nI k))] → W p l e _ s m _ below meth c H locs _ _ _ (F0 m 27 ls [])) => K ((fm10 j).toInt.toNat) (fm10 j) r1 _ _ _ (by omega) hP hS (lv_sub hl [0, 2, 1, 3, 4, 5] rfl)) ?_
  intro d27
  induction d27 with
  | zero =>
    intro z27_5 z27_3 H locs ls hz27 hP hS hl
    refine lv_iload hx hb dX11_lifeOf_27 (lv_at hl 0 rfl) ?_
    refine lv_iconst (v := 5) hx hb dX11_lifeOf_29 (by decide) ?_
    refine lv_icmp_lt (tgt := 56) hx hb dX11_lifeOf_30 (by decide) (fun c7 => ?_) (fun c7 => ?_)
    rotate_left
    · exact (x_d5 c7 hz27).elim
    refine lv_iload_n hx hb dX11_lifeOf_56 rfl (lv_at hl 1 rfl) ?_
    refine lv_sipush (v := 999) hx hb dX11_lifeOf_57 (by decide) ?_
    refine lv_icmp_ge (tgt := 67) hx hb dX11_lifeOf_60 (by decide) (fun c8 => ?_) (fun c8 => ?_)
    ·
      refine lv_sipush (v := 999) hx hb dX11_lifeOf_67 (by decide) ?_
      exact W.iret (v := 999) hx hb hr (fun t ht hW => ⟨⟨999, (fun _ => 0), rfl, trivial, trivial⟩, hS.F ht⟩) hS.2.2 dX11_lifeOf_70
    ·
      refine lv_iload_n hx hb dX11_lifeOf_63 rfl (lv_at hl 1 rfl) ?_
      refine lv_goto (tgt := 70) hx hb dX11_lifeOf_64 (by decide) ?_
      exact W.iret (v := z27_3) hx hb hr (fun t ht hW => ⟨⟨z27_3, (fun _ => 0), rfl, trivial, trivial⟩, hS.F ht⟩) hS.2.2 dX11_lifeOf_70
  | succ d27 ih27 =>
    intro z27_5 z27_3 H locs ls hz27 hP hS hl
    refine lv_iload hx hb dX11_lifeOf_27 (lv_at hl 0 rfl) ?_
    refine lv_iconst (v := 5) hx hb dX11_lifeOf_29 (by decide) ?_
    refine lv_icmp_lt (tgt := 56) hx hb dX11_lifeOf_30 (by decide) (fun c9 => ?_) (fun c9 => ?_)
    ·
      refine lv_iload_n hx hb dX11_lifeOf_56 rfl (lv_at hl 1 rfl) ?_
      refine lv_sipush (v := 999) hx hb dX11_lifeOf_57 (by decide) ?_
      refine lv_icmp_ge (tgt := 67) hx hb dX11_lifeOf_60 (by decide) (fun c10 => ?_) (fun c10 => ?_)
      ·
        refine lv_sipush (v := 999) hx hb dX11_lifeOf_67 (by decide) ?_
        exact W.iret (v := 999) hx hb hr (fun t ht hW => ⟨⟨999, (fun _ => 0), rfl, trivial, trivial⟩, hS.F ht⟩) hS.2.2 dX11_lifeOf_70
      ·
        refine lv_iload_n hx hb dX11_lifeOf_63 rfl (lv_at hl 1 rfl) ?_
        refine lv_goto (tgt := 70) hx hb dX11_lifeOf_64 (by decide) ?_
        exact W.iret (v := z27_3) hx hb hr (fun t ht hW => ⟨⟨z27_3, (fun _ => 0), rfl, trivial, trivial⟩, hS.F ht⟩) hS.2.2 dX11_lifeOf_70
    ·
      refine lv_iload hx hb dX11_lifeOf_33 (lv_at hl 2 rfl) ?_
      refine lv_if_le (tgt := 56) hx hb dX11_lifeOf_35 (by decide) (fun c11 => ?_) (fun c11 => ?_)
      ·
        refine lv_iload_n hx hb dX11_lifeOf_56 rfl (lv_at hl 1 rfl) ?_
        refine lv_sipush (v := 999) hx hb dX11_lifeOf_57 (by decide) ?_
        refine lv_icmp_ge (tgt := 67) hx hb dX11_lifeOf_60 (by decide) (fun c12 => ?_) (fun c12 => ?_)
        ·
          refine lv_sipush (v := 999) hx hb dX11_lifeOf_67 (by decide) ?_
          exact W.iret (v := 999) hx hb hr (fun t ht hW => ⟨⟨999, (fun _ => 0), rfl, trivial, trivial⟩, hS.F ht⟩) hS.2.2 dX11_lifeOf_70
        ·
          refine lv_iload_n hx hb dX11_lifeOf_63 rfl (lv_at hl 1 rfl) ?_
          refine lv_goto (tgt := 70) hx hb dX11_lifeOf_64 (by decide) ?_
          exact W.iret (v := z27_3) hx hb hr (fun t ht hW => ⟨⟨z27_3, (fun _ => 0), rfl, trivial, trivial⟩, hS.F ht⟩) hS.2.2 dX11_lifeOf_70
      ·
        refine lv_iload_n hx hb dX11_lifeOf_38 rfl (lv_at hl 1 rfl) ?_
        refine lv_sipush (v := 999) hx hb dX11_lifeOf_39 (by decide) ?_
        refine lv_icmp_ge (tgt := 56) hx hb dX11_lifeOf_42 (by decide) (fun c13 => ?_) (fun c13 => ?_)
        ·
          refine lv_iload_n hx hb dX11_lifeOf_56 rfl (lv_at hl 1 rfl) ?_
          refine lv_sipush (v := 999) hx hb dX11_lifeOf_57 (by decide) ?_
          refine lv_icmp_ge (tgt := 67) hx hb dX11_lifeOf_60 (by decide) (fun c14 => ?_) (fun c14 => ?_)
          ·
            refine lv_sipush (v := 999) hx hb dX11_lifeOf_67 (by decide) ?_
            exact W.iret (v := 999) hx hb hr (fun t ht hW => ⟨⟨999, (fun _ => 0), rfl, trivial, trivial⟩, hS.F ht⟩) hS.2.2 dX11_lifeOf_70
          ·
            refine lv_iload_n hx hb dX11_lifeOf_63 rfl (lv_at hl 1 rfl) ?_
            refine lv_goto (tgt := 70) hx hb dX11_lifeOf_64 (by decide) ?_
            exact W.iret (v := z27_3) hx hb hr (fun t ht hW => ⟨⟨z27_3, (fun _ => 0), rfl, trivial, trivial⟩, hS.F ht⟩) hS.2.2 dX11_lifeOf_70
        ·
          obtain ⟨z15, ez15⟩ : ∃ y : Int32, y = z27_5 + (-5) := ⟨_, rfl⟩
          refine lv_iinc (v := z15) (lv' := [(5, .int z15), (3, .int z27_3), (4, .int r4), (0, .ref h0), (1, .int (nI j)), (2, .int (nI k))]) hx hb dX11_lifeOf_45 hl (k := 0) rfl (by rw [ez15]; rfl) (by decide) rfl (fun ls hl => ?_)
          refine lv_iload_n hx hb dX11_lifeOf_48 rfl (lv_at hl 1 rfl) ?_
          refine lv_iload hx hb dX11_lifeOf_49 (lv_at hl 2 rfl) ?_
          refine lv_iadd hx hb dX11_lifeOf_51 ?_
          refine lv_topi (fun z16 ez16 => ?_)
          refine lv_istore_n (lv' := [(3, .int z16), (5, .int z15), (4, .int r4), (0, .ref h0), (1, .int (nI j)), (2, .int (nI k))]) hx hb dX11_lifeOf_52 rfl hl (by decide) rfl (fun ls hl => ?_)
          refine lv_goto (tgt := 27) hx hb dX11_lifeOf_53 (by decide) ?_
          exact ih27 z15 z16 _ _ _ (x_m5 ez15 c9 hz27) hP hS (lv_sub hl [1, 0, 2, 3, 4, 5] rfl)
set_option maxHeartbeats 4000000 in
set_option maxRecDepth 100000 in
theorem c_X11_life (l : Launch) (dC : Nat → ClassId) (dI : Nat → Nat → Nat) (cI cZ cQ : ClassId) (h0 : Nat) (nq : Nat) (nh : Nat) (m3 : Nat) (m4 : Nat) (m5 : Nat) (m7 : Nat) (m8 : Nat) (m9 : Nat) (m10 : Nat) (f_h0 : List Value) (fm3 : Nat → Int32) (fm4 : Nat → Int32) (fm5 : Nat → Int32) (fm7 : Nat → Int32) (fm8 : Nat → Int32) (fm9 : Nat → Int32) (fm10 : Nat → Int32) (q0 : Int32) (q1 : Int32) (sz : Nat) (e_h0_2 : fAt f_h0 2 = some (.int (nI nq))) (e_h0_6 : fAt f_h0 6 = some (.int (nI nh))) (e_h0_3 : fAt f_h0 3 = some (.ref m3)) (e_h0_4 : fAt f_h0 4 = some (.ref m4)) (e_h0_5 : fAt f_h0 5 = some (.ref m5)) (e_h0_7 : fAt f_h0 7 = some (.ref m7)) (e_h0_8 : fAt f_h0 8 = some (.ref m8)) (e_h0_9 : fAt f_h0 9 = some (.ref m9)) (e_h0_10 : fAt f_h0 10 = some (.ref m10)) (hnq : nq ≤ 8) (hci : cIn fm5 nq) (hnh : nh ≤ 4) : Met l yX11_life wsX11_life ({ frames := 6, cells := 0, slots := 0, locals := 182 }) (va_Pc [.ref h0, .int q0, .int q1] (fun U => U.heap.size = sz ∧ va_P (dC, dI) vwCl [(h0, .inr (11, f_h0)), (m3, .inl (cI, 8, .inl fm3)), (m4, .inl (cI, 8, .inl fm4)), (m5, .inl (cI, 8, .inl fm5)), (m7, .inl (cI, 4, .inl fm7)), (m8, .inl (cI, 4, .inl fm8)), (m9, .inl (cI, 4, .inl fm9)), (m10, .inl (cI, 34, .inl fm10))] U.heap ∧ va_K (dC, dI) vwCl (tys0 cI cZ cQ) U)) (va_Qi (fun (r : Int32) (u : Nat → Nat) => True) (fun (_ : Nat → Nat) (_ : State) => True) (fun _ : Nat => False)) 0 0 (fun _ : Nat => False) := by
  refine Met.ofW (cc := cX11_life) (maxL := 3) (ret := (some .int)) (by decide) rfl ?_
  intro p e s m args below meth c s₁ B hml hv
  obtain ⟨rfl, hsz, hP, hK⟩ := hv
  have hx := B.exec
  have hb := B.bytes
  have hr := B.returns
  have hts := atoms_spec (ws := wsX11_life) B.pre
  have hown : s.vm.findClass RX11 = some m.cls := findClass_of_methodNamed B.named
  have hlocks := B.notSynchronized
  subst hsz
  have hS : va_S (fun _ : Nat => False) s.heap s.heap [] := va_S.rf
  have hl := lv_entry ([.ref h0, .int q0, .int q1]) (n := 3) (Nat.le_of_ble_eq_true rfl)
  rw [lg_entry_eq]
  generalize (lg_sl ([.ref h0, .int q0, .int q1]) ++ List.replicate (3 - (lg_sl ([.ref h0, .int q0, .int q1])).length) Slot.unset).toArray = ls at hl ⊢
  have hl : lv_has ls 3 [(0, .ref h0), (1, .int q0), (2, .int q1)] := hl
  refine lv_aload_n hx hb dX11_life_0 rfl (lv_at hl 0 rfl) ?_
  refine lv_iload_n hx hb dX11_life_1 rfl (lv_at hl 1 rfl) ?_
  have hPc := hP.sub (ws' := [(h0, .inr (11, f_h0))]) [0] rfl
  refine va_calli (va_runV (As := [.int q0]) (rest := []) ⟨hx, hb, hml, hown, hts⟩ (c_X11_isQuill l dC dI cI cZ cQ h0 (nI nq) f_h0 q0 s.heap.size e_h0_2 (nI_pos' (n := nq) (by omega))) (cwV 1 hts gX11_life_X11_isQuill rfl rfl rfl hd_X11_isQuill_RX11 ⟨Nat.le_of_ble_eq_true rfl, Nat.le_of_ble_eq_true rfl⟩) (pv_R (va_recv hK hP (ci := 11) (q0 := 0) rfl rfl) hK hPc) rfl rfl hl.1 rfl (lv_room (Nat.le_of_ble_eq_true rfl)) dX11_life_2 ⟨Nat.le_of_ble_eq_true rfl, Nat.le_of_ble_eq_true rfl⟩) hS (fun q _ h => False.elim h) (fun q h => False.elim h) (fun r1 u2 t H1 locs ht hvm hw3 hB hz1 hk1 hS => ?_)
  have hP := hP.kept (fun k q hk => hk1 q.1 (hP k q hk).lt (fun h => h))
  clear hz1 hk1 hPc
  generalize H1 = H at hP hS ht ⊢
  try dsimp only at hw3
  rcases hw3 with ⟨rfl, hw3⟩ | ⟨rfl, hw3⟩
  ·
    obtain ⟨j4, hj4, rfl⟩ := x_ix hw3 (by omega)
    refine lv_if_eq (tgt := 25) hx hb dX11_life_5 (by decide) (fun c5 => ?_) (fun c5 => ?_)
    · exact absurd c5 (by decide)
    clear c5
    refine lv_aload_n hx hb dX11_life_8 rfl (lv_at hl 0 rfl) ?_
    refine lv_iload_n hx hb dX11_life_9 rfl (lv_at hl 2 rfl) ?_
    have hPc := hP.sub (ws' := [(h0, .inr (11, f_h0))]) [0] rfl
    refine va_calli (va_runV (As := [.int q1]) (rest := []) ⟨hx, hb, hml, hown, hts⟩ (c_X11_isHand l dC dI cI cZ cQ h0 (nI nh) f_h0 q1 H.size e_h0_6 (nI_pos' (n := nh) (by omega))) (cwV 1 hts gX11_life_X11_isHand rfl rfl rfl hd_X11_isHand_RX11 ⟨Nat.le_of_ble_eq_true rfl, Nat.le_of_ble_eq_true rfl⟩) (pv_R (va_recv hK hP (ci := 11) (q0 := 0) rfl rfl) hK hPc) rfl rfl hl.1 rfl (lv_room (Nat.le_of_ble_eq_true rfl)) dX11_life_10 ⟨Nat.le_of_ble_eq_true rfl, Nat.le_of_ble_eq_true rfl⟩) hS (fun q _ h => False.elim h) (fun q h => False.elim h) (fun r6 u7 t H1 locs ht hvm hw8 hB hz1 hk1 hS => ?_)
    have hP := hP.kept (fun k q hk => hk1 q.1 (hP k q hk).lt (fun h => h))
    clear hz1 hk1 hPc
    generalize H1 = H at hP hS ht ⊢
    try dsimp only at hw8
    rcases hw8 with ⟨rfl, hw8⟩ | ⟨rfl, hw8⟩
    ·
      obtain ⟨j9, hj9, rfl⟩ := x_ix hw8 (by omega)
      refine lv_if_eq (tgt := 25) hx hb dX11_life_13 (by decide) (fun c10 => ?_) (fun c10 => ?_)
      · exact absurd c10 (by decide)
      clear c10
      refine lv_aload_n hx hb dX11_life_16 rfl (lv_at hl 0 rfl) ?_
      refine lv_iload_n hx hb dX11_life_17 rfl (lv_at hl 1 rfl) ?_
      refine lv_iload_n hx hb dX11_life_18 rfl (lv_at hl 2 rfl) ?_
      have hPc := hP.sub (ws' := [(h0, .inr (11, f_h0)), (m3, .inl (cI, 8, .inl fm3)), (m4, .inl (cI, 8, .inl fm4)), (m5, .inl (cI, 8, .inl fm5)), (m7, .inl (cI, 4, .inl fm7)), (m8, .inl (cI, 4, .inl fm8)), (m9, .inl (cI, 4, .inl fm9)), (m10, .inl (cI, 34, .inl fm10))]) [0, 1, 2, 3, 4, 5, 6, 7] rfl
      refine va_calli (va_runV (As := [.int (nI j4), .int (nI j9)]) (rest := []) ⟨hx, hb, hml, hown, hts⟩ (c_X11_lifeOf l dC dI cI cZ cQ h0 m3 m4 m5 m7 m8 m9 m10 f_h0 fm3 fm4 fm5 fm7 fm8 fm9 fm10 j4 j9 nq H.size e_h0_3 e_h0_4 e_h0_5 e_h0_7 e_h0_8 e_h0_9 e_h0_10 (by omega) (by first | assumption | decide) (by omega) (by omega)) (cwV 2 hts gX11_life_X11_lifeOf rfl rfl rfl hd_X11_lifeOf_RX11 ⟨Nat.le_of_ble_eq_true rfl, Nat.le_of_ble_eq_true rfl⟩) (pv_R (va_recv hK hP (ci := 11) (q0 := 0) rfl rfl) hK hPc) rfl rfl hl.1 rfl (lv_room (Nat.le_of_ble_eq_true rfl)) dX11_life_19 ⟨Nat.le_of_ble_eq_true rfl, Nat.le_of_ble_eq_true rfl⟩) hS (fun q _ h => False.elim h) (fun q h => False.elim h) (fun r11 u12 t H1 locs ht hvm hw13 hB hz1 hk1 hS => ?_)
      have hP := hP.kept (fun k q hk => hk1 q.1 (hP k q hk).lt (fun h => h))
      clear hz1 hk1 hPc
      generalize H1 = H at hP hS ht ⊢
      try dsimp only at hw13
      refine lv_goto (tgt := 27) hx hb dX11_life_22 (by decide) ?_
      exact W.iret (v := r11) hx hb hr (fun t ht hW => ⟨⟨r11, (fun _ => 0), rfl, trivial, trivial⟩, hS.F ht⟩) hS.2.2 dX11_life_27
    ·
      refine lv_if_eq (tgt := 25) hx hb dX11_life_13 (by decide) (fun c14 => ?_) (fun c14 => ?_)
      rotate_left
      · exact absurd c14 (by decide)
      clear c14
      refine lv_ldc (v := (-1000000001)) hx hb hown (hts (.constant RX11 188 (-1000000001)) (wmx 1 rfl)) dX11_life_25 ?_
      exact W.iret (v := (-1000000001)) hx hb hr (fun t ht hW => ⟨⟨(-1000000001), (fun _ => 0), rfl, trivial, trivial⟩, hS.F ht⟩) hS.2.2 dX11_life_27
  ·
    refine lv_if_eq (tgt := 25) hx hb dX11_life_5 (by decide) (fun c15 => ?_) (fun c15 => ?_)
    rotate_left
    · exact absurd c15 (by decide)
    clear c15
    refine lv_ldc (v := (-1000000001)) hx hb hown (hts (.constant RX11 188 (-1000000001)) (wmx 1 rfl)) dX11_life_25 ?_
    exact W.iret (v := (-1000000001)) hx hb hr (fun t ht hW => ⟨⟨(-1000000001), (fun _ => 0), rfl, trivial, trivial⟩, hS.F ht⟩) hS.2.2 dX11_life_27
set_option maxHeartbeats 4000000 in
set_option maxRecDepth 100000 in
theorem c_X11_dearer (l : Launch) (dC : Nat → ClassId) (dI : Nat → Nat → Nat) (cI cZ cQ : ClassId) (h0 : Nat) (nq : Nat) (nh : Nat) (m3 : Nat) (m4 : Nat) (m5 : Nat) (m7 : Nat) (m8 : Nat) (m9 : Nat) (m10 : Nat) (f_h0 : List Value) (fm3 : Nat → Int32) (fm4 : Nat → Int32) (fm5 : Nat → Int32) (fm7 : Nat → Int32) (fm8 : Nat → Int32) (fm9 : Nat → Int32) (fm10 : Nat → Int32) (sz : Nat) (e_h0_2 : fAt f_h0 2 = some (.int (nI nq))) (e_h0_6 : fAt f_h0 6 = some (.int (nI nh))) (e_h0_3 : fAt f_h0 3 = some (.ref m3)) (e_h0_4 : fAt f_h0 4 = some (.ref m4)) (e_h0_5 : fAt f_h0 5 = some (.ref m5)) (e_h0_7 : fAt f_h0 7 = some (.ref m7)) (e_h0_8 : fAt f_h0 8 = some (.ref m8)) (e_h0_9 : fAt f_h0 9 = some (.ref m9)) (e_h0_10 : fAt f_h0 10 = some (.ref m10)) (hnq : nq ≤ 8) (hci : cIn fm5 nq) (hnh : nh ≤ 4) : Met l yX11_dearer wsX11_dearer ({ frames := 5, cells := 0, slots := 0, locals := 157 }) (va_Pc [.ref h0] (fun U => U.heap.size = sz ∧ va_P (dC, dI) vwCl [(h0, .inr (11, f_h0)), (m3, .inl (cI, 8, .inl fm3)), (m4, .inl (cI, 8, .inl fm4)), (m5, .inl (cI, 8, .inl fm5)), (m7, .inl (cI, 4, .inl fm7)), (m8, .inl (cI, 4, .inl fm8)), (m9, .inl (cI, 4, .inl fm9)), (m10, .inl (cI, 34, .inl fm10))] U.heap ∧ va_K (dC, dI) vwCl (tys0 cI cZ cQ) U)) (va_Qi (fun (r : Int32) (u : Nat → Nat) => True) (fun (_ : Nat → Nat) (_ : State) => True) (fun _ : Nat => False)) 0 0 (fun _ : Nat => False) := by
  refine Met.ofW (cc := cX11_dearer) (maxL := 4) (ret := (some .int)) (by decide) rfl ?_
  intro p e s m args below meth c s₁ B hml hv
  obtain ⟨rfl, hsz, hP, hK⟩ := hv
  have hx := B.exec
  have hb := B.bytes
  have hr := B.returns
  have hts := atoms_spec (ws := wsX11_dearer) B.pre
  have hown : s.vm.findClass RX11 = some m.cls := findClass_of_methodNamed B.named
  have hlocks := B.notSynchronized
  have hi_X11 : ∀ w ∈ u_ws RX11 TX11 46, w ∈ wsX11_dearer := fun _ h => List.mem_cons_of_mem _ (List.mem_append_right _ (h))
  subst hsz
  have hS : va_S (fun _ : Nat => False) s.heap s.heap [] := va_S.rf
  have hl := lv_entry ([.ref h0]) (n := 4) (Nat.le_of_ble_eq_true rfl)
  rw [lg_entry_eq]
  generalize (lg_sl ([.ref h0]) ++ List.replicate (4 - (lg_sl ([.ref h0])).length) Slot.unset).toArray = ls at hl ⊢
  have hl : lv_has ls 4 [(0, .ref h0)] := hl
  refine lv_ldcw (v := 100000) hx hb hown (hts (.constant RX11 306 100000) (wmx 1 rfl)) dX11_dearer_0 ?_
  refine lv_istore_n (lv' := [(1, .int 100000), (0, .ref h0)]) hx hb dX11_dearer_3 rfl hl (by decide) rfl (fun ls hl => ?_)
  refine lv_iconst (v := 0) hx hb dX11_dearer_4 (by decide) ?_
  refine lv_istore_n (lv' := [(2, .int 0), (1, .int 100000), (0, .ref h0)]) hx hb dX11_dearer_5 rfl hl (by decide) rfl (fun ls hl => ?_)
  refine (fun (K : ∀ (d6 : Nat) (k6 : Nat) (a6_1 : Int32) (H : Heap) (locs : List Loc) (ls : Array Slot), k6 + d6 = nq → va_P (dC, dI) vwCl [(h0, .inr (11, f_h0)), (m3, .inl (cI, 8, .inl fm3)), (m4, .inl (cI, 8, .inl fm4)), (m5, .inl (cI, 8, .inl fm5)), (m7, .inl (cI, 4, .inl fm7)), (m8, .inl (cI, 4, .inl fm8)), (m9, .inl (cI, 4, .inl fm9)), (m10, .inl (cI, 34, .inl fm10))] H → va_S (fun _ : Nat => False) s.heap H locs → lv_has ls 4 [(2, .int (nI k6)), (1, .int a6_1), (0, .ref h0)] → W p l e _ s m _ below meth c H locs _ _ _ (F0 m 6 ls [])) => K nq 0 100000 _ _ _ (by omega) hP hS (lv_sub hl [0, 1, 2] rfl)) ?_
  intro d6
  induction d6 with
  | zero =>
    intro k6 a6_1 H locs ls hk6 hP hS hl
    refine lv_iload_n hx hb dX11_dearer_6 rfl (lv_at hl 0 rfl) ?_
    refine lv_aload_n hx hb dX11_dearer_7 rfl (lv_at hl 2 rfl) ?_
    refine va_get (D := (dC, dI)) (ci := 11) (v := .int (nI nq)) (C := RX11) (T := TX11) (N := 46) hx hb hts hi_X11 hown hK hP 0 rfl rfl 2 (by decide) (hts (.fieldLink RX11 99 "LeftQuillsModel" "quills" "I") (wmx 2 rfl)) (fun _ h9 => h9) e_h0_2 dX11_dearer_8 ?_
    refine lv_icmp_ge (tgt := 64) hx hb dX11_dearer_11 (by decide) (fun c1 => ?_) (fun c1 => ?_)
    ·
      have c1 : nq ≤ k6 := (nI_leI (a := nq) (b := k6) (by omega) (by omega)).mp c1
      refine lv_iload_n hx hb dX11_dearer_64 rfl (lv_at hl 1 rfl) ?_
      exact W.iret (v := a6_1) hx hb hr (fun t ht hW => ⟨⟨a6_1, (fun _ => 0), rfl, trivial, trivial⟩, hS.F ht⟩) hS.2.2 dX11_dearer_65
    ·
      have c1 : ¬ nq ≤ k6 := fun h => c1 ((nI_leI (a := nq) (b := k6) (by omega) (by omega)).mpr h)
      omega
  | succ d6 ih6 =>
    intro k6 a6_1 H locs ls hk6 hP hS hl
    refine lv_iload_n hx hb dX11_dearer_6 rfl (lv_at hl 0 rfl) ?_
    refine lv_aload_n hx hb dX11_dearer_7 rfl (lv_at hl 2 rfl) ?_
    refine va_get (D := (dC, dI)) (ci := 11) (v := .int (nI nq)) (C := RX11) (T := TX11) (N := 46) hx hb hts hi_X11 hown hK hP 0 rfl rfl 2 (by decide) (hts (.fieldLink RX11 99 "LeftQuillsModel" "quills" "I") (wmx 2 rfl)) (fun _ h9 => h9) e_h0_2 dX11_dearer_8 ?_
    refine lv_icmp_ge (tgt := 64) hx hb dX11_dearer_11 (by decide) (fun c2 => ?_) (fun c2 => ?_)
    ·
      have c2 : nq ≤ k6 := (nI_leI (a := nq) (b := k6) (by omega) (by omega)).mp c2
      omega
    ·
      have c2 : ¬ nq ≤ k6 := fun h => c2 ((nI_leI (a := nq) (b := k6) (by omega) (by omega)).mpr h)
      refine lv_iconst (v := 0) hx hb dX11_dearer_14 (by decide) ?_
      refine lv_istore_n (lv' := [(3, .int 0), (2, .int (nI k6)), (1, .int a6_1), (0, .ref h0)]) hx hb dX11_dearer_15 rfl hl (by decide) rfl (fun ls hl => ?_)
      refine (fun (K : ∀ (d16 : Nat) (k16 : Nat) (a16_1 : Int32) (H : Heap) (locs : List Loc) (ls : Array Slot), k16 + d16 = nh → va_P (dC, dI) vwCl [(h0, .inr (11, f_h0)), (m3, .inl (cI, 8, .inl fm3)), (m4, .inl (cI, 8, .inl fm4)), (m5, .inl (cI, 8, .inl fm5)), (m7, .inl (cI, 4, .inl fm7)), (m8, .inl (cI, 4, .inl fm8)), (m9, .inl (cI, 4, .inl fm9)), (m10, .inl (cI, 34, .inl fm10))] H → va_S (fun _ : Nat => False) s.heap H locs → lv_has ls 4 [(3, .int (nI k16)), (1, .int a16_1), (2, .int (nI k6)), (0, .ref h0)] → W p l e _ s m _ below meth c H locs _ _ _ (F0 m 16 ls [])) => K nh 0 a6_1 _ _ _ (by omega) hP hS (lv_sub hl [0, 2, 1, 3] rfl)) ?_
      intro d16
      induction d16 with
      | zero =>
        intro k16 a16_1 H locs ls hk16 hP hS hl
        refine lv_iload_n hx hb dX11_dearer_16 rfl (lv_at hl 0 rfl) ?_
        refine lv_aload_n hx hb dX11_dearer_17 rfl (lv_at hl 3 rfl) ?_
        refine va_get (D := (dC, dI)) (ci := 11) (v := .int (nI nh)) (C := RX11) (T := TX11) (N := 46) hx hb hts hi_X11 hown hK hP 0 rfl rfl 6 (by decide) (hts (.fieldLink RX11 106 "LeftQuillsModel" "hands" "I") (wmx 3 rfl)) (fun _ h9 => h9) e_h0_6 dX11_dearer_18 ?_
        refine lv_icmp_ge (tgt := 58) hx hb dX11_dearer_21 (by decide) (fun c3 => ?_) (fun c3 => ?_)
        ·
          have c3 : nh ≤ k16 := (nI_leI (a := nh) (b := k16) (by omega) (by omega)).mp c3
          refine lv_iinc (v := nI (k6 + 1)) (lv' := [(2, .int (nI (k6 + 1))), (3, .int (nI k16)), (1, .int a16_1), (0, .ref h0)]) hx hb dX11_dearer_58 hl (k := 2) rfl ((rfl : nI k6 + Int32.ofInt 1 = nI k6 + 1).trans (nI_add k6 1)) (by decide) rfl (fun ls hl => ?_)
          refine lv_goto (tgt := 6) hx hb dX11_dearer_61 (by decide) ?_
          exact ih6 (k6 + 1) a16_1 _ _ _ (by omega) hP hS (lv_sub hl [0, 2, 3] rfl)
        ·
          have c3 : ¬ nh ≤ k16 := fun h => c3 ((nI_leI (a := nh) (b := k16) (by omega) (by omega)).mpr h)
          omega
      | succ d16 ih16 =>
        intro k16 a16_1 H locs ls hk16 hP hS hl
        refine lv_iload_n hx hb dX11_dearer_16 rfl (lv_at hl 0 rfl) ?_
        refine lv_aload_n hx hb dX11_dearer_17 rfl (lv_at hl 3 rfl) ?_
        refine va_get (D := (dC, dI)) (ci := 11) (v := .int (nI nh)) (C := RX11) (T := TX11) (N := 46) hx hb hts hi_X11 hown hK hP 0 rfl rfl 6 (by decide) (hts (.fieldLink RX11 106 "LeftQuillsModel" "hands" "I") (wmx 3 rfl)) (fun _ h9 => h9) e_h0_6 dX11_dearer_18 ?_
        refine lv_icmp_ge (tgt := 58) hx hb dX11_dearer_21 (by decide) (fun c4 => ?_) (fun c4 => ?_)
        ·
          have c4 : nh ≤ k16 := (nI_leI (a := nh) (b := k16) (by omega) (by omega)).mp c4
          omega
        ·
          have c4 : ¬ nh ≤ k16 := fun h => c4 ((nI_leI (a := nh) (b := k16) (by omega) (by omega)).mpr h)
          refine lv_iload_n hx hb dX11_dearer_24 rfl (lv_at hl 1 rfl) ?_
          refine lv_aload_n hx hb dX11_dearer_25 rfl (lv_at hl 3 rfl) ?_
          refine va_get (D := (dC, dI)) (ci := 11) (v := .ref m3) (C := RX11) (T := TX11) (N := 46) hx hb hts hi_X11 hown hK hP 0 rfl rfl 3 (by decide) (hts (.fieldLink RX11 7 "LeftQuillsModel" "wing" "[I") (wmx 4 rfl)) (fun _ h9 => h9) e_h0_3 dX11_dearer_26 ?_
          refine lv_iload_n hx hb dX11_dearer_29 rfl (lv_at hl 2 rfl) ?_
          refine va_iald hx hb hK hP 1 0 rfl rfl (vp_in_nI (n := k6) (N := 8) (by omega) (by decide)) dX11_dearer_30 ?_
          refine W.eq (g2 := F0 m 31 ls [.int (fm3 k6), .int a16_1]) (congrArg (fun y9 => F0 m 31 ls (.int (fm3 y9) :: [.int a16_1])) ((nI_clamp (n := k6) (by omega)))) ?_
          refine lv_if_ne (tgt := 43) hx hb dX11_dearer_31 (by decide) (fun c5 => ?_) (fun c5 => ?_)
          ·
            refine lv_aload_n hx hb dX11_dearer_43 rfl (lv_at hl 3 rfl) ?_
            refine lv_iload_n hx hb dX11_dearer_44 rfl (lv_at hl 2 rfl) ?_
            refine lv_iload_n hx hb dX11_dearer_45 rfl (lv_at hl 0 rfl) ?_
            have hPc := hP.sub (ws' := [(h0, .inr (11, f_h0)), (m3, .inl (cI, 8, .inl fm3)), (m4, .inl (cI, 8, .inl fm4)), (m5, .inl (cI, 8, .inl fm5)), (m7, .inl (cI, 4, .inl fm7)), (m8, .inl (cI, 4, .inl fm8)), (m9, .inl (cI, 4, .inl fm9)), (m10, .inl (cI, 34, .inl fm10))]) [0, 1, 2, 3, 4, 5, 6, 7] rfl
            refine va_calli (va_runV (As := [.int (nI k6), .int (nI k16)]) (rest := [.int a16_1]) ⟨hx, hb, hml, hown, hts⟩ (c_X11_goodNow l dC dI cI cZ cQ h0 m3 m4 m5 m7 m8 m9 m10 f_h0 fm3 fm4 fm5 fm7 fm8 fm9 fm10 k6 k16 nq H.size e_h0_3 e_h0_4 e_h0_5 e_h0_7 e_h0_8 e_h0_9 e_h0_10 (by omega) (by first | assumption | decide) (by omega) (by omega)) (cwV 2 hts gX11_dearer_X11_goodNow rfl rfl rfl hd_X11_goodNow_RX11 ⟨Nat.le_of_ble_eq_true rfl, Nat.le_of_ble_eq_true rfl⟩) (pv_R (va_recv hK hP (ci := 11) (q0 := 0) rfl rfl) hK hPc) rfl rfl hl.1 rfl (lv_room (Nat.le_of_ble_eq_true rfl)) dX11_dearer_46 ⟨Nat.le_of_ble_eq_true rfl, Nat.le_of_ble_eq_true rfl⟩) hS (fun q _ h => False.elim h) (fun q h => False.elim h) (fun r6 u7 t H1 locs ht hvm hw8 hB hz1 hk1 hS => ?_)
            have hP := hP.kept (fun k q hk => hk1 q.1 (hP k q hk).lt (fun h => h))
            clear hz1 hk1 hPc
            generalize H1 = H at hP hS ht ⊢
            try dsimp only at hw8
            refine lv_ineg hx hb dX11_dearer_49 ?_
            refine lv_topi (fun z9 ez9 => ?_)
            refine lv_iadd hx hb dX11_dearer_50 ?_
            refine lv_topi (fun z10 ez10 => ?_)
            refine lv_istore_n (lv' := [(1, .int z10), (3, .int (nI k16)), (2, .int (nI k6)), (0, .ref h0)]) hx hb dX11_dearer_51 rfl hl (by decide) rfl (fun ls hl => ?_)
            refine lv_iinc (v := nI (k16 + 1)) (lv' := [(3, .int (nI (k16 + 1))), (1, .int z10), (2, .int (nI k6)), (0, .ref h0)]) hx hb dX11_dearer_52 hl (k := 1) rfl ((rfl : nI k16 + Int32.ofInt 1 = nI k16 + 1).trans (nI_add k16 1)) (by decide) rfl (fun ls hl => ?_)
            refine lv_goto (tgt := 16) hx hb dX11_dearer_55 (by decide) ?_
            exact ih16 (k16 + 1) z10 _ _ _ (by omega) hP hS (lv_sub hl [0, 1, 2, 3] rfl)
          ·
            refine lv_aload_n hx hb dX11_dearer_34 rfl (lv_at hl 3 rfl) ?_
            refine lv_iload_n hx hb dX11_dearer_35 rfl (lv_at hl 2 rfl) ?_
            refine lv_iload_n hx hb dX11_dearer_36 rfl (lv_at hl 0 rfl) ?_
            have hPc := hP.sub (ws' := [(h0, .inr (11, f_h0)), (m3, .inl (cI, 8, .inl fm3)), (m4, .inl (cI, 8, .inl fm4)), (m5, .inl (cI, 8, .inl fm5)), (m7, .inl (cI, 4, .inl fm7)), (m8, .inl (cI, 4, .inl fm8)), (m9, .inl (cI, 4, .inl fm9)), (m10, .inl (cI, 34, .inl fm10))]) [0, 1, 2, 3, 4, 5, 6, 7] rfl
            refine va_calli (va_runV (As := [.int (nI k6), .int (nI k16)]) (rest := [.int a16_1]) ⟨hx, hb, hml, hown, hts⟩ (c_X11_goodNow l dC dI cI cZ cQ h0 m3 m4 m5 m7 m8 m9 m10 f_h0 fm3 fm4 fm5 fm7 fm8 fm9 fm10 k6 k16 nq H.size e_h0_3 e_h0_4 e_h0_5 e_h0_7 e_h0_8 e_h0_9 e_h0_10 (by omega) (by first | assumption | decide) (by omega) (by omega)) (cwV 2 hts gX11_dearer_X11_goodNow rfl rfl rfl hd_X11_goodNow_RX11 ⟨Nat.le_of_ble_eq_true rfl, Nat.le_of_ble_eq_true rfl⟩) (pv_R (va_recv hK hP (ci := 11) (q0 := 0) rfl rfl) hK hPc) rfl rfl hl.1 rfl (lv_room (Nat.le_of_ble_eq_true rfl)) dX11_dearer_37 ⟨Nat.le_of_ble_eq_true rfl, Nat.le_of_ble_eq_true rfl⟩) hS (fun q _ h => False.elim h) (fun q h => False.elim h) (fun r11 u12 t H1 locs ht hvm hw13 hB hz1 hk1 hS => ?_)
            have hP := hP.kept (fun k q hk => hk1 q.1 (hP k q hk).lt (fun h => h))
            clear hz1 hk1 hPc
            generalize H1 = H at hP hS ht ⊢
            try dsimp only at hw13
            refine lv_goto (tgt := 50) hx hb dX11_dearer_40 (by decide) ?_
            refine lv_iadd hx hb dX11_dearer_50 ?_
            refine lv_topi (fun z14 ez14 => ?_)
            refine lv_istore_n (lv' := [(1, .int z14), (3, .int (nI k16)), (2, .int (nI k6)), (0, .ref h0)]) hx hb dX11_dearer_51 rfl hl (by decide) rfl (fun ls hl => ?_)
            refine lv_iinc (v := nI (k16 + 1)) (lv' := [(3, .int (nI (k16 + 1))), (1, .int z14), (2, .int (nI k6)), (0, .ref h0)]) hx hb dX11_dearer_52 hl (k := 1) rfl ((rfl : nI k16 + Int32.ofInt 1 = nI k16 + 1).trans (nI_add k16 1)) (by decide) rfl (fun ls hl => ?_)
            refine lv_goto (tgt := 16) hx hb dX11_dearer_55 (by decide) ?_
            exact ih16 (k16 + 1) z14 _ _ _ (by omega) hP hS (lv_sub hl [0, 1, 2, 3] rfl)
set_option maxHeartbeats 4000000 in
set_option maxRecDepth 100000 in
theorem c_X11_geese (l : Launch) (dC : Nat → ClassId) (dI : Nat → Nat → Nat) (cI cZ cQ : ClassId) (h0 : Nat) (nq : Nat) (nh : Nat) (m3 : Nat) (m4 : Nat) (m5 : Nat) (m7 : Nat) (m8 : Nat) (m9 : Nat) (m10 : Nat) (f_h0 : List Value) (fm3 : Nat → Int32) (fm4 : Nat → Int32) (fm5 : Nat → Int32) (fm7 : Nat → Int32) (fm8 : Nat → Int32) (fm9 : Nat → Int32) (fm10 : Nat → Int32) (q0 : Int32) (q1 : Int32) (q2 : Int32) (sz : Nat) (e_h0_2 : fAt f_h0 2 = some (.int (nI nq))) (e_h0_6 : fAt f_h0 6 = some (.int (nI nh))) (e_h0_3 : fAt f_h0 3 = some (.ref m3)) (e_h0_4 : fAt f_h0 4 = some (.ref m4)) (e_h0_5 : fAt f_h0 5 = some (.ref m5)) (e_h0_7 : fAt f_h0 7 = some (.ref m7)) (e_h0_8 : fAt f_h0 8 = some (.ref m8)) (e_h0_9 : fAt f_h0 9 = some (.ref m9)) (e_h0_10 : fAt f_h0 10 = some (.ref m10)) (hnq : nq ≤ 8) (hci : cIn fm5 nq) (hnh : nh ≤ 4) : Met l yX11_geese wsX11_geese ({ frames := 6, cells := 0, slots := 0, locals := 182 }) (va_Pc [.ref h0, .int q0, .int q1, .int q2] (fun U => U.heap.size = sz ∧ va_P (dC, dI) vwCl [(h0, .inr (11, f_h0)), (m3, .inl (cI, 8, .inl fm3)), (m4, .inl (cI, 8, .inl fm4)), (m5, .inl (cI, 8, .inl fm5)), (m7, .inl (cI, 4, .inl fm7)), (m8, .inl (cI, 4, .inl fm8)), (m9, .inl (cI, 4, .inl fm9)), (m10, .inl (cI, 34, .inl fm10))] U.heap ∧ va_K (dC, dI) vwCl (tys0 cI cZ cQ) U)) (va_Qi (fun (r : Int32) (u : Nat → Nat) => True) (fun (_ : Nat → Nat) (_ : State) => True) (fun _ : Nat => False)) 0 0 (fun _ : Nat => False) := by
  refine Met.ofW (cc := cX11_geese) (maxL := 6) (ret := (some .int)) (by decide) rfl ?_
  intro p e s m args below meth c s₁ B hml hv
  obtain ⟨rfl, hsz, hP, hK⟩ := hv
  have hx := B.exec
  have hb := B.bytes
  have hr := B.returns
  have hts := atoms_spec (ws := wsX11_geese) B.pre
  have hown : s.vm.findClass RX11 = some m.cls := findClass_of_methodNamed B.named
  have hlocks := B.notSynchronized
  subst hsz
  have hS : va_S (fun _ : Nat => False) s.heap s.heap [] := va_S.rf
  have hl := lv_entry ([.ref h0, .int q0, .int q1, .int q2]) (n := 6) (Nat.le_of_ble_eq_true rfl)
  rw [lg_entry_eq]
  generalize (lg_sl ([.ref h0, .int q0, .int q1, .int q2]) ++ List.replicate (6 - (lg_sl ([.ref h0, .int q0, .int q1, .int q2])).length) Slot.unset).toArray = ls at hl ⊢
  have hl : lv_has ls 6 [(0, .ref h0), (1, .int q0), (2, .int q1), (3, .int q2)] := hl
  refine lv_aload_n hx hb dX11_geese_0 rfl (lv_at hl 0 rfl) ?_
  refine lv_iload_n hx hb dX11_geese_1 rfl (lv_at hl 1 rfl) ?_
  have hPc := hP.sub (ws' := [(h0, .inr (11, f_h0))]) [0] rfl
  refine va_calli (va_runV (As := [.int q0]) (rest := []) ⟨hx, hb, hml, hown, hts⟩ (c_X11_isQuill l dC dI cI cZ cQ h0 (nI nq) f_h0 q0 s.heap.size e_h0_2 (nI_pos' (n := nq) (by omega))) (cwV 1 hts gX11_geese_X11_isQuill rfl rfl rfl hd_X11_isQuill_RX11 ⟨Nat.le_of_ble_eq_true rfl, Nat.le_of_ble_eq_true rfl⟩) (pv_R (va_recv hK hP (ci := 11) (q0 := 0) rfl rfl) hK hPc) rfl rfl hl.1 rfl (lv_room (Nat.le_of_ble_eq_true rfl)) dX11_geese_2 ⟨Nat.le_of_ble_eq_true rfl, Nat.le_of_ble_eq_true rfl⟩) hS (fun q _ h => False.elim h) (fun q h => False.elim h) (fun r1 u2 t H1 locs ht hvm hw3 hB hz1 hk1 hS => ?_)
  have hP := hP.kept (fun k q hk => hk1 q.1 (hP k q hk).lt (fun h => h))
  clear hz1 hk1 hPc
  generalize H1 = H at hP hS ht ⊢
  try dsimp only at hw3
  rcases hw3 with ⟨rfl, hw3⟩ | ⟨rfl, hw3⟩
  ·
    obtain ⟨j4, hj4, rfl⟩ := x_ix hw3 (by omega)
    refine lv_if_eq (tgt := 16) hx hb dX11_geese_5 (by decide) (fun c5 => ?_) (fun c5 => ?_)
    · exact absurd c5 (by decide)
    clear c5
    refine lv_aload_n hx hb dX11_geese_8 rfl (lv_at hl 0 rfl) ?_
    refine lv_iload_n hx hb dX11_geese_9 rfl (lv_at hl 2 rfl) ?_
    have hPc := hP.sub (ws' := [(h0, .inr (11, f_h0))]) [0] rfl
    refine va_calli (va_runV (As := [.int q1]) (rest := []) ⟨hx, hb, hml, hown, hts⟩ (c_X11_isHand l dC dI cI cZ cQ h0 (nI nh) f_h0 q1 H.size e_h0_6 (nI_pos' (n := nh) (by omega))) (cwV 1 hts gX11_geese_X11_isHand rfl rfl rfl hd_X11_isHand_RX11 ⟨Nat.le_of_ble_eq_true rfl, Nat.le_of_ble_eq_true rfl⟩) (pv_R (va_recv hK hP (ci := 11) (q0 := 0) rfl rfl) hK hPc) rfl rfl hl.1 rfl (lv_room (Nat.le_of_ble_eq_true rfl)) dX11_geese_10 ⟨Nat.le_of_ble_eq_true rfl, Nat.le_of_ble_eq_true rfl⟩) hS (fun q _ h => False.elim h) (fun q h => False.elim h) (fun r6 u7 t H1 locs ht hvm hw8 hB hz1 hk1 hS => ?_)
    have hP := hP.kept (fun k q hk => hk1 q.1 (hP k q hk).lt (fun h => h))
    clear hz1 hk1 hPc
    generalize H1 = H at hP hS ht ⊢
    try dsimp only at hw8
    rcases hw8 with ⟨rfl, hw8⟩ | ⟨rfl, hw8⟩
    ·
      obtain ⟨j9, hj9, rfl⟩ := x_ix hw8 (by omega)
      refine lv_if_ne (tgt := 19) hx hb dX11_geese_13 (by decide) (fun c10 => ?_) (fun c10 => ?_)
      rotate_left
      · exact absurd c10 (by decide)
      clear c10
      refine lv_iload_n hx hb dX11_geese_19 rfl (lv_at hl 3 rfl) ?_
      refine lv_i2l hx hb dX11_geese_20 rfl ?_
      refine lv_lconst (v := 1) hx hb dX11_geese_21 (by decide) ?_
      refine lv_topl (fun z11 ez11 => ?_)
      obtain rfl : z11 = (1 : Int32).toInt64 := ez11.trans (by decide)
      refine lv_ldc2 (v := 99999) hx hb hown (hts (.constantLong RX11 307 99999) (wmx 2 rfl)) dX11_geese_22 ?_
      refine lv_topl (fun z12 ez12 => ?_)
      obtain rfl : z12 = (99999 : Int32).toInt64 := ez12.trans (by decide)
      have hPc := hP.sub (ws' := []) [] rfl
      refine va_calli (va_runS (As := [.long q2.toInt64, .long ((1 : Int32).toInt64), .long ((99999 : Int32).toInt64)]) (rest := []) ⟨hx, hb, hml, hown, hts⟩ (c_X11_in l dC dI cI cZ cQ q2 1 99999 H.size ) (va_cwS 3 hts gX11_geese_X11_in rfl rfl rfl (by decide +kernel) ⟨Nat.le_of_ble_eq_true rfl, Nat.le_of_ble_eq_true rfl⟩) (ps_R hK hPc) rfl rfl hl.1 rfl (lv_room (Nat.le_of_ble_eq_true rfl)) dX11_geese_25 ⟨Nat.le_of_ble_eq_true rfl, Nat.le_of_ble_eq_true rfl⟩) hS (fun q _ h => False.elim h) (fun q h => False.elim h) (fun r13 u14 t H1 locs ht hvm hw15 hB hz1 hk1 hS => ?_)
      have hP := hP.kept (fun k q hk => hk1 q.1 (hP k q hk).lt (fun h => h))
      clear hz1 hk1 hPc
      generalize H1 = H at hP hS ht ⊢
      try dsimp only at hw15
      rcases hw15 with ⟨rfl, hw15⟩ | ⟨rfl, hw15⟩
      ·
        refine lv_if_ne (tgt := 34) hx hb dX11_geese_28 (by decide) (fun c16 => ?_) (fun c16 => ?_)
        rotate_left
        · exact absurd c16 (by decide)
        clear c16
        refine lv_aload_n hx hb dX11_geese_34 rfl (lv_at hl 0 rfl) ?_
        refine lv_iload_n hx hb dX11_geese_35 rfl (lv_at hl 1 rfl) ?_
        refine lv_iload_n hx hb dX11_geese_36 rfl (lv_at hl 2 rfl) ?_
        have hPc := hP.sub (ws' := [(h0, .inr (11, f_h0)), (m3, .inl (cI, 8, .inl fm3)), (m4, .inl (cI, 8, .inl fm4)), (m5, .inl (cI, 8, .inl fm5)), (m7, .inl (cI, 4, .inl fm7)), (m8, .inl (cI, 4, .inl fm8)), (m9, .inl (cI, 4, .inl fm9)), (m10, .inl (cI, 34, .inl fm10))]) [0, 1, 2, 3, 4, 5, 6, 7] rfl
        refine va_calli (va_runV (As := [.int (nI j4), .int (nI j9)]) (rest := []) ⟨hx, hb, hml, hown, hts⟩ (c_X11_lifeOf l dC dI cI cZ cQ h0 m3 m4 m5 m7 m8 m9 m10 f_h0 fm3 fm4 fm5 fm7 fm8 fm9 fm10 j4 j9 nq H.size e_h0_3 e_h0_4 e_h0_5 e_h0_7 e_h0_8 e_h0_9 e_h0_10 (by omega) (by first | assumption | decide) (by omega) (by omega)) (cwV 2 hts gX11_geese_X11_lifeOf rfl rfl rfl hd_X11_lifeOf_RX11 ⟨Nat.le_of_ble_eq_true rfl, Nat.le_of_ble_eq_true rfl⟩) (pv_R (va_recv hK hP (ci := 11) (q0 := 0) rfl rfl) hK hPc) rfl rfl hl.1 rfl (lv_room (Nat.le_of_ble_eq_true rfl)) dX11_geese_37 ⟨Nat.le_of_ble_eq_true rfl, Nat.le_of_ble_eq_true rfl⟩) hS (fun q _ h => False.elim h) (fun q h => False.elim h) (fun r17 u18 t H1 locs ht hvm hw19 hB hz1 hk1 hS => ?_)
        have hP := hP.kept (fun k q hk => hk1 q.1 (hP k q hk).lt (fun h => h))
        clear hz1 hk1 hPc
        generalize H1 = H at hP hS ht ⊢
        try dsimp only at hw19
        refine lv_istore (lv' := [(4, .int r17), (0, .ref h0), (1, .int (nI j4)), (2, .int (nI j9)), (3, .int q2)]) hx hb dX11_geese_40 hl (by decide) rfl (fun ls hl => ?_)
        refine lv_iload hx hb dX11_geese_42 (lv_at hl 0 rfl) ?_
        refine lv_if_ne (tgt := 49) hx hb dX11_geese_44 (by decide) (fun c20 => ?_) (fun c20 => ?_)
        ·
          refine lv_iload_n hx hb dX11_geese_49 rfl (lv_at hl 4 rfl) ?_
          refine lv_iload hx hb dX11_geese_50 (lv_at hl 0 rfl) ?_
          refine lv_iadd hx hb dX11_geese_52 ?_
          refine lv_topi (fun z21 ez21 => ?_)
          refine lv_iconst (v := 1) hx hb dX11_geese_53 (by decide) ?_
          refine lv_isub hx hb dX11_geese_54 ?_
          refine lv_topi (fun z22 ez22 => ?_)
          refine lv_iload hx hb dX11_geese_55 (lv_at hl 0 rfl) ?_
          refine lv_idiv hx hb dX11_geese_57 c20 ?_
          refine lv_topi (fun z23 ez23 => ?_)
          refine lv_istore (lv' := [(5, .int z23), (4, .int r17), (0, .ref h0), (1, .int (nI j4)), (2, .int (nI j9)), (3, .int q2)]) hx hb dX11_geese_58 hl (by decide) rfl (fun ls hl => ?_)
          refine lv_iload hx hb dX11_geese_60 (lv_at hl 0 rfl) ?_
          refine lv_bipush (v := 9) hx hb dX11_geese_62 (by decide) ?_
          refine lv_iadd hx hb dX11_geese_64 ?_
          refine lv_topi (fun z24 ez24 => ?_)
          refine lv_bipush (v := 10) hx hb dX11_geese_65 (by decide) ?_
          refine lv_idiv hx hb dX11_geese_67 (by decide) ?_
          refine lv_topi (fun z25 ez25 => ?_)
          exact W.iret (v := z25) hx hb hr (fun t ht hW => ⟨⟨z25, (fun _ => 0), rfl, trivial, trivial⟩, hS.F ht⟩) hS.2.2 dX11_geese_68
        ·
          refine lv_iconst (v := (-1)) hx hb dX11_geese_47 (by decide) ?_
          exact W.iret (v := (-1)) hx hb hr (fun t ht hW => ⟨⟨(-1), (fun _ => 0), rfl, trivial, trivial⟩, hS.F ht⟩) hS.2.2 dX11_geese_48
      ·
        refine lv_if_ne (tgt := 34) hx hb dX11_geese_28 (by decide) (fun c26 => ?_) (fun c26 => ?_)
        · exact absurd c26 (by decide)
        clear c26
        refine lv_ldc (v := (-1000000002)) hx hb hown (hts (.constant RX11 111 (-1000000002)) (wmx 3 rfl)) dX11_geese_31 ?_
        exact W.iret (v := (-1000000002)) hx hb hr (fun t ht hW => ⟨⟨(-1000000002), (fun _ => 0), rfl, trivial, trivial⟩, hS.F ht⟩) hS.2.2 dX11_geese_33
    ·
      refine lv_if_ne (tgt := 19) hx hb dX11_geese_13 (by decide) (fun c27 => ?_) (fun c27 => ?_)
      · exact absurd c27 (by decide)
      clear c27
      refine lv_ldc (v := (-1000000001)) hx hb hown (hts (.constant RX11 188 (-1000000001)) (wmx 1 rfl)) dX11_geese_16 ?_
      exact W.iret (v := (-1000000001)) hx hb hr (fun t ht hW => ⟨⟨(-1000000001), (fun _ => 0), rfl, trivial, trivial⟩, hS.F ht⟩) hS.2.2 dX11_geese_18
  ·
    refine lv_if_eq (tgt := 16) hx hb dX11_geese_5 (by decide) (fun c28 => ?_) (fun c28 => ?_)
    rotate_left
    · exact absurd c28 (by decide)
    clear c28
    refine lv_ldc (v := (-1000000001)) hx hb hown (hts (.constant RX11 188 (-1000000001)) (wmx 1 rfl)) dX11_geese_16 ?_
    exact W.iret (v := (-1000000001)) hx hb hr (fun t ht hW => ⟨⟨(-1000000001), (fun _ => 0), rfl, trivial, trivial⟩, hS.F ht⟩) hS.2.2 dX11_geese_18
set_option maxHeartbeats 4000000 in
set_option maxRecDepth 100000 in
theorem c_X11_crooked (l : Launch) (dC : Nat → ClassId) (dI : Nat → Nat → Nat) (cI cZ cQ : ClassId) (h0 : Nat) (m10 : Nat) (f_h0 : List Value) (fm10 : Nat → Int32) (q0 : Int32) (q1 : Int32) (sz : Nat) (e_h0_10 : fAt f_h0 10 = some (.ref m10)) : Met l yX11_crooked wsX11_crooked ({ frames := 1, cells := 0, slots := 0, locals := 65 }) (va_Pc [.ref h0, .int q0, .int q1] (fun U => U.heap.size = sz ∧ va_P (dC, dI) vwCl [(h0, .inr (11, f_h0)), (m10, .inl (cI, 34, .inl fm10))] U.heap ∧ va_K (dC, dI) vwCl (tys0 cI cZ cQ) U)) (va_Qi (fun (r : Int32) (u : Nat → Nat) => True) (fun (_ : Nat → Nat) (_ : State) => True) (fun _ : Nat => False)) 0 0 (fun _ : Nat => False) := by
  refine Met.ofW (cc := cX11_crooked) (maxL := 7) (ret := (some .int)) (by decide) rfl ?_
  intro p e s m args below meth c s₁ B hml hv
  obtain ⟨rfl, hsz, hP, hK⟩ := hv
  have hx := B.exec
  have hb := B.bytes
  have hr := B.returns
  have hts := atoms_spec (ws := wsX11_crooked) B.pre
  have hown : s.vm.findClass RX11 = some m.cls := findClass_of_methodNamed B.named
  have hlocks := B.notSynchronized
  have hi_X11 : ∀ w ∈ u_ws RX11 TX11 46, w ∈ wsX11_crooked := fun _ h => List.mem_cons_of_mem _ (List.mem_append_right _ (h))
  subst hsz
  have hS : va_S (fun _ : Nat => False) s.heap s.heap [] := va_S.rf
  have hl := lv_entry ([.ref h0, .int q0, .int q1]) (n := 7) (Nat.le_of_ble_eq_true rfl)
  rw [lg_entry_eq]
  generalize (lg_sl ([.ref h0, .int q0, .int q1]) ++ List.replicate (7 - (lg_sl ([.ref h0, .int q0, .int q1])).length) Slot.unset).toArray = ls at hl ⊢
  have hl : lv_has ls 7 [(0, .ref h0), (1, .int q0), (2, .int q1)] := hl
  refine lv_iload_n hx hb dX11_crooked_0 rfl (lv_at hl 1 rfl) ?_
  refine lv_i2l hx hb dX11_crooked_1 rfl ?_
  refine lv_lconst (v := 0) hx hb dX11_crooked_2 (by decide) ?_
  refine lv_topl (fun z1 ez1 => ?_)
  obtain rfl : z1 = (0 : Int32).toInt64 := ez1.trans (by decide)
  refine lv_ldc2 (v := 60) hx hb hown (hts (.constantLong RX11 254 60) (wmx 1 rfl)) dX11_crooked_3 ?_
  refine lv_topl (fun z2 ez2 => ?_)
  obtain rfl : z2 = (60 : Int32).toInt64 := ez2.trans (by decide)
  have hPc := hP.sub (ws' := []) [] rfl
  refine va_calli (va_runS (As := [.long q0.toInt64, .long ((0 : Int32).toInt64), .long ((60 : Int32).toInt64)]) (rest := []) ⟨hx, hb, hml, hown, hts⟩ (c_X11_in l dC dI cI cZ cQ q0 0 60 s.heap.size ) (va_cwS 3 hts gX11_crooked_X11_in rfl rfl rfl (by decide +kernel) ⟨Nat.le_of_ble_eq_true rfl, Nat.le_of_ble_eq_true rfl⟩) (ps_R hK hPc) rfl rfl hl.1 rfl (lv_room (Nat.le_of_ble_eq_true rfl)) dX11_crooked_6 ⟨Nat.le_of_ble_eq_true rfl, Nat.le_of_ble_eq_true rfl⟩) hS (fun q _ h => False.elim h) (fun q h => False.elim h) (fun r3 u4 t H1 locs ht hvm hw5 hB hz1 hk1 hS => ?_)
  have hP := hP.kept (fun k q hk => hk1 q.1 (hP k q hk).lt (fun h => h))
  clear hz1 hk1 hPc
  generalize H1 = H at hP hS ht ⊢
  try dsimp only at hw5
  rcases hw5 with ⟨rfl, hw5⟩ | ⟨rfl, hw5⟩
  ·
    obtain ⟨j6, haj6, hbj6, rfl⟩ := x_rng (a := 0) (b := 60) (by decide) (by decide) hw5
    refine lv_if_eq (tgt := 24) hx hb dX11_crooked_9 (by decide) (fun c7 => ?_) (fun c7 => ?_)
    · exact absurd c7 (by decide)
    clear c7
    refine lv_iload_n hx hb dX11_crooked_12 rfl (lv_at hl 2 rfl) ?_
    refine lv_i2l hx hb dX11_crooked_13 rfl ?_
    refine lv_lconst (v := 0) hx hb dX11_crooked_14 (by decide) ?_
    refine lv_topl (fun z8 ez8 => ?_)
    obtain rfl : z8 = (0 : Int32).toInt64 := ez8.trans (by decide)
    refine lv_ldc2 (v := 100) hx hb hown (hts (.constantLong RX11 309 100) (wmx 2 rfl)) dX11_crooked_15 ?_
    refine lv_topl (fun z9 ez9 => ?_)
    obtain rfl : z9 = (100 : Int32).toInt64 := ez9.trans (by decide)
    have hPc := hP.sub (ws' := []) [] rfl
    refine va_calli (va_runS (As := [.long q1.toInt64, .long ((0 : Int32).toInt64), .long ((100 : Int32).toInt64)]) (rest := []) ⟨hx, hb, hml, hown, hts⟩ (c_X11_in l dC dI cI cZ cQ q1 0 100 H.size ) (va_cwS 3 hts gX11_crooked_X11_in rfl rfl rfl (by decide +kernel) ⟨Nat.le_of_ble_eq_true rfl, Nat.le_of_ble_eq_true rfl⟩) (ps_R hK hPc) rfl rfl hl.1 rfl (lv_room (Nat.le_of_ble_eq_true rfl)) dX11_crooked_18 ⟨Nat.le_of_ble_eq_true rfl, Nat.le_of_ble_eq_true rfl⟩) hS (fun q _ h => False.elim h) (fun q h => False.elim h) (fun r10 u11 t H1 locs ht hvm hw12 hB hz1 hk1 hS => ?_)
    have hP := hP.kept (fun k q hk => hk1 q.1 (hP k q hk).lt (fun h => h))
    clear hz1 hk1 hPc
    generalize H1 = H at hP hS ht ⊢
    try dsimp only at hw12
    rcases hw12 with ⟨rfl, hw12⟩ | ⟨rfl, hw12⟩
    ·
      obtain ⟨j13, haj13, hbj13, rfl⟩ := x_rng (a := 0) (b := 100) (by decide) (by decide) hw12
      refine lv_if_ne (tgt := 27) hx hb dX11_crooked_21 (by decide) (fun c14 => ?_) (fun c14 => ?_)
      rotate_left
      · exact absurd c14 (by decide)
      clear c14
      refine lv_iload_n hx hb dX11_crooked_27 rfl (lv_at hl 2 rfl) ?_
      refine lv_iconst (v := 3) hx hb dX11_crooked_28 (by decide) ?_
      refine lv_aload_n hx hb dX11_crooked_29 rfl (lv_at hl 0 rfl) ?_
      refine va_get (D := (dC, dI)) (ci := 11) (v := .ref m10) (C := RX11) (T := TX11) (N := 46) hx hb hts hi_X11 hown hK hP 0 rfl rfl 10 (by decide) (hts (.fieldLink RX11 28 "LeftQuillsModel" "now" "[I") (wmx 4 rfl)) (fun _ h9 => h9) e_h0_10 dX11_crooked_30 ?_
      refine lv_bipush (v := 33) hx hb dX11_crooked_33 (by decide) ?_
      refine va_iald hx hb hK hP 1 0 rfl rfl (vp_in_iff.mpr ⟨by decide, by decide⟩) dX11_crooked_35 ?_
      refine W.eq (g2 := F0 m 36 ls [.int (fm10 33), .int 3, .int (nI j13)]) (congrArg (fun y9 => F0 m 36 ls (.int (fm10 y9) :: [.int 3, .int (nI j13)])) ((show ((33 : Int32)).toNatClampNeg = 33 from by decide))) ?_
      refine lv_imul hx hb dX11_crooked_36 ?_
      refine lv_topi (fun z15 ez15 => ?_)
      refine lv_iadd hx hb dX11_crooked_37 ?_
      refine lv_topi (fun z16 ez16 => ?_)
      refine lv_bipush (v := 100) hx hb dX11_crooked_38 (by decide) ?_
      refine lv_icmp_ge (tgt := 57) hx hb dX11_crooked_40 (by decide) (fun c17 => ?_) (fun c17 => ?_)
      ·
        refine lv_bipush (v := 100) hx hb dX11_crooked_57 (by decide) ?_
        refine lv_istore_n (lv' := [(3, .int 100), (0, .ref h0), (1, .int (nI j6)), (2, .int (nI j13))]) hx hb dX11_crooked_59 rfl hl (by decide) rfl (fun ls hl => ?_)
        refine lv_ldc2 (v := 1000000000) hx hb hown (hts (.constantLong RX11 311 1000000000) (wmx 5 rfl)) dX11_crooked_60 ?_
        refine lv_lstore (lv' := [(4, .long 1000000000), (3, .int 100), (0, .ref h0), (1, .int (nI j6)), (2, .int (nI j13))]) hx hb dX11_crooked_63 hl (by decide) rfl (fun ls hl => ?_)
        refine lv_iconst (v := 0) hx hb dX11_crooked_65 (by decide) ?_
        refine lv_istore (lv' := [(6, .int 0), (4, .long 1000000000), (3, .int 100), (0, .ref h0), (1, .int (nI j6)), (2, .int (nI j13))]) hx hb dX11_crooked_66 hl (by decide) rfl (fun ls hl => ?_)
        refine (fun (K : ∀ (d68 : Nat) (k68 : Nat) (a68_4 : Int64) (H : Heap) (locs : List Loc) (ls : Array Slot), k68 + d68 = j6 → va_P (dC, dI) vwCl [(h0, .inr (11, f_h0)), (m10, .inl (cI, 34, .inl fm10))] H → va_S (fun _ : Nat => False) s.heap H locs → lv_has ls 7 [(6, .int (nI k68)), (4, .long a68_4), (3, .int 100), (0, .ref h0), (1, .int (nI j6)), (2, .int (nI j13))] → W p l e _ s m _ below meth c H locs _ _ _ (F0 m 68 ls [])) => K j6 0 1000000000 _ _ _ (by omega) hP hS (lv_sub hl [0, 1, 2, 3, 4, 5] rfl)) ?_
        intro d68
        induction d68 with
        | zero =>
          intro k68 a68_4 H locs ls hk68 hP hS hl
          refine lv_iload hx hb dX11_crooked_68 (lv_at hl 0 rfl) ?_
          refine lv_iload_n hx hb dX11_crooked_70 rfl (lv_at hl 4 rfl) ?_
          refine lv_icmp_ge (tgt := 94) hx hb dX11_crooked_71 (by decide) (fun c18 => ?_) (fun c18 => ?_)
          ·
            have c18 : j6 ≤ k68 := (nI_leI (a := j6) (b := k68) (by omega) (by omega)).mp c18
            refine lv_lload hx hb dX11_crooked_94 (lv_at hl 1 rfl) ?_
            refine lv_l2i hx hb dX11_crooked_96 rfl ?_
            exact W.iret (v := a68_4.toInt32) hx hb hr (fun t ht hW => ⟨⟨a68_4.toInt32, (fun _ => 0), rfl, trivial, trivial⟩, hS.F ht⟩) hS.2.2 dX11_crooked_97
          ·
            have c18 : ¬ j6 ≤ k68 := fun h => c18 ((nI_leI (a := j6) (b := k68) (by omega) (by omega)).mpr h)
            omega
        | succ d68 ih68 =>
          intro k68 a68_4 H locs ls hk68 hP hS hl
          refine lv_iload hx hb dX11_crooked_68 (lv_at hl 0 rfl) ?_
          refine lv_iload_n hx hb dX11_crooked_70 rfl (lv_at hl 4 rfl) ?_
          refine lv_icmp_ge (tgt := 94) hx hb dX11_crooked_71 (by decide) (fun c19 => ?_) (fun c19 => ?_)
          ·
            have c19 : j6 ≤ k68 := (nI_leI (a := j6) (b := k68) (by omega) (by omega)).mp c19
            omega
          ·
            have c19 : ¬ j6 ≤ k68 := fun h => c19 ((nI_leI (a := j6) (b := k68) (by omega) (by omega)).mpr h)
            refine lv_lload hx hb dX11_crooked_74 (lv_at hl 1 rfl) ?_
            refine lv_bipush (v := 100) hx hb dX11_crooked_76 (by decide) ?_
            refine lv_iload_n hx hb dX11_crooked_78 rfl (lv_at hl 2 rfl) ?_
            refine lv_isub hx hb dX11_crooked_79 ?_
            refine lv_topi (fun z20 ez20 => ?_)
            obtain rfl : z20 = 0 := ez20.trans (by decide)
            refine lv_i2l hx hb dX11_crooked_80 rfl ?_
            refine lv_lmul hx hb dX11_crooked_81 ?_
            refine lv_topl (fun z21 ez21 => ?_)
            refine lv_ldc2 (v := 100) hx hb hown (hts (.constantLong RX11 309 100) (wmx 2 rfl)) dX11_crooked_82 ?_
            refine lv_ldiv hx hb dX11_crooked_85 (by decide) ?_
            refine lv_topl (fun z22 ez22 => ?_)
            refine lv_lstore (lv' := [(4, .long z22), (6, .int (nI k68)), (3, .int 100), (0, .ref h0), (1, .int (nI j6)), (2, .int (nI j13))]) hx hb dX11_crooked_86 hl (by decide) rfl (fun ls hl => ?_)
            refine lv_iinc (v := nI (k68 + 1)) (lv' := [(6, .int (nI (k68 + 1))), (4, .long z22), (3, .int 100), (0, .ref h0), (1, .int (nI j6)), (2, .int (nI j13))]) hx hb dX11_crooked_88 hl (k := 1) rfl ((rfl : nI k68 + Int32.ofInt 1 = nI k68 + 1).trans (nI_add k68 1)) (by decide) rfl (fun ls hl => ?_)
            refine lv_goto (tgt := 68) hx hb dX11_crooked_91 (by decide) ?_
            exact ih68 (k68 + 1) z22 _ _ _ (by omega) hP hS (lv_sub hl [0, 1, 2, 3, 4, 5] rfl)
      ·
        refine lv_iload_n hx hb dX11_crooked_43 rfl (lv_at hl 2 rfl) ?_
        refine lv_iconst (v := 3) hx hb dX11_crooked_44 (by decide) ?_
        refine lv_aload_n hx hb dX11_crooked_45 rfl (lv_at hl 0 rfl) ?_
        refine va_get (D := (dC, dI)) (ci := 11) (v := .ref m10) (C := RX11) (T := TX11) (N := 46) hx hb hts hi_X11 hown hK hP 0 rfl rfl 10 (by decide) (hts (.fieldLink RX11 28 "LeftQuillsModel" "now" "[I") (wmx 4 rfl)) (fun _ h9 => h9) e_h0_10 dX11_crooked_46 ?_
        refine lv_bipush (v := 33) hx hb dX11_crooked_49 (by decide) ?_
        refine va_iald hx hb hK hP 1 0 rfl rfl (vp_in_iff.mpr ⟨by decide, by decide⟩) dX11_crooked_51 ?_
        refine W.eq (g2 := F0 m 52 ls [.int (fm10 33), .int 3, .int (nI j13)]) (congrArg (fun y9 => F0 m 52 ls (.int (fm10 y9) :: [.int 3, .int (nI j13)])) ((show ((33 : Int32)).toNatClampNeg = 33 from by decide))) ?_
        refine lv_imul hx hb dX11_crooked_52 ?_
        refine lv_topi (fun z23 ez23 => ?_)
        refine lv_iadd hx hb dX11_crooked_53 ?_
        refine lv_topi (fun z24 ez24 => ?_)
        refine lv_goto (tgt := 59) hx hb dX11_crooked_54 (by decide) ?_
        refine lv_istore_n (lv' := [(3, .int z24), (0, .ref h0), (1, .int (nI j6)), (2, .int (nI j13))]) hx hb dX11_crooked_59 rfl hl (by decide) rfl (fun ls hl => ?_)
        refine lv_ldc2 (v := 1000000000) hx hb hown (hts (.constantLong RX11 311 1000000000) (wmx 5 rfl)) dX11_crooked_60 ?_
        refine lv_lstore (lv' := [(4, .long 1000000000), (3, .int z24), (0, .ref h0), (1, .int (nI j6)), (2, .int (nI j13))]) hx hb dX11_crooked_63 hl (by decide) rfl (fun ls hl => ?_)
        refine lv_iconst (v := 0) hx hb dX11_crooked_65 (by decide) ?_
        refine lv_istore (lv' := [(6, .int 0), (4, .long 1000000000), (3, .int z24), (0, .ref h0), (1, .int (nI j6)), (2, .int (nI j13))]) hx hb dX11_crooked_66 hl (by decide) rfl (fun ls hl => ?_)
        refine (fun (K : ∀ (d68 : Nat) (k68 : Nat) (a68_4 : Int64) (H : Heap) (locs : List Loc) (ls : Array Slot), k68 + d68 = j6 → va_P (dC, dI) vwCl [(h0, .inr (11, f_h0)), (m10, .inl (cI, 34, .inl fm10))] H → va_S (fun _ : Nat => False) s.heap H locs → lv_has ls 7 [(6, .int (nI k68)), (4, .long a68_4), (3, .int z24), (0, .ref h0), (1, .int (nI j6)), (2, .int (nI j13))] → W p l e _ s m _ below meth c H locs _ _ _ (F0 m 68 ls [])) => K j6 0 1000000000 _ _ _ (by omega) hP hS (lv_sub hl [0, 1, 2, 3, 4, 5] rfl)) ?_
        intro d68
        induction d68 with
        | zero =>
          intro k68 a68_4 H locs ls hk68 hP hS hl
          refine lv_iload hx hb dX11_crooked_68 (lv_at hl 0 rfl) ?_
          refine lv_iload_n hx hb dX11_crooked_70 rfl (lv_at hl 4 rfl) ?_
          refine lv_icmp_ge (tgt := 94) hx hb dX11_crooked_71 (by decide) (fun c25 => ?_) (fun c25 => ?_)
          ·
            have c25 : j6 ≤ k68 := (nI_leI (a := j6) (b := k68) (by omega) (by omega)).mp c25
            refine lv_lload hx hb dX11_crooked_94 (lv_at hl 1 rfl) ?_
            refine lv_l2i hx hb dX11_crooked_96 rfl ?_
            exact W.iret (v := a68_4.toInt32) hx hb hr (fun t ht hW => ⟨⟨a68_4.toInt32, (fun _ => 0), rfl, trivial, trivial⟩, hS.F ht⟩) hS.2.2 dX11_crooked_97
          ·
            have c25 : ¬ j6 ≤ k68 := fun h => c25 ((nI_leI (a := j6) (b := k68) (by omega) (by omega)).mpr h)
            omega
        | succ d68 ih68 =>
          intro k68 a68_4 H locs ls hk68 hP hS hl
          refine lv_iload hx hb dX11_crooked_68 (lv_at hl 0 rfl) ?_
          refine lv_iload_n hx hb dX11_crooked_70 rfl (lv_at hl 4 rfl) ?_
          refine lv_icmp_ge (tgt := 94) hx hb dX11_crooked_71 (by decide) (fun c26 => ?_) (fun c26 => ?_)
          ·
            have c26 : j6 ≤ k68 := (nI_leI (a := j6) (b := k68) (by omega) (by omega)).mp c26
            omega
          ·
            have c26 : ¬ j6 ≤ k68 := fun h => c26 ((nI_leI (a := j6) (b := k68) (by omega) (by omega)).mpr h)
            refine lv_lload hx hb dX11_crooked_74 (lv_at hl 1 rfl) ?_
            refine lv_bipush (v := 100) hx hb dX11_crooked_76 (by decide) ?_
            refine lv_iload_n hx hb dX11_crooked_78 rfl (lv_at hl 2 rfl) ?_
            refine lv_isub hx hb dX11_crooked_79 ?_
            refine lv_topi (fun z27 ez27 => ?_)
            refine lv_i2l hx hb dX11_crooked_80 rfl ?_
            refine lv_lmul hx hb dX11_crooked_81 ?_
            refine lv_topl (fun z28 ez28 => ?_)
            refine lv_ldc2 (v := 100) hx hb hown (hts (.constantLong RX11 309 100) (wmx 2 rfl)) dX11_crooked_82 ?_
            refine lv_ldiv hx hb dX11_crooked_85 (by decide) ?_
            refine lv_topl (fun z29 ez29 => ?_)
            refine lv_lstore (lv' := [(4, .long z29), (6, .int (nI k68)), (3, .int z24), (0, .ref h0), (1, .int (nI j6)), (2, .int (nI j13))]) hx hb dX11_crooked_86 hl (by decide) rfl (fun ls hl => ?_)
            refine lv_iinc (v := nI (k68 + 1)) (lv' := [(6, .int (nI (k68 + 1))), (4, .long z29), (3, .int z24), (0, .ref h0), (1, .int (nI j6)), (2, .int (nI j13))]) hx hb dX11_crooked_88 hl (k := 1) rfl ((rfl : nI k68 + Int32.ofInt 1 = nI k68 + 1).trans (nI_add k68 1)) (by decide) rfl (fun ls hl => ?_)
            refine lv_goto (tgt := 68) hx hb dX11_crooked_91 (by decide) ?_
            exact ih68 (k68 + 1) z29 _ _ _ (by omega) hP hS (lv_sub hl [0, 1, 2, 3, 4, 5] rfl)
    ·
      refine lv_if_ne (tgt := 27) hx hb dX11_crooked_21 (by decide) (fun c30 => ?_) (fun c30 => ?_)
      · exact absurd c30 (by decide)
      clear c30
      refine lv_ldc (v := (-1000000002)) hx hb hown (hts (.constant RX11 111 (-1000000002)) (wmx 3 rfl)) dX11_crooked_24 ?_
      exact W.iret (v := (-1000000002)) hx hb hr (fun t ht hW => ⟨⟨(-1000000002), (fun _ => 0), rfl, trivial, trivial⟩, hS.F ht⟩) hS.2.2 dX11_crooked_26
  ·
    refine lv_if_eq (tgt := 24) hx hb dX11_crooked_9 (by decide) (fun c31 => ?_) (fun c31 => ?_)
    rotate_left
    · exact absurd c31 (by decide)
    clear c31
    refine lv_ldc (v := (-1000000002)) hx hb hown (hts (.constant RX11 111 (-1000000002)) (wmx 3 rfl)) dX11_crooked_24 ?_
    exact W.iret (v := (-1000000002)) hx hb hr (fun t ht hW => ⟨⟨(-1000000002), (fun _ => 0), rfl, trivial, trivial⟩, hS.F ht⟩) hS.2.2 dX11_crooked_26
set_option maxHeartbeats 4000000 in
set_option maxRecDepth 100000 in
theorem c_X11_doTurns (l : Launch) (dC : Nat → ClassId) (dI : Nat → Nat → Nat) (cI cZ cQ : ClassId) (h0 : Nat) (m3 : Nat) (m4 : Nat) (m5 : Nat) (m7 : Nat) (m8 : Nat) (m9 : Nat) (m10 : Nat) (m36 : Nat) (f_h0 : List Value) (fm3 : Nat → Int32) (fm4 : Nat → Int32) (fm5 : Nat → Int32) (fm7 : Nat → Int32) (fm8 : Nat → Int32) (fm9 : Nat → Int32) (fm10 : Nat → Int32) (fm36 : Nat → Int32) (j : Nat) (k : Nat) (mo : Nat) (nq : Nat) (sz : Nat) (e_h0_3 : fAt f_h0 3 = some (.ref m3)) (e_h0_4 : fAt f_h0 4 = some (.ref m4)) (e_h0_5 : fAt f_h0 5 = some (.ref m5)) (e_h0_7 : fAt f_h0 7 = some (.ref m7)) (e_h0_8 : fAt f_h0 8 = some (.ref m8)) (e_h0_9 : fAt f_h0 9 = some (.ref m9)) (e_h0_10 : fAt f_h0 10 = some (.ref m10)) (e_h0_36 : fAt f_h0 36 = some (.ref m36)) (hnq : nq ≤ 8) (hci : cIn fm5 nq) (hj : j < nq) (hk : k < 4) (hmo : mo ≤ 9) (hm1 : 1 ≤ mo) : Met l yX11_doTurns wsX11_doTurns ({ frames := 3, cells := 0, slots := 0, locals := 109 }) (va_Pc [.ref h0, .int (nI j), .int (nI k), .int (nI mo)] (fun U => U.heap.size = sz ∧ va_P (dC, dI) vwCl [(h0, .inr (11, f_h0)), (m3, .inl (cI, 8, .inl fm3)), (m4, .inl (cI, 8, .inl fm4)), (m5, .inl (cI, 8, .inl fm5)), (m7, .inl (cI, 4, .inl fm7)), (m8, .inl (cI, 4, .inl fm8)), (m9, .inl (cI, 4, .inl fm9)), (m10, .inl (cI, 34, .inl fm10)), (m36, .inl (cI, 9, .inl fm36))] U.heap ∧ va_K (dC, dI) vwCl (tys0 cI cZ cQ) U ∧ va_D (fun _ => True) [(h0, .inr (11, f_h0)), (m3, .inl (cI, 8, .inl fm3)), (m4, .inl (cI, 8, .inl fm4)), (m5, .inl (cI, 8, .inl fm5)), (m7, .inl (cI, 4, .inl fm7)), (m8, .inl (cI, 4, .inl fm8)), (m9, .inl (cI, 4, .inl fm9)), (m10, .inl (cI, 34, .inl fm10)), (m36, .inl (cI, 9, .inl fm36))])) (va_Qi (fun (r : Int32) (u : Nat → Nat) => r = 1 ∨ r = 0) (fun (_ : Nat → Nat) (t : State) => ∃ (gg0 : Nat → Int32) , va_P (dC, dI) vwCl [(h0, .inr (11, f_h0)), (m3, .inl (cI, 8, .inl fm3)), (m4, .inl (cI, 8, .inl fm4)), (m5, .inl (cI, 8, .inl fm5)), (m7, .inl (cI, 4, .inl fm7)), (m8, .inl (cI, 4, .inl fm8)), (m9, .inl (cI, 4, .inl fm9)), (m10, .inl (cI, 34, .inl fm10)), (m36, .inl (cI, 9, .inl gg0))] t.heap ∧ va_D (va_A [(h0, .inr (11, f_h0)), (m3, .inl (cI, 8, .inl fm3)), (m4, .inl (cI, 8, .inl fm4)), (m5, .inl (cI, 8, .inl fm5)), (m7, .inl (cI, 4, .inl fm7)), (m8, .inl (cI, 4, .inl fm8)), (m9, .inl (cI, 4, .inl fm9)), (m10, .inl (cI, 34, .inl fm10)), (m36, .inl (cI, 9, .inl fm36))] sz) [(h0, .inr (11, f_h0)), (m3, .inl (cI, 8, .inl fm3)), (m4, .inl (cI, 8, .inl fm4)), (m5, .inl (cI, 8, .inl fm5)), (m7, .inl (cI, 4, .inl fm7)), (m8, .inl (cI, 4, .inl fm8)), (m9, .inl (cI, 4, .inl fm9)), (m10, .inl (cI, 34, .inl fm10)), (m36, .inl (cI, 9, .inl gg0))]) (va_A [(h0, .inr (11, f_h0)), (m3, .inl (cI, 8, .inl fm3)), (m4, .inl (cI, 8, .inl fm4)), (m5, .inl (cI, 8, .inl fm5)), (m7, .inl (cI, 4, .inl fm7)), (m8, .inl (cI, 4, .inl fm8)), (m9, .inl (cI, 4, .inl fm9)), (m10, .inl (cI, 34, .inl fm10)), (m36, .inl (cI, 9, .inl fm36))] sz)) 0 0 (va_A [(h0, .inr (11, f_h0)), (m3, .inl (cI, 8, .inl fm3)), (m4, .inl (cI, 8, .inl fm4)), (m5, .inl (cI, 8, .inl fm5)), (m7, .inl (cI, 4, .inl fm7)), (m8, .inl (cI, 4, .inl fm8)), (m9, .inl (cI, 4, .inl fm9)), (m10, .inl (cI, 34, .inl fm10)), (m36, .inl (cI, 9, .inl fm36))] sz) := by
  refine Met.ofW (cc := cX11_doTurns) (maxL := 7) (ret := (some .boolean)) (by decide) rfl ?_
  intro p e s m args below meth c s₁ B hml hv
  obtain ⟨rfl, hsz, hP, hK, hD0⟩ := hv
  have hx := B.exec
  have hb := B.bytes
  have hr := B.returns
  have hts := atoms_spec (ws := wsX11_doTurns) B.pre
  have hown : s.vm.findClass RX11 = some m.cls := findClass_of_methodNamed B.named
  have hlocks := B.notSynchronized
  have hi_X11 : ∀ w ∈ u_ws RX11 TX11 46, w ∈ wsX11_doTurns := fun _ h => List.mem_cons_of_mem _ (List.mem_append_right _ (h))
  subst hsz
  have hD := hD0.self (sz := s.heap.size)
  generalize hAe : va_A [(h0, .inr (11, f_h0)), (m3, .inl (cI, 8, .inl fm3)), (m4, .inl (cI, 8, .inl fm4)), (m5, .inl (cI, 8, .inl fm5)), (m7, .inl (cI, 4, .inl fm7)), (m8, .inl (cI, 4, .inl fm8)), (m9, .inl (cI, 4, .inl fm9)), (m10, .inl (cI, 34, .inl fm10)), (m36, .inl (cI, 9, .inl fm36))] s.heap.size = A at hD ⊢
  have hA : ∀ q : Nat, s.heap.size ≤ q → A q := fun q h => by rw [← hAe]; exact Or.inr h
  have hS : va_S A s.heap s.heap [] := va_S.rf
  have hl := lv_entry ([.ref h0, .int (nI j), .int (nI k), .int (nI mo)]) (n := 7) (Nat.le_of_ble_eq_true rfl)
  rw [lg_entry_eq]
  generalize (lg_sl ([.ref h0, .int (nI j), .int (nI k), .int (nI mo)]) ++ List.replicate (7 - (lg_sl ([.ref h0, .int (nI j), .int (nI k), .int (nI mo)])).length) Slot.unset).toArray = ls at hl ⊢
  have hl : lv_has ls 7 [(0, .ref h0), (1, .int (nI j)), (2, .int (nI k)), (3, .int (nI mo))] := hl
  refine lv_iconst (v := 0) hx hb dX11_doTurns_0 (by decide) ?_
  refine lv_istore (lv' := [(4, .int 0), (0, .ref h0), (1, .int (nI j)), (2, .int (nI k)), (3, .int (nI mo))]) hx hb dX11_doTurns_1 hl (by decide) rfl (fun ls hl => ?_)
  refine (fun (K : ∀ (d3 : Nat) (k3 : Nat) (f3_m36 : Nat → Int32) (H : Heap) (locs : List Loc) (ls : Array Slot), k3 + d3 = mo → va_P (dC, dI) vwCl [(h0, .inr (11, f_h0)), (m3, .inl (cI, 8, .inl fm3)), (m4, .inl (cI, 8, .inl fm4)), (m5, .inl (cI, 8, .inl fm5)), (m7, .inl (cI, 4, .inl fm7)), (m8, .inl (cI, 4, .inl fm8)), (m9, .inl (cI, 4, .inl fm9)), (m10, .inl (cI, 34, .inl fm10)), (m36, .inl (cI, 9, .inl f3_m36))] H → va_D A [(h0, .inr (11, f_h0)), (m3, .inl (cI, 8, .inl fm3)), (m4, .inl (cI, 8, .inl fm4)), (m5, .inl (cI, 8, .inl fm5)), (m7, .inl (cI, 4, .inl fm7)), (m8, .inl (cI, 4, .inl fm8)), (m9, .inl (cI, 4, .inl fm9)), (m10, .inl (cI, 34, .inl fm10)), (m36, .inl (cI, 9, .inl f3_m36))] → va_S A s.heap H locs → lv_has ls 7 [(4, .int (nI k3)), (0, .ref h0), (1, .int (nI j)), (2, .int (nI k)), (3, .int (nI mo))] → W p l e _ s m _ below meth c H locs _ _ _ (F0 m 3 ls [])) => K mo 0 fm36 _ _ _ (by omega) hP hD hS (lv_sub hl [0, 1, 2, 3, 4] rfl)) ?_
  intro d3
  induction d3 with
  | zero =>
    intro k3 f3_m36 H locs ls hk3 hP hD hS hl
    refine lv_iload hx hb dX11_doTurns_3 (lv_at hl 0 rfl) ?_
    refine lv_iload_n hx hb dX11_doTurns_5 rfl (lv_at hl 4 rfl) ?_
    refine lv_icmp_ge (tgt := 31) hx hb dX11_doTurns_6 (by decide) (fun c1 => ?_) (fun c1 => ?_)
    ·
      have c1 : mo ≤ k3 := (nI_leI (a := mo) (b := k3) (by omega) (by omega)).mp c1
      refine lv_aload_n hx hb dX11_doTurns_31 rfl (lv_at hl 1 rfl) ?_
      refine lv_aload_n hx hb dX11_doTurns_32 rfl (lv_at hl 1 rfl) ?_
      refine va_get (D := (dC, dI)) (ci := 11) (v := .ref m10) (C := RX11) (T := TX11) (N := 46) hx hb hts hi_X11 hown hK hP 0 rfl rfl 10 (by decide) (hts (.fieldLink RX11 28 "LeftQuillsModel" "now" "[I") (wmx 2 rfl)) (fun _ h9 => h9) e_h0_10 dX11_doTurns_33 ?_
      refine lv_bipush (v := 8) hx hb dX11_doTurns_36 (by decide) ?_
      refine lv_iload_n hx hb dX11_doTurns_38 rfl (lv_at hl 2 rfl) ?_
      refine lv_iadd hx hb dX11_doTurns_39 ?_
      refine lv_topi (fun z2 ez2 => ?_)
      obtain rfl : z2 = nI (8 + j) := ez2.trans (nI_add 8 j)
      refine va_iald hx hb hK hP 7 0 rfl rfl (vp_in_nI (n := 8 + j) (N := 34) (by omega) (by decide)) dX11_doTurns_40 ?_
      refine W.eq (g2 := F0 m 41 ls [.int (fm10 (8 + j)), .ref h0]) (congrArg (fun y9 => F0 m 41 ls (.int (fm10 y9) :: [.ref h0])) ((nI_clamp (n := 8 + j) (by omega)))) ?_
      refine lv_iload_n hx hb dX11_doTurns_41 rfl (lv_at hl 3 rfl) ?_
      have hPc := hP.sub (ws' := [(h0, .inr (11, f_h0)), (m9, .inl (cI, 4, .inl fm9))]) [0, 6] rfl
      refine va_calli (va_runV (As := [.int (fm10 (8 + j)), .int (nI k)]) (rest := []) ⟨hx, hb, hml, hown, hts⟩ (c_X11_suits l dC dI cI cZ cQ h0 m9 f_h0 fm9 (fm10 (8 + j)) k H.size e_h0_9 (by omega)) (cwV 2 hts gX11_doTurns_X11_suits rfl rfl rfl hd_X11_suits_RX11 ⟨Nat.le_of_ble_eq_true rfl, Nat.le_of_ble_eq_true rfl⟩) (pv_R (va_recv hK hP (ci := 11) (q0 := 0) rfl rfl) hK hPc) rfl rfl hl.1 rfl (lv_room (Nat.le_of_ble_eq_true rfl)) dX11_doTurns_42 ⟨Nat.le_of_ble_eq_true rfl, Nat.le_of_ble_eq_true rfl⟩) hS (fun q _ h => False.elim h) (fun q h => False.elim h) (fun r3 u4 t H1 locs ht hvm hw5 hB hz1 hk1 hS => ?_)
      have hP := hP.kept (fun k q hk => hk1 q.1 (hP k q hk).lt (fun h => h))
      clear hz1 hk1 hPc
      generalize H1 = H at hP hS ht ⊢
      try dsimp only at hw5
      rcases hw5 with rfl | rfl
      ·
        refine lv_istore (lv' := [(4, .int 1), (0, .ref h0), (1, .int (nI j)), (2, .int (nI k)), (3, .int (nI mo))]) hx hb dX11_doTurns_45 hl (by decide) rfl (fun ls hl => ?_)
        refine lv_iconst (v := 0) hx hb dX11_doTurns_47 (by decide) ?_
        refine lv_istore (lv' := [(5, .int 0), (4, .int 1), (0, .ref h0), (1, .int (nI j)), (2, .int (nI k)), (3, .int (nI mo))]) hx hb dX11_doTurns_48 hl (by decide) rfl (fun ls hl => ?_)
        refine (fun (K : ∀ (d50 : Nat) (k50 : Nat) (a50_4 : Nat) (f50_m36 : Nat → Int32) (H : Heap) (locs : List Loc) (ls : Array Slot), k50 + d50 = 20 → a50_4 ≤ 1 → va_P (dC, dI) vwCl [(h0, .inr (11, f_h0)), (m3, .inl (cI, 8, .inl fm3)), (m4, .inl (cI, 8, .inl fm4)), (m5, .inl (cI, 8, .inl fm5)), (m7, .inl (cI, 4, .inl fm7)), (m8, .inl (cI, 4, .inl fm8)), (m9, .inl (cI, 4, .inl fm9)), (m10, .inl (cI, 34, .inl fm10)), (m36, .inl (cI, 9, .inl f50_m36))] H → va_D A [(h0, .inr (11, f_h0)), (m3, .inl (cI, 8, .inl fm3)), (m4, .inl (cI, 8, .inl fm4)), (m5, .inl (cI, 8, .inl fm5)), (m7, .inl (cI, 4, .inl fm7)), (m8, .inl (cI, 4, .inl fm8)), (m9, .inl (cI, 4, .inl fm9)), (m10, .inl (cI, 34, .inl fm10)), (m36, .inl (cI, 9, .inl f50_m36))] → va_S A s.heap H locs → lv_has ls 7 [(5, .int (nI k50)), (4, .int (nI a50_4)), (0, .ref h0), (1, .int (nI j)), (2, .int (nI k)), (3, .int (nI mo))] → W p l e _ s m _ below meth c H locs _ _ _ (F0 m 50 ls [])) => K 20 0 1 f3_m36 _ _ _ (by omega) (by omega) hP hD hS (lv_sub hl [0, 1, 2, 3, 4, 5] rfl)) ?_
        intro d50
        induction d50 with
        | zero =>
          intro k50 a50_4 f50_m36 H locs ls hk50 hn50_4 hP hD hS hl
          refine lv_iload hx hb dX11_doTurns_50 (lv_at hl 0 rfl) ?_
          refine lv_bipush (v := 20) hx hb dX11_doTurns_52 (by decide) ?_
          refine lv_icmp_ge (tgt := 147) hx hb dX11_doTurns_54 (by decide) (fun c6 => ?_) (fun c6 => ?_)
          ·
            have c6 : 20 ≤ k50 := (nI_leI (a := 20) (b := k50) (by omega) (by omega)).mp c6
            refine lv_iload hx hb dX11_doTurns_147 (lv_at hl 1 rfl) ?_
            have hP9 := hP.sub (ws' := [(h0, .inr (11, f_h0)), (m3, .inl (cI, 8, .inl fm3)), (m4, .inl (cI, 8, .inl fm4)), (m5, .inl (cI, 8, .inl fm5)), (m7, .inl (cI, 4, .inl fm7)), (m8, .inl (cI, 4, .inl fm8)), (m9, .inl (cI, 4, .inl fm9)), (m10, .inl (cI, 34, .inl fm10)), (m36, .inl (cI, 9, .inl f50_m36))]) [0, 1, 2, 3, 4, 5, 6, 7, 8] rfl
            have hD9 := hD.sub (ws' := [(h0, .inr (11, f_h0)), (m3, .inl (cI, 8, .inl fm3)), (m4, .inl (cI, 8, .inl fm4)), (m5, .inl (cI, 8, .inl fm5)), (m7, .inl (cI, 4, .inl fm7)), (m8, .inl (cI, 4, .inl fm8)), (m9, .inl (cI, 4, .inl fm9)), (m10, .inl (cI, 34, .inl fm10)), (m36, .inl (cI, 9, .inl f50_m36))]) [0, 1, 2, 3, 4, 5, 6, 7, 8] (by decide +kernel) rfl
            exact W.zret (v := nI a50_4) hx hb hr ((x_fitsZ (n := a50_4) (by omega)).1) (fun t ht hW => ⟨⟨nI a50_4, (fun _ => 0), rfl, x_b01 (n := a50_4) (by omega), ⟨f50_m36, va_hq ht hP9, hD9⟩⟩, hS.F ht⟩) hS.2.2 dX11_doTurns_149
          ·
            have c6 : ¬ 20 ≤ k50 := fun h => c6 ((nI_leI (a := 20) (b := k50) (by omega) (by omega)).mpr h)
            omega
        | succ d50 ih50 =>
          intro k50 a50_4 f50_m36 H locs ls hk50 hn50_4 hP hD hS hl
          refine lv_iload hx hb dX11_doTurns_50 (lv_at hl 0 rfl) ?_
          refine lv_bipush (v := 20) hx hb dX11_doTurns_52 (by decide) ?_
          refine lv_icmp_ge (tgt := 147) hx hb dX11_doTurns_54 (by decide) (fun c7 => ?_) (fun c7 => ?_)
          ·
            have c7 : 20 ≤ k50 := (nI_leI (a := 20) (b := k50) (by omega) (by omega)).mp c7
            omega
          ·
            have c7 : ¬ 20 ≤ k50 := fun h => c7 ((nI_leI (a := 20) (b := k50) (by omega) (by omega)).mpr h)
            refine lv_iconst (v := 0) hx hb dX11_doTurns_57 (by decide) ?_
            refine lv_istore (lv' := [(6, .int 0), (5, .int (nI k50)), (4, .int (nI a50_4)), (0, .ref h0), (1, .int (nI j)), (2, .int (nI k)), (3, .int (nI mo))]) hx hb dX11_doTurns_58 hl (by decide) rfl (fun ls hl => ?_)
            refine (fun (K : ∀ (d60 : Nat) (k60 : Nat) (f60_m36 : Nat → Int32) (H : Heap) (locs : List Loc) (ls : Array Slot), k60 + d60 = mo → va_P (dC, dI) vwCl [(h0, .inr (11, f_h0)), (m3, .inl (cI, 8, .inl fm3)), (m4, .inl (cI, 8, .inl fm4)), (m5, .inl (cI, 8, .inl fm5)), (m7, .inl (cI, 4, .inl fm7)), (m8, .inl (cI, 4, .inl fm8)), (m9, .inl (cI, 4, .inl fm9)), (m10, .inl (cI, 34, .inl fm10)), (m36, .inl (cI, 9, .inl f60_m36))] H → va_D A [(h0, .inr (11, f_h0)), (m3, .inl (cI, 8, .inl fm3)), (m4, .inl (cI, 8, .inl fm4)), (m5, .inl (cI, 8, .inl fm5)), (m7, .inl (cI, 4, .inl fm7)), (m8, .inl (cI, 4, .inl fm8)), (m9, .inl (cI, 4, .inl fm9)), (m10, .inl (cI, 34, .inl fm10)), (m36, .inl (cI, 9, .inl f60_m36))] → va_S A s.heap H locs → lv_has ls 7 [(6, .int (nI k60)), (5, .int (nI k50)), (4, .int (nI a50_4)), (0, .ref h0), (1, .int (nI j)), (2, .int (nI k)), (3, .int (nI mo))] → W p l e _ s m _ below meth c H locs _ _ _ (F0 m 60 ls [])) => K mo 0 f50_m36 _ _ _ (by omega) hP hD hS (lv_sub hl [0, 1, 2, 3, 4, 5, 6] rfl)) ?_
            intro d60
            induction d60 with
            | zero =>
              intro k60 f60_m36 H locs ls hk60 hP hD hS hl
              refine lv_iload hx hb dX11_doTurns_60 (lv_at hl 0 rfl) ?_
              refine lv_iload_n hx hb dX11_doTurns_62 rfl (lv_at hl 6 rfl) ?_
              refine lv_icmp_ge (tgt := 115) hx hb dX11_doTurns_63 (by decide) (fun c8 => ?_) (fun c8 => ?_)
              ·
                have c8 : mo ≤ k60 := (nI_leI (a := mo) (b := k60) (by omega) (by omega)).mp c8
                refine lv_iload hx hb dX11_doTurns_115 (lv_at hl 2 rfl) ?_
                refine lv_if_eq (tgt := 138) hx hb dX11_doTurns_117 (by decide) (fun c9 => ?_) (fun c9 => ?_)
                ·
                  have c9 : a50_4 = 0 := (nI_eq (a := a50_4) (b := 0) (by omega) (by omega)).mp c9
                  refine lv_iconst (v := 0) hx hb dX11_doTurns_138 (by decide) ?_
                  refine lv_istore (lv' := [(4, .int 0), (6, .int (nI k60)), (5, .int (nI k50)), (0, .ref h0), (1, .int (nI j)), (2, .int (nI k)), (3, .int (nI mo))]) hx hb dX11_doTurns_139 hl (by decide) rfl (fun ls hl => ?_)
                  refine lv_iinc (v := nI (k50 + 1)) (lv' := [(5, .int (nI (k50 + 1))), (4, .int 0), (6, .int (nI k60)), (0, .ref h0), (1, .int (nI j)), (2, .int (nI k)), (3, .int (nI mo))]) hx hb dX11_doTurns_141 hl (k := 2) rfl ((rfl : nI k50 + Int32.ofInt 1 = nI k50 + 1).trans (nI_add k50 1)) (by decide) rfl (fun ls hl => ?_)
                  refine lv_goto (tgt := 50) hx hb dX11_doTurns_144 (by decide) ?_
                  exact ih50 (k50 + 1) 0 f60_m36 _ _ _ (by omega) (by omega) hP hD hS (lv_sub hl [0, 1, 3, 4, 5, 6] rfl)
                ·
                  have c9 : ¬ a50_4 = 0 := fun h => c9 ((nI_eq (a := a50_4) (b := 0) (by omega) (by omega)).mpr h)
                  refine lv_aload_n hx hb dX11_doTurns_120 rfl (lv_at hl 3 rfl) ?_
                  refine va_get (D := (dC, dI)) (ci := 11) (v := .ref m36) (C := RX11) (T := TX11) (N := 46) hx hb hts hi_X11 hown hK hP 0 rfl rfl 36 (by decide) (hts (.fieldLink RX11 71 "LeftQuillsModel" "softs" "[I") (wmx 1 rfl)) (fun _ h9 => h9) e_h0_36 dX11_doTurns_121 ?_
                  refine lv_iload hx hb dX11_doTurns_124 (lv_at hl 1 rfl) ?_
                  refine lv_iload_n hx hb dX11_doTurns_126 rfl (lv_at hl 6 rfl) ?_
                  refine lv_irem hx hb dX11_doTurns_127 (nI_ne0 (n := mo) (by omega) (by omega)) ?_
                  refine lv_topi (fun z10 ez10 => ?_)
                  obtain ⟨w11, hw11, ew11⟩ : ∃ y : Nat, y < mo ∧ y = k50 % mo := ⟨_, Nat.mod_lt _ (by omega), rfl⟩
                  obtain rfl : z10 = nI w11 := by rw [ew11]; exact ez10.trans (pk_rem (a := k50) (d := mo) (by omega) (by omega) (by omega))
                  refine va_iald hx hb hK hP 8 0 rfl rfl (vp_in_nI (n := w11) (N := 9) (by omega) (by decide)) dX11_doTurns_128 ?_
                  refine W.eq (g2 := F0 m 129 ls [.int (f60_m36 w11)]) (congrArg (fun y9 => F0 m 129 ls (.int (f60_m36 y9) :: [])) ((nI_clamp (n := w11) (by omega)))) ?_
                  refine lv_bipush (v := 50) hx hb dX11_doTurns_129 (by decide) ?_
                  refine lv_icmp_gt (tgt := 138) hx hb dX11_doTurns_131 (by decide) (fun c12 => ?_) (fun c12 => ?_)
                  ·
                    refine lv_iconst (v := 0) hx hb dX11_doTurns_138 (by decide) ?_
                    refine lv_istore (lv' := [(4, .int 0), (6, .int (nI k60)), (5, .int (nI k50)), (0, .ref h0), (1, .int (nI j)), (2, .int (nI k)), (3, .int (nI mo))]) hx hb dX11_doTurns_139 hl (by decide) rfl (fun ls hl => ?_)
                    refine lv_iinc (v := nI (k50 + 1)) (lv' := [(5, .int (nI (k50 + 1))), (4, .int 0), (6, .int (nI k60)), (0, .ref h0), (1, .int (nI j)), (2, .int (nI k)), (3, .int (nI mo))]) hx hb dX11_doTurns_141 hl (k := 2) rfl ((rfl : nI k50 + Int32.ofInt 1 = nI k50 + 1).trans (nI_add k50 1)) (by decide) rfl (fun ls hl => ?_)
                    refine lv_goto (tgt := 50) hx hb dX11_doTurns_144 (by decide) ?_
                    exact ih50 (k50 + 1) 0 f60_m36 _ _ _ (by omega) (by omega) hP hD hS (lv_sub hl [0, 1, 3, 4, 5, 6] rfl)
                  ·
                    refine lv_iconst (v := 1) hx hb dX11_doTurns_134 (by decide) ?_
                    refine lv_goto (tgt := 139) hx hb dX11_doTurns_135 (by decide) ?_
                    refine lv_istore (lv' := [(4, .int 1), (6, .int (nI k60)), (5, .int (nI k50)), (0, .ref h0), (1, .int (nI j)), (2, .int (nI k)), (3, .int (nI mo))]) hx hb dX11_doTurns_139 hl (by decide) rfl (fun ls hl => ?_)
                    refine lv_iinc (v := nI (k50 + 1)) (lv' := [(5, .int (nI (k50 + 1))), (4, .int 1), (6, .int (nI k60)), (0, .ref h0), (1, .int (nI j)), (2, .int (nI k)), (3, .int (nI mo))]) hx hb dX11_doTurns_141 hl (k := 2) rfl ((rfl : nI k50 + Int32.ofInt 1 = nI k50 + 1).trans (nI_add k50 1)) (by decide) rfl (fun ls hl => ?_)
                    refine lv_goto (tgt := 50) hx hb dX11_doTurns_144 (by decide) ?_
                    exact ih50 (k50 + 1) 1 f60_m36 _ _ _ (by omega) (by omega) hP hD hS (lv_sub hl [0, 1, 3, 4, 5, 6] rfl)
              ·
                have c8 : ¬ mo ≤ k60 := fun h => c8 ((nI_leI (a := mo) (b := k60) (by omega) (by omega)).mpr h)
                omega
            | succ d60 ih60 =>
              intro k60 f60_m36 H locs ls hk60 hP hD hS hl
              refine lv_iload hx hb dX11_doTurns_60 (lv_at hl 0 rfl) ?_
              refine lv_iload_n hx hb dX11_doTurns_62 rfl (lv_at hl 6 rfl) ?_
              refine lv_icmp_ge (tgt := 115) hx hb dX11_doTurns_63 (by decide) (fun c13 => ?_) (fun c13 => ?_)
              ·
                have c13 : mo ≤ k60 := (nI_leI (a := mo) (b := k60) (by omega) (by omega)).mp c13
                omega
              ·
                have c13 : ¬ mo ≤ k60 := fun h => c13 ((nI_leI (a := mo) (b := k60) (by omega) (by omega)).mpr h)
                refine lv_aload_n hx hb dX11_doTurns_66 rfl (lv_at hl 3 rfl) ?_
                refine va_get (D := (dC, dI)) (ci := 11) (v := .ref m36) (C := RX11) (T := TX11) (N := 46) hx hb hts hi_X11 hown hK hP 0 rfl rfl 36 (by decide) (hts (.fieldLink RX11 71 "LeftQuillsModel" "softs" "[I") (wmx 1 rfl)) (fun _ h9 => h9) e_h0_36 dX11_doTurns_67 ?_
                refine lv_iload hx hb dX11_doTurns_70 (lv_at hl 0 rfl) ?_
                refine lv_iload hx hb dX11_doTurns_72 (lv_at hl 0 rfl) ?_
                refine lv_iload hx hb dX11_doTurns_74 (lv_at hl 1 rfl) ?_
                refine lv_iload_n hx hb dX11_doTurns_76 rfl (lv_at hl 6 rfl) ?_
                refine lv_irem hx hb dX11_doTurns_77 (nI_ne0 (n := mo) (by omega) (by omega)) ?_
                refine lv_topi (fun z14 ez14 => ?_)
                obtain ⟨w15, hw15, ew15⟩ : ∃ y : Nat, y < mo ∧ y = k50 % mo := ⟨_, Nat.mod_lt _ (by omega), rfl⟩
                obtain rfl : z14 = nI w15 := by rw [ew15]; exact ez14.trans (pk_rem (a := k50) (d := mo) (by omega) (by omega) (by omega))
                refine lv_icmp_ne (tgt := 97) hx hb dX11_doTurns_78 (by decide) (fun c16 => ?_) (fun c16 => ?_)
                ·
                  have c16 : ¬ k60 = w15 := fun h => c16 ((nI_eq (a := k60) (b := w15) (by omega) (by omega)).mpr h)
                  refine lv_aload_n hx hb dX11_doTurns_97 rfl (lv_at hl 3 rfl) ?_
                  refine va_get (D := (dC, dI)) (ci := 11) (v := .ref m36) (C := RX11) (T := TX11) (N := 46) hx hb hts hi_X11 hown hK hP 0 rfl rfl 36 (by decide) (hts (.fieldLink RX11 71 "LeftQuillsModel" "softs" "[I") (wmx 1 rfl)) (fun _ h9 => h9) e_h0_36 dX11_doTurns_98 ?_
                  refine lv_iload hx hb dX11_doTurns_101 (lv_at hl 0 rfl) ?_
                  refine va_iald hx hb hK hP 8 0 rfl rfl (vp_in_nI (n := k60) (N := 9) (by omega) (by decide)) dX11_doTurns_103 ?_
                  refine W.eq (g2 := F0 m 104 ls [.int (f60_m36 k60), .int (nI k60), .ref m36]) (congrArg (fun y9 => F0 m 104 ls (.int (f60_m36 y9) :: [.int (nI k60), .ref m36])) ((nI_clamp (n := k60) (by omega)))) ?_
                  refine lv_iconst (v := 1) hx hb dX11_doTurns_104 (by decide) ?_
                  have hPc := hP.sub (ws' := []) [] rfl
                  refine va_calli (va_runS (As := [.int (f60_m36 k60), .int 1]) (rest := [.int (nI k60), .ref m36]) ⟨hx, hb, hml, hown, hts⟩ (c_X11_driedBy l dC dI cI cZ cQ (f60_m36 k60) 1 H.size ) (va_cwS 2 hts gX11_doTurns_X11_driedBy rfl rfl rfl (by decide +kernel) ⟨Nat.le_of_ble_eq_true rfl, Nat.le_of_ble_eq_true rfl⟩) (ps_R hK hPc) rfl rfl hl.1 rfl (lv_room (Nat.le_of_ble_eq_true rfl)) dX11_doTurns_105 ⟨Nat.le_of_ble_eq_true rfl, Nat.le_of_ble_eq_true rfl⟩) hS (fun q _ h => False.elim h) (fun q h => False.elim h) (fun r17 u18 t H1 locs ht hvm hw19 hB hz1 hk1 hS => ?_)
                  have hP := hP.kept (fun k q hk => hk1 q.1 (hP k q hk).lt (fun h => h))
                  clear hz1 hk1 hPc
                  generalize H1 = H at hP hS ht ⊢
                  try dsimp only at hw19
                  refine va_iast hx hb hK hP hD hS 8 0 rfl rfl (vp_in_nI (n := k60) (N := 9) (by omega) (by decide)) dX11_doTurns_108 (fun H locs hP hD hS => ?_)
                  generalize hgf20 : upd f60_m36 ((nI k60).toNatClampNeg) r17 = f20 at hP hD
                  have hPD : pdW (dC, dI) vwCl A [(h0, .inr (11, f_h0)), (m3, .inl (cI, 8, .inl fm3)), (m4, .inl (cI, 8, .inl fm4)), (m5, .inl (cI, 8, .inl fm5)), (m7, .inl (cI, 4, .inl fm7)), (m8, .inl (cI, 4, .inl fm8)), (m9, .inl (cI, 4, .inl fm9)), (m10, .inl (cI, 34, .inl fm10)), (m36, .inl (cI, 9, .inl f20))] H := ⟨hP, hD⟩
                  have hP := hPD.1
                  have hD := hPD.2
                  clear hPD
                  refine lv_iinc (v := nI (k60 + 1)) (lv' := [(6, .int (nI (k60 + 1))), (5, .int (nI k50)), (4, .int (nI a50_4)), (0, .ref h0), (1, .int (nI j)), (2, .int (nI k)), (3, .int (nI mo))]) hx hb dX11_doTurns_109 hl (k := 0) rfl ((rfl : nI k60 + Int32.ofInt 1 = nI k60 + 1).trans (nI_add k60 1)) (by decide) rfl (fun ls hl => ?_)
                  refine lv_goto (tgt := 60) hx hb dX11_doTurns_112 (by decide) ?_
                  exact ih60 (k60 + 1) f20 _ _ _ (by omega) hP hD hS (lv_sub hl [0, 1, 2, 3, 4, 5, 6] rfl)
                ·
                  have c16 : k60 = w15 := (nI_eq (a := k60) (b := w15) (by omega) (by omega)).mp c16
                  refine lv_aload_n hx hb dX11_doTurns_81 rfl (lv_at hl 3 rfl) ?_
                  refine lv_aload_n hx hb dX11_doTurns_82 rfl (lv_at hl 3 rfl) ?_
                  refine va_get (D := (dC, dI)) (ci := 11) (v := .ref m36) (C := RX11) (T := TX11) (N := 46) hx hb hts hi_X11 hown hK hP 0 rfl rfl 36 (by decide) (hts (.fieldLink RX11 71 "LeftQuillsModel" "softs" "[I") (wmx 1 rfl)) (fun _ h9 => h9) e_h0_36 dX11_doTurns_83 ?_
                  refine lv_iload hx hb dX11_doTurns_86 (lv_at hl 0 rfl) ?_
                  refine va_iald hx hb hK hP 8 0 rfl rfl (vp_in_nI (n := k60) (N := 9) (by omega) (by decide)) dX11_doTurns_88 ?_
                  refine W.eq (g2 := F0 m 89 ls [.int (f60_m36 k60), .ref h0, .int (nI k60), .ref m36]) (congrArg (fun y9 => F0 m 89 ls (.int (f60_m36 y9) :: [.ref h0, .int (nI k60), .ref m36])) ((nI_clamp (n := k60) (by omega)))) ?_
                  refine lv_iload_n hx hb dX11_doTurns_89 rfl (lv_at hl 4 rfl) ?_
                  refine lv_iload_n hx hb dX11_doTurns_90 rfl (lv_at hl 5 rfl) ?_
                  have hPc := hP.sub (ws' := [(h0, .inr (11, f_h0)), (m3, .inl (cI, 8, .inl fm3)), (m4, .inl (cI, 8, .inl fm4)), (m5, .inl (cI, 8, .inl fm5)), (m7, .inl (cI, 4, .inl fm7)), (m8, .inl (cI, 4, .inl fm8))]) [0, 1, 2, 3, 4, 5] rfl
                  refine va_calli (va_runV (As := [.int (f60_m36 k60), .int (nI j), .int (nI k)]) (rest := [.int (nI k60), .ref m36]) ⟨hx, hb, hml, hown, hts⟩ (c_X11_softBehind l dC dI cI cZ cQ h0 m3 m4 m5 m7 m8 f_h0 fm3 fm4 fm5 fm7 fm8 (f60_m36 k60) j k nq H.size e_h0_3 e_h0_4 e_h0_5 e_h0_7 e_h0_8 (by omega) (by first | assumption | decide) (by omega) (by omega)) (cwV 3 hts gX11_doTurns_X11_softBehind rfl rfl rfl hd_X11_softBehind_RX11 ⟨Nat.le_of_ble_eq_true rfl, Nat.le_of_ble_eq_true rfl⟩) (pv_R (va_recv hK hP (ci := 11) (q0 := 0) rfl rfl) hK hPc) rfl rfl hl.1 rfl (lv_room (Nat.le_of_ble_eq_true rfl)) dX11_doTurns_91 ⟨Nat.le_of_ble_eq_true rfl, Nat.le_of_ble_eq_true rfl⟩) hS (fun q _ h => False.elim h) (fun q h => False.elim h) (fun r21 u22 t H1 locs ht hvm hw23 hB hz1 hk1 hS => ?_)
                  have hP := hP.kept (fun k q hk => hk1 q.1 (hP k q hk).lt (fun h => h))
                  clear hz1 hk1 hPc
                  generalize H1 = H at hP hS ht ⊢
                  try dsimp only at hw23
                  refine lv_goto (tgt := 108) hx hb dX11_doTurns_94 (by decide) ?_
                  refine va_iast hx hb hK hP hD hS 8 0 rfl rfl (vp_in_nI (n := k60) (N := 9) (by omega) (by decide)) dX11_doTurns_108 (fun H locs hP hD hS => ?_)
                  generalize hgf24 : upd f60_m36 ((nI k60).toNatClampNeg) r21 = f24 at hP hD
                  have hPD : pdW (dC, dI) vwCl A [(h0, .inr (11, f_h0)), (m3, .inl (cI, 8, .inl fm3)), (m4, .inl (cI, 8, .inl fm4)), (m5, .inl (cI, 8, .inl fm5)), (m7, .inl (cI, 4, .inl fm7)), (m8, .inl (cI, 4, .inl fm8)), (m9, .inl (cI, 4, .inl fm9)), (m10, .inl (cI, 34, .inl fm10)), (m36, .inl (cI, 9, .inl f24))] H := ⟨hP, hD⟩
                  have hP := hPD.1
                  have hD := hPD.2
                  clear hPD
                  refine lv_iinc (v := nI (k60 + 1)) (lv' := [(6, .int (nI (k60 + 1))), (5, .int (nI k50)), (4, .int (nI a50_4)), (0, .ref h0), (1, .int (nI j)), (2, .int (nI k)), (3, .int (nI mo))]) hx hb dX11_doTurns_109 hl (k := 0) rfl ((rfl : nI k60 + Int32.ofInt 1 = nI k60 + 1).trans (nI_add k60 1)) (by decide) rfl (fun ls hl => ?_)
                  refine lv_goto (tgt := 60) hx hb dX11_doTurns_112 (by decide) ?_
                  exact ih60 (k60 + 1) f24 _ _ _ (by omega) hP hD hS (lv_sub hl [0, 1, 2, 3, 4, 5, 6] rfl)
      ·
        refine lv_istore (lv' := [(4, .int 0), (0, .ref h0), (1, .int (nI j)), (2, .int (nI k)), (3, .int (nI mo))]) hx hb dX11_doTurns_45 hl (by decide) rfl (fun ls hl => ?_)
        refine lv_iconst (v := 0) hx hb dX11_doTurns_47 (by decide) ?_
        refine lv_istore (lv' := [(5, .int 0), (4, .int 0), (0, .ref h0), (1, .int (nI j)), (2, .int (nI k)), (3, .int (nI mo))]) hx hb dX11_doTurns_48 hl (by decide) rfl (fun ls hl => ?_)
        refine (fun (K : ∀ (d50 : Nat) (k50 : Nat) (a50_4 : Nat) (f50_m36 : Nat → Int32) (H : Heap) (locs : List Loc) (ls : Array Slot), k50 + d50 = 20 → a50_4 ≤ 1 → va_P (dC, dI) vwCl [(h0, .inr (11, f_h0)), (m3, .inl (cI, 8, .inl fm3)), (m4, .inl (cI, 8, .inl fm4)), (m5, .inl (cI, 8, .inl fm5)), (m7, .inl (cI, 4, .inl fm7)), (m8, .inl (cI, 4, .inl fm8)), (m9, .inl (cI, 4, .inl fm9)), (m10, .inl (cI, 34, .inl fm10)), (m36, .inl (cI, 9, .inl f50_m36))] H → va_D A [(h0, .inr (11, f_h0)), (m3, .inl (cI, 8, .inl fm3)), (m4, .inl (cI, 8, .inl fm4)), (m5, .inl (cI, 8, .inl fm5)), (m7, .inl (cI, 4, .inl fm7)), (m8, .inl (cI, 4, .inl fm8)), (m9, .inl (cI, 4, .inl fm9)), (m10, .inl (cI, 34, .inl fm10)), (m36, .inl (cI, 9, .inl f50_m36))] → va_S A s.heap H locs → lv_has ls 7 [(5, .int (nI k50)), (4, .int (nI a50_4)), (0, .ref h0), (1, .int (nI j)), (2, .int (nI k)), (3, .int (nI mo))] → W p l e _ s m _ below meth c H locs _ _ _ (F0 m 50 ls [])) => K 20 0 0 f3_m36 _ _ _ (by omega) (by omega) hP hD hS (lv_sub hl [0, 1, 2, 3, 4, 5] rfl)) ?_
        intro d50
        induction d50 with
        | zero =>
          intro k50 a50_4 f50_m36 H locs ls hk50 hn50_4 hP hD hS hl
          refine lv_iload hx hb dX11_doTurns_50 (lv_at hl 0 rfl) ?_
          refine lv_bipush (v := 20) hx hb dX11_doTurns_52 (by decide) ?_
          refine lv_icmp_ge (tgt := 147) hx hb dX11_doTurns_54 (by decide) (fun c25 => ?_) (fun c25 => ?_)
          ·
            have c25 : 20 ≤ k50 := (nI_leI (a := 20) (b := k50) (by omega) (by omega)).mp c25
            refine lv_iload hx hb dX11_doTurns_147 (lv_at hl 1 rfl) ?_
            have hP9 := hP.sub (ws' := [(h0, .inr (11, f_h0)), (m3, .inl (cI, 8, .inl fm3)), (m4, .inl (cI, 8, .inl fm4)), (m5, .inl (cI, 8, .inl fm5)), (m7, .inl (cI, 4, .inl fm7)), (m8, .inl (cI, 4, .inl fm8)), (m9, .inl (cI, 4, .inl fm9)), (m10, .inl (cI, 34, .inl fm10)), (m36, .inl (cI, 9, .inl f50_m36))]) [0, 1, 2, 3, 4, 5, 6, 7, 8] rfl
            have hD9 := hD.sub (ws' := [(h0, .inr (11, f_h0)), (m3, .inl (cI, 8, .inl fm3)), (m4, .inl (cI, 8, .inl fm4)), (m5, .inl (cI, 8, .inl fm5)), (m7, .inl (cI, 4, .inl fm7)), (m8, .inl (cI, 4, .inl fm8)), (m9, .inl (cI, 4, .inl fm9)), (m10, .inl (cI, 34, .inl fm10)), (m36, .inl (cI, 9, .inl f50_m36))]) [0, 1, 2, 3, 4, 5, 6, 7, 8] (by decide +kernel) rfl
            exact W.zret (v := nI a50_4) hx hb hr ((x_fitsZ (n := a50_4) (by omega)).1) (fun t ht hW => ⟨⟨nI a50_4, (fun _ => 0), rfl, x_b01 (n := a50_4) (by omega), ⟨f50_m36, va_hq ht hP9, hD9⟩⟩, hS.F ht⟩) hS.2.2 dX11_doTurns_149
          ·
            have c25 : ¬ 20 ≤ k50 := fun h => c25 ((nI_leI (a := 20) (b := k50) (by omega) (by omega)).mpr h)
            omega
        | succ d50 ih50 =>
          intro k50 a50_4 f50_m36 H locs ls hk50 hn50_4 hP hD hS hl
          refine lv_iload hx hb dX11_doTurns_50 (lv_at hl 0 rfl) ?_
          refine lv_bipush (v := 20) hx hb dX11_doTurns_52 (by decide) ?_
          refine lv_icmp_ge (tgt := 147) hx hb dX11_doTurns_54 (by decide) (fun c26 => ?_) (fun c26 => ?_)
          ·
            have c26 : 20 ≤ k50 := (nI_leI (a := 20) (b := k50) (by omega) (by omega)).mp c26
            omega
          ·
            have c26 : ¬ 20 ≤ k50 := fun h => c26 ((nI_leI (a := 20) (b := k50) (by omega) (by omega)).mpr h)
            refine lv_iconst (v := 0) hx hb dX11_doTurns_57 (by decide) ?_
            refine lv_istore (lv' := [(6, .int 0), (5, .int (nI k50)), (4, .int (nI a50_4)), (0, .ref h0), (1, .int (nI j)), (2, .int (nI k)), (3, .int (nI mo))]) hx hb dX11_doTurns_58 hl (by decide) rfl (fun ls hl => ?_)
            refine (fun (K : ∀ (d60 : Nat) (k60 : Nat) (f60_m36 : Nat → Int32) (H : Heap) (locs : List Loc) (ls : Array Slot), k60 + d60 = mo → va_P (dC, dI) vwCl [(h0, .inr (11, f_h0)), (m3, .inl (cI, 8, .inl fm3)), (m4, .inl (cI, 8, .inl fm4)), (m5, .inl (cI, 8, .inl fm5)), (m7, .inl (cI, 4, .inl fm7)), (m8, .inl (cI, 4, .inl fm8)), (m9, .inl (cI, 4, .inl fm9)), (m10, .inl (cI, 34, .inl fm10)), (m36, .inl (cI, 9, .inl f60_m36))] H → va_D A [(h0, .inr (11, f_h0)), (m3, .inl (cI, 8, .inl fm3)), (m4, .inl (cI, 8, .inl fm4)), (m5, .inl (cI, 8, .inl fm5)), (m7, .inl (cI, 4, .inl fm7)), (m8, .inl (cI, 4, .inl fm8)), (m9, .inl (cI, 4, .inl fm9)), (m10, .inl (cI, 34, .inl fm10)), (m36, .inl (cI, 9, .inl f60_m36))] → va_S A s.heap H locs → lv_has ls 7 [(6, .int (nI k60)), (5, .int (nI k50)), (4, .int (nI a50_4)), (0, .ref h0), (1, .int (nI j)), (2, .int (nI k)), (3, .int (nI mo))] → W p l e _ s m _ below meth c H locs _ _ _ (F0 m 60 ls [])) => K mo 0 f50_m36 _ _ _ (by omega) hP hD hS (lv_sub hl [0, 1, 2, 3, 4, 5, 6] rfl)) ?_
            intro d60
            induction d60 with
            | zero =>
              intro k60 f60_m36 H locs ls hk60 hP hD hS hl
              refine lv_iload hx hb dX11_doTurns_60 (lv_at hl 0 rfl) ?_
              refine lv_iload_n hx hb dX11_doTurns_62 rfl (lv_at hl 6 rfl) ?_
              refine lv_icmp_ge (tgt := 115) hx hb dX11_doTurns_63 (by decide) (fun c27 => ?_) (fun c27 => ?_)
              ·
                have c27 : mo ≤ k60 := (nI_leI (a := mo) (b := k60) (by omega) (by omega)).mp c27
                refine lv_iload hx hb dX11_doTurns_115 (lv_at hl 2 rfl) ?_
                refine lv_if_eq (tgt := 138) hx hb dX11_doTurns_117 (by decide) (fun c28 => ?_) (fun c28 => ?_)
                ·
                  have c28 : a50_4 = 0 := (nI_eq (a := a50_4) (b := 0) (by omega) (by omega)).mp c28
                  refine lv_iconst (v := 0) hx hb dX11_doTurns_138 (by decide) ?_
                  refine lv_istore (lv' := [(4, .int 0), (6, .int (nI k60)), (5, .int (nI k50)), (0, .ref h0), (1, .int (nI j)), (2, .int (nI k)), (3, .int (nI mo))]) hx hb dX11_doTurns_139 hl (by decide) rfl (fun ls hl => ?_)
                  refine lv_iinc (v := nI (k50 + 1)) (lv' := [(5, .int (nI (k50 + 1))), (4, .int 0), (6, .int (nI k60)), (0, .ref h0), (1, .int (nI j)), (2, .int (nI k)), (3, .int (nI mo))]) hx hb dX11_doTurns_141 hl (k := 2) rfl ((rfl : nI k50 + Int32.ofInt 1 = nI k50 + 1).trans (nI_add k50 1)) (by decide) rfl (fun ls hl => ?_)
                  refine lv_goto (tgt := 50) hx hb dX11_doTurns_144 (by decide) ?_
                  exact ih50 (k50 + 1) 0 f60_m36 _ _ _ (by omega) (by omega) hP hD hS (lv_sub hl [0, 1, 3, 4, 5, 6] rfl)
                ·
                  have c28 : ¬ a50_4 = 0 := fun h => c28 ((nI_eq (a := a50_4) (b := 0) (by omega) (by omega)).mpr h)
                  refine lv_aload_n hx hb dX11_doTurns_120 rfl (lv_at hl 3 rfl) ?_
                  refine va_get (D := (dC, dI)) (ci := 11) (v := .ref m36) (C := RX11) (T := TX11) (N := 46) hx hb hts hi_X11 hown hK hP 0 rfl rfl 36 (by decide) (hts (.fieldLink RX11 71 "LeftQuillsModel" "softs" "[I") (wmx 1 rfl)) (fun _ h9 => h9) e_h0_36 dX11_doTurns_121 ?_
                  refine lv_iload hx hb dX11_doTurns_124 (lv_at hl 1 rfl) ?_
                  refine lv_iload_n hx hb dX11_doTurns_126 rfl (lv_at hl 6 rfl) ?_
                  refine lv_irem hx hb dX11_doTurns_127 (nI_ne0 (n := mo) (by omega) (by omega)) ?_
                  refine lv_topi (fun z29 ez29 => ?_)
                  obtain ⟨w30, hw30, ew30⟩ : ∃ y : Nat, y < mo ∧ y = k50 % mo := ⟨_, Nat.mod_lt _ (by omega), rfl⟩
                  obtain rfl : z29 = nI w30 := by rw [ew30]; exact ez29.trans (pk_rem (a := k50) (d := mo) (by omega) (by omega) (by omega))
                  refine va_iald hx hb hK hP 8 0 rfl rfl (vp_in_nI (n := w30) (N := 9) (by omega) (by decide)) dX11_doTurns_128 ?_
                  refine W.eq (g2 := F0 m 129 ls [.int (f60_m36 w30)]) (congrArg (fun y9 => F0 m 129 ls (.int (f60_m36 y9) :: [])) ((nI_clamp (n := w30) (by omega)))) ?_
                  refine lv_bipush (v := 50) hx hb dX11_doTurns_129 (by decide) ?_
                  refine lv_icmp_gt (tgt := 138) hx hb dX11_doTurns_131 (by decide) (fun c31 => ?_) (fun c31 => ?_)
                  ·
                    refine lv_iconst (v := 0) hx hb dX11_doTurns_138 (by decide) ?_
                    refine lv_istore (lv' := [(4, .int 0), (6, .int (nI k60)), (5, .int (nI k50)), (0, .ref h0), (1, .int (nI j)), (2, .int (nI k)), (3, .int (nI mo))]) hx hb dX11_doTurns_139 hl (by decide) rfl (fun ls hl => ?_)
                    refine lv_iinc (v := nI (k50 + 1)) (lv' := [(5, .int (nI (k50 + 1))), (4, .int 0), (6, .int (nI k60)), (0, .ref h0), (1, .int (nI j)), (2, .int (nI k)), (3, .int (nI mo))]) hx hb dX11_doTurns_141 hl (k := 2) rfl ((rfl : nI k50 + Int32.ofInt 1 = nI k50 + 1).trans (nI_add k50 1)) (by decide) rfl (fun ls hl => ?_)
                    refine lv_goto (tgt := 50) hx hb dX11_doTurns_144 (by decide) ?_
                    exact ih50 (k50 + 1) 0 f60_m36 _ _ _ (by omega) (by omega) hP hD hS (lv_sub hl [0, 1, 3, 4, 5, 6] rfl)
                  ·
                    refine lv_iconst (v := 1) hx hb dX11_doTurns_134 (by decide) ?_
                    refine lv_goto (tgt := 139) hx hb dX11_doTurns_135 (by decide) ?_
                    refine lv_istore (lv' := [(4, .int 1), (6, .int (nI k60)), (5, .int (nI k50)), (0, .ref h0), (1, .int (nI j)), (2, .int (nI k)), (3, .int (nI mo))]) hx hb dX11_doTurns_139 hl (by decide) rfl (fun ls hl => ?_)
                    refine lv_iinc (v := nI (k50 + 1)) (lv' := [(5, .int (nI (k50 + 1))), (4, .int 1), (6, .int (nI k60)), (0, .ref h0), (1, .int (nI j)), (2, .int (nI k)), (3, .int (nI mo))]) hx hb dX11_doTurns_141 hl (k := 2) rfl ((rfl : nI k50 + Int32.ofInt 1 = nI k50 + 1).trans (nI_add k50 1)) (by decide) rfl (fun ls hl => ?_)
                    refine lv_goto (tgt := 50) hx hb dX11_doTurns_144 (by decide) ?_
                    exact ih50 (k50 + 1) 1 f60_m36 _ _ _ (by omega) (by omega) hP hD hS (lv_sub hl [0, 1, 3, 4, 5, 6] rfl)
              ·
                have c27 : ¬ mo ≤ k60 := fun h => c27 ((nI_leI (a := mo) (b := k60) (by omega) (by omega)).mpr h)
                omega
            | succ d60 ih60 =>
              intro k60 f60_m36 H locs ls hk60 hP hD hS hl
              refine lv_iload hx hb dX11_doTurns_60 (lv_at hl 0 rfl) ?_
              refine lv_iload_n hx hb dX11_doTurns_62 rfl (lv_at hl 6 rfl) ?_
              refine lv_icmp_ge (tgt := 115) hx hb dX11_doTurns_63 (by decide) (fun c32 => ?_) (fun c32 => ?_)
              ·
                have c32 : mo ≤ k60 := (nI_leI (a := mo) (b := k60) (by omega) (by omega)).mp c32
                omega
              ·
                have c32 : ¬ mo ≤ k60 := fun h => c32 ((nI_leI (a := mo) (b := k60) (by omega) (by omega)).mpr h)
                refine lv_aload_n hx hb dX11_doTurns_66 rfl (lv_at hl 3 rfl) ?_
                refine va_get (D := (dC, dI)) (ci := 11) (v := .ref m36) (C := RX11) (T := TX11) (N := 46) hx hb hts hi_X11 hown hK hP 0 rfl rfl 36 (by decide) (hts (.fieldLink RX11 71 "LeftQuillsModel" "softs" "[I") (wmx 1 rfl)) (fun _ h9 => h9) e_h0_36 dX11_doTurns_67 ?_
                refine lv_iload hx hb dX11_doTurns_70 (lv_at hl 0 rfl) ?_
                refine lv_iload hx hb dX11_doTurns_72 (lv_at hl 0 rfl) ?_
                refine lv_iload hx hb dX11_doTurns_74 (lv_at hl 1 rfl) ?_
                refine lv_iload_n hx hb dX11_doTurns_76 rfl (lv_at hl 6 rfl) ?_
                refine lv_irem hx hb dX11_doTurns_77 (nI_ne0 (n := mo) (by omega) (by omega)) ?_
                refine lv_topi (fun z33 ez33 => ?_)
                obtain ⟨w34, hw34, ew34⟩ : ∃ y : Nat, y < mo ∧ y = k50 % mo := ⟨_, Nat.mod_lt _ (by omega), rfl⟩
                obtain rfl : z33 = nI w34 := by rw [ew34]; exact ez33.trans (pk_rem (a := k50) (d := mo) (by omega) (by omega) (by omega))
                refine lv_icmp_ne (tgt := 97) hx hb dX11_doTurns_78 (by decide) (fun c35 => ?_) (fun c35 => ?_)
                ·
                  have c35 : ¬ k60 = w34 := fun h => c35 ((nI_eq (a := k60) (b := w34) (by omega) (by omega)).mpr h)
                  refine lv_aload_n hx hb dX11_doTurns_97 rfl (lv_at hl 3 rfl) ?_
                  refine va_get (D := (dC, dI)) (ci := 11) (v := .ref m36) (C := RX11) (T := TX11) (N := 46) hx hb hts hi_X11 hown hK hP 0 rfl rfl 36 (by decide) (hts (.fieldLink RX11 71 "LeftQuillsModel" "softs" "[I") (wmx 1 rfl)) (fun _ h9 => h9) e_h0_36 dX11_doTurns_98 ?_
                  refine lv_iload hx hb dX11_doTurns_101 (lv_at hl 0 rfl) ?_
                  refine va_iald hx hb hK hP 8 0 rfl rfl (vp_in_nI (n := k60) (N := 9) (by omega) (by decide)) dX11_doTurns_103 ?_
                  refine W.eq (g2 := F0 m 104 ls [.int (f60_m36 k60), .int (nI k60), .ref m36]) (congrArg (fun y9 => F0 m 104 ls (.int (f60_m36 y9) :: [.int (nI k60), .ref m36])) ((nI_clamp (n := k60) (by omega)))) ?_
                  refine lv_iconst (v := 1) hx hb dX11_doTurns_104 (by decide) ?_
                  have hPc := hP.sub (ws' := []) [] rfl
                  refine va_calli (va_runS (As := [.int (f60_m36 k60), .int 1]) (rest := [.int (nI k60), .ref m36]) ⟨hx, hb, hml, hown, hts⟩ (c_X11_driedBy l dC dI cI cZ cQ (f60_m36 k60) 1 H.size ) (va_cwS 2 hts gX11_doTurns_X11_driedBy rfl rfl rfl (by decide +kernel) ⟨Nat.le_of_ble_eq_true rfl, Nat.le_of_ble_eq_true rfl⟩) (ps_R hK hPc) rfl rfl hl.1 rfl (lv_room (Nat.le_of_ble_eq_true rfl)) dX11_doTurns_105 ⟨Nat.le_of_ble_eq_true rfl, Nat.le_of_ble_eq_true rfl⟩) hS (fun q _ h => False.elim h) (fun q h => False.elim h) (fun r36 u37 t H1 locs ht hvm hw38 hB hz1 hk1 hS => ?_)
                  have hP := hP.kept (fun k q hk => hk1 q.1 (hP k q hk).lt (fun h => h))
                  clear hz1 hk1 hPc
                  generalize H1 = H at hP hS ht ⊢
                  try dsimp only at hw38
                  refine va_iast hx hb hK hP hD hS 8 0 rfl rfl (vp_in_nI (n := k60) (N := 9) (by omega) (by decide)) dX11_doTurns_108 (fun H locs hP hD hS => ?_)
                  generalize hgf39 : upd f60_m36 ((nI k60).toNatClampNeg) r36 = f39 at hP hD
                  have hPD : pdW (dC, dI) vwCl A [(h0, .inr (11, f_h0)), (m3, .inl (cI, 8, .inl fm3)), (m4, .inl (cI, 8, .inl fm4)), (m5, .inl (cI, 8, .inl fm5)), (m7, .inl (cI, 4, .inl fm7)), (m8, .inl (cI, 4, .inl fm8)), (m9, .inl (cI, 4, .inl fm9)), (m10, .inl (cI, 34, .inl fm10)), (m36, .inl (cI, 9, .inl f39))] H := ⟨hP, hD⟩
                  have hP := hPD.1
                  have hD := hPD.2
                  clear hPD
                  refine lv_iinc (v := nI (k60 + 1)) (lv' := [(6, .int (nI (k60 + 1))), (5, .int (nI k50)), (4, .int (nI a50_4)), (0, .ref h0), (1, .int (nI j)), (2, .int (nI k)), (3, .int (nI mo))]) hx hb dX11_doTurns_109 hl (k := 0) rfl ((rfl : nI k60 + Int32.ofInt 1 = nI k60 + 1).trans (nI_add k60 1)) (by decide) rfl (fun ls hl => ?_)
                  refine lv_goto (tgt := 60) hx hb dX11_doTurns_112 (by decide) ?_
                  exact ih60 (k60 + 1) f39 _ _ _ (by omega) hP hD hS (lv_sub hl [0, 1, 2, 3, 4, 5, 6] rfl)
                ·
                  have c35 : k60 = w34 := (nI_eq (a := k60) (b := w34) (by omega) (by omega)).mp c35
                  refine lv_aload_n hx hb dX11_doTurns_81 rfl (lv_at hl 3 rfl) ?_
                  refine lv_aload_n hx hb dX11_doTurns_82 rfl (lv_at hl 3 rfl) ?_
                  refine va_get (D := (dC, dI)) (ci := 11) (v := .ref m36) (C := RX11) (T := TX11) (N := 46) hx hb hts hi_X11 hown hK hP 0 rfl rfl 36 (by decide) (hts (.fieldLink RX11 71 "LeftQuillsModel" "softs" "[I") (wmx 1 rfl)) (fun _ h9 => h9) e_h0_36 dX11_doTurns_83 ?_
                  refine lv_iload hx hb dX11_doTurns_86 (lv_at hl 0 rfl) ?_
                  refine va_iald hx hb hK hP 8 0 rfl rfl (vp_in_nI (n := k60) (N := 9) (by omega) (by decide)) dX11_doTurns_88 ?_
                  refine W.eq (g2 := F0 m 89 ls [.int (f60_m36 k60), .ref h0, .int (nI k60), .ref m36]) (congrArg (fun y9 => F0 m 89 ls (.int (f60_m36 y9) :: [.ref h0, .int (nI k60), .ref m36])) ((nI_clamp (n := k60) (by omega)))) ?_
                  refine lv_iload_n hx hb dX11_doTurns_89 rfl (lv_at hl 4 rfl) ?_
                  refine lv_iload_n hx hb dX11_doTurns_90 rfl (lv_at hl 5 rfl) ?_
                  have hPc := hP.sub (ws' := [(h0, .inr (11, f_h0)), (m3, .inl (cI, 8, .inl fm3)), (m4, .inl (cI, 8, .inl fm4)), (m5, .inl (cI, 8, .inl fm5)), (m7, .inl (cI, 4, .inl fm7)), (m8, .inl (cI, 4, .inl fm8))]) [0, 1, 2, 3, 4, 5] rfl
                  refine va_calli (va_runV (As := [.int (f60_m36 k60), .int (nI j), .int (nI k)]) (rest := [.int (nI k60), .ref m36]) ⟨hx, hb, hml, hown, hts⟩ (c_X11_softBehind l dC dI cI cZ cQ h0 m3 m4 m5 m7 m8 f_h0 fm3 fm4 fm5 fm7 fm8 (f60_m36 k60) j k nq H.size e_h0_3 e_h0_4 e_h0_5 e_h0_7 e_h0_8 (by omega) (by first | assumption | decide) (by omega) (by omega)) (cwV 3 hts gX11_doTurns_X11_softBehind rfl rfl rfl hd_X11_softBehind_RX11 ⟨Nat.le_of_ble_eq_true rfl, Nat.le_of_ble_eq_true rfl⟩) (pv_R (va_recv hK hP (ci := 11) (q0 := 0) rfl rfl) hK hPc) rfl rfl hl.1 rfl (lv_room (Nat.le_of_ble_eq_true rfl)) dX11_doTurns_91 ⟨Nat.le_of_ble_eq_true rfl, Nat.le_of_ble_eq_true rfl⟩) hS (fun q _ h => False.elim h) (fun q h => False.elim h) (fun r40 u41 t H1 locs ht hvm hw42 hB hz1 hk1 hS => ?_)
                  have hP := hP.kept (fun k q hk => hk1 q.1 (hP k q hk).lt (fun h => h))
                  clear hz1 hk1 hPc
                  generalize H1 = H at hP hS ht ⊢
                  try dsimp only at hw42
                  refine lv_goto (tgt := 108) hx hb dX11_doTurns_94 (by decide) ?_
                  refine va_iast hx hb hK hP hD hS 8 0 rfl rfl (vp_in_nI (n := k60) (N := 9) (by omega) (by decide)) dX11_doTurns_108 (fun H locs hP hD hS => ?_)
                  generalize hgf43 : upd f60_m36 ((nI k60).toNatClampNeg) r40 = f43 at hP hD
                  have hPD : pdW (dC, dI) vwCl A [(h0, .inr (11, f_h0)), (m3, .inl (cI, 8, .inl fm3)), (m4, .inl (cI, 8, .inl fm4)), (m5, .inl (cI, 8, .inl fm5)), (m7, .inl (cI, 4, .inl fm7)), (m8, .inl (cI, 4, .inl fm8)), (m9, .inl (cI, 4, .inl fm9)), (m10, .inl (cI, 34, .inl fm10)), (m36, .inl (cI, 9, .inl f43))] H := ⟨hP, hD⟩
                  have hP := hPD.1
                  have hD := hPD.2
                  clear hPD
                  refine lv_iinc (v := nI (k60 + 1)) (lv' := [(6, .int (nI (k60 + 1))), (5, .int (nI k50)), (4, .int (nI a50_4)), (0, .ref h0), (1, .int (nI j)), (2, .int (nI k)), (3, .int (nI mo))]) hx hb dX11_doTurns_109 hl (k := 0) rfl ((rfl : nI k60 + Int32.ofInt 1 = nI k60 + 1).trans (nI_add k60 1)) (by decide) rfl (fun ls hl => ?_)
                  refine lv_goto (tgt := 60) hx hb dX11_doTurns_112 (by decide) ?_
                  exact ih60 (k60 + 1) f43 _ _ _ (by omega) hP hD hS (lv_sub hl [0, 1, 2, 3, 4, 5, 6] rfl)
    ·
      have c1 : ¬ mo ≤ k3 := fun h => c1 ((nI_leI (a := mo) (b := k3) (by omega) (by omega)).mpr h)
      omega
  | succ d3 ih3 =>
    intro k3 f3_m36 H locs ls hk3 hP hD hS hl
    refine lv_iload hx hb dX11_doTurns_3 (lv_at hl 0 rfl) ?_
    refine lv_iload_n hx hb dX11_doTurns_5 rfl (lv_at hl 4 rfl) ?_
    refine lv_icmp_ge (tgt := 31) hx hb dX11_doTurns_6 (by decide) (fun c44 => ?_) (fun c44 => ?_)
    ·
      have c44 : mo ≤ k3 := (nI_leI (a := mo) (b := k3) (by omega) (by omega)).mp c44
      omega
    ·
      have c44 : ¬ mo ≤ k3 := fun h => c44 ((nI_leI (a := mo) (b := k3) (by omega) (by omega)).mpr h)
      refine lv_aload_n hx hb dX11_doTurns_9 rfl (lv_at hl 1 rfl) ?_
      refine va_get (D := (dC, dI)) (ci := 11) (v := .ref m36) (C := RX11) (T := TX11) (N := 46) hx hb hts hi_X11 hown hK hP 0 rfl rfl 36 (by decide) (hts (.fieldLink RX11 71 "LeftQuillsModel" "softs" "[I") (wmx 1 rfl)) (fun _ h9 => h9) e_h0_36 dX11_doTurns_10 ?_
      refine lv_iload hx hb dX11_doTurns_13 (lv_at hl 0 rfl) ?_
      refine lv_aload_n hx hb dX11_doTurns_15 rfl (lv_at hl 1 rfl) ?_
      refine va_get (D := (dC, dI)) (ci := 11) (v := .ref m10) (C := RX11) (T := TX11) (N := 46) hx hb hts hi_X11 hown hK hP 0 rfl rfl 10 (by decide) (hts (.fieldLink RX11 28 "LeftQuillsModel" "now" "[I") (wmx 2 rfl)) (fun _ h9 => h9) e_h0_10 dX11_doTurns_16 ?_
      refine lv_bipush (v := 16) hx hb dX11_doTurns_19 (by decide) ?_
      refine lv_iload_n hx hb dX11_doTurns_21 rfl (lv_at hl 2 rfl) ?_
      refine lv_iadd hx hb dX11_doTurns_22 ?_
      refine lv_topi (fun z45 ez45 => ?_)
      obtain rfl : z45 = nI (16 + j) := ez45.trans (nI_add 16 j)
      refine va_iald hx hb hK hP 7 0 rfl rfl (vp_in_nI (n := 16 + j) (N := 34) (by omega) (by decide)) dX11_doTurns_23 ?_
      refine W.eq (g2 := F0 m 24 ls [.int (fm10 (16 + j)), .int (nI k3), .ref m36]) (congrArg (fun y9 => F0 m 24 ls (.int (fm10 y9) :: [.int (nI k3), .ref m36])) ((nI_clamp (n := 16 + j) (by omega)))) ?_
      refine va_iast hx hb hK hP hD hS 8 0 rfl rfl (vp_in_nI (n := k3) (N := 9) (by omega) (by decide)) dX11_doTurns_24 (fun H locs hP hD hS => ?_)
      generalize hgf46 : upd f3_m36 ((nI k3).toNatClampNeg) (fm10 (16 + j)) = f46 at hP hD
      have hPD : pdW (dC, dI) vwCl A [(h0, .inr (11, f_h0)), (m3, .inl (cI, 8, .inl fm3)), (m4, .inl (cI, 8, .inl fm4)), (m5, .inl (cI, 8, .inl fm5)), (m7, .inl (cI, 4, .inl fm7)), (m8, .inl (cI, 4, .inl fm8)), (m9, .inl (cI, 4, .inl fm9)), (m10, .inl (cI, 34, .inl fm10)), (m36, .inl (cI, 9, .inl f46))] H := ⟨hP, hD⟩
      have hP := hPD.1
      have hD := hPD.2
      clear hPD
      refine lv_iinc (v := nI (k3 + 1)) (lv' := [(4, .int (nI (k3 + 1))), (0, .ref h0), (1, .int (nI j)), (2, .int (nI k)), (3, .int (nI mo))]) hx hb dX11_doTurns_25 hl (k := 0) rfl ((rfl : nI k3 + Int32.ofInt 1 = nI k3 + 1).trans (nI_add k3 1)) (by decide) rfl (fun ls hl => ?_)
      refine lv_goto (tgt := 3) hx hb dX11_doTurns_28 (by decide) ?_
      exact ih3 (k3 + 1) f46 _ _ _ (by omega) hP hD hS (lv_sub hl [0, 1, 2, 3, 4] rfl)
set_option maxHeartbeats 4000000 in
set_option maxRecDepth 100000 in
theorem c_X11_byTurns (l : Launch) (dC : Nat → ClassId) (dI : Nat → Nat → Nat) (cI cZ cQ : ClassId) (h0 : Nat) (nq : Nat) (nh : Nat) (m3 : Nat) (m4 : Nat) (m5 : Nat) (m7 : Nat) (m8 : Nat) (m9 : Nat) (m10 : Nat) (m36 : Nat) (f_h0 : List Value) (fm3 : Nat → Int32) (fm4 : Nat → Int32) (fm5 : Nat → Int32) (fm7 : Nat → Int32) (fm8 : Nat → Int32) (fm9 : Nat → Int32) (fm10 : Nat → Int32) (fm36 : Nat → Int32) (q0 : Int32) (q1 : Int32) (sz : Nat) (e_h0_2 : fAt f_h0 2 = some (.int (nI nq))) (e_h0_6 : fAt f_h0 6 = some (.int (nI nh))) (e_h0_3 : fAt f_h0 3 = some (.ref m3)) (e_h0_4 : fAt f_h0 4 = some (.ref m4)) (e_h0_5 : fAt f_h0 5 = some (.ref m5)) (e_h0_7 : fAt f_h0 7 = some (.ref m7)) (e_h0_8 : fAt f_h0 8 = some (.ref m8)) (e_h0_9 : fAt f_h0 9 = some (.ref m9)) (e_h0_10 : fAt f_h0 10 = some (.ref m10)) (e_h0_36 : fAt f_h0 36 = some (.ref m36)) (hnq : nq ≤ 8) (hci : cIn fm5 nq) (hnh : nh ≤ 4) : Met l yX11_byTurns wsX11_byTurns ({ frames := 4, cells := 0, slots := 0, locals := 135 }) (va_Pc [.ref h0, .int q0, .int q1] (fun U => U.heap.size = sz ∧ va_P (dC, dI) vwCl [(h0, .inr (11, f_h0)), (m3, .inl (cI, 8, .inl fm3)), (m4, .inl (cI, 8, .inl fm4)), (m5, .inl (cI, 8, .inl fm5)), (m7, .inl (cI, 4, .inl fm7)), (m8, .inl (cI, 4, .inl fm8)), (m9, .inl (cI, 4, .inl fm9)), (m10, .inl (cI, 34, .inl fm10)), (m36, .inl (cI, 9, .inl fm36))] U.heap ∧ va_K (dC, dI) vwCl (tys0 cI cZ cQ) U ∧ va_D (fun _ => True) [(h0, .inr (11, f_h0)), (m3, .inl (cI, 8, .inl fm3)), (m4, .inl (cI, 8, .inl fm4)), (m5, .inl (cI, 8, .inl fm5)), (m7, .inl (cI, 4, .inl fm7)), (m8, .inl (cI, 4, .inl fm8)), (m9, .inl (cI, 4, .inl fm9)), (m10, .inl (cI, 34, .inl fm10)), (m36, .inl (cI, 9, .inl fm36))])) (va_Qi (fun (r : Int32) (u : Nat → Nat) => True) (fun (_ : Nat → Nat) (t : State) => ∃ (gg0 : Nat → Int32) , va_P (dC, dI) vwCl [(h0, .inr (11, f_h0)), (m3, .inl (cI, 8, .inl fm3)), (m4, .inl (cI, 8, .inl fm4)), (m5, .inl (cI, 8, .inl fm5)), (m7, .inl (cI, 4, .inl fm7)), (m8, .inl (cI, 4, .inl fm8)), (m9, .inl (cI, 4, .inl fm9)), (m10, .inl (cI, 34, .inl fm10)), (m36, .inl (cI, 9, .inl gg0))] t.heap ∧ va_D (va_A [(h0, .inr (11, f_h0)), (m3, .inl (cI, 8, .inl fm3)), (m4, .inl (cI, 8, .inl fm4)), (m5, .inl (cI, 8, .inl fm5)), (m7, .inl (cI, 4, .inl fm7)), (m8, .inl (cI, 4, .inl fm8)), (m9, .inl (cI, 4, .inl fm9)), (m10, .inl (cI, 34, .inl fm10)), (m36, .inl (cI, 9, .inl fm36))] sz) [(h0, .inr (11, f_h0)), (m3, .inl (cI, 8, .inl fm3)), (m4, .inl (cI, 8, .inl fm4)), (m5, .inl (cI, 8, .inl fm5)), (m7, .inl (cI, 4, .inl fm7)), (m8, .inl (cI, 4, .inl fm8)), (m9, .inl (cI, 4, .inl fm9)), (m10, .inl (cI, 34, .inl fm10)), (m36, .inl (cI, 9, .inl gg0))]) (va_A [(h0, .inr (11, f_h0)), (m3, .inl (cI, 8, .inl fm3)), (m4, .inl (cI, 8, .inl fm4)), (m5, .inl (cI, 8, .inl fm5)), (m7, .inl (cI, 4, .inl fm7)), (m8, .inl (cI, 4, .inl fm8)), (m9, .inl (cI, 4, .inl fm9)), (m10, .inl (cI, 34, .inl fm10)), (m36, .inl (cI, 9, .inl fm36))] sz)) 0 0 (va_A [(h0, .inr (11, f_h0)), (m3, .inl (cI, 8, .inl fm3)), (m4, .inl (cI, 8, .inl fm4)), (m5, .inl (cI, 8, .inl fm5)), (m7, .inl (cI, 4, .inl fm7)), (m8, .inl (cI, 4, .inl fm8)), (m9, .inl (cI, 4, .inl fm9)), (m10, .inl (cI, 34, .inl fm10)), (m36, .inl (cI, 9, .inl fm36))] sz) := by
  refine Met.ofW (cc := cX11_byTurns) (maxL := 4) (ret := (some .int)) (by decide) rfl ?_
  intro p e s m args below meth c s₁ B hml hv
  obtain ⟨rfl, hsz, hP, hK, hD0⟩ := hv
  have hx := B.exec
  have hb := B.bytes
  have hr := B.returns
  have hts := atoms_spec (ws := wsX11_byTurns) B.pre
  have hown : s.vm.findClass RX11 = some m.cls := findClass_of_methodNamed B.named
  have hlocks := B.notSynchronized
  subst hsz
  have hD := hD0.self (sz := s.heap.size)
  generalize hAe : va_A [(h0, .inr (11, f_h0)), (m3, .inl (cI, 8, .inl fm3)), (m4, .inl (cI, 8, .inl fm4)), (m5, .inl (cI, 8, .inl fm5)), (m7, .inl (cI, 4, .inl fm7)), (m8, .inl (cI, 4, .inl fm8)), (m9, .inl (cI, 4, .inl fm9)), (m10, .inl (cI, 34, .inl fm10)), (m36, .inl (cI, 9, .inl fm36))] s.heap.size = A at hD ⊢
  have hA : ∀ q : Nat, s.heap.size ≤ q → A q := fun q h => by rw [← hAe]; exact Or.inr h
  have hS : va_S A s.heap s.heap [] := va_S.rf
  have hl := lv_entry ([.ref h0, .int q0, .int q1]) (n := 4) (Nat.le_of_ble_eq_true rfl)
  rw [lg_entry_eq]
  generalize (lg_sl ([.ref h0, .int q0, .int q1]) ++ List.replicate (4 - (lg_sl ([.ref h0, .int q0, .int q1])).length) Slot.unset).toArray = ls at hl ⊢
  have hl : lv_has ls 4 [(0, .ref h0), (1, .int q0), (2, .int q1)] := hl
  refine lv_aload_n hx hb dX11_byTurns_0 rfl (lv_at hl 0 rfl) ?_
  refine lv_iload_n hx hb dX11_byTurns_1 rfl (lv_at hl 1 rfl) ?_
  have hPc := hP.sub (ws' := [(h0, .inr (11, f_h0))]) [0] rfl
  refine va_calli (va_runV (As := [.int q0]) (rest := []) ⟨hx, hb, hml, hown, hts⟩ (c_X11_isQuill l dC dI cI cZ cQ h0 (nI nq) f_h0 q0 s.heap.size e_h0_2 (nI_pos' (n := nq) (by omega))) (cwV 1 hts gX11_byTurns_X11_isQuill rfl rfl rfl hd_X11_isQuill_RX11 ⟨Nat.le_of_ble_eq_true rfl, Nat.le_of_ble_eq_true rfl⟩) (pv_R (va_recv hK hP (ci := 11) (q0 := 0) rfl rfl) hK hPc) rfl rfl hl.1 rfl (lv_room (Nat.le_of_ble_eq_true rfl)) dX11_byTurns_2 ⟨Nat.le_of_ble_eq_true rfl, Nat.le_of_ble_eq_true rfl⟩) hS (fun q _ h => False.elim h) (fun q h => False.elim h) (fun r1 u2 t H1 locs ht hvm hw3 hB hz1 hk1 hS => ?_)
  have hP := hP.kept (fun k q hk => hk1 q.1 (hP k q hk).lt (fun h => h))
  clear hz1 hk1 hPc
  generalize H1 = H at hP hS ht ⊢
  try dsimp only at hw3
  rcases hw3 with ⟨rfl, hw3⟩ | ⟨rfl, hw3⟩
  ·
    obtain ⟨j4, hj4, rfl⟩ := x_ix hw3 (by omega)
    refine lv_if_eq (tgt := 16) hx hb dX11_byTurns_5 (by decide) (fun c5 => ?_) (fun c5 => ?_)
    · exact absurd c5 (by decide)
    clear c5
    refine lv_aload_n hx hb dX11_byTurns_8 rfl (lv_at hl 0 rfl) ?_
    refine lv_iload_n hx hb dX11_byTurns_9 rfl (lv_at hl 2 rfl) ?_
    have hPc := hP.sub (ws' := [(h0, .inr (11, f_h0))]) [0] rfl
    refine va_calli (va_runV (As := [.int q1]) (rest := []) ⟨hx, hb, hml, hown, hts⟩ (c_X11_isHand l dC dI cI cZ cQ h0 (nI nh) f_h0 q1 H.size e_h0_6 (nI_pos' (n := nh) (by omega))) (cwV 1 hts gX11_byTurns_X11_isHand rfl rfl rfl hd_X11_isHand_RX11 ⟨Nat.le_of_ble_eq_true rfl, Nat.le_of_ble_eq_true rfl⟩) (pv_R (va_recv hK hP (ci := 11) (q0 := 0) rfl rfl) hK hPc) rfl rfl hl.1 rfl (lv_room (Nat.le_of_ble_eq_true rfl)) dX11_byTurns_10 ⟨Nat.le_of_ble_eq_true rfl, Nat.le_of_ble_eq_true rfl⟩) hS (fun q _ h => False.elim h) (fun q h => False.elim h) (fun r6 u7 t H1 locs ht hvm hw8 hB hz1 hk1 hS => ?_)
    have hP := hP.kept (fun k q hk => hk1 q.1 (hP k q hk).lt (fun h => h))
    clear hz1 hk1 hPc
    generalize H1 = H at hP hS ht ⊢
    try dsimp only at hw8
    rcases hw8 with ⟨rfl, hw8⟩ | ⟨rfl, hw8⟩
    ·
      obtain ⟨j9, hj9, rfl⟩ := x_ix hw8 (by omega)
      refine lv_if_ne (tgt := 19) hx hb dX11_byTurns_13 (by decide) (fun c10 => ?_) (fun c10 => ?_)
      rotate_left
      · exact absurd c10 (by decide)
      clear c10
      refine lv_iconst (v := 1) hx hb dX11_byTurns_19 (by decide) ?_
      refine lv_istore_n (lv' := [(3, .int 1), (0, .ref h0), (1, .int (nI j4)), (2, .int (nI j9))]) hx hb dX11_byTurns_20 rfl hl (by decide) rfl (fun ls hl => ?_)
      refine (fun (K : ∀ (d21 : Nat) (k21 : Nat) (f21_m36 : Nat → Int32) (H : Heap) (locs : List Loc) (ls : Array Slot), k21 + d21 = 10 → 1 ≤ k21 → va_P (dC, dI) vwCl [(h0, .inr (11, f_h0)), (m3, .inl (cI, 8, .inl fm3)), (m4, .inl (cI, 8, .inl fm4)), (m5, .inl (cI, 8, .inl fm5)), (m7, .inl (cI, 4, .inl fm7)), (m8, .inl (cI, 4, .inl fm8)), (m9, .inl (cI, 4, .inl fm9)), (m10, .inl (cI, 34, .inl fm10)), (m36, .inl (cI, 9, .inl f21_m36))] H → va_D A [(h0, .inr (11, f_h0)), (m3, .inl (cI, 8, .inl fm3)), (m4, .inl (cI, 8, .inl fm4)), (m5, .inl (cI, 8, .inl fm5)), (m7, .inl (cI, 4, .inl fm7)), (m8, .inl (cI, 4, .inl fm8)), (m9, .inl (cI, 4, .inl fm9)), (m10, .inl (cI, 34, .inl fm10)), (m36, .inl (cI, 9, .inl f21_m36))] → va_S A s.heap H locs → lv_has ls 4 [(3, .int (nI k21)), (0, .ref h0), (1, .int (nI j4)), (2, .int (nI j9))] → W p l e _ s m _ below meth c H locs _ _ _ (F0 m 21 ls [])) => K (10 - 1) 1 fm36 _ _ _ (by omega) (by omega) hP hD hS (lv_sub hl [0, 1, 2, 3] rfl)) ?_
      intro d21
      induction d21 with
      | zero =>
        intro k21 f21_m36 H locs ls hk21 hlo21 hP hD hS hl
        refine lv_iload_n hx hb dX11_byTurns_21 rfl (lv_at hl 0 rfl) ?_
        refine lv_bipush (v := 9) hx hb dX11_byTurns_22 (by decide) ?_
        refine lv_icmp_gt (tgt := 45) hx hb dX11_byTurns_24 (by decide) (fun c11 => ?_) (fun c11 => ?_)
        ·
          have c11 : 9 < k21 := (nI_ltI (a := 9) (b := k21) (by omega) (by omega)).mp c11
          refine lv_iconst (v := (-1)) hx hb dX11_byTurns_45 (by decide) ?_
          have hP9 := hP.sub (ws' := [(h0, .inr (11, f_h0)), (m3, .inl (cI, 8, .inl fm3)), (m4, .inl (cI, 8, .inl fm4)), (m5, .inl (cI, 8, .inl fm5)), (m7, .inl (cI, 4, .inl fm7)), (m8, .inl (cI, 4, .inl fm8)), (m9, .inl (cI, 4, .inl fm9)), (m10, .inl (cI, 34, .inl fm10)), (m36, .inl (cI, 9, .inl f21_m36))]) [0, 1, 2, 3, 4, 5, 6, 7, 8] rfl
          have hD9 := hD.sub (ws' := [(h0, .inr (11, f_h0)), (m3, .inl (cI, 8, .inl fm3)), (m4, .inl (cI, 8, .inl fm4)), (m5, .inl (cI, 8, .inl fm5)), (m7, .inl (cI, 4, .inl fm7)), (m8, .inl (cI, 4, .inl fm8)), (m9, .inl (cI, 4, .inl fm9)), (m10, .inl (cI, 34, .inl fm10)), (m36, .inl (cI, 9, .inl f21_m36))]) [0, 1, 2, 3, 4, 5, 6, 7, 8] (by decide +kernel) rfl
          exact W.iret (v := (-1)) hx hb hr (fun t ht hW => ⟨⟨(-1), (fun _ => 0), rfl, trivial, ⟨f21_m36, va_hq ht hP9, hD9⟩⟩, hS.F ht⟩) hS.2.2 dX11_byTurns_46
        ·
          have c11 : ¬ 9 < k21 := fun h => c11 ((nI_ltI (a := 9) (b := k21) (by omega) (by omega)).mpr h)
          omega
      | succ d21 ih21 =>
        intro k21 f21_m36 H locs ls hk21 hlo21 hP hD hS hl
        refine lv_iload_n hx hb dX11_byTurns_21 rfl (lv_at hl 0 rfl) ?_
        refine lv_bipush (v := 9) hx hb dX11_byTurns_22 (by decide) ?_
        refine lv_icmp_gt (tgt := 45) hx hb dX11_byTurns_24 (by decide) (fun c12 => ?_) (fun c12 => ?_)
        ·
          have c12 : 9 < k21 := (nI_ltI (a := 9) (b := k21) (by omega) (by omega)).mp c12
          omega
        ·
          have c12 : ¬ 9 < k21 := fun h => c12 ((nI_ltI (a := 9) (b := k21) (by omega) (by omega)).mpr h)
          refine lv_aload_n hx hb dX11_byTurns_27 rfl (lv_at hl 1 rfl) ?_
          refine lv_iload_n hx hb dX11_byTurns_28 rfl (lv_at hl 2 rfl) ?_
          refine lv_iload_n hx hb dX11_byTurns_29 rfl (lv_at hl 3 rfl) ?_
          refine lv_iload_n hx hb dX11_byTurns_30 rfl (lv_at hl 0 rfl) ?_
          have hc9 := va_cut (W' := [(h0, .inr (11, f_h0)), (m3, .inl (cI, 8, .inl fm3)), (m4, .inl (cI, 8, .inl fm4)), (m5, .inl (cI, 8, .inl fm5)), (m7, .inl (cI, 4, .inl fm7)), (m8, .inl (cI, 4, .inl fm8)), (m9, .inl (cI, 4, .inl fm9)), (m10, .inl (cI, 34, .inl fm10)), (m36, .inl (cI, 9, .inl f21_m36))]) hP hD hS hA [0, 1, 2, 3, 4, 5, 6, 7, 8] (by decide) rfl
          have hPc := hc9.1
          have hDc := hc9.2.1
          have hFc := hc9.2.2
          clear hc9
          refine va_calli (va_runV (As := [.int (nI j4), .int (nI j9), .int (nI k21)]) (rest := []) ⟨hx, hb, hml, hown, hts⟩ (c_X11_doTurns l dC dI cI cZ cQ h0 m3 m4 m5 m7 m8 m9 m10 m36 f_h0 fm3 fm4 fm5 fm7 fm8 fm9 fm10 f21_m36 j4 j9 k21 nq H.size e_h0_3 e_h0_4 e_h0_5 e_h0_7 e_h0_8 e_h0_9 e_h0_10 e_h0_36 (by omega) (by first | assumption | decide) (by omega) (by omega) (by omega) (by omega)) (cwV 3 hts gX11_byTurns_X11_doTurns rfl rfl rfl hd_X11_doTurns_RX11 ⟨Nat.le_of_ble_eq_true rfl, Nat.le_of_ble_eq_true rfl⟩) (pv_D (va_recv hK hP (ci := 11) (q0 := 0) rfl rfl) hK hPc hDc) rfl rfl hl.1 rfl (lv_room (Nat.le_of_ble_eq_true rfl)) dX11_byTurns_31 ⟨Nat.le_of_ble_eq_true rfl, Nat.le_of_ble_eq_true rfl⟩) hS (fun q _ h => hFc q h) hFc (fun r13 u14 t H1 locs ht hvm hw15 hB hz1 hk1 hS => ?_)
          obtain ⟨f16, hP1, hD1⟩ := hB
          replace hP1 := va_hp ht hP1
          obtain ⟨hP, hD⟩ := va_join (wr := []) (w1 := [(h0, .inr (11, f_h0)), (m3, .inl (cI, 8, .inl fm3)), (m4, .inl (cI, 8, .inl fm4)), (m5, .inl (cI, 8, .inl fm5)), (m7, .inl (cI, 4, .inl fm7)), (m8, .inl (cI, 4, .inl fm8)), (m9, .inl (cI, 4, .inl fm9)), (m10, .inl (cI, 34, .inl fm10)), (m36, .inl (cI, 9, .inl f16))]) hP hD [0, 1, 2, 3, 4, 5, 6, 7, 8] [] rfl rfl (by decide +kernel) (by decide +kernel) hk1 hFc hP1 hD1
          clear hP1 hD1
          clear hz1 hk1 hPc hDc hFc
          generalize H1 = H at hP hS ht ⊢
          have hPD : pdW (dC, dI) vwCl A [(h0, .inr (11, f_h0)), (m3, .inl (cI, 8, .inl fm3)), (m4, .inl (cI, 8, .inl fm4)), (m5, .inl (cI, 8, .inl fm5)), (m7, .inl (cI, 4, .inl fm7)), (m8, .inl (cI, 4, .inl fm8)), (m9, .inl (cI, 4, .inl fm9)), (m10, .inl (cI, 34, .inl fm10)), (m36, .inl (cI, 9, .inl f16))] H := ⟨hP, hD⟩
          have hP := hPD.1
          have hD := hPD.2
          clear hPD
          try dsimp only at hw15
          rcases hw15 with rfl | rfl
          ·
            refine lv_if_eq (tgt := 39) hx hb dX11_byTurns_34 (by decide) (fun c17 => ?_) (fun c17 => ?_)
            · exact absurd c17 (by decide)
            clear c17
            refine lv_iload_n hx hb dX11_byTurns_37 rfl (lv_at hl 0 rfl) ?_
            have hP9 := hP.sub (ws' := [(h0, .inr (11, f_h0)), (m3, .inl (cI, 8, .inl fm3)), (m4, .inl (cI, 8, .inl fm4)), (m5, .inl (cI, 8, .inl fm5)), (m7, .inl (cI, 4, .inl fm7)), (m8, .inl (cI, 4, .inl fm8)), (m9, .inl (cI, 4, .inl fm9)), (m10, .inl (cI, 34, .inl fm10)), (m36, .inl (cI, 9, .inl f16))]) [0, 1, 2, 3, 4, 5, 6, 7, 8] rfl
            have hD9 := hD.sub (ws' := [(h0, .inr (11, f_h0)), (m3, .inl (cI, 8, .inl fm3)), (m4, .inl (cI, 8, .inl fm4)), (m5, .inl (cI, 8, .inl fm5)), (m7, .inl (cI, 4, .inl fm7)), (m8, .inl (cI, 4, .inl fm8)), (m9, .inl (cI, 4, .inl fm9)), (m10, .inl (cI, 34, .inl fm10)), (m36, .inl (cI, 9, .inl f16))]) [0, 1, 2, 3, 4, 5, 6, 7, 8] (by decide +kernel) rfl
            exact W.iret (v := nI k21) hx hb hr (fun t ht hW => ⟨⟨nI k21, (fun _ => 0), rfl, trivial, ⟨f16, va_hq ht hP9, hD9⟩⟩, hS.F ht⟩) hS.2.2 dX11_byTurns_38
          ·
            refine lv_if_eq (tgt := 39) hx hb dX11_byTurns_34 (by decide) (fun c18 => ?_) (fun c18 => ?_)
            rotate_left
            · exact absurd c18 (by decide)
            clear c18
            refine lv_iinc (v := nI (k21 + 1)) (lv' := [(3, .int (nI (k21 + 1))), (0, .ref h0), (1, .int (nI j4)), (2, .int (nI j9))]) hx hb dX11_byTurns_39 hl (k := 0) rfl ((rfl : nI k21 + Int32.ofInt 1 = nI k21 + 1).trans (nI_add k21 1)) (by decide) rfl (fun ls hl => ?_)
            refine lv_goto (tgt := 21) hx hb dX11_byTurns_42 (by decide) ?_
            exact ih21 (k21 + 1) f16 _ _ _ (by omega) (by omega) hP hD hS (lv_sub hl [0, 1, 2, 3] rfl)
    ·
      refine lv_if_ne (tgt := 19) hx hb dX11_byTurns_13 (by decide) (fun c19 => ?_) (fun c19 => ?_)
      · exact absurd c19 (by decide)
      clear c19
      refine lv_ldc (v := (-1000000001)) hx hb hown (hts (.constant RX11 188 (-1000000001)) (wmx 1 rfl)) dX11_byTurns_16 ?_
      have hP9 := hP.sub (ws' := [(h0, .inr (11, f_h0)), (m3, .inl (cI, 8, .inl fm3)), (m4, .inl (cI, 8, .inl fm4)), (m5, .inl (cI, 8, .inl fm5)), (m7, .inl (cI, 4, .inl fm7)), (m8, .inl (cI, 4, .inl fm8)), (m9, .inl (cI, 4, .inl fm9)), (m10, .inl (cI, 34, .inl fm10)), (m36, .inl (cI, 9, .inl fm36))]) [0, 1, 2, 3, 4, 5, 6, 7, 8] rfl
      have hD9 := hD.sub (ws' := [(h0, .inr (11, f_h0)), (m3, .inl (cI, 8, .inl fm3)), (m4, .inl (cI, 8, .inl fm4)), (m5, .inl (cI, 8, .inl fm5)), (m7, .inl (cI, 4, .inl fm7)), (m8, .inl (cI, 4, .inl fm8)), (m9, .inl (cI, 4, .inl fm9)), (m10, .inl (cI, 34, .inl fm10)), (m36, .inl (cI, 9, .inl fm36))]) [0, 1, 2, 3, 4, 5, 6, 7, 8] (by decide +kernel) rfl
      exact W.iret (v := (-1000000001)) hx hb hr (fun t ht hW => ⟨⟨(-1000000001), (fun _ => 0), rfl, trivial, ⟨fm36, va_hq ht hP9, hD9⟩⟩, hS.F ht⟩) hS.2.2 dX11_byTurns_18
  ·
    refine lv_if_eq (tgt := 16) hx hb dX11_byTurns_5 (by decide) (fun c20 => ?_) (fun c20 => ?_)
    rotate_left
    · exact absurd c20 (by decide)
    clear c20
    refine lv_ldc (v := (-1000000001)) hx hb hown (hts (.constant RX11 188 (-1000000001)) (wmx 1 rfl)) dX11_byTurns_16 ?_
    have hP9 := hP.sub (ws' := [(h0, .inr (11, f_h0)), (m3, .inl (cI, 8, .inl fm3)), (m4, .inl (cI, 8, .inl fm4)), (m5, .inl (cI, 8, .inl fm5)), (m7, .inl (cI, 4, .inl fm7)), (m8, .inl (cI, 4, .inl fm8)), (m9, .inl (cI, 4, .inl fm9)), (m10, .inl (cI, 34, .inl fm10)), (m36, .inl (cI, 9, .inl fm36))]) [0, 1, 2, 3, 4, 5, 6, 7, 8] rfl
    have hD9 := hD.sub (ws' := [(h0, .inr (11, f_h0)), (m3, .inl (cI, 8, .inl fm3)), (m4, .inl (cI, 8, .inl fm4)), (m5, .inl (cI, 8, .inl fm5)), (m7, .inl (cI, 4, .inl fm7)), (m8, .inl (cI, 4, .inl fm8)), (m9, .inl (cI, 4, .inl fm9)), (m10, .inl (cI, 34, .inl fm10)), (m36, .inl (cI, 9, .inl fm36))]) [0, 1, 2, 3, 4, 5, 6, 7, 8] (by decide +kernel) rfl
    exact W.iret (v := (-1000000001)) hx hb hr (fun t ht hW => ⟨⟨(-1000000001), (fun _ => 0), rfl, trivial, ⟨fm36, va_hq ht hP9, hD9⟩⟩, hS.F ht⟩) hS.2.2 dX11_byTurns_18
set_option maxHeartbeats 4000000 in
set_option maxRecDepth 100000 in
theorem c_X11_softAfter (l : Launch) (dC : Nat → ClassId) (dI : Nat → Nat → Nat) (cI cZ cQ : ClassId) (h0 : Nat) (m3 : Nat) (m4 : Nat) (m5 : Nat) (m7 : Nat) (m8 : Nat) (f_h0 : List Value) (fm3 : Nat → Int32) (fm4 : Nat → Int32) (fm5 : Nat → Int32) (fm7 : Nat → Int32) (fm8 : Nat → Int32) (j : Nat) (k : Nat) (mo : Nat) (nq : Nat) (sz : Nat) (e_h0_3 : fAt f_h0 3 = some (.ref m3)) (e_h0_4 : fAt f_h0 4 = some (.ref m4)) (e_h0_5 : fAt f_h0 5 = some (.ref m5)) (e_h0_7 : fAt f_h0 7 = some (.ref m7)) (e_h0_8 : fAt f_h0 8 = some (.ref m8)) (hnq : nq ≤ 8) (hci : cIn fm5 nq) (hj : j < nq) (hk : k < 4) (hmo : mo ≤ 9) : Met l yX11_softAfter wsX11_softAfter ({ frames := 3, cells := 0, slots := 0, locals := 109 }) (va_Pc [.ref h0, .int (nI j), .int (nI k), .int (nI mo)] (fun U => U.heap.size = sz ∧ va_P (dC, dI) vwCl [(h0, .inr (11, f_h0)), (m3, .inl (cI, 8, .inl fm3)), (m4, .inl (cI, 8, .inl fm4)), (m5, .inl (cI, 8, .inl fm5)), (m7, .inl (cI, 4, .inl fm7)), (m8, .inl (cI, 4, .inl fm8))] U.heap ∧ va_K (dC, dI) vwCl (tys0 cI cZ cQ) U)) (va_Qi (fun (r : Int32) (u : Nat → Nat) => True) (fun (_ : Nat → Nat) (_ : State) => True) (fun _ : Nat => False)) 0 0 (fun _ : Nat => False) := by
  refine Met.ofW (cc := cX11_softAfter) (maxL := 6) (ret := (some .int)) (by decide) rfl ?_
  intro p e s m args below meth c s₁ B hml hv
  obtain ⟨rfl, hsz, hP, hK⟩ := hv
  have hx := B.exec
  have hb := B.bytes
  have hr := B.returns
  have hts := atoms_spec (ws := wsX11_softAfter) B.pre
  have hown : s.vm.findClass RX11 = some m.cls := findClass_of_methodNamed B.named
  have hlocks := B.notSynchronized
  subst hsz
  have hS : va_S (fun _ : Nat => False) s.heap s.heap [] := va_S.rf
  have hl := lv_entry ([.ref h0, .int (nI j), .int (nI k), .int (nI mo)]) (n := 6) (Nat.le_of_ble_eq_true rfl)
  rw [lg_entry_eq]
  generalize (lg_sl ([.ref h0, .int (nI j), .int (nI k), .int (nI mo)]) ++ List.replicate (6 - (lg_sl ([.ref h0, .int (nI j), .int (nI k), .int (nI mo)])).length) Slot.unset).toArray = ls at hl ⊢
  have hl : lv_has ls 6 [(0, .ref h0), (1, .int (nI j)), (2, .int (nI k)), (3, .int (nI mo))] := hl
  refine lv_iconst (v := 0) hx hb dX11_softAfter_0 (by decide) ?_
  refine lv_istore (lv' := [(4, .int 0), (0, .ref h0), (1, .int (nI j)), (2, .int (nI k)), (3, .int (nI mo))]) hx hb dX11_softAfter_1 hl (by decide) rfl (fun ls hl => ?_)
  refine lv_iconst (v := 0) hx hb dX11_softAfter_3 (by decide) ?_
  refine lv_istore (lv' := [(5, .int 0), (4, .int 0), (0, .ref h0), (1, .int (nI j)), (2, .int (nI k)), (3, .int (nI mo))]) hx hb dX11_softAfter_4 hl (by decide) rfl (fun ls hl => ?_)
  refine (fun (K : ∀ (d6 : Nat) (k6 : Nat) (a6_4 : Int32) (H : Heap) (locs : List Loc) (ls : Array Slot), k6 + d6 = mo → va_P (dC, dI) vwCl [(h0, .inr (11, f_h0)), (m3, .inl (cI, 8, .inl fm3)), (m4, .inl (cI, 8, .inl fm4)), (m5, .inl (cI, 8, .inl fm5)), (m7, .inl (cI, 4, .inl fm7)), (m8, .inl (cI, 4, .inl fm8))] H → va_S (fun _ : Nat => False) s.heap H locs → lv_has ls 6 [(5, .int (nI k6)), (4, .int a6_4), (0, .ref h0), (1, .int (nI j)), (2, .int (nI k)), (3, .int (nI mo))] → W p l e _ s m _ below meth c H locs _ _ _ (F0 m 6 ls [])) => K mo 0 0 _ _ _ (by omega) hP hS (lv_sub hl [0, 1, 2, 3, 4, 5] rfl)) ?_
  intro d6
  induction d6 with
  | zero =>
    intro k6 a6_4 H locs ls hk6 hP hS hl
    refine lv_iload hx hb dX11_softAfter_6 (lv_at hl 0 rfl) ?_
    refine lv_iload_n hx hb dX11_softAfter_8 rfl (lv_at hl 5 rfl) ?_
    refine lv_icmp_ge (tgt := 28) hx hb dX11_softAfter_9 (by decide) (fun c1 => ?_) (fun c1 => ?_)
    ·
      have c1 : mo ≤ k6 := (nI_leI (a := mo) (b := k6) (by omega) (by omega)).mp c1
      refine lv_iload hx hb dX11_softAfter_28 (lv_at hl 1 rfl) ?_
      exact W.iret (v := a6_4) hx hb hr (fun t ht hW => ⟨⟨a6_4, (fun _ => 0), rfl, trivial, trivial⟩, hS.F ht⟩) hS.2.2 dX11_softAfter_30
    ·
      have c1 : ¬ mo ≤ k6 := fun h => c1 ((nI_leI (a := mo) (b := k6) (by omega) (by omega)).mpr h)
      omega
  | succ d6 ih6 =>
    intro k6 a6_4 H locs ls hk6 hP hS hl
    refine lv_iload hx hb dX11_softAfter_6 (lv_at hl 0 rfl) ?_
    refine lv_iload_n hx hb dX11_softAfter_8 rfl (lv_at hl 5 rfl) ?_
    refine lv_icmp_ge (tgt := 28) hx hb dX11_softAfter_9 (by decide) (fun c2 => ?_) (fun c2 => ?_)
    ·
      have c2 : mo ≤ k6 := (nI_leI (a := mo) (b := k6) (by omega) (by omega)).mp c2
      omega
    ·
      have c2 : ¬ mo ≤ k6 := fun h => c2 ((nI_leI (a := mo) (b := k6) (by omega) (by omega)).mpr h)
      refine lv_aload_n hx hb dX11_softAfter_12 rfl (lv_at hl 2 rfl) ?_
      refine lv_iload hx hb dX11_softAfter_13 (lv_at hl 1 rfl) ?_
      refine lv_iload_n hx hb dX11_softAfter_15 rfl (lv_at hl 3 rfl) ?_
      refine lv_iload_n hx hb dX11_softAfter_16 rfl (lv_at hl 4 rfl) ?_
      have hPc := hP.sub (ws' := [(h0, .inr (11, f_h0)), (m3, .inl (cI, 8, .inl fm3)), (m4, .inl (cI, 8, .inl fm4)), (m5, .inl (cI, 8, .inl fm5)), (m7, .inl (cI, 4, .inl fm7)), (m8, .inl (cI, 4, .inl fm8))]) [0, 1, 2, 3, 4, 5] rfl
      refine va_calli (va_runV (As := [.int a6_4, .int (nI j), .int (nI k)]) (rest := []) ⟨hx, hb, hml, hown, hts⟩ (c_X11_softBehind l dC dI cI cZ cQ h0 m3 m4 m5 m7 m8 f_h0 fm3 fm4 fm5 fm7 fm8 a6_4 j k nq H.size e_h0_3 e_h0_4 e_h0_5 e_h0_7 e_h0_8 (by omega) (by first | assumption | decide) (by omega) (by omega)) (cwV 3 hts gX11_softAfter_X11_softBehind rfl rfl rfl hd_X11_softBehind_RX11 ⟨Nat.le_of_ble_eq_true rfl, Nat.le_of_ble_eq_true rfl⟩) (pv_R (va_recv hK hP (ci := 11) (q0 := 0) rfl rfl) hK hPc) rfl rfl hl.1 rfl (lv_room (Nat.le_of_ble_eq_true rfl)) dX11_softAfter_17 ⟨Nat.le_of_ble_eq_true rfl, Nat.le_of_ble_eq_true rfl⟩) hS (fun q _ h => False.elim h) (fun q h => False.elim h) (fun r3 u4 t H1 locs ht hvm hw5 hB hz1 hk1 hS => ?_)
      have hP := hP.kept (fun k q hk => hk1 q.1 (hP k q hk).lt (fun h => h))
      clear hz1 hk1 hPc
      generalize H1 = H at hP hS ht ⊢
      try dsimp only at hw5
      refine lv_istore (lv' := [(4, .int r3), (5, .int (nI k6)), (0, .ref h0), (1, .int (nI j)), (2, .int (nI k)), (3, .int (nI mo))]) hx hb dX11_softAfter_20 hl (by decide) rfl (fun ls hl => ?_)
      refine lv_iinc (v := nI (k6 + 1)) (lv' := [(5, .int (nI (k6 + 1))), (4, .int r3), (0, .ref h0), (1, .int (nI j)), (2, .int (nI k)), (3, .int (nI mo))]) hx hb dX11_softAfter_22 hl (k := 1) rfl ((rfl : nI k6 + Int32.ofInt 1 = nI k6 + 1).trans (nI_add k6 1)) (by decide) rfl (fun ls hl => ?_)
      refine lv_goto (tgt := 6) hx hb dX11_softAfter_25 (by decide) ?_
      exact ih6 (k6 + 1) r3 _ _ _ (by omega) hP hS (lv_sub hl [0, 1, 2, 3, 4, 5] rfl)
set_option maxHeartbeats 4000000 in
set_option maxRecDepth 100000 in
theorem c_X11_handsThatFit (l : Launch) (dC : Nat → ClassId) (dI : Nat → Nat → Nat) (cI cZ cQ : ClassId) (h0 : Nat) (nq : Nat) (nh : Nat) (m3 : Nat) (m4 : Nat) (m5 : Nat) (m7 : Nat) (m8 : Nat) (wm : Nat) (m38 : Nat) (m39 : Nat) (m40 : Nat) (f_h0 : List Value) (fm3 : Nat → Int32) (fm4 : Nat → Int32) (fm5 : Nat → Int32) (fm7 : Nat → Int32) (fm8 : Nat → Int32) (fm38 : Nat → Int32) (fm39 : Nat → Int32) (fm40 : Nat → Int32) (sz : Nat) (e_h0_2 : fAt f_h0 2 = some (.int (nI nq))) (e_h0_6 : fAt f_h0 6 = some (.int (nI nh))) (e_h0_3 : fAt f_h0 3 = some (.ref m3)) (e_h0_4 : fAt f_h0 4 = some (.ref m4)) (e_h0_5 : fAt f_h0 5 = some (.ref m5)) (e_h0_7 : fAt f_h0 7 = some (.ref m7)) (e_h0_8 : fAt f_h0 8 = some (.ref m8)) (e_h0_37 : fAt f_h0 37 = some (.int (nI wm))) (e_h0_38 : fAt f_h0 38 = some (.ref m38)) (e_h0_39 : fAt f_h0 39 = some (.ref m39)) (e_h0_40 : fAt f_h0 40 = some (.ref m40)) (hnq : nq ≤ 8) (hci : cIn fm5 nq) (hnh : nh ≤ 4) (hwm : wm ≤ 6) (hqi : qLt fm38 wm nq) (hpi : cIn fm39 wm) : Met l yX11_handsThatFit wsX11_handsThatFit ({ frames := 4, cells := 0, slots := 0, locals := 134 }) (va_Pc [.ref h0] (fun U => U.heap.size = sz ∧ va_P (dC, dI) vwCl [(h0, .inr (11, f_h0)), (m3, .inl (cI, 8, .inl fm3)), (m4, .inl (cI, 8, .inl fm4)), (m5, .inl (cI, 8, .inl fm5)), (m7, .inl (cI, 4, .inl fm7)), (m8, .inl (cI, 4, .inl fm8)), (m38, .inl (cI, 6, .inl fm38)), (m39, .inl (cI, 6, .inl fm39)), (m40, .inl (cI, 6, .inl fm40))] U.heap ∧ va_K (dC, dI) vwCl (tys0 cI cZ cQ) U)) (va_Qi (fun (r : Int32) (u : Nat → Nat) => True) (fun (_ : Nat → Nat) (_ : State) => True) (fun _ : Nat => False)) 0 0 (fun _ : Nat => False) := by
  refine Met.ofW (cc := cX11_handsThatFit) (maxL := 5) (ret := (some .int)) (by decide) rfl ?_
  intro p e s m args below meth c s₁ B hml hv
  obtain ⟨rfl, hsz, hP, hK⟩ := hv
  have hx := B.exec
  have hb := B.bytes
  have hr := B.returns
  have hts := atoms_spec (ws := wsX11_handsThatFit) B.pre
  have hown : s.vm.findClass RX11 = some m.cls := findClass_of_methodNamed B.named
  have hlocks := B.notSynchronized
  have hi_X11 : ∀ w ∈ u_ws RX11 TX11 46, w ∈ wsX11_handsThatFit := fun _ h => List.mem_cons_of_mem _ (List.mem_append_right _ (h))
  subst hsz
  have hS : va_S (fun _ : Nat => False) s.heap s.heap [] := va_S.rf
  have hl := lv_entry ([.ref h0]) (n := 5) (Nat.le_of_ble_eq_true rfl)
  rw [lg_entry_eq]
  generalize (lg_sl ([.ref h0]) ++ List.replicate (5 - (lg_sl ([.ref h0])).length) Slot.unset).toArray = ls at hl ⊢
  have hl : lv_has ls 5 [(0, .ref h0)] := hl
  refine lv_iconst (v := 0) hx hb dX11_handsThatFit_0 (by decide) ?_
  refine lv_istore_n (lv' := [(1, .int 0), (0, .ref h0)]) hx hb dX11_handsThatFit_1 rfl hl (by decide) rfl (fun ls hl => ?_)
  refine lv_iconst (v := 0) hx hb dX11_handsThatFit_2 (by decide) ?_
  refine lv_istore_n (lv' := [(2, .int 0), (1, .int 0), (0, .ref h0)]) hx hb dX11_handsThatFit_3 rfl hl (by decide) rfl (fun ls hl => ?_)
  refine (fun (K : ∀ (d4 : Nat) (k4 : Nat) (a4_1 : Int32) (H : Heap) (locs : List Loc) (ls : Array Slot), k4 + d4 = nh → va_P (dC, dI) vwCl [(h0, .inr (11, f_h0)), (m3, .inl (cI, 8, .inl fm3)), (m4, .inl (cI, 8, .inl fm4)), (m5, .inl (cI, 8, .inl fm5)), (m7, .inl (cI, 4, .inl fm7)), (m8, .inl (cI, 4, .inl fm8)), (m38, .inl (cI, 6, .inl fm38)), (m39, .inl (cI, 6, .inl fm39)), (m40, .inl (cI, 6, .inl fm40))] H → va_S (fun _ : Nat => False) s.heap H locs → lv_has ls 5 [(2, .int (nI k4)), (1, .int a4_1), (0, .ref h0)] → W p l e _ s m _ below meth c H locs _ _ _ (F0 m 4 ls [])) => K nh 0 0 _ _ _ (by omega) hP hS (lv_sub hl [0, 1, 2] rfl)) ?_
  intro d4
  induction d4 with
  | zero =>
    intro k4 a4_1 H locs ls hk4 hP hS hl
    refine lv_iload_n hx hb dX11_handsThatFit_4 rfl (lv_at hl 0 rfl) ?_
    refine lv_aload_n hx hb dX11_handsThatFit_5 rfl (lv_at hl 2 rfl) ?_
    refine va_get (D := (dC, dI)) (ci := 11) (v := .int (nI nh)) (C := RX11) (T := TX11) (N := 46) hx hb hts hi_X11 hown hK hP 0 rfl rfl 6 (by decide) (hts (.fieldLink RX11 106 "LeftQuillsModel" "hands" "I") (wmx 1 rfl)) (fun _ h9 => h9) e_h0_6 dX11_handsThatFit_6 ?_
    refine lv_icmp_ge (tgt := 91) hx hb dX11_handsThatFit_9 (by decide) (fun c1 => ?_) (fun c1 => ?_)
    ·
      have c1 : nh ≤ k4 := (nI_leI (a := nh) (b := k4) (by omega) (by omega)).mp c1
      refine lv_iload_n hx hb dX11_handsThatFit_91 rfl (lv_at hl 1 rfl) ?_
      exact W.iret (v := a4_1) hx hb hr (fun t ht hW => ⟨⟨a4_1, (fun _ => 0), rfl, trivial, trivial⟩, hS.F ht⟩) hS.2.2 dX11_handsThatFit_92
    ·
      have c1 : ¬ nh ≤ k4 := fun h => c1 ((nI_leI (a := nh) (b := k4) (by omega) (by omega)).mpr h)
      omega
  | succ d4 ih4 =>
    intro k4 a4_1 H locs ls hk4 hP hS hl
    refine lv_iload_n hx hb dX11_handsThatFit_4 rfl (lv_at hl 0 rfl) ?_
    refine lv_aload_n hx hb dX11_handsThatFit_5 rfl (lv_at hl 2 rfl) ?_
    refine va_get (D := (dC, dI)) (ci := 11) (v := .int (nI nh)) (C := RX11) (T := TX11) (N := 46) hx hb hts hi_X11 hown hK hP 0 rfl rfl 6 (by decide) (hts (.fieldLink RX11 106 "LeftQuillsModel" "hands" "I") (wmx 1 rfl)) (fun _ h9 => h9) e_h0_6 dX11_handsThatFit_6 ?_
    refine lv_icmp_ge (tgt := 91) hx hb dX11_handsThatFit_9 (by decide) (fun c2 => ?_) (fun c2 => ?_)
    ·
      have c2 : nh ≤ k4 := (nI_leI (a := nh) (b := k4) (by omega) (by omega)).mp c2
      omega
    ·
      have c2 : ¬ nh ≤ k4 := fun h => c2 ((nI_leI (a := nh) (b := k4) (by omega) (by omega)).mpr h)
      refine lv_iconst (v := 1) hx hb dX11_handsThatFit_12 (by decide) ?_
      refine lv_istore_n (lv' := [(3, .int 1), (2, .int (nI k4)), (1, .int a4_1), (0, .ref h0)]) hx hb dX11_handsThatFit_13 rfl hl (by decide) rfl (fun ls hl => ?_)
      refine lv_iconst (v := 0) hx hb dX11_handsThatFit_14 (by decide) ?_
      refine lv_istore (lv' := [(4, .int 0), (3, .int 1), (2, .int (nI k4)), (1, .int a4_1), (0, .ref h0)]) hx hb dX11_handsThatFit_15 hl (by decide) rfl (fun ls hl => ?_)
      refine (fun (K : ∀ (d17 : Nat) (k17 : Nat) (a17_3 : Nat) (H : Heap) (locs : List Loc) (ls : Array Slot), k17 + d17 = wm → a17_3 ≤ 1 → va_P (dC, dI) vwCl [(h0, .inr (11, f_h0)), (m3, .inl (cI, 8, .inl fm3)), (m4, .inl (cI, 8, .inl fm4)), (m5, .inl (cI, 8, .inl fm5)), (m7, .inl (cI, 4, .inl fm7)), (m8, .inl (cI, 4, .inl fm8)), (m38, .inl (cI, 6, .inl fm38)), (m39, .inl (cI, 6, .inl fm39)), (m40, .inl (cI, 6, .inl fm40))] H → va_S (fun _ : Nat => False) s.heap H locs → lv_has ls 5 [(4, .int (nI k17)), (3, .int (nI a17_3)), (2, .int (nI k4)), (1, .int a4_1), (0, .ref h0)] → W p l e _ s m _ below meth c H locs _ _ _ (F0 m 17 ls [])) => K wm 0 1 _ _ _ (by omega) (by omega) hP hS (lv_sub hl [0, 1, 2, 3, 4] rfl)) ?_
      intro d17
      induction d17 with
      | zero =>
        intro k17 a17_3 H locs ls hk17 hn17_3 hP hS hl
        refine lv_iload hx hb dX11_handsThatFit_17 (lv_at hl 0 rfl) ?_
        refine lv_aload_n hx hb dX11_handsThatFit_19 rfl (lv_at hl 4 rfl) ?_
        refine va_get (D := (dC, dI)) (ci := 11) (v := .int (nI wm)) (C := RX11) (T := TX11) (N := 46) hx hb hts hi_X11 hown hK hP 0 rfl rfl 37 (by decide) (hts (.fieldLink RX11 168 "LeftQuillsModel" "wornMany" "I") (wmx 2 rfl)) (fun _ h9 => h9) e_h0_37 dX11_handsThatFit_20 ?_
        refine lv_icmp_ge (tgt := 71) hx hb dX11_handsThatFit_23 (by decide) (fun c3 => ?_) (fun c3 => ?_)
        ·
          have c3 : wm ≤ k17 := (nI_leI (a := wm) (b := k17) (by omega) (by omega)).mp c3
          refine lv_iload_n hx hb dX11_handsThatFit_71 rfl (lv_at hl 3 rfl) ?_
          refine lv_iload_n hx hb dX11_handsThatFit_72 rfl (lv_at hl 1 rfl) ?_
          refine lv_if_eq (tgt := 82) hx hb dX11_handsThatFit_73 (by decide) (fun c4 => ?_) (fun c4 => ?_)
          ·
            have c4 : a17_3 = 0 := (nI_eq (a := a17_3) (b := 0) (by omega) (by omega)).mp c4
            refine lv_iconst (v := 0) hx hb dX11_handsThatFit_82 (by decide) ?_
            refine lv_ior hx hb dX11_handsThatFit_83 ?_
            refine lv_topi (fun z5 ez5 => ?_)
            refine lv_istore_n (lv' := [(1, .int z5), (4, .int (nI k17)), (3, .int (nI a17_3)), (2, .int (nI k4)), (0, .ref h0)]) hx hb dX11_handsThatFit_84 rfl hl (by decide) rfl (fun ls hl => ?_)
            refine lv_iinc (v := nI (k4 + 1)) (lv' := [(2, .int (nI (k4 + 1))), (1, .int z5), (4, .int (nI k17)), (3, .int (nI a17_3)), (0, .ref h0)]) hx hb dX11_handsThatFit_85 hl (k := 3) rfl ((rfl : nI k4 + Int32.ofInt 1 = nI k4 + 1).trans (nI_add k4 1)) (by decide) rfl (fun ls hl => ?_)
            refine lv_goto (tgt := 4) hx hb dX11_handsThatFit_88 (by decide) ?_
            exact ih4 (k4 + 1) z5 _ _ _ (by omega) hP hS (lv_sub hl [0, 1, 4] rfl)
          ·
            have c4 : ¬ a17_3 = 0 := fun h => c4 ((nI_eq (a := a17_3) (b := 0) (by omega) (by omega)).mpr h)
            refine lv_iconst (v := 1) hx hb dX11_handsThatFit_76 (by decide) ?_
            refine lv_iload_n hx hb dX11_handsThatFit_77 rfl (lv_at hl 2 rfl) ?_
            refine lv_ishl hx hb dX11_handsThatFit_78 ?_
            refine lv_topi (fun z6 ez6 => ?_)
            refine lv_goto (tgt := 83) hx hb dX11_handsThatFit_79 (by decide) ?_
            refine lv_ior hx hb dX11_handsThatFit_83 ?_
            refine lv_topi (fun z7 ez7 => ?_)
            refine lv_istore_n (lv' := [(1, .int z7), (4, .int (nI k17)), (3, .int (nI a17_3)), (2, .int (nI k4)), (0, .ref h0)]) hx hb dX11_handsThatFit_84 rfl hl (by decide) rfl (fun ls hl => ?_)
            refine lv_iinc (v := nI (k4 + 1)) (lv' := [(2, .int (nI (k4 + 1))), (1, .int z7), (4, .int (nI k17)), (3, .int (nI a17_3)), (0, .ref h0)]) hx hb dX11_handsThatFit_85 hl (k := 3) rfl ((rfl : nI k4 + Int32.ofInt 1 = nI k4 + 1).trans (nI_add k4 1)) (by decide) rfl (fun ls hl => ?_)
            refine lv_goto (tgt := 4) hx hb dX11_handsThatFit_88 (by decide) ?_
            exact ih4 (k4 + 1) z7 _ _ _ (by omega) hP hS (lv_sub hl [0, 1, 4] rfl)
        ·
          have c3 : ¬ wm ≤ k17 := fun h => c3 ((nI_leI (a := wm) (b := k17) (by omega) (by omega)).mpr h)
          omega
      | succ d17 ih17 =>
        intro k17 a17_3 H locs ls hk17 hn17_3 hP hS hl
        refine lv_iload hx hb dX11_handsThatFit_17 (lv_at hl 0 rfl) ?_
        refine lv_aload_n hx hb dX11_handsThatFit_19 rfl (lv_at hl 4 rfl) ?_
        refine va_get (D := (dC, dI)) (ci := 11) (v := .int (nI wm)) (C := RX11) (T := TX11) (N := 46) hx hb hts hi_X11 hown hK hP 0 rfl rfl 37 (by decide) (hts (.fieldLink RX11 168 "LeftQuillsModel" "wornMany" "I") (wmx 2 rfl)) (fun _ h9 => h9) e_h0_37 dX11_handsThatFit_20 ?_
        refine lv_icmp_ge (tgt := 71) hx hb dX11_handsThatFit_23 (by decide) (fun c8 => ?_) (fun c8 => ?_)
        ·
          have c8 : wm ≤ k17 := (nI_leI (a := wm) (b := k17) (by omega) (by omega)).mp c8
          omega
        ·
          have c8 : ¬ wm ≤ k17 := fun h => c8 ((nI_leI (a := wm) (b := k17) (by omega) (by omega)).mpr h)
          refine lv_iload_n hx hb dX11_handsThatFit_26 rfl (lv_at hl 1 rfl) ?_
          refine lv_if_eq (tgt := 63) hx hb dX11_handsThatFit_27 (by decide) (fun c9 => ?_) (fun c9 => ?_)
          ·
            have c9 : a17_3 = 0 := (nI_eq (a := a17_3) (b := 0) (by omega) (by omega)).mp c9
            refine lv_iconst (v := 0) hx hb dX11_handsThatFit_63 (by decide) ?_
            refine lv_istore_n (lv' := [(3, .int 0), (4, .int (nI k17)), (2, .int (nI k4)), (1, .int a4_1), (0, .ref h0)]) hx hb dX11_handsThatFit_64 rfl hl (by decide) rfl (fun ls hl => ?_)
            refine lv_iinc (v := nI (k17 + 1)) (lv' := [(4, .int (nI (k17 + 1))), (3, .int 0), (2, .int (nI k4)), (1, .int a4_1), (0, .ref h0)]) hx hb dX11_handsThatFit_65 hl (k := 1) rfl ((rfl : nI k17 + Int32.ofInt 1 = nI k17 + 1).trans (nI_add k17 1)) (by decide) rfl (fun ls hl => ?_)
            refine lv_goto (tgt := 17) hx hb dX11_handsThatFit_68 (by decide) ?_
            exact ih17 (k17 + 1) 0 _ _ _ (by omega) (by omega) hP hS (lv_sub hl [0, 1, 2, 3, 4] rfl)
          ·
            have c9 : ¬ a17_3 = 0 := fun h => c9 ((nI_eq (a := a17_3) (b := 0) (by omega) (by omega)).mpr h)
            refine lv_aload_n hx hb dX11_handsThatFit_30 rfl (lv_at hl 4 rfl) ?_
            refine lv_aload_n hx hb dX11_handsThatFit_31 rfl (lv_at hl 4 rfl) ?_
            refine va_get (D := (dC, dI)) (ci := 11) (v := .ref m38) (C := RX11) (T := TX11) (N := 46) hx hb hts hi_X11 hown hK hP 0 rfl rfl 38 (by decide) (hts (.fieldLink RX11 74 "LeftQuillsModel" "wornQuill" "[I") (wmx 3 rfl)) (fun _ h9 => h9) e_h0_38 dX11_handsThatFit_32 ?_
            refine lv_iload hx hb dX11_handsThatFit_35 (lv_at hl 0 rfl) ?_
            refine va_iald hx hb hK hP 6 0 rfl rfl (vp_in_nI (n := k17) (N := 6) (by omega) (by decide)) dX11_handsThatFit_37 ?_
            refine W.eq (g2 := F0 m 38 ls [.int (fm38 k17), .ref h0]) (congrArg (fun y9 => F0 m 38 ls (.int (fm38 y9) :: [.ref h0])) ((nI_clamp (n := k17) (by omega)))) ?_
            refine lv_topi (fun z10 ez10 => ?_)
            obtain ⟨j11, hj11, ejj11⟩ := hqi k17 (by omega)
            obtain rfl : z10 = nI j11 := ez10.trans (ejj11)
            refine lv_iload_n hx hb dX11_handsThatFit_38 rfl (lv_at hl 2 rfl) ?_
            refine lv_aload_n hx hb dX11_handsThatFit_39 rfl (lv_at hl 4 rfl) ?_
            refine va_get (D := (dC, dI)) (ci := 11) (v := .ref m39) (C := RX11) (T := TX11) (N := 46) hx hb hts hi_X11 hown hK hP 0 rfl rfl 39 (by decide) (hts (.fieldLink RX11 77 "LeftQuillsModel" "wornPages" "[I") (wmx 4 rfl)) (fun _ h9 => h9) e_h0_39 dX11_handsThatFit_40 ?_
            refine lv_iload hx hb dX11_handsThatFit_43 (lv_at hl 0 rfl) ?_
            refine va_iald hx hb hK hP 7 0 rfl rfl (vp_in_nI (n := k17) (N := 6) (by omega) (by decide)) dX11_handsThatFit_45 ?_
            refine W.eq (g2 := F0 m 46 ls [.int (fm39 k17), .int (nI k4), .int (nI j11), .ref h0]) (congrArg (fun y9 => F0 m 46 ls (.int (fm39 y9) :: [.int (nI k4), .int (nI j11), .ref h0])) ((nI_clamp (n := k17) (by omega)))) ?_
            refine lv_topi (fun z12 ez12 => ?_)
            obtain ⟨j13, hj13, ejj13⟩ := hpi k17 (by omega)
            obtain rfl : z12 = nI j13 := ez12.trans (ejj13)
            have hPc := hP.sub (ws' := [(h0, .inr (11, f_h0)), (m3, .inl (cI, 8, .inl fm3)), (m4, .inl (cI, 8, .inl fm4)), (m5, .inl (cI, 8, .inl fm5)), (m7, .inl (cI, 4, .inl fm7)), (m8, .inl (cI, 4, .inl fm8))]) [0, 1, 2, 3, 4, 5] rfl
            refine va_calli (va_runV (As := [.int (nI j11), .int (nI k4), .int (nI j13)]) (rest := []) ⟨hx, hb, hml, hown, hts⟩ (c_X11_softAfter l dC dI cI cZ cQ h0 m3 m4 m5 m7 m8 f_h0 fm3 fm4 fm5 fm7 fm8 j11 k4 j13 nq H.size e_h0_3 e_h0_4 e_h0_5 e_h0_7 e_h0_8 (by omega) (by first | assumption | decide) (by omega) (by omega) (by omega)) (cwV 3 hts gX11_handsThatFit_X11_softAfter rfl rfl rfl hd_X11_softAfter_RX11 ⟨Nat.le_of_ble_eq_true rfl, Nat.le_of_ble_eq_true rfl⟩) (pv_R (va_recv hK hP (ci := 11) (q0 := 0) rfl rfl) hK hPc) rfl rfl hl.1 rfl (lv_room (Nat.le_of_ble_eq_true rfl)) dX11_handsThatFit_46 ⟨Nat.le_of_ble_eq_true rfl, Nat.le_of_ble_eq_true rfl⟩) hS (fun q _ h => False.elim h) (fun q h => False.elim h) (fun r14 u15 t H1 locs ht hvm hw16 hB hz1 hk1 hS => ?_)
            have hP := hP.kept (fun k q hk => hk1 q.1 (hP k q hk).lt (fun h => h))
            clear hz1 hk1 hPc
            generalize H1 = H at hP hS ht ⊢
            try dsimp only at hw16
            refine lv_aload_n hx hb dX11_handsThatFit_49 rfl (lv_at hl 4 rfl) ?_
            refine va_get (D := (dC, dI)) (ci := 11) (v := .ref m40) (C := RX11) (T := TX11) (N := 46) hx hb hts hi_X11 hown hK hP 0 rfl rfl 40 (by decide) (hts (.fieldLink RX11 80 "LeftQuillsModel" "wornSoft" "[I") (wmx 5 rfl)) (fun _ h9 => h9) e_h0_40 dX11_handsThatFit_50 ?_
            refine lv_iload hx hb dX11_handsThatFit_53 (lv_at hl 0 rfl) ?_
            refine va_iald hx hb hK hP 8 0 rfl rfl (vp_in_nI (n := k17) (N := 6) (by omega) (by decide)) dX11_handsThatFit_55 ?_
            refine W.eq (g2 := F0 m 56 ls [.int (fm40 k17), .int r14]) (congrArg (fun y9 => F0 m 56 ls (.int (fm40 y9) :: [.int r14])) ((nI_clamp (n := k17) (by omega)))) ?_
            refine lv_icmp_ne (tgt := 63) hx hb dX11_handsThatFit_56 (by decide) (fun c17 => ?_) (fun c17 => ?_)
            ·
              refine lv_iconst (v := 0) hx hb dX11_handsThatFit_63 (by decide) ?_
              refine lv_istore_n (lv' := [(3, .int 0), (4, .int (nI k17)), (2, .int (nI k4)), (1, .int a4_1), (0, .ref h0)]) hx hb dX11_handsThatFit_64 rfl hl (by decide) rfl (fun ls hl => ?_)
              refine lv_iinc (v := nI (k17 + 1)) (lv' := [(4, .int (nI (k17 + 1))), (3, .int 0), (2, .int (nI k4)), (1, .int a4_1), (0, .ref h0)]) hx hb dX11_handsThatFit_65 hl (k := 1) rfl ((rfl : nI k17 + Int32.ofInt 1 = nI k17 + 1).trans (nI_add k17 1)) (by decide) rfl (fun ls hl => ?_)
              refine lv_goto (tgt := 17) hx hb dX11_handsThatFit_68 (by decide) ?_
              exact ih17 (k17 + 1) 0 _ _ _ (by omega) (by omega) hP hS (lv_sub hl [0, 1, 2, 3, 4] rfl)
            ·
              refine lv_iconst (v := 1) hx hb dX11_handsThatFit_59 (by decide) ?_
              refine lv_goto (tgt := 64) hx hb dX11_handsThatFit_60 (by decide) ?_
              refine lv_istore_n (lv' := [(3, .int 1), (4, .int (nI k17)), (2, .int (nI k4)), (1, .int a4_1), (0, .ref h0)]) hx hb dX11_handsThatFit_64 rfl hl (by decide) rfl (fun ls hl => ?_)
              refine lv_iinc (v := nI (k17 + 1)) (lv' := [(4, .int (nI (k17 + 1))), (3, .int 1), (2, .int (nI k4)), (1, .int a4_1), (0, .ref h0)]) hx hb dX11_handsThatFit_65 hl (k := 1) rfl ((rfl : nI k17 + Int32.ofInt 1 = nI k17 + 1).trans (nI_add k17 1)) (by decide) rfl (fun ls hl => ?_)
              refine lv_goto (tgt := 17) hx hb dX11_handsThatFit_68 (by decide) ?_
              exact ih17 (k17 + 1) 1 _ _ _ (by omega) (by omega) hP hS (lv_sub hl [0, 1, 2, 3, 4] rfl)
set_option maxHeartbeats 4000000 in
set_option maxRecDepth 100000 in
theorem c_X11_whose (l : Launch) (dC : Nat → ClassId) (dI : Nat → Nat → Nat) (cI cZ cQ : ClassId) (h0 : Nat) (nq : Nat) (nh : Nat) (m3 : Nat) (m4 : Nat) (m5 : Nat) (m7 : Nat) (m8 : Nat) (wm : Nat) (m38 : Nat) (m39 : Nat) (m40 : Nat) (f_h0 : List Value) (fm3 : Nat → Int32) (fm4 : Nat → Int32) (fm5 : Nat → Int32) (fm7 : Nat → Int32) (fm8 : Nat → Int32) (fm38 : Nat → Int32) (fm39 : Nat → Int32) (fm40 : Nat → Int32) (sz : Nat) (e_h0_2 : fAt f_h0 2 = some (.int (nI nq))) (e_h0_6 : fAt f_h0 6 = some (.int (nI nh))) (e_h0_3 : fAt f_h0 3 = some (.ref m3)) (e_h0_4 : fAt f_h0 4 = some (.ref m4)) (e_h0_5 : fAt f_h0 5 = some (.ref m5)) (e_h0_7 : fAt f_h0 7 = some (.ref m7)) (e_h0_8 : fAt f_h0 8 = some (.ref m8)) (e_h0_37 : fAt f_h0 37 = some (.int (nI wm))) (e_h0_38 : fAt f_h0 38 = some (.ref m38)) (e_h0_39 : fAt f_h0 39 = some (.ref m39)) (e_h0_40 : fAt f_h0 40 = some (.ref m40)) (hnq : nq ≤ 8) (hci : cIn fm5 nq) (hnh : nh ≤ 4) (hwm : wm ≤ 6) (hqi : qLt fm38 wm nq) (hpi : cIn fm39 wm) : Met l yX11_whose wsX11_whose ({ frames := 5, cells := 0, slots := 0, locals := 158 }) (va_Pc [.ref h0] (fun U => U.heap.size = sz ∧ va_P (dC, dI) vwCl [(h0, .inr (11, f_h0)), (m3, .inl (cI, 8, .inl fm3)), (m4, .inl (cI, 8, .inl fm4)), (m5, .inl (cI, 8, .inl fm5)), (m7, .inl (cI, 4, .inl fm7)), (m8, .inl (cI, 4, .inl fm8)), (m38, .inl (cI, 6, .inl fm38)), (m39, .inl (cI, 6, .inl fm39)), (m40, .inl (cI, 6, .inl fm40))] U.heap ∧ va_K (dC, dI) vwCl (tys0 cI cZ cQ) U)) (va_Qi (fun (r : Int32) (u : Nat → Nat) => True) (fun (_ : Nat → Nat) (_ : State) => True) (fun _ : Nat => False)) 0 0 (fun _ : Nat => False) := by
  refine Met.ofW (cc := cX11_whose) (maxL := 1) (ret := (some .int)) (by decide) rfl ?_
  intro p e s m args below meth c s₁ B hml hv
  obtain ⟨rfl, hsz, hP, hK⟩ := hv
  have hx := B.exec
  have hb := B.bytes
  have hr := B.returns
  have hts := atoms_spec (ws := wsX11_whose) B.pre
  have hown : s.vm.findClass RX11 = some m.cls := findClass_of_methodNamed B.named
  have hlocks := B.notSynchronized
  subst hsz
  have hS : va_S (fun _ : Nat => False) s.heap s.heap [] := va_S.rf
  have hl := lv_entry ([.ref h0]) (n := 1) (Nat.le_of_ble_eq_true rfl)
  rw [lg_entry_eq]
  generalize (lg_sl ([.ref h0]) ++ List.replicate (1 - (lg_sl ([.ref h0])).length) Slot.unset).toArray = ls at hl ⊢
  have hl : lv_has ls 1 [(0, .ref h0)] := hl
  refine lv_aload_n hx hb dX11_whose_0 rfl (lv_at hl 0 rfl) ?_
  have hPc := hP.sub (ws' := [(h0, .inr (11, f_h0)), (m3, .inl (cI, 8, .inl fm3)), (m4, .inl (cI, 8, .inl fm4)), (m5, .inl (cI, 8, .inl fm5)), (m7, .inl (cI, 4, .inl fm7)), (m8, .inl (cI, 4, .inl fm8)), (m38, .inl (cI, 6, .inl fm38)), (m39, .inl (cI, 6, .inl fm39)), (m40, .inl (cI, 6, .inl fm40))]) [0, 1, 2, 3, 4, 5, 6, 7, 8] rfl
  refine va_calli (va_runV (As := []) (rest := []) ⟨hx, hb, hml, hown, hts⟩ (c_X11_handsThatFit l dC dI cI cZ cQ h0 nq nh m3 m4 m5 m7 m8 wm m38 m39 m40 f_h0 fm3 fm4 fm5 fm7 fm8 fm38 fm39 fm40 s.heap.size e_h0_2 e_h0_6 e_h0_3 e_h0_4 e_h0_5 e_h0_7 e_h0_8 e_h0_37 e_h0_38 e_h0_39 e_h0_40 (by omega) (by first | assumption | decide) (by omega) (by omega) (by first | assumption | decide) (by first | assumption | decide)) (cwV 0 hts gX11_whose_X11_handsThatFit rfl rfl rfl hd_X11_handsThatFit_RX11 ⟨Nat.le_of_ble_eq_true rfl, Nat.le_of_ble_eq_true rfl⟩) (pv_R (va_recv hK hP (ci := 11) (q0 := 0) rfl rfl) hK hPc) rfl rfl hl.1 rfl (lv_room (Nat.le_of_ble_eq_true rfl)) dX11_whose_1 ⟨Nat.le_of_ble_eq_true rfl, Nat.le_of_ble_eq_true rfl⟩) hS (fun q _ h => False.elim h) (fun q h => False.elim h) (fun r1 u2 t H1 locs ht hvm hw3 hB hz1 hk1 hS => ?_)
  have hP := hP.kept (fun k q hk => hk1 q.1 (hP k q hk).lt (fun h => h))
  clear hz1 hk1 hPc
  generalize H1 = H at hP hS ht ⊢
  try dsimp only at hw3
  exact W.iret (v := r1) hx hb hr (fun t ht hW => ⟨⟨r1, (fun _ => 0), rfl, trivial, trivial⟩, hS.F ht⟩) hS.2.2 dX11_whose_4
set_option maxHeartbeats 4000000 in
set_option maxRecDepth 100000 in
theorem c_X11_greatestPart (l : Launch) (dC : Nat → ClassId) (dI : Nat → Nat → Nat) (cI cZ cQ : ClassId) (h0 : Nat) (nq : Nat) (nh : Nat) (m3 : Nat) (m4 : Nat) (m5 : Nat) (m7 : Nat) (m8 : Nat) (f_h0 : List Value) (fm3 : Nat → Int32) (fm4 : Nat → Int32) (fm5 : Nat → Int32) (fm7 : Nat → Int32) (fm8 : Nat → Int32) (j : Nat) (a0 : Int32) (sz : Nat) (e_h0_2 : fAt f_h0 2 = some (.int (nI nq))) (e_h0_6 : fAt f_h0 6 = some (.int (nI nh))) (e_h0_3 : fAt f_h0 3 = some (.ref m3)) (e_h0_4 : fAt f_h0 4 = some (.ref m4)) (e_h0_5 : fAt f_h0 5 = some (.ref m5)) (e_h0_7 : fAt f_h0 7 = some (.ref m7)) (e_h0_8 : fAt f_h0 8 = some (.ref m8)) (hnq : nq ≤ 8) (hci : cIn fm5 nq) (hnh : nh ≤ 4) (hj : j < nq) : Met l yX11_greatestPart wsX11_greatestPart ({ frames := 4, cells := 0, slots := 0, locals := 134 }) (va_Pc [.ref h0, .int (nI j), .int a0] (fun U => U.heap.size = sz ∧ va_P (dC, dI) vwCl [(h0, .inr (11, f_h0)), (m3, .inl (cI, 8, .inl fm3)), (m4, .inl (cI, 8, .inl fm4)), (m5, .inl (cI, 8, .inl fm5)), (m7, .inl (cI, 4, .inl fm7)), (m8, .inl (cI, 4, .inl fm8))] U.heap ∧ va_K (dC, dI) vwCl (tys0 cI cZ cQ) U)) (va_Qi (fun (r : Int32) (u : Nat → Nat) => True) (fun (_ : Nat → Nat) (_ : State) => True) (fun _ : Nat => False)) 0 0 (fun _ : Nat => False) := by
  refine Met.ofW (cc := cX11_greatestPart) (maxL := 7) (ret := (some .int)) (by decide) rfl ?_
  intro p e s m args below meth c s₁ B hml hv
  obtain ⟨rfl, hsz, hP, hK⟩ := hv
  have hx := B.exec
  have hb := B.bytes
  have hr := B.returns
  have hts := atoms_spec (ws := wsX11_greatestPart) B.pre
  have hown : s.vm.findClass RX11 = some m.cls := findClass_of_methodNamed B.named
  have hlocks := B.notSynchronized
  have hi_X11 : ∀ w ∈ u_ws RX11 TX11 46, w ∈ wsX11_greatestPart := fun _ h => List.mem_cons_of_mem _ (List.mem_append_right _ (h))
  subst hsz
  have hS : va_S (fun _ : Nat => False) s.heap s.heap [] := va_S.rf
  have hl := lv_entry ([.ref h0, .int (nI j), .int a0]) (n := 7) (Nat.le_of_ble_eq_true rfl)
  rw [lg_entry_eq]
  generalize (lg_sl ([.ref h0, .int (nI j), .int a0]) ++ List.replicate (7 - (lg_sl ([.ref h0, .int (nI j), .int a0])).length) Slot.unset).toArray = ls at hl ⊢
  have hl : lv_has ls 7 [(0, .ref h0), (1, .int (nI j)), (2, .int a0)] := hl
  refine lv_iconst (v := 0) hx hb dX11_greatestPart_0 (by decide) ?_
  refine lv_istore_n (lv' := [(3, .int 0), (0, .ref h0), (1, .int (nI j)), (2, .int a0)]) hx hb dX11_greatestPart_1 rfl hl (by decide) rfl (fun ls hl => ?_)
  refine lv_iconst (v := 0) hx hb dX11_greatestPart_2 (by decide) ?_
  refine lv_istore (lv' := [(4, .int 0), (3, .int 0), (0, .ref h0), (1, .int (nI j)), (2, .int a0)]) hx hb dX11_greatestPart_3 hl (by decide) rfl (fun ls hl => ?_)
  refine (fun (K : ∀ (d5 : Nat) (k5 : Nat) (a5_3 : Int32) (H : Heap) (locs : List Loc) (ls : Array Slot), k5 + d5 = nh → va_P (dC, dI) vwCl [(h0, .inr (11, f_h0)), (m3, .inl (cI, 8, .inl fm3)), (m4, .inl (cI, 8, .inl fm4)), (m5, .inl (cI, 8, .inl fm5)), (m7, .inl (cI, 4, .inl fm7)), (m8, .inl (cI, 4, .inl fm8))] H → va_S (fun _ : Nat => False) s.heap H locs → lv_has ls 7 [(4, .int (nI k5)), (3, .int a5_3), (0, .ref h0), (1, .int (nI j)), (2, .int a0)] → W p l e _ s m _ below meth c H locs _ _ _ (F0 m 5 ls [])) => K nh 0 0 _ _ _ (by omega) hP hS (lv_sub hl [0, 1, 2, 3, 4] rfl)) ?_
  intro d5
  induction d5 with
  | zero =>
    intro k5 a5_3 H locs ls hk5 hP hS hl
    refine lv_iload hx hb dX11_greatestPart_5 (lv_at hl 0 rfl) ?_
    refine lv_aload_n hx hb dX11_greatestPart_7 rfl (lv_at hl 2 rfl) ?_
    refine va_get (D := (dC, dI)) (ci := 11) (v := .int (nI nh)) (C := RX11) (T := TX11) (N := 46) hx hb hts hi_X11 hown hK hP 0 rfl rfl 6 (by decide) (hts (.fieldLink RX11 106 "LeftQuillsModel" "hands" "I") (wmx 1 rfl)) (fun _ h9 => h9) e_h0_6 dX11_greatestPart_8 ?_
    refine lv_icmp_ge (tgt := 101) hx hb dX11_greatestPart_11 (by decide) (fun c1 => ?_) (fun c1 => ?_)
    ·
      have c1 : nh ≤ k5 := (nI_leI (a := nh) (b := k5) (by omega) (by omega)).mp c1
      refine lv_iload_n hx hb dX11_greatestPart_101 rfl (lv_at hl 1 rfl) ?_
      exact W.iret (v := a5_3) hx hb hr (fun t ht hW => ⟨⟨a5_3, (fun _ => 0), rfl, trivial, trivial⟩, hS.F ht⟩) hS.2.2 dX11_greatestPart_102
    ·
      have c1 : ¬ nh ≤ k5 := fun h => c1 ((nI_leI (a := nh) (b := k5) (by omega) (by omega)).mpr h)
      omega
  | succ d5 ih5 =>
    intro k5 a5_3 H locs ls hk5 hP hS hl
    refine lv_iload hx hb dX11_greatestPart_5 (lv_at hl 0 rfl) ?_
    refine lv_aload_n hx hb dX11_greatestPart_7 rfl (lv_at hl 2 rfl) ?_
    refine va_get (D := (dC, dI)) (ci := 11) (v := .int (nI nh)) (C := RX11) (T := TX11) (N := 46) hx hb hts hi_X11 hown hK hP 0 rfl rfl 6 (by decide) (hts (.fieldLink RX11 106 "LeftQuillsModel" "hands" "I") (wmx 1 rfl)) (fun _ h9 => h9) e_h0_6 dX11_greatestPart_8 ?_
    refine lv_icmp_ge (tgt := 101) hx hb dX11_greatestPart_11 (by decide) (fun c2 => ?_) (fun c2 => ?_)
    ·
      have c2 : nh ≤ k5 := (nI_leI (a := nh) (b := k5) (by omega) (by omega)).mp c2
      omega
    ·
      have c2 : ¬ nh ≤ k5 := fun h => c2 ((nI_leI (a := nh) (b := k5) (by omega) (by omega)).mpr h)
      refine lv_iconst (v := 0) hx hb dX11_greatestPart_14 (by decide) ?_
      refine lv_istore (lv' := [(5, .int 0), (4, .int (nI k5)), (3, .int a5_3), (0, .ref h0), (1, .int (nI j)), (2, .int a0)]) hx hb dX11_greatestPart_15 hl (by decide) rfl (fun ls hl => ?_)
      refine lv_iconst (v := 0) hx hb dX11_greatestPart_17 (by decide) ?_
      refine lv_istore (lv' := [(6, .int 0), (5, .int 0), (4, .int (nI k5)), (3, .int a5_3), (0, .ref h0), (1, .int (nI j)), (2, .int a0)]) hx hb dX11_greatestPart_18 hl (by decide) rfl (fun ls hl => ?_)
      refine (fun (K : ∀ (d20 : Nat) (k20 : Nat) (a20_5 : Int32) (H : Heap) (locs : List Loc) (ls : Array Slot), k20 + d20 = nh → va_P (dC, dI) vwCl [(h0, .inr (11, f_h0)), (m3, .inl (cI, 8, .inl fm3)), (m4, .inl (cI, 8, .inl fm4)), (m5, .inl (cI, 8, .inl fm5)), (m7, .inl (cI, 4, .inl fm7)), (m8, .inl (cI, 4, .inl fm8))] H → va_S (fun _ : Nat => False) s.heap H locs → lv_has ls 7 [(6, .int (nI k20)), (5, .int a20_5), (4, .int (nI k5)), (3, .int a5_3), (0, .ref h0), (1, .int (nI j)), (2, .int a0)] → W p l e _ s m _ below meth c H locs _ _ _ (F0 m 20 ls [])) => K nh 0 0 _ _ _ (by omega) hP hS (lv_sub hl [0, 1, 2, 3, 4, 5, 6] rfl)) ?_
      intro d20
      induction d20 with
      | zero =>
        intro k20 a20_5 H locs ls hk20 hP hS hl
        refine lv_iload hx hb dX11_greatestPart_20 (lv_at hl 0 rfl) ?_
        refine lv_aload_n hx hb dX11_greatestPart_22 rfl (lv_at hl 4 rfl) ?_
        refine va_get (D := (dC, dI)) (ci := 11) (v := .int (nI nh)) (C := RX11) (T := TX11) (N := 46) hx hb hts hi_X11 hown hK hP 0 rfl rfl 6 (by decide) (hts (.fieldLink RX11 106 "LeftQuillsModel" "hands" "I") (wmx 1 rfl)) (fun _ h9 => h9) e_h0_6 dX11_greatestPart_23 ?_
        refine lv_icmp_ge (tgt := 82) hx hb dX11_greatestPart_26 (by decide) (fun c3 => ?_) (fun c3 => ?_)
        ·
          have c3 : nh ≤ k20 := (nI_leI (a := nh) (b := k20) (by omega) (by omega)).mp c3
          refine lv_iload hx hb dX11_greatestPart_82 (lv_at hl 1 rfl) ?_
          refine lv_iload_n hx hb dX11_greatestPart_84 rfl (lv_at hl 3 rfl) ?_
          refine lv_icmp_le (tgt := 93) hx hb dX11_greatestPart_85 (by decide) (fun c4 => ?_) (fun c4 => ?_)
          ·
            refine lv_iload_n hx hb dX11_greatestPart_93 rfl (lv_at hl 3 rfl) ?_
            refine lv_istore_n (lv' := [(3, .int a5_3), (6, .int (nI k20)), (5, .int a20_5), (4, .int (nI k5)), (0, .ref h0), (1, .int (nI j)), (2, .int a0)]) hx hb dX11_greatestPart_94 rfl hl (by decide) rfl (fun ls hl => ?_)
            refine lv_iinc (v := nI (k5 + 1)) (lv' := [(4, .int (nI (k5 + 1))), (3, .int a5_3), (6, .int (nI k20)), (5, .int a20_5), (0, .ref h0), (1, .int (nI j)), (2, .int a0)]) hx hb dX11_greatestPart_95 hl (k := 3) rfl ((rfl : nI k5 + Int32.ofInt 1 = nI k5 + 1).trans (nI_add k5 1)) (by decide) rfl (fun ls hl => ?_)
            refine lv_goto (tgt := 5) hx hb dX11_greatestPart_98 (by decide) ?_
            exact ih5 (k5 + 1) a5_3 _ _ _ (by omega) hP hS (lv_sub hl [0, 1, 4, 5, 6] rfl)
          ·
            refine lv_iload hx hb dX11_greatestPart_88 (lv_at hl 1 rfl) ?_
            refine lv_goto (tgt := 94) hx hb dX11_greatestPart_90 (by decide) ?_
            refine lv_istore_n (lv' := [(3, .int a20_5), (6, .int (nI k20)), (5, .int a20_5), (4, .int (nI k5)), (0, .ref h0), (1, .int (nI j)), (2, .int a0)]) hx hb dX11_greatestPart_94 rfl hl (by decide) rfl (fun ls hl => ?_)
            refine lv_iinc (v := nI (k5 + 1)) (lv' := [(4, .int (nI (k5 + 1))), (3, .int a20_5), (6, .int (nI k20)), (5, .int a20_5), (0, .ref h0), (1, .int (nI j)), (2, .int a0)]) hx hb dX11_greatestPart_95 hl (k := 3) rfl ((rfl : nI k5 + Int32.ofInt 1 = nI k5 + 1).trans (nI_add k5 1)) (by decide) rfl (fun ls hl => ?_)
            refine lv_goto (tgt := 5) hx hb dX11_greatestPart_98 (by decide) ?_
            exact ih5 (k5 + 1) a20_5 _ _ _ (by omega) hP hS (lv_sub hl [0, 1, 4, 5, 6] rfl)
        ·
          have c3 : ¬ nh ≤ k20 := fun h => c3 ((nI_leI (a := nh) (b := k20) (by omega) (by omega)).mpr h)
          omega
      | succ d20 ih20 =>
        intro k20 a20_5 H locs ls hk20 hP hS hl
        refine lv_iload hx hb dX11_greatestPart_20 (lv_at hl 0 rfl) ?_
        refine lv_aload_n hx hb dX11_greatestPart_22 rfl (lv_at hl 4 rfl) ?_
        refine va_get (D := (dC, dI)) (ci := 11) (v := .int (nI nh)) (C := RX11) (T := TX11) (N := 46) hx hb hts hi_X11 hown hK hP 0 rfl rfl 6 (by decide) (hts (.fieldLink RX11 106 "LeftQuillsModel" "hands" "I") (wmx 1 rfl)) (fun _ h9 => h9) e_h0_6 dX11_greatestPart_23 ?_
        refine lv_icmp_ge (tgt := 82) hx hb dX11_greatestPart_26 (by decide) (fun c5 => ?_) (fun c5 => ?_)
        ·
          have c5 : nh ≤ k20 := (nI_leI (a := nh) (b := k20) (by omega) (by omega)).mp c5
          omega
        ·
          have c5 : ¬ nh ≤ k20 := fun h => c5 ((nI_leI (a := nh) (b := k20) (by omega) (by omega)).mpr h)
          refine lv_iload hx hb dX11_greatestPart_29 (lv_at hl 1 rfl) ?_
          refine lv_iload_n hx hb dX11_greatestPart_31 rfl (lv_at hl 6 rfl) ?_
          refine lv_iload hx hb dX11_greatestPart_32 (lv_at hl 2 rfl) ?_
          have hPc := hP.sub (ws' := []) [] rfl
          refine va_calli (va_runS (As := [.int a0, .int (nI k5)]) (rest := [.int a20_5]) ⟨hx, hb, hml, hown, hts⟩ (c_X11_has l dC dI cI cZ cQ a0 (nI k5) H.size ) (va_cwS 2 hts gX11_greatestPart_X11_has rfl rfl rfl (by decide +kernel) ⟨Nat.le_of_ble_eq_true rfl, Nat.le_of_ble_eq_true rfl⟩) (ps_R hK hPc) rfl rfl hl.1 rfl (lv_room (Nat.le_of_ble_eq_true rfl)) dX11_greatestPart_34 ⟨Nat.le_of_ble_eq_true rfl, Nat.le_of_ble_eq_true rfl⟩) hS (fun q _ h => False.elim h) (fun q h => False.elim h) (fun r6 u7 t H1 locs ht hvm hw8 hB hz1 hk1 hS => ?_)
          have hP := hP.kept (fun k q hk => hk1 q.1 (hP k q hk).lt (fun h => h))
          clear hz1 hk1 hPc
          generalize H1 = H at hP hS ht ⊢
          try dsimp only at hw8
          rcases hw8 with rfl | rfl
          ·
            refine lv_if_eq (tgt := 72) hx hb dX11_greatestPart_37 (by decide) (fun c9 => ?_) (fun c9 => ?_)
            · exact absurd c9 (by decide)
            clear c9
            refine lv_iload_n hx hb dX11_greatestPart_40 rfl (lv_at hl 6 rfl) ?_
            refine lv_iload hx hb dX11_greatestPart_41 (lv_at hl 0 rfl) ?_
            have hPc := hP.sub (ws' := []) [] rfl
            refine va_calli (va_runS (As := [.int a0, .int (nI k20)]) (rest := [.int a20_5]) ⟨hx, hb, hml, hown, hts⟩ (c_X11_has l dC dI cI cZ cQ a0 (nI k20) H.size ) (va_cwS 2 hts gX11_greatestPart_X11_has rfl rfl rfl (by decide +kernel) ⟨Nat.le_of_ble_eq_true rfl, Nat.le_of_ble_eq_true rfl⟩) (ps_R hK hPc) rfl rfl hl.1 rfl (lv_room (Nat.le_of_ble_eq_true rfl)) dX11_greatestPart_43 ⟨Nat.le_of_ble_eq_true rfl, Nat.le_of_ble_eq_true rfl⟩) hS (fun q _ h => False.elim h) (fun q h => False.elim h) (fun r10 u11 t H1 locs ht hvm hw12 hB hz1 hk1 hS => ?_)
            have hP := hP.kept (fun k q hk => hk1 q.1 (hP k q hk).lt (fun h => h))
            clear hz1 hk1 hPc
            generalize H1 = H at hP hS ht ⊢
            try dsimp only at hw12
            rcases hw12 with rfl | rfl
            ·
              refine lv_if_eq (tgt := 72) hx hb dX11_greatestPart_46 (by decide) (fun c13 => ?_) (fun c13 => ?_)
              · exact absurd c13 (by decide)
              clear c13
              refine lv_aload_n hx hb dX11_greatestPart_49 rfl (lv_at hl 4 rfl) ?_
              refine lv_iload_n hx hb dX11_greatestPart_50 rfl (lv_at hl 5 rfl) ?_
              refine lv_iload hx hb dX11_greatestPart_51 (lv_at hl 2 rfl) ?_
              refine lv_iconst (v := 1) hx hb dX11_greatestPart_53 (by decide) ?_
              have hPc := hP.sub (ws' := [(h0, .inr (11, f_h0)), (m3, .inl (cI, 8, .inl fm3)), (m4, .inl (cI, 8, .inl fm4)), (m5, .inl (cI, 8, .inl fm5)), (m7, .inl (cI, 4, .inl fm7)), (m8, .inl (cI, 4, .inl fm8))]) [0, 1, 2, 3, 4, 5] rfl
              refine va_calli (va_runV (As := [.int (nI j), .int (nI k5), .int 1]) (rest := [.int a20_5]) ⟨hx, hb, hml, hown, hts⟩ (c_X11_softAfter l dC dI cI cZ cQ h0 m3 m4 m5 m7 m8 f_h0 fm3 fm4 fm5 fm7 fm8 j k5 1 nq H.size e_h0_3 e_h0_4 e_h0_5 e_h0_7 e_h0_8 (by omega) (by first | assumption | decide) (by omega) (by omega) (by omega)) (cwV 3 hts gX11_greatestPart_X11_softAfter rfl rfl rfl hd_X11_softAfter_RX11 ⟨Nat.le_of_ble_eq_true rfl, Nat.le_of_ble_eq_true rfl⟩) (pv_R (va_recv hK hP (ci := 11) (q0 := 0) rfl rfl) hK hPc) rfl rfl hl.1 rfl (lv_room (Nat.le_of_ble_eq_true rfl)) dX11_greatestPart_54 ⟨Nat.le_of_ble_eq_true rfl, Nat.le_of_ble_eq_true rfl⟩) hS (fun q _ h => False.elim h) (fun q h => False.elim h) (fun r14 u15 t H1 locs ht hvm hw16 hB hz1 hk1 hS => ?_)
              have hP := hP.kept (fun k q hk => hk1 q.1 (hP k q hk).lt (fun h => h))
              clear hz1 hk1 hPc
              generalize H1 = H at hP hS ht ⊢
              try dsimp only at hw16
              refine lv_aload_n hx hb dX11_greatestPart_57 rfl (lv_at hl 4 rfl) ?_
              refine lv_iload_n hx hb dX11_greatestPart_58 rfl (lv_at hl 5 rfl) ?_
              refine lv_iload hx hb dX11_greatestPart_59 (lv_at hl 0 rfl) ?_
              refine lv_iconst (v := 1) hx hb dX11_greatestPart_61 (by decide) ?_
              have hPc := hP.sub (ws' := [(h0, .inr (11, f_h0)), (m3, .inl (cI, 8, .inl fm3)), (m4, .inl (cI, 8, .inl fm4)), (m5, .inl (cI, 8, .inl fm5)), (m7, .inl (cI, 4, .inl fm7)), (m8, .inl (cI, 4, .inl fm8))]) [0, 1, 2, 3, 4, 5] rfl
              refine va_calli (va_runV (As := [.int (nI j), .int (nI k20), .int 1]) (rest := [.int r14, .int a20_5]) ⟨hx, hb, hml, hown, hts⟩ (c_X11_softAfter l dC dI cI cZ cQ h0 m3 m4 m5 m7 m8 f_h0 fm3 fm4 fm5 fm7 fm8 j k20 1 nq H.size e_h0_3 e_h0_4 e_h0_5 e_h0_7 e_h0_8 (by omega) (by first | assumption | decide) (by omega) (by omega) (by omega)) (cwV 3 hts gX11_greatestPart_X11_softAfter rfl rfl rfl hd_X11_softAfter_RX11 ⟨Nat.le_of_ble_eq_true rfl, Nat.le_of_ble_eq_true rfl⟩) (pv_R (va_recv hK hP (ci := 11) (q0 := 0) rfl rfl) hK hPc) rfl rfl hl.1 rfl (lv_room (Nat.le_of_ble_eq_true rfl)) dX11_greatestPart_62 ⟨Nat.le_of_ble_eq_true rfl, Nat.le_of_ble_eq_true rfl⟩) hS (fun q _ h => False.elim h) (fun q h => False.elim h) (fun r17 u18 t H1 locs ht hvm hw19 hB hz1 hk1 hS => ?_)
              have hP := hP.kept (fun k q hk => hk1 q.1 (hP k q hk).lt (fun h => h))
              clear hz1 hk1 hPc
              generalize H1 = H at hP hS ht ⊢
              try dsimp only at hw19
              refine lv_icmp_ne (tgt := 72) hx hb dX11_greatestPart_65 (by decide) (fun c20 => ?_) (fun c20 => ?_)
              ·
                refine lv_iconst (v := 0) hx hb dX11_greatestPart_72 (by decide) ?_
                refine lv_iadd hx hb dX11_greatestPart_73 ?_
                refine lv_topi (fun z21 ez21 => ?_)
                refine lv_istore (lv' := [(5, .int z21), (6, .int (nI k20)), (4, .int (nI k5)), (3, .int a5_3), (0, .ref h0), (1, .int (nI j)), (2, .int a0)]) hx hb dX11_greatestPart_74 hl (by decide) rfl (fun ls hl => ?_)
                refine lv_iinc (v := nI (k20 + 1)) (lv' := [(6, .int (nI (k20 + 1))), (5, .int z21), (4, .int (nI k5)), (3, .int a5_3), (0, .ref h0), (1, .int (nI j)), (2, .int a0)]) hx hb dX11_greatestPart_76 hl (k := 1) rfl ((rfl : nI k20 + Int32.ofInt 1 = nI k20 + 1).trans (nI_add k20 1)) (by decide) rfl (fun ls hl => ?_)
                refine lv_goto (tgt := 20) hx hb dX11_greatestPart_79 (by decide) ?_
                exact ih20 (k20 + 1) z21 _ _ _ (by omega) hP hS (lv_sub hl [0, 1, 2, 3, 4, 5, 6] rfl)
              ·
                refine lv_iconst (v := 1) hx hb dX11_greatestPart_68 (by decide) ?_
                refine lv_goto (tgt := 73) hx hb dX11_greatestPart_69 (by decide) ?_
                refine lv_iadd hx hb dX11_greatestPart_73 ?_
                refine lv_topi (fun z22 ez22 => ?_)
                refine lv_istore (lv' := [(5, .int z22), (6, .int (nI k20)), (4, .int (nI k5)), (3, .int a5_3), (0, .ref h0), (1, .int (nI j)), (2, .int a0)]) hx hb dX11_greatestPart_74 hl (by decide) rfl (fun ls hl => ?_)
                refine lv_iinc (v := nI (k20 + 1)) (lv' := [(6, .int (nI (k20 + 1))), (5, .int z22), (4, .int (nI k5)), (3, .int a5_3), (0, .ref h0), (1, .int (nI j)), (2, .int a0)]) hx hb dX11_greatestPart_76 hl (k := 1) rfl ((rfl : nI k20 + Int32.ofInt 1 = nI k20 + 1).trans (nI_add k20 1)) (by decide) rfl (fun ls hl => ?_)
                refine lv_goto (tgt := 20) hx hb dX11_greatestPart_79 (by decide) ?_
                exact ih20 (k20 + 1) z22 _ _ _ (by omega) hP hS (lv_sub hl [0, 1, 2, 3, 4, 5, 6] rfl)
            ·
              refine lv_if_eq (tgt := 72) hx hb dX11_greatestPart_46 (by decide) (fun c23 => ?_) (fun c23 => ?_)
              rotate_left
              · exact absurd c23 (by decide)
              clear c23
              refine lv_iconst (v := 0) hx hb dX11_greatestPart_72 (by decide) ?_
              refine lv_iadd hx hb dX11_greatestPart_73 ?_
              refine lv_topi (fun z24 ez24 => ?_)
              refine lv_istore (lv' := [(5, .int z24), (6, .int (nI k20)), (4, .int (nI k5)), (3, .int a5_3), (0, .ref h0), (1, .int (nI j)), (2, .int a0)]) hx hb dX11_greatestPart_74 hl (by decide) rfl (fun ls hl => ?_)
              refine lv_iinc (v := nI (k20 + 1)) (lv' := [(6, .int (nI (k20 + 1))), (5, .int z24), (4, .int (nI k5)), (3, .int a5_3), (0, .ref h0), (1, .int (nI j)), (2, .int a0)]) hx hb dX11_greatestPart_76 hl (k := 1) rfl ((rfl : nI k20 + Int32.ofInt 1 = nI k20 + 1).trans (nI_add k20 1)) (by decide) rfl (fun ls hl => ?_)
              refine lv_goto (tgt := 20) hx hb dX11_greatestPart_79 (by decide) ?_
              exact ih20 (k20 + 1) z24 _ _ _ (by omega) hP hS (lv_sub hl [0, 1, 2, 3, 4, 5, 6] rfl)
          ·
            refine lv_if_eq (tgt := 72) hx hb dX11_greatestPart_37 (by decide) (fun c25 => ?_) (fun c25 => ?_)
            rotate_left
            · exact absurd c25 (by decide)
            clear c25
            refine lv_iconst (v := 0) hx hb dX11_greatestPart_72 (by decide) ?_
            refine lv_iadd hx hb dX11_greatestPart_73 ?_
            refine lv_topi (fun z26 ez26 => ?_)
            refine lv_istore (lv' := [(5, .int z26), (6, .int (nI k20)), (4, .int (nI k5)), (3, .int a5_3), (0, .ref h0), (1, .int (nI j)), (2, .int a0)]) hx hb dX11_greatestPart_74 hl (by decide) rfl (fun ls hl => ?_)
            refine lv_iinc (v := nI (k20 + 1)) (lv' := [(6, .int (nI (k20 + 1))), (5, .int z26), (4, .int (nI k5)), (3, .int a5_3), (0, .ref h0), (1, .int (nI j)), (2, .int a0)]) hx hb dX11_greatestPart_76 hl (k := 1) rfl ((rfl : nI k20 + Int32.ofInt 1 = nI k20 + 1).trans (nI_add k20 1)) (by decide) rfl (fun ls hl => ?_)
            refine lv_goto (tgt := 20) hx hb dX11_greatestPart_79 (by decide) ?_
            exact ih20 (k20 + 1) z26 _ _ _ (by omega) hP hS (lv_sub hl [0, 1, 2, 3, 4, 5, 6] rfl)
set_option maxHeartbeats 4000000 in
set_option maxRecDepth 100000 in
theorem c_X11_lookAt (l : Launch) (dC : Nat → ClassId) (dI : Nat → Nat → Nat) (cI cZ cQ : ClassId) (h0 : Nat) (nq : Nat) (nh : Nat) (m3 : Nat) (m4 : Nat) (m5 : Nat) (m7 : Nat) (m8 : Nat) (wm : Nat) (m38 : Nat) (m39 : Nat) (m40 : Nat) (f_h0 : List Value) (fm3 : Nat → Int32) (fm4 : Nat → Int32) (fm5 : Nat → Int32) (fm7 : Nat → Int32) (fm8 : Nat → Int32) (fm38 : Nat → Int32) (fm39 : Nat → Int32) (fm40 : Nat → Int32) (sz : Nat) (e_h0_2 : fAt f_h0 2 = some (.int (nI nq))) (e_h0_6 : fAt f_h0 6 = some (.int (nI nh))) (e_h0_3 : fAt f_h0 3 = some (.ref m3)) (e_h0_4 : fAt f_h0 4 = some (.ref m4)) (e_h0_5 : fAt f_h0 5 = some (.ref m5)) (e_h0_7 : fAt f_h0 7 = some (.ref m7)) (e_h0_8 : fAt f_h0 8 = some (.ref m8)) (e_h0_37 : fAt f_h0 37 = some (.int (nI wm))) (e_h0_38 : fAt f_h0 38 = some (.ref m38)) (e_h0_39 : fAt f_h0 39 = some (.ref m39)) (e_h0_40 : fAt f_h0 40 = some (.ref m40)) (hnq : nq ≤ 8) (hci : cIn fm5 nq) (hnh : nh ≤ 4) (hwm : wm ≤ 6) (hqi : qLt fm38 wm nq) (hpi : cIn fm39 wm) : Met l yX11_lookAt wsX11_lookAt ({ frames := 5, cells := 0, slots := 0, locals := 160 }) (va_Pc [.ref h0] (fun U => U.heap.size = sz ∧ va_P (dC, dI) vwCl [(h0, .inr (11, f_h0)), (m3, .inl (cI, 8, .inl fm3)), (m4, .inl (cI, 8, .inl fm4)), (m5, .inl (cI, 8, .inl fm5)), (m7, .inl (cI, 4, .inl fm7)), (m8, .inl (cI, 4, .inl fm8)), (m38, .inl (cI, 6, .inl fm38)), (m39, .inl (cI, 6, .inl fm39)), (m40, .inl (cI, 6, .inl fm40))] U.heap ∧ va_K (dC, dI) vwCl (tys0 cI cZ cQ) U)) (va_Qi (fun (r : Int32) (u : Nat → Nat) => True) (fun (_ : Nat → Nat) (_ : State) => True) (fun _ : Nat => False)) 0 0 (fun _ : Nat => False) := by
  refine Met.ofW (cc := cX11_lookAt) (maxL := 6) (ret := (some .int)) (by decide) rfl ?_
  intro p e s m args below meth c s₁ B hml hv
  obtain ⟨rfl, hsz, hP, hK⟩ := hv
  have hx := B.exec
  have hb := B.bytes
  have hr := B.returns
  have hts := atoms_spec (ws := wsX11_lookAt) B.pre
  have hown : s.vm.findClass RX11 = some m.cls := findClass_of_methodNamed B.named
  have hlocks := B.notSynchronized
  have hi_X11 : ∀ w ∈ u_ws RX11 TX11 46, w ∈ wsX11_lookAt := fun _ h => List.mem_cons_of_mem _ (List.mem_append_right _ (h))
  subst hsz
  have hS : va_S (fun _ : Nat => False) s.heap s.heap [] := va_S.rf
  have hl := lv_entry ([.ref h0]) (n := 6) (Nat.le_of_ble_eq_true rfl)
  rw [lg_entry_eq]
  generalize (lg_sl ([.ref h0]) ++ List.replicate (6 - (lg_sl ([.ref h0])).length) Slot.unset).toArray = ls at hl ⊢
  have hl : lv_has ls 6 [(0, .ref h0)] := hl
  refine lv_aload_n hx hb dX11_lookAt_0 rfl (lv_at hl 0 rfl) ?_
  have hPc := hP.sub (ws' := [(h0, .inr (11, f_h0)), (m3, .inl (cI, 8, .inl fm3)), (m4, .inl (cI, 8, .inl fm4)), (m5, .inl (cI, 8, .inl fm5)), (m7, .inl (cI, 4, .inl fm7)), (m8, .inl (cI, 4, .inl fm8)), (m38, .inl (cI, 6, .inl fm38)), (m39, .inl (cI, 6, .inl fm39)), (m40, .inl (cI, 6, .inl fm40))]) [0, 1, 2, 3, 4, 5, 6, 7, 8] rfl
  refine va_calli (va_runV (As := []) (rest := []) ⟨hx, hb, hml, hown, hts⟩ (c_X11_handsThatFit l dC dI cI cZ cQ h0 nq nh m3 m4 m5 m7 m8 wm m38 m39 m40 f_h0 fm3 fm4 fm5 fm7 fm8 fm38 fm39 fm40 s.heap.size e_h0_2 e_h0_6 e_h0_3 e_h0_4 e_h0_5 e_h0_7 e_h0_8 e_h0_37 e_h0_38 e_h0_39 e_h0_40 (by omega) (by first | assumption | decide) (by omega) (by omega) (by first | assumption | decide) (by first | assumption | decide)) (cwV 0 hts gX11_lookAt_X11_handsThatFit rfl rfl rfl hd_X11_handsThatFit_RX11 ⟨Nat.le_of_ble_eq_true rfl, Nat.le_of_ble_eq_true rfl⟩) (pv_R (va_recv hK hP (ci := 11) (q0 := 0) rfl rfl) hK hPc) rfl rfl hl.1 rfl (lv_room (Nat.le_of_ble_eq_true rfl)) dX11_lookAt_1 ⟨Nat.le_of_ble_eq_true rfl, Nat.le_of_ble_eq_true rfl⟩) hS (fun q _ h => False.elim h) (fun q h => False.elim h) (fun r1 u2 t H1 locs ht hvm hw3 hB hz1 hk1 hS => ?_)
  have hP := hP.kept (fun k q hk => hk1 q.1 (hP k q hk).lt (fun h => h))
  clear hz1 hk1 hPc
  generalize H1 = H at hP hS ht ⊢
  try dsimp only at hw3
  refine lv_istore_n (lv' := [(1, .int r1), (0, .ref h0)]) hx hb dX11_lookAt_4 rfl hl (by decide) rfl (fun ls hl => ?_)
  refine lv_iconst (v := (-1)) hx hb dX11_lookAt_5 (by decide) ?_
  refine lv_istore_n (lv' := [(2, .int (-1)), (1, .int r1), (0, .ref h0)]) hx hb dX11_lookAt_6 rfl hl (by decide) rfl (fun ls hl => ?_)
  refine lv_iload_n hx hb dX11_lookAt_7 rfl (lv_at hl 1 rfl) ?_
  have hPc := hP.sub (ws' := []) [] rfl
  refine va_calli (va_runS (As := [.int r1]) (rest := []) ⟨hx, hb, hml, hown, hts⟩ (c_X11_bits l dC dI cI cZ cQ r1 H.size ) (va_cwS 1 hts gX11_lookAt_X11_bits rfl rfl rfl (by decide +kernel) ⟨Nat.le_of_ble_eq_true rfl, Nat.le_of_ble_eq_true rfl⟩) (ps_R hK hPc) rfl rfl hl.1 rfl (lv_room (Nat.le_of_ble_eq_true rfl)) dX11_lookAt_8 ⟨Nat.le_of_ble_eq_true rfl, Nat.le_of_ble_eq_true rfl⟩) hS (fun q _ h => False.elim h) (fun q h => False.elim h) (fun r4 u5 t H1 locs ht hvm hw6 hB hz1 hk1 hS => ?_)
  have hP := hP.kept (fun k q hk => hk1 q.1 (hP k q hk).lt (fun h => h))
  clear hz1 hk1 hPc
  generalize H1 = H at hP hS ht ⊢
  try dsimp only at hw6
  refine lv_istore_n (lv' := [(3, .int r4), (2, .int (-1)), (1, .int r1), (0, .ref h0)]) hx hb dX11_lookAt_11 rfl hl (by decide) rfl (fun ls hl => ?_)
  refine lv_iconst (v := 0) hx hb dX11_lookAt_12 (by decide) ?_
  refine lv_istore (lv' := [(4, .int 0), (3, .int r4), (2, .int (-1)), (1, .int r1), (0, .ref h0)]) hx hb dX11_lookAt_13 hl (by decide) rfl (fun ls hl => ?_)
  refine (fun (K : ∀ (d15 : Nat) (k15 : Nat) (a15_2 : Int32) (a15_3 : Int32) (H : Heap) (locs : List Loc) (ls : Array Slot), k15 + d15 = nq → va_P (dC, dI) vwCl [(h0, .inr (11, f_h0)), (m3, .inl (cI, 8, .inl fm3)), (m4, .inl (cI, 8, .inl fm4)), (m5, .inl (cI, 8, .inl fm5)), (m7, .inl (cI, 4, .inl fm7)), (m8, .inl (cI, 4, .inl fm8)), (m38, .inl (cI, 6, .inl fm38)), (m39, .inl (cI, 6, .inl fm39)), (m40, .inl (cI, 6, .inl fm40))] H → va_S (fun _ : Nat => False) s.heap H locs → lv_has ls 6 [(4, .int (nI k15)), (2, .int a15_2), (3, .int a15_3), (1, .int r1), (0, .ref h0)] → W p l e _ s m _ below meth c H locs _ _ _ (F0 m 15 ls [])) => K nq 0 (-1) r4 _ _ _ (by omega) hP hS (lv_sub hl [0, 2, 1, 3, 4] rfl)) ?_
  intro d15
  induction d15 with
  | zero =>
    intro k15 a15_2 a15_3 H locs ls hk15 hP hS hl
    refine lv_iload hx hb dX11_lookAt_15 (lv_at hl 0 rfl) ?_
    refine lv_aload_n hx hb dX11_lookAt_17 rfl (lv_at hl 4 rfl) ?_
    refine va_get (D := (dC, dI)) (ci := 11) (v := .int (nI nq)) (C := RX11) (T := TX11) (N := 46) hx hb hts hi_X11 hown hK hP 0 rfl rfl 2 (by decide) (hts (.fieldLink RX11 99 "LeftQuillsModel" "quills" "I") (wmx 1 rfl)) (fun _ h9 => h9) e_h0_2 dX11_lookAt_18 ?_
    refine lv_icmp_ge (tgt := 65) hx hb dX11_lookAt_21 (by decide) (fun c7 => ?_) (fun c7 => ?_)
    ·
      have c7 : nq ≤ k15 := (nI_leI (a := nq) (b := k15) (by omega) (by omega)).mp c7
      refine lv_iload_n hx hb dX11_lookAt_65 rfl (lv_at hl 1 rfl) ?_
      exact W.iret (v := a15_2) hx hb hr (fun t ht hW => ⟨⟨a15_2, (fun _ => 0), rfl, trivial, trivial⟩, hS.F ht⟩) hS.2.2 dX11_lookAt_66
    ·
      have c7 : ¬ nq ≤ k15 := fun h => c7 ((nI_leI (a := nq) (b := k15) (by omega) (by omega)).mpr h)
      omega
  | succ d15 ih15 =>
    intro k15 a15_2 a15_3 H locs ls hk15 hP hS hl
    refine lv_iload hx hb dX11_lookAt_15 (lv_at hl 0 rfl) ?_
    refine lv_aload_n hx hb dX11_lookAt_17 rfl (lv_at hl 4 rfl) ?_
    refine va_get (D := (dC, dI)) (ci := 11) (v := .int (nI nq)) (C := RX11) (T := TX11) (N := 46) hx hb hts hi_X11 hown hK hP 0 rfl rfl 2 (by decide) (hts (.fieldLink RX11 99 "LeftQuillsModel" "quills" "I") (wmx 1 rfl)) (fun _ h9 => h9) e_h0_2 dX11_lookAt_18 ?_
    refine lv_icmp_ge (tgt := 65) hx hb dX11_lookAt_21 (by decide) (fun c8 => ?_) (fun c8 => ?_)
    ·
      have c8 : nq ≤ k15 := (nI_leI (a := nq) (b := k15) (by omega) (by omega)).mp c8
      omega
    ·
      have c8 : ¬ nq ≤ k15 := fun h => c8 ((nI_leI (a := nq) (b := k15) (by omega) (by omega)).mpr h)
      refine lv_aload_n hx hb dX11_lookAt_24 rfl (lv_at hl 4 rfl) ?_
      refine lv_iload hx hb dX11_lookAt_25 (lv_at hl 0 rfl) ?_
      refine lv_iload_n hx hb dX11_lookAt_27 rfl (lv_at hl 3 rfl) ?_
      have hPc := hP.sub (ws' := [(h0, .inr (11, f_h0)), (m3, .inl (cI, 8, .inl fm3)), (m4, .inl (cI, 8, .inl fm4)), (m5, .inl (cI, 8, .inl fm5)), (m7, .inl (cI, 4, .inl fm7)), (m8, .inl (cI, 4, .inl fm8))]) [0, 1, 2, 3, 4, 5] rfl
      refine va_calli (va_runV (As := [.int (nI k15), .int r1]) (rest := []) ⟨hx, hb, hml, hown, hts⟩ (c_X11_greatestPart l dC dI cI cZ cQ h0 nq nh m3 m4 m5 m7 m8 f_h0 fm3 fm4 fm5 fm7 fm8 k15 r1 H.size e_h0_2 e_h0_6 e_h0_3 e_h0_4 e_h0_5 e_h0_7 e_h0_8 (by omega) (by first | assumption | decide) (by omega) (by omega)) (cwV 2 hts gX11_lookAt_X11_greatestPart rfl rfl rfl hd_X11_greatestPart_RX11 ⟨Nat.le_of_ble_eq_true rfl, Nat.le_of_ble_eq_true rfl⟩) (pv_R (va_recv hK hP (ci := 11) (q0 := 0) rfl rfl) hK hPc) rfl rfl hl.1 rfl (lv_room (Nat.le_of_ble_eq_true rfl)) dX11_lookAt_28 ⟨Nat.le_of_ble_eq_true rfl, Nat.le_of_ble_eq_true rfl⟩) hS (fun q _ h => False.elim h) (fun q h => False.elim h) (fun r9 u10 t H1 locs ht hvm hw11 hB hz1 hk1 hS => ?_)
      have hP := hP.kept (fun k q hk => hk1 q.1 (hP k q hk).lt (fun h => h))
      clear hz1 hk1 hPc
      generalize H1 = H at hP hS ht ⊢
      try dsimp only at hw11
      refine lv_istore (lv' := [(5, .int r9), (4, .int (nI k15)), (2, .int a15_2), (3, .int a15_3), (1, .int r1), (0, .ref h0)]) hx hb dX11_lookAt_31 hl (by decide) rfl (fun ls hl => ?_)
      refine lv_iload hx hb dX11_lookAt_33 (lv_at hl 0 rfl) ?_
      refine lv_iload_n hx hb dX11_lookAt_35 rfl (lv_at hl 3 rfl) ?_
      refine lv_icmp_ge (tgt := 44) hx hb dX11_lookAt_36 (by decide) (fun c12 => ?_) (fun c12 => ?_)
      ·
        refine lv_iload_n hx hb dX11_lookAt_44 rfl (lv_at hl 2 rfl) ?_
        refine lv_istore_n (lv' := [(2, .int a15_2), (5, .int r9), (4, .int (nI k15)), (3, .int a15_3), (1, .int r1), (0, .ref h0)]) hx hb dX11_lookAt_45 rfl hl (by decide) rfl (fun ls hl => ?_)
        refine lv_iload hx hb dX11_lookAt_46 (lv_at hl 1 rfl) ?_
        refine lv_iload_n hx hb dX11_lookAt_48 rfl (lv_at hl 3 rfl) ?_
        refine lv_icmp_ge (tgt := 57) hx hb dX11_lookAt_49 (by decide) (fun c13 => ?_) (fun c13 => ?_)
        ·
          refine lv_iload_n hx hb dX11_lookAt_57 rfl (lv_at hl 3 rfl) ?_
          refine lv_istore_n (lv' := [(3, .int a15_3), (2, .int a15_2), (5, .int r9), (4, .int (nI k15)), (1, .int r1), (0, .ref h0)]) hx hb dX11_lookAt_58 rfl hl (by decide) rfl (fun ls hl => ?_)
          refine lv_iinc (v := nI (k15 + 1)) (lv' := [(4, .int (nI (k15 + 1))), (3, .int a15_3), (2, .int a15_2), (5, .int r9), (1, .int r1), (0, .ref h0)]) hx hb dX11_lookAt_59 hl (k := 3) rfl ((rfl : nI k15 + Int32.ofInt 1 = nI k15 + 1).trans (nI_add k15 1)) (by decide) rfl (fun ls hl => ?_)
          refine lv_goto (tgt := 15) hx hb dX11_lookAt_62 (by decide) ?_
          exact ih15 (k15 + 1) a15_2 a15_3 _ _ _ (by omega) hP hS (lv_sub hl [0, 2, 1, 4, 5] rfl)
        ·
          refine lv_iload hx hb dX11_lookAt_52 (lv_at hl 1 rfl) ?_
          refine lv_goto (tgt := 58) hx hb dX11_lookAt_54 (by decide) ?_
          refine lv_istore_n (lv' := [(3, .int r9), (2, .int a15_2), (5, .int r9), (4, .int (nI k15)), (1, .int r1), (0, .ref h0)]) hx hb dX11_lookAt_58 rfl hl (by decide) rfl (fun ls hl => ?_)
          refine lv_iinc (v := nI (k15 + 1)) (lv' := [(4, .int (nI (k15 + 1))), (3, .int r9), (2, .int a15_2), (5, .int r9), (1, .int r1), (0, .ref h0)]) hx hb dX11_lookAt_59 hl (k := 3) rfl ((rfl : nI k15 + Int32.ofInt 1 = nI k15 + 1).trans (nI_add k15 1)) (by decide) rfl (fun ls hl => ?_)
          refine lv_goto (tgt := 15) hx hb dX11_lookAt_62 (by decide) ?_
          exact ih15 (k15 + 1) a15_2 r9 _ _ _ (by omega) hP hS (lv_sub hl [0, 2, 1, 4, 5] rfl)
      ·
        refine lv_iload hx hb dX11_lookAt_39 (lv_at hl 1 rfl) ?_
        refine lv_goto (tgt := 45) hx hb dX11_lookAt_41 (by decide) ?_
        refine lv_istore_n (lv' := [(2, .int (nI k15)), (5, .int r9), (4, .int (nI k15)), (3, .int a15_3), (1, .int r1), (0, .ref h0)]) hx hb dX11_lookAt_45 rfl hl (by decide) rfl (fun ls hl => ?_)
        refine lv_iload hx hb dX11_lookAt_46 (lv_at hl 1 rfl) ?_
        refine lv_iload_n hx hb dX11_lookAt_48 rfl (lv_at hl 3 rfl) ?_
        refine lv_icmp_ge (tgt := 57) hx hb dX11_lookAt_49 (by decide) (fun c14 => ?_) (fun c14 => ?_)
        ·
          refine lv_iload_n hx hb dX11_lookAt_57 rfl (lv_at hl 3 rfl) ?_
          refine lv_istore_n (lv' := [(3, .int a15_3), (2, .int (nI k15)), (5, .int r9), (4, .int (nI k15)), (1, .int r1), (0, .ref h0)]) hx hb dX11_lookAt_58 rfl hl (by decide) rfl (fun ls hl => ?_)
          refine lv_iinc (v := nI (k15 + 1)) (lv' := [(4, .int (nI (k15 + 1))), (3, .int a15_3), (2, .int (nI k15)), (5, .int r9), (1, .int r1), (0, .ref h0)]) hx hb dX11_lookAt_59 hl (k := 3) rfl ((rfl : nI k15 + Int32.ofInt 1 = nI k15 + 1).trans (nI_add k15 1)) (by decide) rfl (fun ls hl => ?_)
          refine lv_goto (tgt := 15) hx hb dX11_lookAt_62 (by decide) ?_
          exact ih15 (k15 + 1) (nI k15) a15_3 _ _ _ (by omega) hP hS (lv_sub hl [0, 2, 1, 4, 5] rfl)
        ·
          refine lv_iload hx hb dX11_lookAt_52 (lv_at hl 1 rfl) ?_
          refine lv_goto (tgt := 58) hx hb dX11_lookAt_54 (by decide) ?_
          refine lv_istore_n (lv' := [(3, .int r9), (2, .int (nI k15)), (5, .int r9), (4, .int (nI k15)), (1, .int r1), (0, .ref h0)]) hx hb dX11_lookAt_58 rfl hl (by decide) rfl (fun ls hl => ?_)
          refine lv_iinc (v := nI (k15 + 1)) (lv' := [(4, .int (nI (k15 + 1))), (3, .int r9), (2, .int (nI k15)), (5, .int r9), (1, .int r1), (0, .ref h0)]) hx hb dX11_lookAt_59 hl (k := 3) rfl ((rfl : nI k15 + Int32.ofInt 1 = nI k15 + 1).trans (nI_add k15 1)) (by decide) rfl (fun ls hl => ?_)
          refine lv_goto (tgt := 15) hx hb dX11_lookAt_62 (by decide) ?_
          exact ih15 (k15 + 1) (nI k15) r9 _ _ _ (by omega) hP hS (lv_sub hl [0, 2, 1, 4, 5] rfl)
set_option maxHeartbeats 4000000 in
set_option maxRecDepth 100000 in
theorem c_X11_judge (l : Launch) (dC : Nat → ClassId) (dI : Nat → Nat → Nat) (cI cZ cQ : ClassId) (h0 : Nat) (m10 : Nat) (bk : Nat) (m42 : Nat) (m43 : Nat) (f_h0 : List Value) (fm10 : Nat → Int32) (fm42 : Nat → Int32) (fm43 : Nat → Int32) (sz : Nat) (e_h0_10 : fAt f_h0 10 = some (.ref m10)) (e_h0_41 : fAt f_h0 41 = some (.int (nI bk))) (e_h0_42 : fAt f_h0 42 = some (.ref m42)) (e_h0_43 : fAt f_h0 43 = some (.ref m43)) (hbk : bk ≤ 15) (hqi : qIn fm42 bk) : Met l yX11_judge wsX11_judge ({ frames := 0, cells := 0, slots := 0, locals := 40 }) (va_Pc [.ref h0] (fun U => U.heap.size = sz ∧ va_P (dC, dI) vwCl [(h0, .inr (11, f_h0)), (m10, .inl (cI, 34, .inl fm10)), (m42, .inl (cI, 15, .inl fm42)), (m43, .inl (cI, 15, .inl fm43))] U.heap ∧ va_K (dC, dI) vwCl (tys0 cI cZ cQ) U)) (va_Qi (fun (r : Int32) (u : Nat → Nat) => True) (fun (_ : Nat → Nat) (_ : State) => True) (fun _ : Nat => False)) 0 0 (fun _ : Nat => False) := by
  refine Met.ofW (cc := cX11_judge) (maxL := 2) (ret := (some .int)) (by decide) rfl ?_
  intro p e s m args below meth c s₁ B hml hv
  obtain ⟨rfl, hsz, hP, hK⟩ := hv
  have hx := B.exec
  have hb := B.bytes
  have hr := B.returns
  have hts := atoms_spec (ws := wsX11_judge) B.pre
  have hown : s.vm.findClass RX11 = some m.cls := findClass_of_methodNamed B.named
  have hlocks := B.notSynchronized
  have hi_X11 : ∀ w ∈ u_ws RX11 TX11 46, w ∈ wsX11_judge := fun _ h => List.mem_cons_of_mem _ (List.mem_append_right _ (h))
  subst hsz
  have hS : va_S (fun _ : Nat => False) s.heap s.heap [] := va_S.rf
  have hl := lv_entry ([.ref h0]) (n := 2) (Nat.le_of_ble_eq_true rfl)
  rw [lg_entry_eq]
  generalize (lg_sl ([.ref h0]) ++ List.replicate (2 - (lg_sl ([.ref h0])).length) Slot.unset).toArray = ls at hl ⊢
  have hl : lv_has ls 2 [(0, .ref h0)] := hl
  refine lv_iconst (v := 0) hx hb dX11_judge_0 (by decide) ?_
  refine lv_istore_n (lv' := [(1, .int 0), (0, .ref h0)]) hx hb dX11_judge_1 rfl hl (by decide) rfl (fun ls hl => ?_)
  refine (fun (K : ∀ (d2 : Nat) (k2 : Nat) (H : Heap) (locs : List Loc) (ls : Array Slot), k2 + d2 = bk → va_P (dC, dI) vwCl [(h0, .inr (11, f_h0)), (m10, .inl (cI, 34, .inl fm10)), (m42, .inl (cI, 15, .inl fm42)), (m43, .inl (cI, 15, .inl fm43))] H → va_S (fun _ : Nat => False) s.heap H locs → lv_has ls 2 [(1, .int (nI k2)), (0, .ref h0)] → W p l e _ s m _ below meth c H locs _ _ _ (F0 m 2 ls [])) => K bk 0 _ _ _ (by omega) hP hS (lv_sub hl [0, 1] rfl)) ?_
  intro d2
  induction d2 with
  | zero =>
    intro k2 H locs ls hk2 hP hS hl
    refine lv_iload_n hx hb dX11_judge_2 rfl (lv_at hl 0 rfl) ?_
    refine lv_aload_n hx hb dX11_judge_3 rfl (lv_at hl 1 rfl) ?_
    refine va_get (D := (dC, dI)) (ci := 11) (v := .int (nI bk)) (C := RX11) (T := TX11) (N := 46) hx hb hts hi_X11 hown hK hP 0 rfl rfl 41 (by decide) (hts (.fieldLink RX11 171 "LeftQuillsModel" "booked" "I") (wmx 1 rfl)) (fun _ h9 => h9) e_h0_41 dX11_judge_4 ?_
    refine lv_icmp_ge (tgt := 41) hx hb dX11_judge_7 (by decide) (fun c1 => ?_) (fun c1 => ?_)
    ·
      have c1 : bk ≤ k2 := (nI_leI (a := bk) (b := k2) (by omega) (by omega)).mp c1
      refine lv_iconst (v := (-1)) hx hb dX11_judge_41 (by decide) ?_
      exact W.iret (v := (-1)) hx hb hr (fun t ht hW => ⟨⟨(-1), (fun _ => 0), rfl, trivial, trivial⟩, hS.F ht⟩) hS.2.2 dX11_judge_42
    ·
      have c1 : ¬ bk ≤ k2 := fun h => c1 ((nI_leI (a := bk) (b := k2) (by omega) (by omega)).mpr h)
      omega
  | succ d2 ih2 =>
    intro k2 H locs ls hk2 hP hS hl
    refine lv_iload_n hx hb dX11_judge_2 rfl (lv_at hl 0 rfl) ?_
    refine lv_aload_n hx hb dX11_judge_3 rfl (lv_at hl 1 rfl) ?_
    refine va_get (D := (dC, dI)) (ci := 11) (v := .int (nI bk)) (C := RX11) (T := TX11) (N := 46) hx hb hts hi_X11 hown hK hP 0 rfl rfl 41 (by decide) (hts (.fieldLink RX11 171 "LeftQuillsModel" "booked" "I") (wmx 1 rfl)) (fun _ h9 => h9) e_h0_41 dX11_judge_4 ?_
    refine lv_icmp_ge (tgt := 41) hx hb dX11_judge_7 (by decide) (fun c2 => ?_) (fun c2 => ?_)
    ·
      have c2 : bk ≤ k2 := (nI_leI (a := bk) (b := k2) (by omega) (by omega)).mp c2
      omega
    ·
      have c2 : ¬ bk ≤ k2 := fun h => c2 ((nI_leI (a := bk) (b := k2) (by omega) (by omega)).mpr h)
      refine lv_aload_n hx hb dX11_judge_10 rfl (lv_at hl 1 rfl) ?_
      refine va_get (D := (dC, dI)) (ci := 11) (v := .ref m10) (C := RX11) (T := TX11) (N := 46) hx hb hts hi_X11 hown hK hP 0 rfl rfl 10 (by decide) (hts (.fieldLink RX11 28 "LeftQuillsModel" "now" "[I") (wmx 2 rfl)) (fun _ h9 => h9) e_h0_10 dX11_judge_11 ?_
      refine lv_bipush (v := 16) hx hb dX11_judge_14 (by decide) ?_
      refine lv_aload_n hx hb dX11_judge_16 rfl (lv_at hl 1 rfl) ?_
      refine va_get (D := (dC, dI)) (ci := 11) (v := .ref m42) (C := RX11) (T := TX11) (N := 46) hx hb hts hi_X11 hown hK hP 0 rfl rfl 42 (by decide) (hts (.fieldLink RX11 83 "LeftQuillsModel" "bookQuill" "[I") (wmx 3 rfl)) (fun _ h9 => h9) e_h0_42 dX11_judge_17 ?_
      refine lv_iload_n hx hb dX11_judge_20 rfl (lv_at hl 0 rfl) ?_
      refine va_iald hx hb hK hP 2 0 rfl rfl (vp_in_nI (n := k2) (N := 15) (by omega) (by decide)) dX11_judge_21 ?_
      refine W.eq (g2 := F0 m 22 ls [.int (fm42 k2), .int 16, .ref m10]) (congrArg (fun y9 => F0 m 22 ls (.int (fm42 y9) :: [.int 16, .ref m10])) ((nI_clamp (n := k2) (by omega)))) ?_
      refine lv_topi (fun z3 ez3 => ?_)
      obtain ⟨j4, hj4, ejj4⟩ := hqi k2 (by omega)
      obtain rfl : z3 = nI j4 := ez3.trans (ejj4)
      refine lv_iadd hx hb dX11_judge_22 ?_
      refine lv_topi (fun z5 ez5 => ?_)
      obtain rfl : z5 = nI (16 + j4) := ez5.trans (nI_add 16 j4)
      refine va_iald hx hb hK hP 1 0 rfl rfl (vp_in_nI (n := 16 + j4) (N := 34) (by omega) (by decide)) dX11_judge_23 ?_
      refine W.eq (g2 := F0 m 24 ls [.int (fm10 (16 + j4))]) (congrArg (fun y9 => F0 m 24 ls (.int (fm10 y9) :: [])) ((nI_clamp (n := 16 + j4) (by omega)))) ?_
      refine lv_aload_n hx hb dX11_judge_24 rfl (lv_at hl 1 rfl) ?_
      refine va_get (D := (dC, dI)) (ci := 11) (v := .ref m43) (C := RX11) (T := TX11) (N := 46) hx hb hts hi_X11 hown hK hP 0 rfl rfl 43 (by decide) (hts (.fieldLink RX11 86 "LeftQuillsModel" "bookSoft" "[I") (wmx 4 rfl)) (fun _ h9 => h9) e_h0_43 dX11_judge_25 ?_
      refine lv_iload_n hx hb dX11_judge_28 rfl (lv_at hl 0 rfl) ?_
      refine va_iald hx hb hK hP 3 0 rfl rfl (vp_in_nI (n := k2) (N := 15) (by omega) (by decide)) dX11_judge_29 ?_
      refine W.eq (g2 := F0 m 30 ls [.int (fm43 k2), .int (fm10 (16 + j4))]) (congrArg (fun y9 => F0 m 30 ls (.int (fm43 y9) :: [.int (fm10 (16 + j4))])) ((nI_clamp (n := k2) (by omega)))) ?_
      refine lv_icmp_eq (tgt := 35) hx hb dX11_judge_30 (by decide) (fun c6 => ?_) (fun c6 => ?_)
      ·
        refine lv_iinc (v := nI (k2 + 1)) (lv' := [(1, .int (nI (k2 + 1))), (0, .ref h0)]) hx hb dX11_judge_35 hl (k := 0) rfl ((rfl : nI k2 + Int32.ofInt 1 = nI k2 + 1).trans (nI_add k2 1)) (by decide) rfl (fun ls hl => ?_)
        refine lv_goto (tgt := 2) hx hb dX11_judge_38 (by decide) ?_
        exact ih2 (k2 + 1) _ _ _ (by omega) hP hS (lv_sub hl [0, 1] rfl)
      ·
        refine lv_iload_n hx hb dX11_judge_33 rfl (lv_at hl 0 rfl) ?_
        exact W.iret (v := nI k2) hx hb hr (fun t ht hW => ⟨⟨nI k2, (fun _ => 0), rfl, trivial, trivial⟩, hS.F ht⟩) hS.2.2 dX11_judge_34
