set_option maxHeartbeats 4000000 in
set_option maxRecDepth 100000 in
theorem c_X11_pagesFrom (l : Launch) (dC : Nat → ClassId) (dI : Nat → Nat → Nat) (cI cZ cQ : ClassId) (h0 : Nat) (m3 : Nat) (m4 : Nat) (m5 : Nat) (m7 : Nat) (m8 : Nat) (m9 : Nat) (m10 : Nat) (f_h0 : List Value) (fm3 : Nat → Int32) (fm4 : Nat → Int32) (fm5 : Nat → Int32) (fm7 : Nat → Int32) (fm8 : Nat → Int32) (fm9 : Nat → Int32) (fm10 : Nat → Int32) (a0 : Int32) (j : Nat) (k : Nat) (mo : Nat) (nq : Nat) (sz : Nat) (e_h0_3 : f_h0[3]? = some (.ref m3)) (e_h0_4 : f_h0[4]? = some (.ref m4)) (e_h0_5 : f_h0[5]? = some (.ref m5)) (e_h0_7 : f_h0[7]? = some (.ref m7)) (e_h0_8 : f_h0[8]? = some (.ref m8)) (e_h0_9 : f_h0[9]? = some (.ref m9)) (e_h0_10 : f_h0[10]? = some (.ref m10)) (hnq : nq ≤ 8) (hci : cIn fm5 nq) (hj : j < nq) (hk : k < 4) (hmo : mo ≤ 999) : Met l yX11_pagesFrom wsX11_pagesFrom ({ frames := 3, cells := 0, slots := 0, locals := 109 }) (va_Pc [.ref h0, .int a0, .int (nI j), .int (nI k), .int (nI mo)] (fun U => U.heap.size = sz ∧ va_P (dC, dI) vwCl [(h0, .inr (11, f_h0)), (m3, .inl (cI, 8, .inl fm3)), (m4, .inl (cI, 8, .inl fm4)), (m5, .inl (cI, 8, .inl fm5)), (m7, .inl (cI, 4, .inl fm7)), (m8, .inl (cI, 4, .inl fm8)), (m9, .inl (cI, 4, .inl fm9)), (m10, .inl (cI, 34, .inl fm10))] U.heap ∧ va_K (dC, dI) vwCl (tys0 cI cZ cQ) U)) (va_Qi (fun (r : Int32) (u : Nat → Nat) => True) (fun (_ : Nat → Nat) (_ : State) => True) (fun _ : Nat => False)) 0 0 (fun _ : Nat => False) := by
  refine Met.ofW (cc := cX11_pagesFrom) (maxL := 7) (ret := (some .int)) (by decide) rfl ?_
  intro p e s m args below meth c s₁ B hml hv
  obtain ⟨rfl, hsz, hP, hK⟩ := hv
  have hx := B.exec
  have hb := B.bytes
  have hr := B.returns
  have hts := atoms_spec (ws := wsX11_pagesFrom) B.pre
  have hown : s.vm.findClass RX11 = some m.cls := findClass_of_methodNamed B.named
  have hlocks := B.notSynchronized
  have hi_X11 : ∀ w ∈ u_ws RX11 TX11 46, w ∈ wsX11_pagesFrom := fun _ h => List.mem_cons_of_mem _ (List.mem_append_right _ (h))
  subst hsz
  have hS : va_S (fun _ : Nat => False) s.heap s.heap [] := va_S.rf
  have hl := lv_entry ([.ref h0, .int a0, .int (nI j), .int (nI k), .int (nI mo)]) (n := 7) (Nat.le_of_ble_eq_true rfl)
  rw [lg_entry_eq]
  generalize (lg_sl ([.ref h0, .int a0, .int (nI j), .int (nI k), .int (nI mo)]) ++ List.replicate (7 - (lg_sl ([.ref h0, .int a0, .int (nI j), .int (nI k), .int (nI mo)])).length) Slot.unset).toArray = ls at hl ⊢
  have hl : lv_has ls 7 [(0, .ref h0), (1, .int a0), (2, .int (nI j)), (3, .int (nI k)), (4, .int (nI mo))] := hl
  refine lv_iconst (v := 0) hx hb dX11_pagesFrom_0 (by decide) ?_
  refine lv_istore (lv' := [(5, .int 0), (0, .ref h0), (1, .int a0), (2, .int (nI j)), (3, .int (nI k)), (4, .int (nI mo))]) hx hb dX11_pagesFrom_1 hl (by decide) rfl (fun ls hl => ?_)
  refine lv_aload_n hx hb dX11_pagesFrom_3 rfl (lv_at hl 1 rfl) ?_
  refine lv_iload_n hx hb dX11_pagesFrom_4 rfl (lv_at hl 2 rfl) ?_
  refine lv_iload_n hx hb dX11_pagesFrom_5 rfl (lv_at hl 3 rfl) ?_
  refine lv_iload_n hx hb dX11_pagesFrom_6 rfl (lv_at hl 4 rfl) ?_
  have hPc := hP.sub (ws' := [(h0, .inr (11, f_h0)), (m3, .inl (cI, 8, .inl fm3)), (m4, .inl (cI, 8, .inl fm4)), (m5, .inl (cI, 8, .inl fm5)), (m7, .inl (cI, 4, .inl fm7)), (m8, .inl (cI, 4, .inl fm8))]) [0, 1, 2, 3, 4, 5] rfl
  refine va_calli (va_runV (As := [.int a0, .int (nI j), .int (nI k)]) (rest := []) ⟨hx, hb, hml, hown, hts⟩ (c_X11_softBehind l dC dI cI cZ cQ h0 m3 m4 m5 m7 m8 f_h0 fm3 fm4 fm5 fm7 fm8 a0 j k nq s.heap.size e_h0_3 e_h0_4 e_h0_5 e_h0_7 e_h0_8 (by omega) (by first | assumption | decide) (by omega) (by omega)) (cwV 3 hts gX11_pagesFrom_X11_softBehind rfl rfl rfl (by decide +kernel) ⟨Nat.le_of_ble_eq_true rfl, Nat.le_of_ble_eq_true rfl⟩) ⟨fun a U g mk q => by obtain ⟨q0, q1, qP, qK⟩ := q; exact ⟨q0, q1, qP, va_K.moved (u := U) (U := U.calling g mk a) (Vm.Alike.refl U.vm) qK⟩, va_recv hK hP (ci := 11) (q0 := 0) rfl rfl, fun U hU hW => ⟨rfl, by rw [hU], by rw [hU]; exact hPc, va_K.moved hW.alike hK⟩⟩ rfl rfl hl.1 rfl (lv_room (Nat.le_of_ble_eq_true rfl)) dX11_pagesFrom_7 ⟨Nat.le_of_ble_eq_true rfl, Nat.le_of_ble_eq_true rfl⟩) hS (fun q _ h => False.elim h) (fun q h => False.elim h) (fun r1 u2 t H1 locs ht hvm hw3 hB hz1 hk1 hS => ?_)
  have hP := hP.kept (fun k q hk => hk1 q.1 (hP k q hk).lt (fun h => h))
  clear hz1 hk1 hPc
  generalize H1 = H at hP hS ht ⊢
  try dsimp only at hw3
  refine lv_istore (lv' := [(6, .int r1), (5, .int 0), (0, .ref h0), (1, .int a0), (2, .int (nI j)), (3, .int (nI k)), (4, .int (nI mo))]) hx hb dX11_pagesFrom_10 hl (by decide) rfl (fun ls hl => ?_)
  refine (fun (K : ∀ (d12 : Nat) (k12 : Nat) (a12_6 : Int32) (H : Heap) (locs : List Loc) (ls : Array Slot), k12 + d12 = mo → va_P (dC, dI) vwCl [(h0, .inr (11, f_h0)), (m3, .inl (cI, 8, .inl fm3)), (m4, .inl (cI, 8, .inl fm4)), (m5, .inl (cI, 8, .inl fm5)), (m7, .inl (cI, 4, .inl fm7)), (m8, .inl (cI, 4, .inl fm8)), (m9, .inl (cI, 4, .inl fm9)), (m10, .inl (cI, 34, .inl fm10))] H → va_S (fun _ : Nat => False) s.heap H locs → lv_has ls 7 [(5, .int (nI k12)), (6, .int a12_6), (0, .ref h0), (1, .int a0), (2, .int (nI j)), (3, .int (nI k)), (4, .int (nI mo))] → W p l e _ s m _ below meth c H locs _ _ _ (F0 m 12 ls [])) => K mo 0 r1 _ _ _ (by omega) hP hS (lv_sub hl [1, 0, 2, 3, 4, 5, 6] rfl)) ?_
  intro d12
  induction d12 with
  | zero =>
    intro k12 a12_6 H locs ls hk12 hP hS hl
    refine lv_iload hx hb dX11_pagesFrom_12 (lv_at hl 0 rfl) ?_
    refine lv_iload hx hb dX11_pagesFrom_14 (lv_at hl 6 rfl) ?_
    refine lv_icmp_ge (tgt := 59) hx hb dX11_pagesFrom_16 (by decide) (fun c4 => ?_) (fun c4 => ?_)
    ·
      have c4 : mo ≤ k12 := (nI_leI (a := mo) (b := k12) (by omega) (by omega)).mp c4
      refine lv_iload hx hb dX11_pagesFrom_59 (lv_at hl 0 rfl) ?_
      exact W.iret (v := nI k12) hx hb hr (fun t ht hW => ⟨⟨nI k12, (fun _ => 0), rfl, trivial, trivial⟩, hS.F ht⟩) hS.2.2 dX11_pagesFrom_61
    ·
      have c4 : ¬ mo ≤ k12 := fun h => c4 ((nI_leI (a := mo) (b := k12) (by omega) (by omega)).mpr h)
      omega
  | succ d12 ih12 =>
    intro k12 a12_6 H locs ls hk12 hP hS hl
    refine lv_iload hx hb dX11_pagesFrom_12 (lv_at hl 0 rfl) ?_
    refine lv_iload hx hb dX11_pagesFrom_14 (lv_at hl 6 rfl) ?_
    refine lv_icmp_ge (tgt := 59) hx hb dX11_pagesFrom_16 (by decide) (fun c5 => ?_) (fun c5 => ?_)
    ·
      have c5 : mo ≤ k12 := (nI_leI (a := mo) (b := k12) (by omega) (by omega)).mp c5
      omega
    ·
      have c5 : ¬ mo ≤ k12 := fun h => c5 ((nI_leI (a := mo) (b := k12) (by omega) (by omega)).mpr h)
      refine lv_iload hx hb dX11_pagesFrom_19 (lv_at hl 1 rfl) ?_
      refine lv_bipush (v := 50) hx hb dX11_pagesFrom_21 (by decide) ?_
      refine lv_icmp_gt (tgt := 59) hx hb dX11_pagesFrom_23 (by decide) (fun c6 => ?_) (fun c6 => ?_)
      ·
        refine lv_iload hx hb dX11_pagesFrom_59 (lv_at hl 0 rfl) ?_
        exact W.iret (v := nI k12) hx hb hr (fun t ht hW => ⟨⟨nI k12, (fun _ => 0), rfl, trivial, trivial⟩, hS.F ht⟩) hS.2.2 dX11_pagesFrom_61
      ·
        refine lv_aload_n hx hb dX11_pagesFrom_26 rfl (lv_at hl 2 rfl) ?_
        refine lv_aload_n hx hb dX11_pagesFrom_27 rfl (lv_at hl 2 rfl) ?_
        refine va_get (D := (dC, dI)) (ci := 11) (v := .ref m10) (C := RX11) (T := TX11) (N := 46) hx hb hts hi_X11 hown hK hP 0 rfl rfl 10 (by decide) (hts (.fieldLink RX11 28 "LeftQuillsModel" "now" "[I") (wmx 1 rfl)) (fun _ h9 => h9) e_h0_10 dX11_pagesFrom_28 ?_
        refine lv_bipush (v := 8) hx hb dX11_pagesFrom_31 (by decide) ?_
        refine lv_iload_n hx hb dX11_pagesFrom_33 rfl (lv_at hl 4 rfl) ?_
        refine lv_iadd hx hb dX11_pagesFrom_34 ?_
        refine lv_topi (fun z7 ez7 => ?_)
        obtain rfl : z7 = nI (8 + j) := ez7.trans (nI_add 8 j)
        refine va_iald hx hb hK hP 7 0 rfl rfl (vp_in_nI (n := 8 + j) (N := 34) (by omega) (by decide)) dX11_pagesFrom_35 ?_
        refine W.eq (g2 := F0 m 36 ls [.int (fm10 (8 + j)), .ref h0]) (congrArg (fun y9 => F0 m 36 ls (.int (fm10 y9) :: [.ref h0])) ((nI_clamp (n := 8 + j) (by omega)))) ?_
        refine lv_iload_n hx hb dX11_pagesFrom_36 rfl (lv_at hl 5 rfl) ?_
        have hPc := hP.sub (ws' := [(h0, .inr (11, f_h0)), (m9, .inl (cI, 4, .inl fm9))]) [0, 6] rfl
        refine va_calli (va_runV (As := [.int (fm10 (8 + j)), .int (nI k)]) (rest := []) ⟨hx, hb, hml, hown, hts⟩ (c_X11_suits l dC dI cI cZ cQ h0 m9 f_h0 fm9 (fm10 (8 + j)) k H.size e_h0_9 (by omega)) (cwV 2 hts gX11_pagesFrom_X11_suits rfl rfl rfl (by decide +kernel) ⟨Nat.le_of_ble_eq_true rfl, Nat.le_of_ble_eq_true rfl⟩) ⟨fun a U g mk q => by obtain ⟨q0, q1, qP, qK⟩ := q; exact ⟨q0, q1, qP, va_K.moved (u := U) (U := U.calling g mk a) (Vm.Alike.refl U.vm) qK⟩, va_recv hK hP (ci := 11) (q0 := 0) rfl rfl, fun U hU hW => ⟨rfl, by rw [hU], by rw [hU]; exact hPc, va_K.moved hW.alike hK⟩⟩ rfl rfl hl.1 rfl (lv_room (Nat.le_of_ble_eq_true rfl)) dX11_pagesFrom_37 ⟨Nat.le_of_ble_eq_true rfl, Nat.le_of_ble_eq_true rfl⟩) hS (fun q _ h => False.elim h) (fun q h => False.elim h) (fun r8 u9 t H1 locs ht hvm hw10 hB hz1 hk1 hS => ?_)
        have hP := hP.kept (fun k q hk => hk1 q.1 (hP k q hk).lt (fun h => h))
        clear hz1 hk1 hPc
        generalize H1 = H at hP hS ht ⊢
        try dsimp only at hw10
        rcases hw10 with rfl | rfl
        ·
          refine lv_if_eq (tgt := 59) hx hb dX11_pagesFrom_40 (by decide) (fun c11 => ?_) (fun c11 => ?_)
          · exact absurd c11 (by decide)
          clear c11
          refine lv_iinc (v := nI (k12 + 1)) (lv' := [(5, .int (nI (k12 + 1))), (6, .int a12_6), (0, .ref h0), (1, .int a0), (2, .int (nI j)), (3, .int (nI k)), (4, .int (nI mo))]) hx hb dX11_pagesFrom_43 hl (k := 0) rfl ((rfl : nI k12 + Int32.ofInt 1 = nI k12 + 1).trans (nI_add k12 1)) (by decide) rfl (fun ls hl => ?_)
          refine lv_aload_n hx hb dX11_pagesFrom_46 rfl (lv_at hl 2 rfl) ?_
          refine lv_iload hx hb dX11_pagesFrom_47 (lv_at hl 1 rfl) ?_
          refine lv_iload_n hx hb dX11_pagesFrom_49 rfl (lv_at hl 4 rfl) ?_
          refine lv_iload_n hx hb dX11_pagesFrom_50 rfl (lv_at hl 5 rfl) ?_
          have hPc := hP.sub (ws' := [(h0, .inr (11, f_h0)), (m3, .inl (cI, 8, .inl fm3)), (m4, .inl (cI, 8, .inl fm4)), (m5, .inl (cI, 8, .inl fm5)), (m7, .inl (cI, 4, .inl fm7)), (m8, .inl (cI, 4, .inl fm8))]) [0, 1, 2, 3, 4, 5] rfl
          refine va_calli (va_runV (As := [.int a12_6, .int (nI j), .int (nI k)]) (rest := []) ⟨hx, hb, hml, hown, hts⟩ (c_X11_softBehind l dC dI cI cZ cQ h0 m3 m4 m5 m7 m8 f_h0 fm3 fm4 fm5 fm7 fm8 a12_6 j k nq H.size e_h0_3 e_h0_4 e_h0_5 e_h0_7 e_h0_8 (by omega) (by first | assumption | decide) (by omega) (by omega)) (cwV 3 hts gX11_pagesFrom_X11_softBehind rfl rfl rfl (by decide +kernel) ⟨Nat.le_of_ble_eq_true rfl, Nat.le_of_ble_eq_true rfl⟩) ⟨fun a U g mk q => by obtain ⟨q0, q1, qP, qK⟩ := q; exact ⟨q0, q1, qP, va_K.moved (u := U) (U := U.calling g mk a) (Vm.Alike.refl U.vm) qK⟩, va_recv hK hP (ci := 11) (q0 := 0) rfl rfl, fun U hU hW => ⟨rfl, by rw [hU], by rw [hU]; exact hPc, va_K.moved hW.alike hK⟩⟩ rfl rfl hl.1 rfl (lv_room (Nat.le_of_ble_eq_true rfl)) dX11_pagesFrom_51 ⟨Nat.le_of_ble_eq_true rfl, Nat.le_of_ble_eq_true rfl⟩) hS (fun q _ h => False.elim h) (fun q h => False.elim h) (fun r12 u13 t H1 locs ht hvm hw14 hB hz1 hk1 hS => ?_)
          have hP := hP.kept (fun k q hk => hk1 q.1 (hP k q hk).lt (fun h => h))
          clear hz1 hk1 hPc
          generalize H1 = H at hP hS ht ⊢
          try dsimp only at hw14
          refine lv_istore (lv' := [(6, .int r12), (5, .int (nI (k12 + 1))), (0, .ref h0), (1, .int a0), (2, .int (nI j)), (3, .int (nI k)), (4, .int (nI mo))]) hx hb dX11_pagesFrom_54 hl (by decide) rfl (fun ls hl => ?_)
          refine lv_goto (tgt := 12) hx hb dX11_pagesFrom_56 (by decide) ?_
          exact ih12 (k12 + 1) r12 _ _ _ (by omega) hP hS (lv_sub hl [1, 0, 2, 3, 4, 5, 6] rfl)
        ·
          refine lv_if_eq (tgt := 59) hx hb dX11_pagesFrom_40 (by decide) (fun c15 => ?_) (fun c15 => ?_)
          rotate_left
          · exact absurd c15 (by decide)
          clear c15
          refine lv_iload hx hb dX11_pagesFrom_59 (lv_at hl 0 rfl) ?_
          exact W.iret (v := nI k12) hx hb hr (fun t ht hW => ⟨⟨nI k12, (fun _ => 0), rfl, trivial, trivial⟩, hS.F ht⟩) hS.2.2 dX11_pagesFrom_61
