set_option maxHeartbeats 4000000 in
set_option maxRecDepth 100000 in
theorem c_X11_doTurns (l : Launch) (dC : Nat → ClassId) (dI : Nat → Nat → Nat) (cI cZ cQ : ClassId) (h0 : Nat) (m3 : Nat) (m4 : Nat) (m5 : Nat) (m7 : Nat) (m8 : Nat) (m9 : Nat) (m10 : Nat) (m36 : Nat) (f_h0 : List Value) (fm3 : Nat → Int32) (fm4 : Nat → Int32) (fm5 : Nat → Int32) (fm7 : Nat → Int32) (fm8 : Nat → Int32) (fm9 : Nat → Int32) (fm10 : Nat → Int32) (fm36 : Nat → Int32) (j : Nat) (k : Nat) (mo : Nat) (nq : Nat) (sz : Nat) (e_h0_3 : f_h0[3]? = some (.ref m3)) (e_h0_4 : f_h0[4]? = some (.ref m4)) (e_h0_5 : f_h0[5]? = some (.ref m5)) (e_h0_7 : f_h0[7]? = some (.ref m7)) (e_h0_8 : f_h0[8]? = some (.ref m8)) (e_h0_9 : f_h0[9]? = some (.ref m9)) (e_h0_10 : f_h0[10]? = some (.ref m10)) (e_h0_36 : f_h0[36]? = some (.ref m36)) (hnq : nq ≤ 8) (hci : cIn fm5 nq) (hj : j < nq) (hk : k < 4) (hmo : mo ≤ 9) (hm1 : 1 ≤ mo) : Met l yX11_doTurns wsX11_doTurns ({ frames := 3, cells := 0, slots := 0, locals := 109 }) (va_Pc [.ref h0, .int (nI j), .int (nI k), .int (nI mo)] (fun U => U.heap.size = sz ∧ va_P (dC, dI) vwCl [(h0, .inr (11, f_h0)), (m3, .inl (cI, 8, .inl fm3)), (m4, .inl (cI, 8, .inl fm4)), (m5, .inl (cI, 8, .inl fm5)), (m7, .inl (cI, 4, .inl fm7)), (m8, .inl (cI, 4, .inl fm8)), (m9, .inl (cI, 4, .inl fm9)), (m10, .inl (cI, 34, .inl fm10)), (m36, .inl (cI, 9, .inl fm36))] U.heap ∧ va_K (dC, dI) vwCl (tys0 cI cZ cQ) U ∧ va_D (fun _ => True) [(h0, .inr (11, f_h0)), (m3, .inl (cI, 8, .inl fm3)), (m4, .inl (cI, 8, .inl fm4)), (m5, .inl (cI, 8, .inl fm5)), (m7, .inl (cI, 4, .inl fm7)), (m8, .inl (cI, 4, .inl fm8)), (m9, .inl (cI, 4, .inl fm9)), (m10, .inl (cI, 34, .inl fm10)), (m36, .inl (cI, 9, .inl fm36))])) (va_Qi (fun (r : Int32) (u : Nat → Nat) => r = 1 ∨ r = 0) (fun (_ : Nat → Nat) (t : State) => ∃ (gg0 : Nat → Int32) , va_P (dC, dI) vwCl [(h0, .inr (11, f_h0)), (m3, .inl (cI, 8, .inl fm3)), (m4, .inl (cI, 8, .inl fm4)), (m5, .inl (cI, 8, .inl fm5)), (m7, .inl (cI, 4, .inl fm7)), (m8, .inl (cI, 4, .inl fm8)), (m9, .inl (cI, 4, .inl fm9)), (m10, .inl (cI, 34, .inl fm10)), (m36, .inl (cI, 9, .inl gg0))] t.heap ∧ va_D (va_A [(h0, .inr (11, f_h0)), (m3, .inl (cI, 8, .inl fm3)), (m4, .inl (cI, 8, .inl fm4)), (m5, .inl (cI, 8, .inl fm5)), (m7, .inl (cI, 4, .inl fm7)), (m8, .inl (cI, 4, .inl fm8)), (m9, .inl (cI, 4, .inl fm9)), (m10, .inl (cI, 34, .inl fm10)), (m36, .inl (cI, 9, .inl fm36))] sz) [(h0, .inr (11, f_h0)), (m3, .inl (cI, 8, .inl fm3)), (m4, .inl (cI, 8, .inl fm4)), (m5, .inl (cI, 8, .inl fm5)), (m7, .inl (cI, 4, .inl fm7)), (m8, .inl (cI, 4, .inl fm8)), (m9, .inl (cI, 4, .inl fm9)), (m10, .inl (cI, 34, .inl fm10)), (m36, .inl (cI, 9, .inl gg0))]) (va_A [(h0, .inr (11, f_h0)), (m3, .inl (cI, 8, .inl fm3)), (m4, .inl (cI, 8, .inl fm4)), (m5, .inl (cI, 8, .inl fm5)), (m7, .inl (cI, 4, .inl fm7)), (m8, .inl (cI, 4, .inl fm8)), (m9, .inl (cI, 4, .inl fm9)), (m10, .inl (cI, 34, .inl fm10)), (m36, .inl (cI, 9, .inl fm36))] sz)) 0 0 (va_A [(h0, .inr (11, f_h0)), (m3, .inl (cI, 8, .inl fm3)), (m4, .inl (cI, 8, .inl fm4)), (m5, .inl (cI, 8, .inl fm5)), (m7, .inl (cI, 4, .inl fm7)), (m8, .inl (cI, 4, .inl fm8)), (m9, .inl (cI, 4, .inl fm9)), (m10, .inl (cI, 34, .inl fm10)), (m36, .inl (cI, 9, .inl fm36))] sz) := by
  refine Met.ofW (cc := cX11_doTurns) (maxL := 7) (ret := (some .boolean)) (by decide) rfl ?_
  intro p e s m args below meth c s₁ B hml hv
  obtain ⟨rfl, hsz, hP, hK, hD0⟩ := hv
  have hx := B.exec
  have hb := B.bytes
  have hr := B.returns
  have hts := atoms_spec (ws := wsX11_doTurns) B.pre
  have hown : s.vm.findClass RX11 = some m.cls := findClass_of_methodNamed B.named
  have hlocks := B.notSynchronized
  have hi_X11 : ∀ w ∈ u_ws RX11 TX11 46, w ∈ wsX11_doTurns := fun _ h => List.mem_cons_of_mem _ (List.mem_append_right _ (h))
  subst hsz
  have hD := hD0.self (sz := s.heap.size)
  generalize hAe : va_A [(h0, .inr (11, f_h0)), (m3, .inl (cI, 8, .inl fm3)), (m4, .inl (cI, 8, .inl fm4)), (m5, .inl (cI, 8, .inl fm5)), (m7, .inl (cI, 4, .inl fm7)), (m8, .inl (cI, 4, .inl fm8)), (m9, .inl (cI, 4, .inl fm9)), (m10, .inl (cI, 34, .inl fm10)), (m36, .inl (cI, 9, .inl fm36))] s.heap.size = A at hD ⊢
  have hA : ∀ q : Nat, s.heap.size ≤ q → A q := fun q h => by rw [← hAe]; exact Or.inr h
  have hS : va_S A s.heap s.heap [] := va_S.rf
  have hl := lv_entry ([.ref h0, .int (nI j), .int (nI k), .int (nI mo)]) (n := 7) (Nat.le_of_ble_eq_true rfl)
  rw [lg_entry_eq]
  generalize (lg_sl ([.ref h0, .int (nI j), .int (nI k), .int (nI mo)]) ++ List.replicate (7 - (lg_sl ([.ref h0, .int (nI j), .int (nI k), .int (nI mo)])).length) Slot.unset).toArray = ls at hl ⊢
  have hl : lv_has ls 7 [(0, .ref h0), (1, .int (nI j)), (2, .int (nI k)), (3, .int (nI mo))] := hl
  refine lv_iconst (v := 0) hx hb dX11_doTurns_0 (by decide) ?_
  refine lv_istore (lv' := [(4, .int 0), (0, .ref h0), (1, .int (nI j)), (2, .int (nI k)), (3, .int (nI mo))]) hx hb dX11_doTurns_1 hl (by decide) rfl (fun ls hl => ?_)
  refine (fun (K : ∀ (d3 : Nat) (k3 : Nat) (f3_m36 : Nat → Int32) (H : Heap) (locs : List Loc) (ls : Array Slot), k3 + d3 = mo → va_P (dC, dI) vwCl [(h0, .inr (11, f_h0)), (m3, .inl (cI, 8, .inl fm3)), (m4, .inl (cI, 8, .inl fm4)), (m5, .inl (cI, 8, .inl fm5)), (m7, .inl (cI, 4, .inl fm7)), (m8, .inl (cI, 4, .inl fm8)), (m9, .inl (cI, 4, .inl fm9)), (m10, .inl (cI, 34, .inl fm10)), (m36, .inl (cI, 9, .inl f3_m36))] H → va_D A [(h0, .inr (11, f_h0)), (m3, .inl (cI, 8, .inl fm3)), (m4, .inl (cI, 8, .inl fm4)), (m5, .inl (cI, 8, .inl fm5)), (m7, .inl (cI, 4, .inl fm7)), (m8, .inl (cI, 4, .inl fm8)), (m9, .inl (cI, 4, .inl fm9)), (m10, .inl (cI, 34, .inl fm10)), (m36, .inl (cI, 9, .inl f3_m36))] → va_S A s.heap H locs → lv_has ls 7 [(4, .int (nI k3)), (0, .ref h0), (1, .int (nI j)), (2, .int (nI k)), (3, .int (nI mo))] → W p l e _ s m _ below meth c H locs _ _ _ (F0 m 3 ls [])) => K mo 0 fm36 _ _ _ (by omega) hP hD hS (lv_sub hl [0, 1, 2, 3, 4] rfl)) ?_
  intro d3
  induction d3 with
  | zero =>
    intro k3 f3_m36 H locs ls hk3 hP hD hS hl
    refine lv_iload hx hb dX11_doTurns_3 (lv_at hl 0 rfl) ?_
    refine lv_iload_n hx hb dX11_doTurns_5 rfl (lv_at hl 4 rfl) ?_
    refine lv_icmp_ge (tgt := 31) hx hb dX11_doTurns_6 (by decide) (fun c1 => ?_) (fun c1 => ?_)
    ·
      have c1 : mo ≤ k3 := (nI_leI (a := mo) (b := k3) (by omega) (by omega)).mp c1
      refine lv_aload_n hx hb dX11_doTurns_31 rfl (lv_at hl 1 rfl) ?_
      refine lv_aload_n hx hb dX11_doTurns_32 rfl (lv_at hl 1 rfl) ?_
      refine va_get (D := (dC, dI)) (ci := 11) (v := .ref m10) (C := RX11) (T := TX11) (N := 46) hx hb hts hi_X11 hown hK hP 0 rfl rfl 10 (by decide) (hts (.fieldLink RX11 28 "LeftQuillsModel" "now" "[I") (wmx 2 rfl)) (fun _ h9 => h9) e_h0_10 dX11_doTurns_33 ?_
      refine lv_bipush (v := 8) hx hb dX11_doTurns_36 (by decide) ?_
      refine lv_iload_n hx hb dX11_doTurns_38 rfl (lv_at hl 2 rfl) ?_
      refine lv_iadd hx hb dX11_doTurns_39 ?_
      refine lv_topi (fun z2 ez2 => ?_)
      obtain rfl : z2 = nI (8 + j) := ez2.trans (nI_add 8 j)
      refine va_iald hx hb hK hP 7 0 rfl rfl (vp_in_nI (n := 8 + j) (N := 34) (by omega) (by decide)) dX11_doTurns_40 ?_
      refine W.eq (g2 := F0 m 41 ls [.int (fm10 (8 + j)), .ref h0]) (congrArg (fun y9 => F0 m 41 ls (.int (fm10 y9) :: [.ref h0])) ((nI_clamp (n := 8 + j) (by omega)))) ?_
      refine lv_iload_n hx hb dX11_doTurns_41 rfl (lv_at hl 3 rfl) ?_
      have hPc := hP.sub (ws' := [(h0, .inr (11, f_h0)), (m9, .inl (cI, 4, .inl fm9))]) [0, 6] rfl
      refine va_calli (va_runV (As := [.int (fm10 (8 + j)), .int (nI k)]) (rest := []) ⟨hx, hb, hml, hown, hts⟩ (c_X11_suits l dC dI cI cZ cQ h0 m9 f_h0 fm9 (fm10 (8 + j)) k H.size e_h0_9 (by omega)) (cwV 2 hts gX11_doTurns_X11_suits rfl rfl rfl (by decide +kernel) ⟨Nat.le_of_ble_eq_true rfl, Nat.le_of_ble_eq_true rfl⟩) ⟨fun a U g mk q => by obtain ⟨q0, q1, qP, qK⟩ := q; exact ⟨q0, q1, qP, va_K.moved (u := U) (U := U.calling g mk a) (Vm.Alike.refl U.vm) qK⟩, va_recv hK hP (ci := 11) (q0 := 0) rfl rfl, fun U hU hW => ⟨rfl, by rw [hU], by rw [hU]; exact hPc, va_K.moved hW.alike hK⟩⟩ rfl rfl hl.1 rfl (lv_room (Nat.le_of_ble_eq_true rfl)) dX11_doTurns_42 ⟨Nat.le_of_ble_eq_true rfl, Nat.le_of_ble_eq_true rfl⟩) hS (fun q _ h => False.elim h) (fun q h => False.elim h) (fun r3 u4 t H1 locs ht hvm hw5 hB hz1 hk1 hS => ?_)
      have hP := hP.kept (fun k q hk => hk1 q.1 (hP k q hk).lt (fun h => h))
      clear hz1 hk1 hPc
      generalize H1 = H at hP hS ht ⊢
      try dsimp only at hw5
      rcases hw5 with rfl | rfl
      ·
        refine lv_istore (lv' := [(4, .int 1), (0, .ref h0), (1, .int (nI j)), (2, .int (nI k)), (3, .int (nI mo))]) hx hb dX11_doTurns_45 hl (by decide) rfl (fun ls hl => ?_)
        refine lv_iconst (v := 0) hx hb dX11_doTurns_47 (by decide) ?_
        refine lv_istore (lv' := [(5, .int 0), (4, .int 1), (0, .ref h0), (1, .int (nI j)), (2, .int (nI k)), (3, .int (nI mo))]) hx hb dX11_doTurns_48 hl (by decide) rfl (fun ls hl => ?_)
        refine (fun (K : ∀ (d50 : Nat) (k50 : Nat) (a50_4 : Nat) (f50_m36 : Nat → Int32) (H : Heap) (locs : List Loc) (ls : Array Slot), k50 + d50 = 20 → a50_4 ≤ 1 → va_P (dC, dI) vwCl [(h0, .inr (11, f_h0)), (m3, .inl (cI, 8, .inl fm3)), (m4, .inl (cI, 8, .inl fm4)), (m5, .inl (cI, 8, .inl fm5)), (m7, .inl (cI, 4, .inl fm7)), (m8, .inl (cI, 4, .inl fm8)), (m9, .inl (cI, 4, .inl fm9)), (m10, .inl (cI, 34, .inl fm10)), (m36, .inl (cI, 9, .inl f50_m36))] H → va_D A [(h0, .inr (11, f_h0)), (m3, .inl (cI, 8, .inl fm3)), (m4, .inl (cI, 8, .inl fm4)), (m5, .inl (cI, 8, .inl fm5)), (m7, .inl (cI, 4, .inl fm7)), (m8, .inl (cI, 4, .inl fm8)), (m9, .inl (cI, 4, .inl fm9)), (m10, .inl (cI, 34, .inl fm10)), (m36, .inl (cI, 9, .inl f50_m36))] → va_S A s.heap H locs → lv_has ls 7 [(5, .int (nI k50)), (4, .int (nI a50_4)), (0, .ref h0), (1, .int (nI j)), (2, .int (nI k)), (3, .int (nI mo))] → W p l e _ s m _ below meth c H locs _ _ _ (F0 m 50 ls [])) => K 20 0 1 f3_m36 _ _ _ (by omega) (by omega) hP hD hS (lv_sub hl [0, 1, 2, 3, 4, 5] rfl)) ?_
        intro d50
        induction d50 with
        | zero =>
          intro k50 a50_4 f50_m36 H locs ls hk50 hn50_4 hP hD hS hl
          refine lv_iload hx hb dX11_doTurns_50 (lv_at hl 0 rfl) ?_
          refine lv_bipush (v := 20) hx hb dX11_doTurns_52 (by decide) ?_
          refine lv_icmp_ge (tgt := 147) hx hb dX11_doTurns_54 (by decide) (fun c6 => ?_) (fun c6 => ?_)
          ·
            have c6 : 20 ≤ k50 := (nI_leI (a := 20) (b := k50) (by omega) (by omega)).mp c6
            refine lv_iload hx hb dX11_doTurns_147 (lv_at hl 1 rfl) ?_
            have hP9 := hP.sub (ws' := [(h0, .inr (11, f_h0)), (m3, .inl (cI, 8, .inl fm3)), (m4, .inl (cI, 8, .inl fm4)), (m5, .inl (cI, 8, .inl fm5)), (m7, .inl (cI, 4, .inl fm7)), (m8, .inl (cI, 4, .inl fm8)), (m9, .inl (cI, 4, .inl fm9)), (m10, .inl (cI, 34, .inl fm10)), (m36, .inl (cI, 9, .inl f50_m36))]) [0, 1, 2, 3, 4, 5, 6, 7, 8] rfl
            have hD9 := hD.sub (ws' := [(h0, .inr (11, f_h0)), (m3, .inl (cI, 8, .inl fm3)), (m4, .inl (cI, 8, .inl fm4)), (m5, .inl (cI, 8, .inl fm5)), (m7, .inl (cI, 4, .inl fm7)), (m8, .inl (cI, 4, .inl fm8)), (m9, .inl (cI, 4, .inl fm9)), (m10, .inl (cI, 34, .inl fm10)), (m36, .inl (cI, 9, .inl f50_m36))]) [0, 1, 2, 3, 4, 5, 6, 7, 8] (by decide +kernel) rfl
            exact W.zret (v := nI a50_4) hx hb hr ((x_fitsZ (n := a50_4) (by omega)).1) (fun t ht hW => ⟨⟨nI a50_4, (fun _ => 0), rfl, x_b01 (n := a50_4) (by omega), ⟨f50_m36, by rw [ht]; exact hP9, hD9⟩⟩, hS.F ht⟩) hS.2.2 dX11_doTurns_149
          ·
            have c6 : ¬ 20 ≤ k50 := fun h => c6 ((nI_leI (a := 20) (b := k50) (by omega) (by omega)).mpr h)
            omega
        | succ d50 ih50 =>
          intro k50 a50_4 f50_m36 H locs ls hk50 hn50_4 hP hD hS hl
          refine lv_iload hx hb dX11_doTurns_50 (lv_at hl 0 rfl) ?_
          refine lv_bipush (v := 20) hx hb dX11_doTurns_52 (by decide) ?_
          refine lv_icmp_ge (tgt := 147) hx hb dX11_doTurns_54 (by decide) (fun c7 => ?_) (fun c7 => ?_)
          ·
            have c7 : 20 ≤ k50 := (nI_leI (a := 20) (b := k50) (by omega) (by omega)).mp c7
            omega
          ·
            have c7 : ¬ 20 ≤ k50 := fun h => c7 ((nI_leI (a := 20) (b := k50) (by omega) (by omega)).mpr h)
            refine lv_iconst (v := 0) hx hb dX11_doTurns_57 (by decide) ?_
            refine lv_istore (lv' := [(6, .int 0), (5, .int (nI k50)), (4, .int (nI a50_4)), (0, .ref h0), (1, .int (nI j)), (2, .int (nI k)), (3, .int (nI mo))]) hx hb dX11_doTurns_58 hl (by decide) rfl (fun ls hl => ?_)
            refine (fun (K : ∀ (d60 : Nat) (k60 : Nat) (f60_m36 : Nat → Int32) (H : Heap) (locs : List Loc) (ls : Array Slot), k60 + d60 = mo → va_P (dC, dI) vwCl [(h0, .inr (11, f_h0)), (m3, .inl (cI, 8, .inl fm3)), (m4, .inl (cI, 8, .inl fm4)), (m5, .inl (cI, 8, .inl fm5)), (m7, .inl (cI, 4, .inl fm7)), (m8, .inl (cI, 4, .inl fm8)), (m9, .inl (cI, 4, .inl fm9)), (m10, .inl (cI, 34, .inl fm10)), (m36, .inl (cI, 9, .inl f60_m36))] H → va_D A [(h0, .inr (11, f_h0)), (m3, .inl (cI, 8, .inl fm3)), (m4, .inl (cI, 8, .inl fm4)), (m5, .inl (cI, 8, .inl fm5)), (m7, .inl (cI, 4, .inl fm7)), (m8, .inl (cI, 4, .inl fm8)), (m9, .inl (cI, 4, .inl fm9)), (m10, .inl (cI, 34, .inl fm10)), (m36, .inl (cI, 9, .inl f60_m36))] → va_S A s.heap H locs → lv_has ls 7 [(6, .int (nI k60)), (5, .int (nI k50)), (4, .int (nI a50_4)), (0, .ref h0), (1, .int (nI j)), (2, .int (nI k)), (3, .int (nI mo))] → W p l e _ s m _ below meth c H locs _ _ _ (F0 m 60 ls [])) => K mo 0 f50_m36 _ _ _ (by omega) hP hD hS (lv_sub hl [0, 1, 2, 3, 4, 5, 6] rfl)) ?_
            intro d60
            induction d60 with
            | zero =>
              intro k60 f60_m36 H locs ls hk60 hP hD hS hl
              refine lv_iload hx hb dX11_doTurns_60 (lv_at hl 0 rfl) ?_
              refine lv_iload_n hx hb dX11_doTurns_62 rfl (lv_at hl 6 rfl) ?_
              refine lv_icmp_ge (tgt := 115) hx hb dX11_doTurns_63 (by decide) (fun c8 => ?_) (fun c8 => ?_)
              ·
                have c8 : mo ≤ k60 := (nI_leI (a := mo) (b := k60) (by omega) (by omega)).mp c8
                refine lv_iload hx hb dX11_doTurns_115 (lv_at hl 2 rfl) ?_
                refine lv_if_eq (tgt := 138) hx hb dX11_doTurns_117 (by decide) (fun c9 => ?_) (fun c9 => ?_)
                ·
                  have c9 : a50_4 = 0 := (nI_eq (a := a50_4) (b := 0) (by omega) (by omega)).mp c9
                  refine lv_iconst (v := 0) hx hb dX11_doTurns_138 (by decide) ?_
                  refine lv_istore (lv' := [(4, .int 0), (6, .int (nI k60)), (5, .int (nI k50)), (0, .ref h0), (1, .int (nI j)), (2, .int (nI k)), (3, .int (nI mo))]) hx hb dX11_doTurns_139 hl (by decide) rfl (fun ls hl => ?_)
                  refine lv_iinc (v := nI (k50 + 1)) (lv' := [(5, .int (nI (k50 + 1))), (4, .int 0), (6, .int (nI k60)), (0, .ref h0), (1, .int (nI j)), (2, .int (nI k)), (3, .int (nI mo))]) hx hb dX11_doTurns_141 hl (k := 2) rfl ((rfl : nI k50 + Int32.ofInt 1 = nI k50 + 1).trans (nI_add k50 1)) (by decide) rfl (fun ls hl => ?_)
                  refine lv_goto (tgt := 50) hx hb dX11_doTurns_144 (by decide) ?_
                  exact ih50 (k50 + 1) 0 f60_m36 _ _ _ (by omega) (by omega) hP hD hS (lv_sub hl [0, 1, 3, 4, 5, 6] rfl)
                ·
                  have c9 : ¬ a50_4 = 0 := fun h => c9 ((nI_eq (a := a50_4) (b := 0) (by omega) (by omega)).mpr h)
                  refine lv_aload_n hx hb dX11_doTurns_120 rfl (lv_at hl 3 rfl) ?_
                  refine va_get (D := (dC, dI)) (ci := 11) (v := .ref m36) (C := RX11) (T := TX11) (N := 46) hx hb hts hi_X11 hown hK hP 0 rfl rfl 36 (by decide) (hts (.fieldLink RX11 71 "LeftQuillsModel" "softs" "[I") (wmx 1 rfl)) (fun _ h9 => h9) e_h0_36 dX11_doTurns_121 ?_
                  refine lv_iload hx hb dX11_doTurns_124 (lv_at hl 1 rfl) ?_
                  refine lv_iload_n hx hb dX11_doTurns_126 rfl (lv_at hl 6 rfl) ?_
                  refine lv_irem hx hb dX11_doTurns_127 (nI_ne0 (n := mo) (by omega) (by omega)) ?_
                  refine lv_topi (fun z10 ez10 => ?_)
                  obtain ⟨w11, hw11, ew11⟩ : ∃ y : Nat, y < mo ∧ y = k50 % mo := ⟨_, Nat.mod_lt _ (by omega), rfl⟩
                  obtain rfl : z10 = nI w11 := by rw [ew11]; exact ez10.trans (pk_rem (a := k50) (d := mo) (by omega) (by omega) (by omega))
                  refine va_iald hx hb hK hP 8 0 rfl rfl (vp_in_nI (n := w11) (N := 9) (by omega) (by decide)) dX11_doTurns_128 ?_
                  refine W.eq (g2 := F0 m 129 ls [.int (f60_m36 w11)]) (congrArg (fun y9 => F0 m 129 ls (.int (f60_m36 y9) :: [])) ((nI_clamp (n := w11) (by omega)))) ?_
                  refine lv_bipush (v := 50) hx hb dX11_doTurns_129 (by decide) ?_
                  refine lv_icmp_gt (tgt := 138) hx hb dX11_doTurns_131 (by decide) (fun c12 => ?_) (fun c12 => ?_)
                  ·
                    refine lv_iconst (v := 0) hx hb dX11_doTurns_138 (by decide) ?_
                    refine lv_istore (lv' := [(4, .int 0), (6, .int (nI k60)), (5, .int (nI k50)), (0, .ref h0), (1, .int (nI j)), (2, .int (nI k)), (3, .int (nI mo))]) hx hb dX11_doTurns_139 hl (by decide) rfl (fun ls hl => ?_)
                    refine lv_iinc (v := nI (k50 + 1)) (lv' := [(5, .int (nI (k50 + 1))), (4, .int 0), (6, .int (nI k60)), (0, .ref h0), (1, .int (nI j)), (2, .int (nI k)), (3, .int (nI mo))]) hx hb dX11_doTurns_141 hl (k := 2) rfl ((rfl : nI k50 + Int32.ofInt 1 = nI k50 + 1).trans (nI_add k50 1)) (by decide) rfl (fun ls hl => ?_)
                    refine lv_goto (tgt := 50) hx hb dX11_doTurns_144 (by decide) ?_
                    exact ih50 (k50 + 1) 0 f60_m36 _ _ _ (by omega) (by omega) hP hD hS (lv_sub hl [0, 1, 3, 4, 5, 6] rfl)
                  ·
                    refine lv_iconst (v := 1) hx hb dX11_doTurns_134 (by decide) ?_
                    refine lv_goto (tgt := 139) hx hb dX11_doTurns_135 (by decide) ?_
                    refine lv_istore (lv' := [(4, .int 1), (6, .int (nI k60)), (5, .int (nI k50)), (0, .ref h0), (1, .int (nI j)), (2, .int (nI k)), (3, .int (nI mo))]) hx hb dX11_doTurns_139 hl (by decide) rfl (fun ls hl => ?_)
                    refine lv_iinc (v := nI (k50 + 1)) (lv' := [(5, .int (nI (k50 + 1))), (4, .int 1), (6, .int (nI k60)), (0, .ref h0), (1, .int (nI j)), (2, .int (nI k)), (3, .int (nI mo))]) hx hb dX11_doTurns_141 hl (k := 2) rfl ((rfl : nI k50 + Int32.ofInt 1 = nI k50 + 1).trans (nI_add k50 1)) (by decide) rfl (fun ls hl => ?_)
                    refine lv_goto (tgt := 50) hx hb dX11_doTurns_144 (by decide) ?_
                    exact ih50 (k50 + 1) 1 f60_m36 _ _ _ (by omega) (by omega) hP hD hS (lv_sub hl [0, 1, 3, 4, 5, 6] rfl)
              ·
                have c8 : ¬ mo ≤ k60 := fun h => c8 ((nI_leI (a := mo) (b := k60) (by omega) (by omega)).mpr h)
                omega
            | succ d60 ih60 =>
              intro k60 f60_m36 H locs ls hk60 hP hD hS hl
              refine lv_iload hx hb dX11_doTurns_60 (lv_at hl 0 rfl) ?_
              refine lv_iload_n hx hb dX11_doTurns_62 rfl (lv_at hl 6 rfl) ?_
              refine lv_icmp_ge (tgt := 115) hx hb dX11_doTurns_63 (by decide) (fun c13 => ?_) (fun c13 => ?_)
              ·
                have c13 : mo ≤ k60 := (nI_leI (a := mo) (b := k60) (by omega) (by omega)).mp c13
                omega
              ·
                have c13 : ¬ mo ≤ k60 := fun h => c13 ((nI_leI (a := mo) (b := k60) (by omega) (by omega)).mpr h)
                refine lv_aload_n hx hb dX11_doTurns_66 rfl (lv_at hl 3 rfl) ?_
                refine va_get (D := (dC, dI)) (ci := 11) (v := .ref m36) (C := RX11) (T := TX11) (N := 46) hx hb hts hi_X11 hown hK hP 0 rfl rfl 36 (by decide) (hts (.fieldLink RX11 71 "LeftQuillsModel" "softs" "[I") (wmx 1 rfl)) (fun _ h9 => h9) e_h0_36 dX11_doTurns_67 ?_
                refine lv_iload hx hb dX11_doTurns_70 (lv_at hl 0 rfl) ?_
                refine lv_iload hx hb dX11_doTurns_72 (lv_at hl 0 rfl) ?_
                refine lv_iload hx hb dX11_doTurns_74 (lv_at hl 1 rfl) ?_
                refine lv_iload_n hx hb dX11_doTurns_76 rfl (lv_at hl 6 rfl) ?_
                refine lv_irem hx hb dX11_doTurns_77 (nI_ne0 (n := mo) (by omega) (by omega)) ?_
                refine lv_topi (fun z14 ez14 => ?_)
                obtain ⟨w15, hw15, ew15⟩ : ∃ y : Nat, y < mo ∧ y = k50 % mo := ⟨_, Nat.mod_lt _ (by omega), rfl⟩
                obtain rfl : z14 = nI w15 := by rw [ew15]; exact ez14.trans (pk_rem (a := k50) (d := mo) (by omega) (by omega) (by omega))
                refine lv_icmp_ne (tgt := 97) hx hb dX11_doTurns_78 (by decide) (fun c16 => ?_) (fun c16 => ?_)
                ·
                  have c16 : ¬ k60 = w15 := fun h => c16 ((nI_eq (a := k60) (b := w15) (by omega) (by omega)).mpr h)
                  refine lv_aload_n hx hb dX11_doTurns_97 rfl (lv_at hl 3 rfl) ?_
                  refine va_get (D := (dC, dI)) (ci := 11) (v := .ref m36) (C := RX11) (T := TX11) (N := 46) hx hb hts hi_X11 hown hK hP 0 rfl rfl 36 (by decide) (hts (.fieldLink RX11 71 "LeftQuillsModel" "softs" "[I") (wmx 1 rfl)) (fun _ h9 => h9) e_h0_36 dX11_doTurns_98 ?_
                  refine lv_iload hx hb dX11_doTurns_101 (lv_at hl 0 rfl) ?_
                  refine va_iald hx hb hK hP 8 0 rfl rfl (vp_in_nI (n := k60) (N := 9) (by omega) (by decide)) dX11_doTurns_103 ?_
                  refine W.eq (g2 := F0 m 104 ls [.int (f60_m36 k60), .int (nI k60), .ref m36]) (congrArg (fun y9 => F0 m 104 ls (.int (f60_m36 y9) :: [.int (nI k60), .ref m36])) ((nI_clamp (n := k60) (by omega)))) ?_
                  refine lv_iconst (v := 1) hx hb dX11_doTurns_104 (by decide) ?_
                  have hPc := hP.sub (ws' := []) [] rfl
                  refine va_calli (va_runS (As := [.int (f60_m36 k60), .int 1]) (rest := [.int (nI k60), .ref m36]) ⟨hx, hb, hml, hown, hts⟩ (c_X11_driedBy l dC dI cI cZ cQ (f60_m36 k60) 1 H.size ) (va_cwS 2 hts gX11_doTurns_X11_driedBy rfl rfl rfl (by decide +kernel) ⟨Nat.le_of_ble_eq_true rfl, Nat.le_of_ble_eq_true rfl⟩) ⟨fun a U g mk q => by obtain ⟨q0, q1, qP, qK⟩ := q; exact ⟨q0, q1, qP, va_K.moved (u := U) (U := U.calling g mk a) (Vm.Alike.refl U.vm) qK⟩, fun U hU hW => ⟨rfl, by rw [hU], by rw [hU]; exact hPc, va_K.moved hW.alike hK⟩⟩ rfl rfl hl.1 rfl (lv_room (Nat.le_of_ble_eq_true rfl)) dX11_doTurns_105 ⟨Nat.le_of_ble_eq_true rfl, Nat.le_of_ble_eq_true rfl⟩) hS (fun q _ h => False.elim h) (fun q h => False.elim h) (fun r17 u18 t H1 locs ht hvm hw19 hB hz1 hk1 hS => ?_)
                  have hP := hP.kept (fun k q hk => hk1 q.1 (hP k q hk).lt (fun h => h))
                  clear hz1 hk1 hPc
                  generalize H1 = H at hP hS ht ⊢
                  try dsimp only at hw19
                  refine va_iast hx hb hK hP hD hS 8 0 rfl rfl (vp_in_nI (n := k60) (N := 9) (by omega) (by decide)) dX11_doTurns_108 (fun H locs hP hD hS => ?_)
                  generalize hgf20 : upd f60_m36 ((nI k60).toNatClampNeg) r17 = f20 at hP hD
                  have hP : va_P (dC, dI) vwCl [(h0, .inr (11, f_h0)), (m3, .inl (cI, 8, .inl fm3)), (m4, .inl (cI, 8, .inl fm4)), (m5, .inl (cI, 8, .inl fm5)), (m7, .inl (cI, 4, .inl fm7)), (m8, .inl (cI, 4, .inl fm8)), (m9, .inl (cI, 4, .inl fm9)), (m10, .inl (cI, 34, .inl fm10)), (m36, .inl (cI, 9, .inl f20))] H := hP
                  have hD : va_D A [(h0, .inr (11, f_h0)), (m3, .inl (cI, 8, .inl fm3)), (m4, .inl (cI, 8, .inl fm4)), (m5, .inl (cI, 8, .inl fm5)), (m7, .inl (cI, 4, .inl fm7)), (m8, .inl (cI, 4, .inl fm8)), (m9, .inl (cI, 4, .inl fm9)), (m10, .inl (cI, 34, .inl fm10)), (m36, .inl (cI, 9, .inl f20))] := hD
                  refine lv_iinc (v := nI (k60 + 1)) (lv' := [(6, .int (nI (k60 + 1))), (5, .int (nI k50)), (4, .int (nI a50_4)), (0, .ref h0), (1, .int (nI j)), (2, .int (nI k)), (3, .int (nI mo))]) hx hb dX11_doTurns_109 hl (k := 0) rfl ((rfl : nI k60 + Int32.ofInt 1 = nI k60 + 1).trans (nI_add k60 1)) (by decide) rfl (fun ls hl => ?_)
                  refine lv_goto (tgt := 60) hx hb dX11_doTurns_112 (by decide) ?_
                  exact ih60 (k60 + 1) f20 _ _ _ (by omega) hP hD hS (lv_sub hl [0, 1, 2, 3, 4, 5, 6] rfl)
                ·
                  have c16 : k60 = w15 := (nI_eq (a := k60) (b := w15) (by omega) (by omega)).mp c16
                  refine lv_aload_n hx hb dX11_doTurns_81 rfl (lv_at hl 3 rfl) ?_
                  refine lv_aload_n hx hb dX11_doTurns_82 rfl (lv_at hl 3 rfl) ?_
                  refine va_get (D := (dC, dI)) (ci := 11) (v := .ref m36) (C := RX11) (T := TX11) (N := 46) hx hb hts hi_X11 hown hK hP 0 rfl rfl 36 (by decide) (hts (.fieldLink RX11 71 "LeftQuillsModel" "softs" "[I") (wmx 1 rfl)) (fun _ h9 => h9) e_h0_36 dX11_doTurns_83 ?_
                  refine lv_iload hx hb dX11_doTurns_86 (lv_at hl 0 rfl) ?_
                  refine va_iald hx hb hK hP 8 0 rfl rfl (vp_in_nI (n := k60) (N := 9) (by omega) (by decide)) dX11_doTurns_88 ?_
                  refine W.eq (g2 := F0 m 89 ls [.int (f60_m36 k60), .ref h0, .int (nI k60), .ref m36]) (congrArg (fun y9 => F0 m 89 ls (.int (f60_m36 y9) :: [.ref h0, .int (nI k60), .ref m36])) ((nI_clamp (n := k60) (by omega)))) ?_
                  refine lv_iload_n hx hb dX11_doTurns_89 rfl (lv_at hl 4 rfl) ?_
                  refine lv_iload_n hx hb dX11_doTurns_90 rfl (lv_at hl 5 rfl) ?_
                  have hPc := hP.sub (ws' := [(h0, .inr (11, f_h0)), (m3, .inl (cI, 8, .inl fm3)), (m4, .inl (cI, 8, .inl fm4)), (m5, .inl (cI, 8, .inl fm5)), (m7, .inl (cI, 4, .inl fm7)), (m8, .inl (cI, 4, .inl fm8))]) [0, 1, 2, 3, 4, 5] rfl
                  refine va_calli (va_runV (As := [.int (f60_m36 k60), .int (nI j), .int (nI k)]) (rest := [.int (nI k60), .ref m36]) ⟨hx, hb, hml, hown, hts⟩ (c_X11_softBehind l dC dI cI cZ cQ h0 m3 m4 m5 m7 m8 f_h0 fm3 fm4 fm5 fm7 fm8 (f60_m36 k60) j k nq H.size e_h0_3 e_h0_4 e_h0_5 e_h0_7 e_h0_8 (by omega) (by first | assumption | decide) (by omega) (by omega)) (cwV 3 hts gX11_doTurns_X11_softBehind rfl rfl rfl (by decide +kernel) ⟨Nat.le_of_ble_eq_true rfl, Nat.le_of_ble_eq_true rfl⟩) ⟨fun a U g mk q => by obtain ⟨q0, q1, qP, qK⟩ := q; exact ⟨q0, q1, qP, va_K.moved (u := U) (U := U.calling g mk a) (Vm.Alike.refl U.vm) qK⟩, va_recv hK hP (ci := 11) (q0 := 0) rfl rfl, fun U hU hW => ⟨rfl, by rw [hU], by rw [hU]; exact hPc, va_K.moved hW.alike hK⟩⟩ rfl rfl hl.1 rfl (lv_room (Nat.le_of_ble_eq_true rfl)) dX11_doTurns_91 ⟨Nat.le_of_ble_eq_true rfl, Nat.le_of_ble_eq_true rfl⟩) hS (fun q _ h => False.elim h) (fun q h => False.elim h) (fun r21 u22 t H1 locs ht hvm hw23 hB hz1 hk1 hS => ?_)
                  have hP := hP.kept (fun k q hk => hk1 q.1 (hP k q hk).lt (fun h => h))
                  clear hz1 hk1 hPc
                  generalize H1 = H at hP hS ht ⊢
                  try dsimp only at hw23
                  refine lv_goto (tgt := 108) hx hb dX11_doTurns_94 (by decide) ?_
                  refine va_iast hx hb hK hP hD hS 8 0 rfl rfl (vp_in_nI (n := k60) (N := 9) (by omega) (by decide)) dX11_doTurns_108 (fun H locs hP hD hS => ?_)
                  generalize hgf24 : upd f60_m36 ((nI k60).toNatClampNeg) r21 = f24 at hP hD
                  have hP : va_P (dC, dI) vwCl [(h0, .inr (11, f_h0)), (m3, .inl (cI, 8, .inl fm3)), (m4, .inl (cI, 8, .inl fm4)), (m5, .inl (cI, 8, .inl fm5)), (m7, .inl (cI, 4, .inl fm7)), (m8, .inl (cI, 4, .inl fm8)), (m9, .inl (cI, 4, .inl fm9)), (m10, .inl (cI, 34, .inl fm10)), (m36, .inl (cI, 9, .inl f24))] H := hP
                  have hD : va_D A [(h0, .inr (11, f_h0)), (m3, .inl (cI, 8, .inl fm3)), (m4, .inl (cI, 8, .inl fm4)), (m5, .inl (cI, 8, .inl fm5)), (m7, .inl (cI, 4, .inl fm7)), (m8, .inl (cI, 4, .inl fm8)), (m9, .inl (cI, 4, .inl fm9)), (m10, .inl (cI, 34, .inl fm10)), (m36, .inl (cI, 9, .inl f24))] := hD
                  refine lv_iinc (v := nI (k60 + 1)) (lv' := [(6, .int (nI (k60 + 1))), (5, .int (nI k50)), (4, .int (nI a50_4)), (0, .ref h0), (1, .int (nI j)), (2, .int (nI k)), (3, .int (nI mo))]) hx hb dX11_doTurns_109 hl (k := 0) rfl ((rfl : nI k60 + Int32.ofInt 1 = nI k60 + 1).trans (nI_add k60 1)) (by decide) rfl (fun ls hl => ?_)
                  refine lv_goto (tgt := 60) hx hb dX11_doTurns_112 (by decide) ?_
                  exact ih60 (k60 + 1) f24 _ _ _ (by omega) hP hD hS (lv_sub hl [0, 1, 2, 3, 4, 5, 6] rfl)
      ·
        refine lv_istore (lv' := [(4, .int 0), (0, .ref h0), (1, .int (nI j)), (2, .int (nI k)), (3, .int (nI mo))]) hx hb dX11_doTurns_45 hl (by decide) rfl (fun ls hl => ?_)
        refine lv_iconst (v := 0) hx hb dX11_doTurns_47 (by decide) ?_
        refine lv_istore (lv' := [(5, .int 0), (4, .int 0), (0, .ref h0), (1, .int (nI j)), (2, .int (nI k)), (3, .int (nI mo))]) hx hb dX11_doTurns_48 hl (by decide) rfl (fun ls hl => ?_)
        refine (fun (K : ∀ (d50 : Nat) (k50 : Nat) (a50_4 : Nat) (f50_m36 : Nat → Int32) (H : Heap) (locs : List Loc) (ls : Array Slot), k50 + d50 = 20 → a50_4 ≤ 1 → va_P (dC, dI) vwCl [(h0, .inr (11, f_h0)), (m3, .inl (cI, 8, .inl fm3)), (m4, .inl (cI, 8, .inl fm4)), (m5, .inl (cI, 8, .inl fm5)), (m7, .inl (cI, 4, .inl fm7)), (m8, .inl (cI, 4, .inl fm8)), (m9, .inl (cI, 4, .inl fm9)), (m10, .inl (cI, 34, .inl fm10)), (m36, .inl (cI, 9, .inl f50_m36))] H → va_D A [(h0, .inr (11, f_h0)), (m3, .inl (cI, 8, .inl fm3)), (m4, .inl (cI, 8, .inl fm4)), (m5, .inl (cI, 8, .inl fm5)), (m7, .inl (cI, 4, .inl fm7)), (m8, .inl (cI, 4, .inl fm8)), (m9, .inl (cI, 4, .inl fm9)), (m10, .inl (cI, 34, .inl fm10)), (m36, .inl (cI, 9, .inl f50_m36))] → va_S A s.heap H locs → lv_has ls 7 [(5, .int (nI k50)), (4, .int (nI a50_4)), (0, .ref h0), (1, .int (nI j)), (2, .int (nI k)), (3, .int (nI mo))] → W p l e _ s m _ below meth c H locs _ _ _ (F0 m 50 ls [])) => K 20 0 0 f3_m36 _ _ _ (by omega) (by omega) hP hD hS (lv_sub hl [0, 1, 2, 3, 4, 5] rfl)) ?_
        intro d50
        induction d50 with
        | zero =>
          intro k50 a50_4 f50_m36 H locs ls hk50 hn50_4 hP hD hS hl
          refine lv_iload hx hb dX11_doTurns_50 (lv_at hl 0 rfl) ?_
          refine lv_bipush (v := 20) hx hb dX11_doTurns_52 (by decide) ?_
          refine lv_icmp_ge (tgt := 147) hx hb dX11_doTurns_54 (by decide) (fun c25 => ?_) (fun c25 => ?_)
          ·
            have c25 : 20 ≤ k50 := (nI_leI (a := 20) (b := k50) (by omega) (by omega)).mp c25
            refine lv_iload hx hb dX11_doTurns_147 (lv_at hl 1 rfl) ?_
            have hP9 := hP.sub (ws' := [(h0, .inr (11, f_h0)), (m3, .inl (cI, 8, .inl fm3)), (m4, .inl (cI, 8, .inl fm4)), (m5, .inl (cI, 8, .inl fm5)), (m7, .inl (cI, 4, .inl fm7)), (m8, .inl (cI, 4, .inl fm8)), (m9, .inl (cI, 4, .inl fm9)), (m10, .inl (cI, 34, .inl fm10)), (m36, .inl (cI, 9, .inl f50_m36))]) [0, 1, 2, 3, 4, 5, 6, 7, 8] rfl
            have hD9 := hD.sub (ws' := [(h0, .inr (11, f_h0)), (m3, .inl (cI, 8, .inl fm3)), (m4, .inl (cI, 8, .inl fm4)), (m5, .inl (cI, 8, .inl fm5)), (m7, .inl (cI, 4, .inl fm7)), (m8, .inl (cI, 4, .inl fm8)), (m9, .inl (cI, 4, .inl fm9)), (m10, .inl (cI, 34, .inl fm10)), (m36, .inl (cI, 9, .inl f50_m36))]) [0, 1, 2, 3, 4, 5, 6, 7, 8] (by decide +kernel) rfl
            exact W.zret (v := nI a50_4) hx hb hr ((x_fitsZ (n := a50_4) (by omega)).1) (fun t ht hW => ⟨⟨nI a50_4, (fun _ => 0), rfl, x_b01 (n := a50_4) (by omega), ⟨f50_m36, by rw [ht]; exact hP9, hD9⟩⟩, hS.F ht⟩) hS.2.2 dX11_doTurns_149
          ·
            have c25 : ¬ 20 ≤ k50 := fun h => c25 ((nI_leI (a := 20) (b := k50) (by omega) (by omega)).mpr h)
            omega
        | succ d50 ih50 =>
          intro k50 a50_4 f50_m36 H locs ls hk50 hn50_4 hP hD hS hl
          refine lv_iload hx hb dX11_doTurns_50 (lv_at hl 0 rfl) ?_
          refine lv_bipush (v := 20) hx hb dX11_doTurns_52 (by decide) ?_
          refine lv_icmp_ge (tgt := 147) hx hb dX11_doTurns_54 (by decide) (fun c26 => ?_) (fun c26 => ?_)
          ·
            have c26 : 20 ≤ k50 := (nI_leI (a := 20) (b := k50) (by omega) (by omega)).mp c26
            omega
          ·
            have c26 : ¬ 20 ≤ k50 := fun h => c26 ((nI_leI (a := 20) (b := k50) (by omega) (by omega)).mpr h)
            refine lv_iconst (v := 0) hx hb dX11_doTurns_57 (by decide) ?_
            refine lv_istore (lv' := [(6, .int 0), (5, .int (nI k50)), (4, .int (nI a50_4)), (0, .ref h0), (1, .int (nI j)), (2, .int (nI k)), (3, .int (nI mo))]) hx hb dX11_doTurns_58 hl (by decide) rfl (fun ls hl => ?_)
            refine (fun (K : ∀ (d60 : Nat) (k60 : Nat) (f60_m36 : Nat → Int32) (H : Heap) (locs : List Loc) (ls : Array Slot), k60 + d60 = mo → va_P (dC, dI) vwCl [(h0, .inr (11, f_h0)), (m3, .inl (cI, 8, .inl fm3)), (m4, .inl (cI, 8, .inl fm4)), (m5, .inl (cI, 8, .inl fm5)), (m7, .inl (cI, 4, .inl fm7)), (m8, .inl (cI, 4, .inl fm8)), (m9, .inl (cI, 4, .inl fm9)), (m10, .inl (cI, 34, .inl fm10)), (m36, .inl (cI, 9, .inl f60_m36))] H → va_D A [(h0, .inr (11, f_h0)), (m3, .inl (cI, 8, .inl fm3)), (m4, .inl (cI, 8, .inl fm4)), (m5, .inl (cI, 8, .inl fm5)), (m7, .inl (cI, 4, .inl fm7)), (m8, .inl (cI, 4, .inl fm8)), (m9, .inl (cI, 4, .inl fm9)), (m10, .inl (cI, 34, .inl fm10)), (m36, .inl (cI, 9, .inl f60_m36))] → va_S A s.heap H locs → lv_has ls 7 [(6, .int (nI k60)), (5, .int (nI k50)), (4, .int (nI a50_4)), (0, .ref h0), (1, .int (nI j)), (2, .int (nI k)), (3, .int (nI mo))] → W p l e _ s m _ below meth c H locs _ _ _ (F0 m 60 ls [])) => K mo 0 f50_m36 _ _ _ (by omega) hP hD hS (lv_sub hl [0, 1, 2, 3, 4, 5, 6] rfl)) ?_
            intro d60
            induction d60 with
            | zero =>
              intro k60 f60_m36 H locs ls hk60 hP hD hS hl
              refine lv_iload hx hb dX11_doTurns_60 (lv_at hl 0 rfl) ?_
              refine lv_iload_n hx hb dX11_doTurns_62 rfl (lv_at hl 6 rfl) ?_
              refine lv_icmp_ge (tgt := 115) hx hb dX11_doTurns_63 (by decide) (fun c27 => ?_) (fun c27 => ?_)
              ·
                have c27 : mo ≤ k60 := (nI_leI (a := mo) (b := k60) (by omega) (by omega)).mp c27
                refine lv_iload hx hb dX11_doTurns_115 (lv_at hl 2 rfl) ?_
                refine lv_if_eq (tgt := 138) hx hb dX11_doTurns_117 (by decide) (fun c28 => ?_) (fun c28 => ?_)
                ·
                  have c28 : a50_4 = 0 := (nI_eq (a := a50_4) (b := 0) (by omega) (by omega)).mp c28
                  refine lv_iconst (v := 0) hx hb dX11_doTurns_138 (by decide) ?_
                  refine lv_istore (lv' := [(4, .int 0), (6, .int (nI k60)), (5, .int (nI k50)), (0, .ref h0), (1, .int (nI j)), (2, .int (nI k)), (3, .int (nI mo))]) hx hb dX11_doTurns_139 hl (by decide) rfl (fun ls hl => ?_)
                  refine lv_iinc (v := nI (k50 + 1)) (lv' := [(5, .int (nI (k50 + 1))), (4, .int 0), (6, .int (nI k60)), (0, .ref h0), (1, .int (nI j)), (2, .int (nI k)), (3, .int (nI mo))]) hx hb dX11_doTurns_141 hl (k := 2) rfl ((rfl : nI k50 + Int32.ofInt 1 = nI k50 + 1).trans (nI_add k50 1)) (by decide) rfl (fun ls hl => ?_)
                  refine lv_goto (tgt := 50) hx hb dX11_doTurns_144 (by decide) ?_
                  exact ih50 (k50 + 1) 0 f60_m36 _ _ _ (by omega) (by omega) hP hD hS (lv_sub hl [0, 1, 3, 4, 5, 6] rfl)
                ·
                  have c28 : ¬ a50_4 = 0 := fun h => c28 ((nI_eq (a := a50_4) (b := 0) (by omega) (by omega)).mpr h)
                  refine lv_aload_n hx hb dX11_doTurns_120 rfl (lv_at hl 3 rfl) ?_
                  refine va_get (D := (dC, dI)) (ci := 11) (v := .ref m36) (C := RX11) (T := TX11) (N := 46) hx hb hts hi_X11 hown hK hP 0 rfl rfl 36 (by decide) (hts (.fieldLink RX11 71 "LeftQuillsModel" "softs" "[I") (wmx 1 rfl)) (fun _ h9 => h9) e_h0_36 dX11_doTurns_121 ?_
                  refine lv_iload hx hb dX11_doTurns_124 (lv_at hl 1 rfl) ?_
                  refine lv_iload_n hx hb dX11_doTurns_126 rfl (lv_at hl 6 rfl) ?_
                  refine lv_irem hx hb dX11_doTurns_127 (nI_ne0 (n := mo) (by omega) (by omega)) ?_
                  refine lv_topi (fun z29 ez29 => ?_)
                  obtain ⟨w30, hw30, ew30⟩ : ∃ y : Nat, y < mo ∧ y = k50 % mo := ⟨_, Nat.mod_lt _ (by omega), rfl⟩
                  obtain rfl : z29 = nI w30 := by rw [ew30]; exact ez29.trans (pk_rem (a := k50) (d := mo) (by omega) (by omega) (by omega))
                  refine va_iald hx hb hK hP 8 0 rfl rfl (vp_in_nI (n := w30) (N := 9) (by omega) (by decide)) dX11_doTurns_128 ?_
                  refine W.eq (g2 := F0 m 129 ls [.int (f60_m36 w30)]) (congrArg (fun y9 => F0 m 129 ls (.int (f60_m36 y9) :: [])) ((nI_clamp (n := w30) (by omega)))) ?_
                  refine lv_bipush (v := 50) hx hb dX11_doTurns_129 (by decide) ?_
                  refine lv_icmp_gt (tgt := 138) hx hb dX11_doTurns_131 (by decide) (fun c31 => ?_) (fun c31 => ?_)
                  ·
                    refine lv_iconst (v := 0) hx hb dX11_doTurns_138 (by decide) ?_
                    refine lv_istore (lv' := [(4, .int 0), (6, .int (nI k60)), (5, .int (nI k50)), (0, .ref h0), (1, .int (nI j)), (2, .int (nI k)), (3, .int (nI mo))]) hx hb dX11_doTurns_139 hl (by decide) rfl (fun ls hl => ?_)
                    refine lv_iinc (v := nI (k50 + 1)) (lv' := [(5, .int (nI (k50 + 1))), (4, .int 0), (6, .int (nI k60)), (0, .ref h0), (1, .int (nI j)), (2, .int (nI k)), (3, .int (nI mo))]) hx hb dX11_doTurns_141 hl (k := 2) rfl ((rfl : nI k50 + Int32.ofInt 1 = nI k50 + 1).trans (nI_add k50 1)) (by decide) rfl (fun ls hl => ?_)
                    refine lv_goto (tgt := 50) hx hb dX11_doTurns_144 (by decide) ?_
                    exact ih50 (k50 + 1) 0 f60_m36 _ _ _ (by omega) (by omega) hP hD hS (lv_sub hl [0, 1, 3, 4, 5, 6] rfl)
                  ·
                    refine lv_iconst (v := 1) hx hb dX11_doTurns_134 (by decide) ?_
                    refine lv_goto (tgt := 139) hx hb dX11_doTurns_135 (by decide) ?_
                    refine lv_istore (lv' := [(4, .int 1), (6, .int (nI k60)), (5, .int (nI k50)), (0, .ref h0), (1, .int (nI j)), (2, .int (nI k)), (3, .int (nI mo))]) hx hb dX11_doTurns_139 hl (by decide) rfl (fun ls hl => ?_)
                    refine lv_iinc (v := nI (k50 + 1)) (lv' := [(5, .int (nI (k50 + 1))), (4, .int 1), (6, .int (nI k60)), (0, .ref h0), (1, .int (nI j)), (2, .int (nI k)), (3, .int (nI mo))]) hx hb dX11_doTurns_141 hl (k := 2) rfl ((rfl : nI k50 + Int32.ofInt 1 = nI k50 + 1).trans (nI_add k50 1)) (by decide) rfl (fun ls hl => ?_)
                    refine lv_goto (tgt := 50) hx hb dX11_doTurns_144 (by decide) ?_
                    exact ih50 (k50 + 1) 1 f60_m36 _ _ _ (by omega) (by omega) hP hD hS (lv_sub hl [0, 1, 3, 4, 5, 6] rfl)
              ·
                have c27 : ¬ mo ≤ k60 := fun h => c27 ((nI_leI (a := mo) (b := k60) (by omega) (by omega)).mpr h)
                omega
            | succ d60 ih60 =>
              intro k60 f60_m36 H locs ls hk60 hP hD hS hl
              refine lv_iload hx hb dX11_doTurns_60 (lv_at hl 0 rfl) ?_
              refine lv_iload_n hx hb dX11_doTurns_62 rfl (lv_at hl 6 rfl) ?_
              refine lv_icmp_ge (tgt := 115) hx hb dX11_doTurns_63 (by decide) (fun c32 => ?_) (fun c32 => ?_)
              ·
                have c32 : mo ≤ k60 := (nI_leI (a := mo) (b := k60) (by omega) (by omega)).mp c32
                omega
              ·
                have c32 : ¬ mo ≤ k60 := fun h => c32 ((nI_leI (a := mo) (b := k60) (by omega) (by omega)).mpr h)
                refine lv_aload_n hx hb dX11_doTurns_66 rfl (lv_at hl 3 rfl) ?_
                refine va_get (D := (dC, dI)) (ci := 11) (v := .ref m36) (C := RX11) (T := TX11) (N := 46) hx hb hts hi_X11 hown hK hP 0 rfl rfl 36 (by decide) (hts (.fieldLink RX11 71 "LeftQuillsModel" "softs" "[I") (wmx 1 rfl)) (fun _ h9 => h9) e_h0_36 dX11_doTurns_67 ?_
                refine lv_iload hx hb dX11_doTurns_70 (lv_at hl 0 rfl) ?_
                refine lv_iload hx hb dX11_doTurns_72 (lv_at hl 0 rfl) ?_
                refine lv_iload hx hb dX11_doTurns_74 (lv_at hl 1 rfl) ?_
                refine lv_iload_n hx hb dX11_doTurns_76 rfl (lv_at hl 6 rfl) ?_
                refine lv_irem hx hb dX11_doTurns_77 (nI_ne0 (n := mo) (by omega) (by omega)) ?_
                refine lv_topi (fun z33 ez33 => ?_)
                obtain ⟨w34, hw34, ew34⟩ : ∃ y : Nat, y < mo ∧ y = k50 % mo := ⟨_, Nat.mod_lt _ (by omega), rfl⟩
                obtain rfl : z33 = nI w34 := by rw [ew34]; exact ez33.trans (pk_rem (a := k50) (d := mo) (by omega) (by omega) (by omega))
                refine lv_icmp_ne (tgt := 97) hx hb dX11_doTurns_78 (by decide) (fun c35 => ?_) (fun c35 => ?_)
                ·
                  have c35 : ¬ k60 = w34 := fun h => c35 ((nI_eq (a := k60) (b := w34) (by omega) (by omega)).mpr h)
                  refine lv_aload_n hx hb dX11_doTurns_97 rfl (lv_at hl 3 rfl) ?_
                  refine va_get (D := (dC, dI)) (ci := 11) (v := .ref m36) (C := RX11) (T := TX11) (N := 46) hx hb hts hi_X11 hown hK hP 0 rfl rfl 36 (by decide) (hts (.fieldLink RX11 71 "LeftQuillsModel" "softs" "[I") (wmx 1 rfl)) (fun _ h9 => h9) e_h0_36 dX11_doTurns_98 ?_
                  refine lv_iload hx hb dX11_doTurns_101 (lv_at hl 0 rfl) ?_
                  refine va_iald hx hb hK hP 8 0 rfl rfl (vp_in_nI (n := k60) (N := 9) (by omega) (by decide)) dX11_doTurns_103 ?_
                  refine W.eq (g2 := F0 m 104 ls [.int (f60_m36 k60), .int (nI k60), .ref m36]) (congrArg (fun y9 => F0 m 104 ls (.int (f60_m36 y9) :: [.int (nI k60), .ref m36])) ((nI_clamp (n := k60) (by omega)))) ?_
                  refine lv_iconst (v := 1) hx hb dX11_doTurns_104 (by decide) ?_
                  have hPc := hP.sub (ws' := []) [] rfl
                  refine va_calli (va_runS (As := [.int (f60_m36 k60), .int 1]) (rest := [.int (nI k60), .ref m36]) ⟨hx, hb, hml, hown, hts⟩ (c_X11_driedBy l dC dI cI cZ cQ (f60_m36 k60) 1 H.size ) (va_cwS 2 hts gX11_doTurns_X11_driedBy rfl rfl rfl (by decide +kernel) ⟨Nat.le_of_ble_eq_true rfl, Nat.le_of_ble_eq_true rfl⟩) ⟨fun a U g mk q => by obtain ⟨q0, q1, qP, qK⟩ := q; exact ⟨q0, q1, qP, va_K.moved (u := U) (U := U.calling g mk a) (Vm.Alike.refl U.vm) qK⟩, fun U hU hW => ⟨rfl, by rw [hU], by rw [hU]; exact hPc, va_K.moved hW.alike hK⟩⟩ rfl rfl hl.1 rfl (lv_room (Nat.le_of_ble_eq_true rfl)) dX11_doTurns_105 ⟨Nat.le_of_ble_eq_true rfl, Nat.le_of_ble_eq_true rfl⟩) hS (fun q _ h => False.elim h) (fun q h => False.elim h) (fun r36 u37 t H1 locs ht hvm hw38 hB hz1 hk1 hS => ?_)
                  have hP := hP.kept (fun k q hk => hk1 q.1 (hP k q hk).lt (fun h => h))
                  clear hz1 hk1 hPc
                  generalize H1 = H at hP hS ht ⊢
                  try dsimp only at hw38
                  refine va_iast hx hb hK hP hD hS 8 0 rfl rfl (vp_in_nI (n := k60) (N := 9) (by omega) (by decide)) dX11_doTurns_108 (fun H locs hP hD hS => ?_)
                  generalize hgf39 : upd f60_m36 ((nI k60).toNatClampNeg) r36 = f39 at hP hD
                  have hP : va_P (dC, dI) vwCl [(h0, .inr (11, f_h0)), (m3, .inl (cI, 8, .inl fm3)), (m4, .inl (cI, 8, .inl fm4)), (m5, .inl (cI, 8, .inl fm5)), (m7, .inl (cI, 4, .inl fm7)), (m8, .inl (cI, 4, .inl fm8)), (m9, .inl (cI, 4, .inl fm9)), (m10, .inl (cI, 34, .inl fm10)), (m36, .inl (cI, 9, .inl f39))] H := hP
                  have hD : va_D A [(h0, .inr (11, f_h0)), (m3, .inl (cI, 8, .inl fm3)), (m4, .inl (cI, 8, .inl fm4)), (m5, .inl (cI, 8, .inl fm5)), (m7, .inl (cI, 4, .inl fm7)), (m8, .inl (cI, 4, .inl fm8)), (m9, .inl (cI, 4, .inl fm9)), (m10, .inl (cI, 34, .inl fm10)), (m36, .inl (cI, 9, .inl f39))] := hD
                  refine lv_iinc (v := nI (k60 + 1)) (lv' := [(6, .int (nI (k60 + 1))), (5, .int (nI k50)), (4, .int (nI a50_4)), (0, .ref h0), (1, .int (nI j)), (2, .int (nI k)), (3, .int (nI mo))]) hx hb dX11_doTurns_109 hl (k := 0) rfl ((rfl : nI k60 + Int32.ofInt 1 = nI k60 + 1).trans (nI_add k60 1)) (by decide) rfl (fun ls hl => ?_)
                  refine lv_goto (tgt := 60) hx hb dX11_doTurns_112 (by decide) ?_
                  exact ih60 (k60 + 1) f39 _ _ _ (by omega) hP hD hS (lv_sub hl [0, 1, 2, 3, 4, 5, 6] rfl)
                ·
                  have c35 : k60 = w34 := (nI_eq (a := k60) (b := w34) (by omega) (by omega)).mp c35
                  refine lv_aload_n hx hb dX11_doTurns_81 rfl (lv_at hl 3 rfl) ?_
                  refine lv_aload_n hx hb dX11_doTurns_82 rfl (lv_at hl 3 rfl) ?_
                  refine va_get (D := (dC, dI)) (ci := 11) (v := .ref m36) (C := RX11) (T := TX11) (N := 46) hx hb hts hi_X11 hown hK hP 0 rfl rfl 36 (by decide) (hts (.fieldLink RX11 71 "LeftQuillsModel" "softs" "[I") (wmx 1 rfl)) (fun _ h9 => h9) e_h0_36 dX11_doTurns_83 ?_
                  refine lv_iload hx hb dX11_doTurns_86 (lv_at hl 0 rfl) ?_
                  refine va_iald hx hb hK hP 8 0 rfl rfl (vp_in_nI (n := k60) (N := 9) (by omega) (by decide)) dX11_doTurns_88 ?_
                  refine W.eq (g2 := F0 m 89 ls [.int (f60_m36 k60), .ref h0, .int (nI k60), .ref m36]) (congrArg (fun y9 => F0 m 89 ls (.int (f60_m36 y9) :: [.ref h0, .int (nI k60), .ref m36])) ((nI_clamp (n := k60) (by omega)))) ?_
                  refine lv_iload_n hx hb dX11_doTurns_89 rfl (lv_at hl 4 rfl) ?_
                  refine lv_iload_n hx hb dX11_doTurns_90 rfl (lv_at hl 5 rfl) ?_
                  have hPc := hP.sub (ws' := [(h0, .inr (11, f_h0)), (m3, .inl (cI, 8, .inl fm3)), (m4, .inl (cI, 8, .inl fm4)), (m5, .inl (cI, 8, .inl fm5)), (m7, .inl (cI, 4, .inl fm7)), (m8, .inl (cI, 4, .inl fm8))]) [0, 1, 2, 3, 4, 5] rfl
                  refine va_calli (va_runV (As := [.int (f60_m36 k60), .int (nI j), .int (nI k)]) (rest := [.int (nI k60), .ref m36]) ⟨hx, hb, hml, hown, hts⟩ (c_X11_softBehind l dC dI cI cZ cQ h0 m3 m4 m5 m7 m8 f_h0 fm3 fm4 fm5 fm7 fm8 (f60_m36 k60) j k nq H.size e_h0_3 e_h0_4 e_h0_5 e_h0_7 e_h0_8 (by omega) (by first | assumption | decide) (by omega) (by omega)) (cwV 3 hts gX11_doTurns_X11_softBehind rfl rfl rfl (by decide +kernel) ⟨Nat.le_of_ble_eq_true rfl, Nat.le_of_ble_eq_true rfl⟩) ⟨fun a U g mk q => by obtain ⟨q0, q1, qP, qK⟩ := q; exact ⟨q0, q1, qP, va_K.moved (u := U) (U := U.calling g mk a) (Vm.Alike.refl U.vm) qK⟩, va_recv hK hP (ci := 11) (q0 := 0) rfl rfl, fun U hU hW => ⟨rfl, by rw [hU], by rw [hU]; exact hPc, va_K.moved hW.alike hK⟩⟩ rfl rfl hl.1 rfl (lv_room (Nat.le_of_ble_eq_true rfl)) dX11_doTurns_91 ⟨Nat.le_of_ble_eq_true rfl, Nat.le_of_ble_eq_true rfl⟩) hS (fun q _ h => False.elim h) (fun q h => False.elim h) (fun r40 u41 t H1 locs ht hvm hw42 hB hz1 hk1 hS => ?_)
                  have hP := hP.kept (fun k q hk => hk1 q.1 (hP k q hk).lt (fun h => h))
                  clear hz1 hk1 hPc
                  generalize H1 = H at hP hS ht ⊢
                  try dsimp only at hw42
                  refine lv_goto (tgt := 108) hx hb dX11_doTurns_94 (by decide) ?_
                  refine va_iast hx hb hK hP hD hS 8 0 rfl rfl (vp_in_nI (n := k60) (N := 9) (by omega) (by decide)) dX11_doTurns_108 (fun H locs hP hD hS => ?_)
                  generalize hgf43 : upd f60_m36 ((nI k60).toNatClampNeg) r40 = f43 at hP hD
                  have hP : va_P (dC, dI) vwCl [(h0, .inr (11, f_h0)), (m3, .inl (cI, 8, .inl fm3)), (m4, .inl (cI, 8, .inl fm4)), (m5, .inl (cI, 8, .inl fm5)), (m7, .inl (cI, 4, .inl fm7)), (m8, .inl (cI, 4, .inl fm8)), (m9, .inl (cI, 4, .inl fm9)), (m10, .inl (cI, 34, .inl fm10)), (m36, .inl (cI, 9, .inl f43))] H := hP
                  have hD : va_D A [(h0, .inr (11, f_h0)), (m3, .inl (cI, 8, .inl fm3)), (m4, .inl (cI, 8, .inl fm4)), (m5, .inl (cI, 8, .inl fm5)), (m7, .inl (cI, 4, .inl fm7)), (m8, .inl (cI, 4, .inl fm8)), (m9, .inl (cI, 4, .inl fm9)), (m10, .inl (cI, 34, .inl fm10)), (m36, .inl (cI, 9, .inl f43))] := hD
                  refine lv_iinc (v := nI (k60 + 1)) (lv' := [(6, .int (nI (k60 + 1))), (5, .int (nI k50)), (4, .int (nI a50_4)), (0, .ref h0), (1, .int (nI j)), (2, .int (nI k)), (3, .int (nI mo))]) hx hb dX11_doTurns_109 hl (k := 0) rfl ((rfl : nI k60 + Int32.ofInt 1 = nI k60 + 1).trans (nI_add k60 1)) (by decide) rfl (fun ls hl => ?_)
                  refine lv_goto (tgt := 60) hx hb dX11_doTurns_112 (by decide) ?_
                  exact ih60 (k60 + 1) f43 _ _ _ (by omega) hP hD hS (lv_sub hl [0, 1, 2, 3, 4, 5, 6] rfl)
    ·
      have c1 : ¬ mo ≤ k3 := fun h => c1 ((nI_leI (a := mo) (b := k3) (by omega) (by omega)).mpr h)
      omega
  | succ d3 ih3 =>
    intro k3 f3_m36 H locs ls hk3 hP hD hS hl
    refine lv_iload hx hb dX11_doTurns_3 (lv_at hl 0 rfl) ?_
    refine lv_iload_n hx hb dX11_doTurns_5 rfl (lv_at hl 4 rfl) ?_
    refine lv_icmp_ge (tgt := 31) hx hb dX11_doTurns_6 (by decide) (fun c44 => ?_) (fun c44 => ?_)
    ·
      have c44 : mo ≤ k3 := (nI_leI (a := mo) (b := k3) (by omega) (by omega)).mp c44
      omega
    ·
      have c44 : ¬ mo ≤ k3 := fun h => c44 ((nI_leI (a := mo) (b := k3) (by omega) (by omega)).mpr h)
      refine lv_aload_n hx hb dX11_doTurns_9 rfl (lv_at hl 1 rfl) ?_
      refine va_get (D := (dC, dI)) (ci := 11) (v := .ref m36) (C := RX11) (T := TX11) (N := 46) hx hb hts hi_X11 hown hK hP 0 rfl rfl 36 (by decide) (hts (.fieldLink RX11 71 "LeftQuillsModel" "softs" "[I") (wmx 1 rfl)) (fun _ h9 => h9) e_h0_36 dX11_doTurns_10 ?_
      refine lv_iload hx hb dX11_doTurns_13 (lv_at hl 0 rfl) ?_
      refine lv_aload_n hx hb dX11_doTurns_15 rfl (lv_at hl 1 rfl) ?_
      refine va_get (D := (dC, dI)) (ci := 11) (v := .ref m10) (C := RX11) (T := TX11) (N := 46) hx hb hts hi_X11 hown hK hP 0 rfl rfl 10 (by decide) (hts (.fieldLink RX11 28 "LeftQuillsModel" "now" "[I") (wmx 2 rfl)) (fun _ h9 => h9) e_h0_10 dX11_doTurns_16 ?_
      refine lv_bipush (v := 16) hx hb dX11_doTurns_19 (by decide) ?_
      refine lv_iload_n hx hb dX11_doTurns_21 rfl (lv_at hl 2 rfl) ?_
      refine lv_iadd hx hb dX11_doTurns_22 ?_
      refine lv_topi (fun z45 ez45 => ?_)
      obtain rfl : z45 = nI (16 + j) := ez45.trans (nI_add 16 j)
      refine va_iald hx hb hK hP 7 0 rfl rfl (vp_in_nI (n := 16 + j) (N := 34) (by omega) (by decide)) dX11_doTurns_23 ?_
      refine W.eq (g2 := F0 m 24 ls [.int (fm10 (16 + j)), .int (nI k3), .ref m36]) (congrArg (fun y9 => F0 m 24 ls (.int (fm10 y9) :: [.int (nI k3), .ref m36])) ((nI_clamp (n := 16 + j) (by omega)))) ?_
      refine va_iast hx hb hK hP hD hS 8 0 rfl rfl (vp_in_nI (n := k3) (N := 9) (by omega) (by decide)) dX11_doTurns_24 (fun H locs hP hD hS => ?_)
      generalize hgf46 : upd f3_m36 ((nI k3).toNatClampNeg) (fm10 (16 + j)) = f46 at hP hD
      have hP : va_P (dC, dI) vwCl [(h0, .inr (11, f_h0)), (m3, .inl (cI, 8, .inl fm3)), (m4, .inl (cI, 8, .inl fm4)), (m5, .inl (cI, 8, .inl fm5)), (m7, .inl (cI, 4, .inl fm7)), (m8, .inl (cI, 4, .inl fm8)), (m9, .inl (cI, 4, .inl fm9)), (m10, .inl (cI, 34, .inl fm10)), (m36, .inl (cI, 9, .inl f46))] H := hP
      have hD : va_D A [(h0, .inr (11, f_h0)), (m3, .inl (cI, 8, .inl fm3)), (m4, .inl (cI, 8, .inl fm4)), (m5, .inl (cI, 8, .inl fm5)), (m7, .inl (cI, 4, .inl fm7)), (m8, .inl (cI, 4, .inl fm8)), (m9, .inl (cI, 4, .inl fm9)), (m10, .inl (cI, 34, .inl fm10)), (m36, .inl (cI, 9, .inl f46))] := hD
      refine lv_iinc (v := nI (k3 + 1)) (lv' := [(4, .int (nI (k3 + 1))), (0, .ref h0), (1, .int (nI j)), (2, .int (nI k)), (3, .int (nI mo))]) hx hb dX11_doTurns_25 hl (k := 0) rfl ((rfl : nI k3 + Int32.ofInt 1 = nI k3 + 1).trans (nI_add k3 1)) (by decide) rfl (fun ls hl => ?_)
      refine lv_goto (tgt := 3) hx hb dX11_doTurns_28 (by decide) ?_
      exact ih3 (k3 + 1) f46 _ _ _ (by omega) hP hD hS (lv_sub hl [0, 1, 2, 3, 4] rfl)
