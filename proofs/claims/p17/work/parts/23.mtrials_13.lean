set_option maxHeartbeats 4000000 in
set_option maxRecDepth 100000 in
theorem c_X11_greatestPart (l : Launch) (dC : Nat → ClassId) (dI : Nat → Nat → Nat) (cI cZ cQ : ClassId) (h0 : Nat) (nq : Nat) (nh : Nat) (m3 : Nat) (m4 : Nat) (m5 : Nat) (m7 : Nat) (m8 : Nat) (f_h0 : List Value) (fm3 : Nat → Int32) (fm4 : Nat → Int32) (fm5 : Nat → Int32) (fm7 : Nat → Int32) (fm8 : Nat → Int32) (j : Nat) (a0 : Int32) (sz : Nat) (e_h0_2 : f_h0[2]? = some (.int (nI nq))) (e_h0_6 : f_h0[6]? = some (.int (nI nh))) (e_h0_3 : f_h0[3]? = some (.ref m3)) (e_h0_4 : f_h0[4]? = some (.ref m4)) (e_h0_5 : f_h0[5]? = some (.ref m5)) (e_h0_7 : f_h0[7]? = some (.ref m7)) (e_h0_8 : f_h0[8]? = some (.ref m8)) (hnq : nq ≤ 8) (hci : cIn fm5 nq) (hnh : nh ≤ 4) (hj : j < nq) : Met l yX11_greatestPart wsX11_greatestPart ({ frames := 4, cells := 0, slots := 0, locals := 134 }) (va_Pc [.ref h0, .int (nI j), .int a0] (fun U => U.heap.size = sz ∧ va_P (dC, dI) vwCl [(h0, .inr (11, f_h0)), (m3, .inl (cI, 8, .inl fm3)), (m4, .inl (cI, 8, .inl fm4)), (m5, .inl (cI, 8, .inl fm5)), (m7, .inl (cI, 4, .inl fm7)), (m8, .inl (cI, 4, .inl fm8))] U.heap ∧ va_K (dC, dI) vwCl (tys0 cI cZ cQ) U)) (va_Qi (fun (r : Int32) (u : Nat → Nat) => True) (fun (_ : Nat → Nat) (_ : State) => True) (fun _ : Nat => False)) 0 0 (fun _ : Nat => False) := by
  refine Met.ofW (cc := cX11_greatestPart) (maxL := 7) (ret := (some .int)) (by decide) rfl ?_
  intro p e s m args below meth c s₁ B hml hv
  obtain ⟨rfl, hsz, hP, hK⟩ := hv
  have hx := B.exec
  have hb := B.bytes
  have hr := B.returns
  have hts := atoms_spec (ws := wsX11_greatestPart) B.pre
  have hown : s.vm.findClass RX11 = some m.cls := findClass_of_methodNamed B.named
  have hlocks := B.notSynchronized
  have hi_X11 : ∀ w ∈ u_ws RX11 TX11 46, w ∈ wsX11_greatestPart := fun _ h => List.mem_cons_of_mem _ (List.mem_append_right _ (h))
  subst hsz
  have hS : va_S (fun _ : Nat => False) s.heap s.heap [] := va_S.rf
  have hl := lv_entry ([.ref h0, .int (nI j), .int a0]) (n := 7) (Nat.le_of_ble_eq_true rfl)
  rw [lg_entry_eq]
  generalize (lg_sl ([.ref h0, .int (nI j), .int a0]) ++ List.replicate (7 - (lg_sl ([.ref h0, .int (nI j), .int a0])).length) Slot.unset).toArray = ls at hl ⊢
  have hl : lv_has ls 7 [(0, .ref h0), (1, .int (nI j)), (2, .int a0)] := hl
  refine lv_iconst (v := 0) hx hb dX11_greatestPart_0 (by decide) ?_
  refine lv_istore_n (lv' := [(3, .int 0), (0, .ref h0), (1, .int (nI j)), (2, .int a0)]) hx hb dX11_greatestPart_1 rfl hl (by decide) rfl (fun ls hl => ?_)
  refine lv_iconst (v := 0) hx hb dX11_greatestPart_2 (by decide) ?_
  refine lv_istore (lv' := [(4, .int 0), (3, .int 0), (0, .ref h0), (1, .int (nI j)), (2, .int a0)]) hx hb dX11_greatestPart_3 hl (by decide) rfl (fun ls hl => ?_)
  refine (fun (K : ∀ (d5 : Nat) (k5 : Nat) (a5_3 : Int32) (H : Heap) (locs : List Loc) (ls : Array Slot), k5 + d5 = nh → va_P (dC, dI) vwCl [(h0, .inr (11, f_h0)), (m3, .inl (cI, 8, .inl fm3)), (m4, .inl (cI, 8, .inl fm4)), (m5, .inl (cI, 8, .inl fm5)), (m7, .inl (cI, 4, .inl fm7)), (m8, .inl (cI, 4, .inl fm8))] H → va_S (fun _ : Nat => False) s.heap H locs → lv_has ls 7 [(4, .int (nI k5)), (3, .int a5_3), (0, .ref h0), (1, .int (nI j)), (2, .int a0)] → W p l e _ s m _ below meth c H locs _ _ _ (F0 m 5 ls [])) => K nh 0 0 _ _ _ (by omega) hP hS (lv_sub hl [0, 1, 2, 3, 4] rfl)) ?_
  intro d5
  induction d5 with
  | zero =>
    intro k5 a5_3 H locs ls hk5 hP hS hl
    refine lv_iload hx hb dX11_greatestPart_5 (lv_at hl 0 rfl) ?_
    refine lv_aload_n hx hb dX11_greatestPart_7 rfl (lv_at hl 2 rfl) ?_
    refine va_get (D := (dC, dI)) (ci := 11) (v := .int (nI nh)) (C := RX11) (T := TX11) (N := 46) hx hb hts hi_X11 hown hK hP 0 rfl rfl 6 (by decide) (hts (.fieldLink RX11 106 "LeftQuillsModel" "hands" "I") (wmx 1 rfl)) (fun _ h9 => h9) e_h0_6 dX11_greatestPart_8 ?_
    refine lv_icmp_ge (tgt := 101) hx hb dX11_greatestPart_11 (by decide) (fun c1 => ?_) (fun c1 => ?_)
    ·
      have c1 : nh ≤ k5 := (nI_leI (a := nh) (b := k5) (by omega) (by omega)).mp c1
      refine lv_iload_n hx hb dX11_greatestPart_101 rfl (lv_at hl 1 rfl) ?_
      exact W.iret (v := a5_3) hx hb hr (fun t ht hW => ⟨⟨a5_3, (fun _ => 0), rfl, trivial, trivial⟩, hS.F ht⟩) hS.2.2 dX11_greatestPart_102
    ·
      have c1 : ¬ nh ≤ k5 := fun h => c1 ((nI_leI (a := nh) (b := k5) (by omega) (by omega)).mpr h)
      omega
  | succ d5 ih5 =>
    intro k5 a5_3 H locs ls hk5 hP hS hl
    refine lv_iload hx hb dX11_greatestPart_5 (lv_at hl 0 rfl) ?_
    refine lv_aload_n hx hb dX11_greatestPart_7 rfl (lv_at hl 2 rfl) ?_
    refine va_get (D := (dC, dI)) (ci := 11) (v := .int (nI nh)) (C := RX11) (T := TX11) (N := 46) hx hb hts hi_X11 hown hK hP 0 rfl rfl 6 (by decide) (hts (.fieldLink RX11 106 "LeftQuillsModel" "hands" "I") (wmx 1 rfl)) (fun _ h9 => h9) e_h0_6 dX11_greatestPart_8 ?_
    refine lv_icmp_ge (tgt := 101) hx hb dX11_greatestPart_11 (by decide) (fun c2 => ?_) (fun c2 => ?_)
    ·
      have c2 : nh ≤ k5 := (nI_leI (a := nh) (b := k5) (by omega) (by omega)).mp c2
      omega
    ·
      have c2 : ¬ nh ≤ k5 := fun h => c2 ((nI_leI (a := nh) (b := k5) (by omega) (by omega)).mpr h)
      refine lv_iconst (v := 0) hx hb dX11_greatestPart_14 (by decide) ?_
      refine lv_istore (lv' := [(5, .int 0), (4, .int (nI k5)), (3, .int a5_3), (0, .ref h0), (1, .int (nI j)), (2, .int a0)]) hx hb dX11_greatestPart_15 hl (by decide) rfl (fun ls hl => ?_)
      refine lv_iconst (v := 0) hx hb dX11_greatestPart_17 (by decide) ?_
      refine lv_istore (lv' := [(6, .int 0), (5, .int 0), (4, .int (nI k5)), (3, .int a5_3), (0, .ref h0), (1, .int (nI j)), (2, .int a0)]) hx hb dX11_greatestPart_18 hl (by decide) rfl (fun ls hl => ?_)
      refine (fun (K : ∀ (d20 : Nat) (k20 : Nat) (a20_5 : Int32) (H : Heap) (locs : List Loc) (ls : Array Slot), k20 + d20 = nh → va_P (dC, dI) vwCl [(h0, .inr (11, f_h0)), (m3, .inl (cI, 8, .inl fm3)), (m4, .inl (cI, 8, .inl fm4)), (m5, .inl (cI, 8, .inl fm5)), (m7, .inl (cI, 4, .inl fm7)), (m8, .inl (cI, 4, .inl fm8))] H → va_S (fun _ : Nat => False) s.heap H locs → lv_has ls 7 [(6, .int (nI k20)), (5, .int a20_5), (4, .int (nI k5)), (3, .int a5_3), (0, .ref h0), (1, .int (nI j)), (2, .int a0)] → W p l e _ s m _ below meth c H locs _ _ _ (F0 m 20 ls [])) => K nh 0 0 _ _ _ (by omega) hP hS (lv_sub hl [0, 1, 2, 3, 4, 5, 6] rfl)) ?_
      intro d20
      induction d20 with
      | zero =>
        intro k20 a20_5 H locs ls hk20 hP hS hl
        refine lv_iload hx hb dX11_greatestPart_20 (lv_at hl 0 rfl) ?_
        refine lv_aload_n hx hb dX11_greatestPart_22 rfl (lv_at hl 4 rfl) ?_
        refine va_get (D := (dC, dI)) (ci := 11) (v := .int (nI nh)) (C := RX11) (T := TX11) (N := 46) hx hb hts hi_X11 hown hK hP 0 rfl rfl 6 (by decide) (hts (.fieldLink RX11 106 "LeftQuillsModel" "hands" "I") (wmx 1 rfl)) (fun _ h9 => h9) e_h0_6 dX11_greatestPart_23 ?_
        refine lv_icmp_ge (tgt := 82) hx hb dX11_greatestPart_26 (by decide) (fun c3 => ?_) (fun c3 => ?_)
        ·
          have c3 : nh ≤ k20 := (nI_leI (a := nh) (b := k20) (by omega) (by omega)).mp c3
          refine lv_iload hx hb dX11_greatestPart_82 (lv_at hl 1 rfl) ?_
          refine lv_iload_n hx hb dX11_greatestPart_84 rfl (lv_at hl 3 rfl) ?_
          refine lv_icmp_le (tgt := 93) hx hb dX11_greatestPart_85 (by decide) (fun c4 => ?_) (fun c4 => ?_)
          ·
            refine lv_iload_n hx hb dX11_greatestPart_93 rfl (lv_at hl 3 rfl) ?_
            refine lv_istore_n (lv' := [(3, .int a5_3), (6, .int (nI k20)), (5, .int a20_5), (4, .int (nI k5)), (0, .ref h0), (1, .int (nI j)), (2, .int a0)]) hx hb dX11_greatestPart_94 rfl hl (by decide) rfl (fun ls hl => ?_)
            refine lv_iinc (v := nI (k5 + 1)) (lv' := [(4, .int (nI (k5 + 1))), (3, .int a5_3), (6, .int (nI k20)), (5, .int a20_5), (0, .ref h0), (1, .int (nI j)), (2, .int a0)]) hx hb dX11_greatestPart_95 hl (k := 3) rfl ((rfl : nI k5 + Int32.ofInt 1 = nI k5 + 1).trans (nI_add k5 1)) (by decide) rfl (fun ls hl => ?_)
            refine lv_goto (tgt := 5) hx hb dX11_greatestPart_98 (by decide) ?_
            exact ih5 (k5 + 1) a5_3 _ _ _ (by omega) hP hS (lv_sub hl [0, 1, 4, 5, 6] rfl)
          ·
            refine lv_iload hx hb dX11_greatestPart_88 (lv_at hl 1 rfl) ?_
            refine lv_goto (tgt := 94) hx hb dX11_greatestPart_90 (by decide) ?_
            refine lv_istore_n (lv' := [(3, .int a20_5), (6, .int (nI k20)), (5, .int a20_5), (4, .int (nI k5)), (0, .ref h0), (1, .int (nI j)), (2, .int a0)]) hx hb dX11_greatestPart_94 rfl hl (by decide) rfl (fun ls hl => ?_)
            refine lv_iinc (v := nI (k5 + 1)) (lv' := [(4, .int (nI (k5 + 1))), (3, .int a20_5), (6, .int (nI k20)), (5, .int a20_5), (0, .ref h0), (1, .int (nI j)), (2, .int a0)]) hx hb dX11_greatestPart_95 hl (k := 3) rfl ((rfl : nI k5 + Int32.ofInt 1 = nI k5 + 1).trans (nI_add k5 1)) (by decide) rfl (fun ls hl => ?_)
            refine lv_goto (tgt := 5) hx hb dX11_greatestPart_98 (by decide) ?_
            exact ih5 (k5 + 1) a20_5 _ _ _ (by omega) hP hS (lv_sub hl [0, 1, 4, 5, 6] rfl)
        ·
          have c3 : ¬ nh ≤ k20 := fun h => c3 ((nI_leI (a := nh) (b := k20) (by omega) (by omega)).mpr h)
          omega
      | succ d20 ih20 =>
        intro k20 a20_5 H locs ls hk20 hP hS hl
        refine lv_iload hx hb dX11_greatestPart_20 (lv_at hl 0 rfl) ?_
        refine lv_aload_n hx hb dX11_greatestPart_22 rfl (lv_at hl 4 rfl) ?_
        refine va_get (D := (dC, dI)) (ci := 11) (v := .int (nI nh)) (C := RX11) (T := TX11) (N := 46) hx hb hts hi_X11 hown hK hP 0 rfl rfl 6 (by decide) (hts (.fieldLink RX11 106 "LeftQuillsModel" "hands" "I") (wmx 1 rfl)) (fun _ h9 => h9) e_h0_6 dX11_greatestPart_23 ?_
        refine lv_icmp_ge (tgt := 82) hx hb dX11_greatestPart_26 (by decide) (fun c5 => ?_) (fun c5 => ?_)
        ·
          have c5 : nh ≤ k20 := (nI_leI (a := nh) (b := k20) (by omega) (by omega)).mp c5
          omega
        ·
          have c5 : ¬ nh ≤ k20 := fun h => c5 ((nI_leI (a := nh) (b := k20) (by omega) (by omega)).mpr h)
          refine lv_iload hx hb dX11_greatestPart_29 (lv_at hl 1 rfl) ?_
          refine lv_iload_n hx hb dX11_greatestPart_31 rfl (lv_at hl 6 rfl) ?_
          refine lv_iload hx hb dX11_greatestPart_32 (lv_at hl 2 rfl) ?_
          have hPc := hP.sub (ws' := []) [] rfl
          refine va_calli (va_runS (As := [.int a0, .int (nI k5)]) (rest := [.int a20_5]) ⟨hx, hb, hml, hown, hts⟩ (c_X11_has l dC dI cI cZ cQ a0 (nI k5) H.size ) (va_cwS 2 hts gX11_greatestPart_X11_has rfl rfl rfl (by decide +kernel) ⟨Nat.le_of_ble_eq_true rfl, Nat.le_of_ble_eq_true rfl⟩) ⟨fun a U g mk q => by obtain ⟨q0, q1, qP, qK⟩ := q; exact ⟨q0, q1, qP, va_K.moved (u := U) (U := U.calling g mk a) (Vm.Alike.refl U.vm) qK⟩, fun U hU hW => ⟨rfl, by rw [hU], by rw [hU]; exact hPc, va_K.moved hW.alike hK⟩⟩ rfl rfl hl.1 rfl (lv_room (Nat.le_of_ble_eq_true rfl)) dX11_greatestPart_34 ⟨Nat.le_of_ble_eq_true rfl, Nat.le_of_ble_eq_true rfl⟩) hS (fun q _ h => False.elim h) (fun q h => False.elim h) (fun r6 u7 t H1 locs ht hvm hw8 hB hz1 hk1 hS => ?_)
          have hP := hP.kept (fun k q hk => hk1 q.1 (hP k q hk).lt (fun h => h))
          clear hz1 hk1 hPc
          generalize H1 = H at hP hS ht ⊢
          try dsimp only at hw8
          rcases hw8 with rfl | rfl
          ·
            refine lv_if_eq (tgt := 72) hx hb dX11_greatestPart_37 (by decide) (fun c9 => ?_) (fun c9 => ?_)
            · exact absurd c9 (by decide)
            clear c9
            refine lv_iload_n hx hb dX11_greatestPart_40 rfl (lv_at hl 6 rfl) ?_
            refine lv_iload hx hb dX11_greatestPart_41 (lv_at hl 0 rfl) ?_
            have hPc := hP.sub (ws' := []) [] rfl
            refine va_calli (va_runS (As := [.int a0, .int (nI k20)]) (rest := [.int a20_5]) ⟨hx, hb, hml, hown, hts⟩ (c_X11_has l dC dI cI cZ cQ a0 (nI k20) H.size ) (va_cwS 2 hts gX11_greatestPart_X11_has rfl rfl rfl (by decide +kernel) ⟨Nat.le_of_ble_eq_true rfl, Nat.le_of_ble_eq_true rfl⟩) ⟨fun a U g mk q => by obtain ⟨q0, q1, qP, qK⟩ := q; exact ⟨q0, q1, qP, va_K.moved (u := U) (U := U.calling g mk a) (Vm.Alike.refl U.vm) qK⟩, fun U hU hW => ⟨rfl, by rw [hU], by rw [hU]; exact hPc, va_K.moved hW.alike hK⟩⟩ rfl rfl hl.1 rfl (lv_room (Nat.le_of_ble_eq_true rfl)) dX11_greatestPart_43 ⟨Nat.le_of_ble_eq_true rfl, Nat.le_of_ble_eq_true rfl⟩) hS (fun q _ h => False.elim h) (fun q h => False.elim h) (fun r10 u11 t H1 locs ht hvm hw12 hB hz1 hk1 hS => ?_)
            have hP := hP.kept (fun k q hk => hk1 q.1 (hP k q hk).lt (fun h => h))
            clear hz1 hk1 hPc
            generalize H1 = H at hP hS ht ⊢
            try dsimp only at hw12
            rcases hw12 with rfl | rfl
            ·
              refine lv_if_eq (tgt := 72) hx hb dX11_greatestPart_46 (by decide) (fun c13 => ?_) (fun c13 => ?_)
              · exact absurd c13 (by decide)
              clear c13
              refine lv_aload_n hx hb dX11_greatestPart_49 rfl (lv_at hl 4 rfl) ?_
              refine lv_iload_n hx hb dX11_greatestPart_50 rfl (lv_at hl 5 rfl) ?_
              refine lv_iload hx hb dX11_greatestPart_51 (lv_at hl 2 rfl) ?_
              refine lv_iconst (v := 1) hx hb dX11_greatestPart_53 (by decide) ?_
              have hPc := hP.sub (ws' := [(h0, .inr (11, f_h0)), (m3, .inl (cI, 8, .inl fm3)), (m4, .inl (cI, 8, .inl fm4)), (m5, .inl (cI, 8, .inl fm5)), (m7, .inl (cI, 4, .inl fm7)), (m8, .inl (cI, 4, .inl fm8))]) [0, 1, 2, 3, 4, 5] rfl
              refine va_calli (va_runV (As := [.int (nI j), .int (nI k5), .int 1]) (rest := [.int a20_5]) ⟨hx, hb, hml, hown, hts⟩ (c_X11_softAfter l dC dI cI cZ cQ h0 m3 m4 m5 m7 m8 f_h0 fm3 fm4 fm5 fm7 fm8 j k5 1 nq H.size e_h0_3 e_h0_4 e_h0_5 e_h0_7 e_h0_8 (by omega) (by first | assumption | decide) (by omega) (by omega) (by omega)) (cwV 3 hts gX11_greatestPart_X11_softAfter rfl rfl rfl (by decide +kernel) ⟨Nat.le_of_ble_eq_true rfl, Nat.le_of_ble_eq_true rfl⟩) ⟨fun a U g mk q => by obtain ⟨q0, q1, qP, qK⟩ := q; exact ⟨q0, q1, qP, va_K.moved (u := U) (U := U.calling g mk a) (Vm.Alike.refl U.vm) qK⟩, va_recv hK hP (ci := 11) (q0 := 0) rfl rfl, fun U hU hW => ⟨rfl, by rw [hU], by rw [hU]; exact hPc, va_K.moved hW.alike hK⟩⟩ rfl rfl hl.1 rfl (lv_room (Nat.le_of_ble_eq_true rfl)) dX11_greatestPart_54 ⟨Nat.le_of_ble_eq_true rfl, Nat.le_of_ble_eq_true rfl⟩) hS (fun q _ h => False.elim h) (fun q h => False.elim h) (fun r14 u15 t H1 locs ht hvm hw16 hB hz1 hk1 hS => ?_)
              have hP := hP.kept (fun k q hk => hk1 q.1 (hP k q hk).lt (fun h => h))
              clear hz1 hk1 hPc
              generalize H1 = H at hP hS ht ⊢
              try dsimp only at hw16
              refine lv_aload_n hx hb dX11_greatestPart_57 rfl (lv_at hl 4 rfl) ?_
              refine lv_iload_n hx hb dX11_greatestPart_58 rfl (lv_at hl 5 rfl) ?_
              refine lv_iload hx hb dX11_greatestPart_59 (lv_at hl 0 rfl) ?_
              refine lv_iconst (v := 1) hx hb dX11_greatestPart_61 (by decide) ?_
              have hPc := hP.sub (ws' := [(h0, .inr (11, f_h0)), (m3, .inl (cI, 8, .inl fm3)), (m4, .inl (cI, 8, .inl fm4)), (m5, .inl (cI, 8, .inl fm5)), (m7, .inl (cI, 4, .inl fm7)), (m8, .inl (cI, 4, .inl fm8))]) [0, 1, 2, 3, 4, 5] rfl
              refine va_calli (va_runV (As := [.int (nI j), .int (nI k20), .int 1]) (rest := [.int r14, .int a20_5]) ⟨hx, hb, hml, hown, hts⟩ (c_X11_softAfter l dC dI cI cZ cQ h0 m3 m4 m5 m7 m8 f_h0 fm3 fm4 fm5 fm7 fm8 j k20 1 nq H.size e_h0_3 e_h0_4 e_h0_5 e_h0_7 e_h0_8 (by omega) (by first | assumption | decide) (by omega) (by omega) (by omega)) (cwV 3 hts gX11_greatestPart_X11_softAfter rfl rfl rfl (by decide +kernel) ⟨Nat.le_of_ble_eq_true rfl, Nat.le_of_ble_eq_true rfl⟩) ⟨fun a U g mk q => by obtain ⟨q0, q1, qP, qK⟩ := q; exact ⟨q0, q1, qP, va_K.moved (u := U) (U := U.calling g mk a) (Vm.Alike.refl U.vm) qK⟩, va_recv hK hP (ci := 11) (q0 := 0) rfl rfl, fun U hU hW => ⟨rfl, by rw [hU], by rw [hU]; exact hPc, va_K.moved hW.alike hK⟩⟩ rfl rfl hl.1 rfl (lv_room (Nat.le_of_ble_eq_true rfl)) dX11_greatestPart_62 ⟨Nat.le_of_ble_eq_true rfl, Nat.le_of_ble_eq_true rfl⟩) hS (fun q _ h => False.elim h) (fun q h => False.elim h) (fun r17 u18 t H1 locs ht hvm hw19 hB hz1 hk1 hS => ?_)
              have hP := hP.kept (fun k q hk => hk1 q.1 (hP k q hk).lt (fun h => h))
              clear hz1 hk1 hPc
              generalize H1 = H at hP hS ht ⊢
              try dsimp only at hw19
              refine lv_icmp_ne (tgt := 72) hx hb dX11_greatestPart_65 (by decide) (fun c20 => ?_) (fun c20 => ?_)
              ·
                refine lv_iconst (v := 0) hx hb dX11_greatestPart_72 (by decide) ?_
                refine lv_iadd hx hb dX11_greatestPart_73 ?_
                refine lv_topi (fun z21 ez21 => ?_)
                refine lv_istore (lv' := [(5, .int z21), (6, .int (nI k20)), (4, .int (nI k5)), (3, .int a5_3), (0, .ref h0), (1, .int (nI j)), (2, .int a0)]) hx hb dX11_greatestPart_74 hl (by decide) rfl (fun ls hl => ?_)
                refine lv_iinc (v := nI (k20 + 1)) (lv' := [(6, .int (nI (k20 + 1))), (5, .int z21), (4, .int (nI k5)), (3, .int a5_3), (0, .ref h0), (1, .int (nI j)), (2, .int a0)]) hx hb dX11_greatestPart_76 hl (k := 1) rfl ((rfl : nI k20 + Int32.ofInt 1 = nI k20 + 1).trans (nI_add k20 1)) (by decide) rfl (fun ls hl => ?_)
                refine lv_goto (tgt := 20) hx hb dX11_greatestPart_79 (by decide) ?_
                exact ih20 (k20 + 1) z21 _ _ _ (by omega) hP hS (lv_sub hl [0, 1, 2, 3, 4, 5, 6] rfl)
              ·
                refine lv_iconst (v := 1) hx hb dX11_greatestPart_68 (by decide) ?_
                refine lv_goto (tgt := 73) hx hb dX11_greatestPart_69 (by decide) ?_
                refine lv_iadd hx hb dX11_greatestPart_73 ?_
                refine lv_topi (fun z22 ez22 => ?_)
                refine lv_istore (lv' := [(5, .int z22), (6, .int (nI k20)), (4, .int (nI k5)), (3, .int a5_3), (0, .ref h0), (1, .int (nI j)), (2, .int a0)]) hx hb dX11_greatestPart_74 hl (by decide) rfl (fun ls hl => ?_)
                refine lv_iinc (v := nI (k20 + 1)) (lv' := [(6, .int (nI (k20 + 1))), (5, .int z22), (4, .int (nI k5)), (3, .int a5_3), (0, .ref h0), (1, .int (nI j)), (2, .int a0)]) hx hb dX11_greatestPart_76 hl (k := 1) rfl ((rfl : nI k20 + Int32.ofInt 1 = nI k20 + 1).trans (nI_add k20 1)) (by decide) rfl (fun ls hl => ?_)
                refine lv_goto (tgt := 20) hx hb dX11_greatestPart_79 (by decide) ?_
                exact ih20 (k20 + 1) z22 _ _ _ (by omega) hP hS (lv_sub hl [0, 1, 2, 3, 4, 5, 6] rfl)
            ·
              refine lv_if_eq (tgt := 72) hx hb dX11_greatestPart_46 (by decide) (fun c23 => ?_) (fun c23 => ?_)
              rotate_left
              · exact absurd c23 (by decide)
              clear c23
              refine lv_iconst (v := 0) hx hb dX11_greatestPart_72 (by decide) ?_
              refine lv_iadd hx hb dX11_greatestPart_73 ?_
              refine lv_topi (fun z24 ez24 => ?_)
              refine lv_istore (lv' := [(5, .int z24), (6, .int (nI k20)), (4, .int (nI k5)), (3, .int a5_3), (0, .ref h0), (1, .int (nI j)), (2, .int a0)]) hx hb dX11_greatestPart_74 hl (by decide) rfl (fun ls hl => ?_)
              refine lv_iinc (v := nI (k20 + 1)) (lv' := [(6, .int (nI (k20 + 1))), (5, .int z24), (4, .int (nI k5)), (3, .int a5_3), (0, .ref h0), (1, .int (nI j)), (2, .int a0)]) hx hb dX11_greatestPart_76 hl (k := 1) rfl ((rfl : nI k20 + Int32.ofInt 1 = nI k20 + 1).trans (nI_add k20 1)) (by decide) rfl (fun ls hl => ?_)
              refine lv_goto (tgt := 20) hx hb dX11_greatestPart_79 (by decide) ?_
              exact ih20 (k20 + 1) z24 _ _ _ (by omega) hP hS (lv_sub hl [0, 1, 2, 3, 4, 5, 6] rfl)
          ·
            refine lv_if_eq (tgt := 72) hx hb dX11_greatestPart_37 (by decide) (fun c25 => ?_) (fun c25 => ?_)
            rotate_left
            · exact absurd c25 (by decide)
            clear c25
            refine lv_iconst (v := 0) hx hb dX11_greatestPart_72 (by decide) ?_
            refine lv_iadd hx hb dX11_greatestPart_73 ?_
            refine lv_topi (fun z26 ez26 => ?_)
            refine lv_istore (lv' := [(5, .int z26), (6, .int (nI k20)), (4, .int (nI k5)), (3, .int a5_3), (0, .ref h0), (1, .int (nI j)), (2, .int a0)]) hx hb dX11_greatestPart_74 hl (by decide) rfl (fun ls hl => ?_)
            refine lv_iinc (v := nI (k20 + 1)) (lv' := [(6, .int (nI (k20 + 1))), (5, .int z26), (4, .int (nI k5)), (3, .int a5_3), (0, .ref h0), (1, .int (nI j)), (2, .int a0)]) hx hb dX11_greatestPart_76 hl (k := 1) rfl ((rfl : nI k20 + Int32.ofInt 1 = nI k20 + 1).trans (nI_add k20 1)) (by decide) rfl (fun ls hl => ?_)
            refine lv_goto (tgt := 20) hx hb dX11_greatestPart_79 (by decide) ?_
            exact ih20 (k20 + 1) z26 _ _ _ (by omega) hP hS (lv_sub hl [0, 1, 2, 3, 4, 5, 6] rfl)
