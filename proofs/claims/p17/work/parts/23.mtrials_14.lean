set_option maxHeartbeats 4000000 in
set_option maxRecDepth 100000 in
theorem c_X11_lookAt (l : Launch) (dC : Nat → ClassId) (dI : Nat → Nat → Nat) (cI cZ cQ : ClassId) (h0 : Nat) (nq : Nat) (nh : Nat) (m3 : Nat) (m4 : Nat) (m5 : Nat) (m7 : Nat) (m8 : Nat) (wm : Nat) (m38 : Nat) (m39 : Nat) (m40 : Nat) (f_h0 : List Value) (fm3 : Nat → Int32) (fm4 : Nat → Int32) (fm5 : Nat → Int32) (fm7 : Nat → Int32) (fm8 : Nat → Int32) (fm38 : Nat → Int32) (fm39 : Nat → Int32) (fm40 : Nat → Int32) (sz : Nat) (e_h0_2 : f_h0[2]? = some (.int (nI nq))) (e_h0_6 : f_h0[6]? = some (.int (nI nh))) (e_h0_3 : f_h0[3]? = some (.ref m3)) (e_h0_4 : f_h0[4]? = some (.ref m4)) (e_h0_5 : f_h0[5]? = some (.ref m5)) (e_h0_7 : f_h0[7]? = some (.ref m7)) (e_h0_8 : f_h0[8]? = some (.ref m8)) (e_h0_37 : f_h0[37]? = some (.int (nI wm))) (e_h0_38 : f_h0[38]? = some (.ref m38)) (e_h0_39 : f_h0[39]? = some (.ref m39)) (e_h0_40 : f_h0[40]? = some (.ref m40)) (hnq : nq ≤ 8) (hci : cIn fm5 nq) (hnh : nh ≤ 4) (hwm : wm ≤ 6) (hqi : qLt fm38 wm nq) (hpi : cIn fm39 wm) : Met l yX11_lookAt wsX11_lookAt ({ frames := 5, cells := 0, slots := 0, locals := 160 }) (va_Pc [.ref h0] (fun U => U.heap.size = sz ∧ va_P (dC, dI) vwCl [(h0, .inr (11, f_h0)), (m3, .inl (cI, 8, .inl fm3)), (m4, .inl (cI, 8, .inl fm4)), (m5, .inl (cI, 8, .inl fm5)), (m7, .inl (cI, 4, .inl fm7)), (m8, .inl (cI, 4, .inl fm8)), (m38, .inl (cI, 6, .inl fm38)), (m39, .inl (cI, 6, .inl fm39)), (m40, .inl (cI, 6, .inl fm40))] U.heap ∧ va_K (dC, dI) vwCl (tys0 cI cZ cQ) U)) (va_Qi (fun (r : Int32) (u : Nat → Nat) => True) (fun (_ : Nat → Nat) (_ : State) => True) (fun _ : Nat => False)) 0 0 (fun _ : Nat => False) := by
  refine Met.ofW (cc := cX11_lookAt) (maxL := 6) (ret := (some .int)) (by decide) rfl ?_
  intro p e s m args below meth c s₁ B hml hv
  obtain ⟨rfl, hsz, hP, hK⟩ := hv
  have hx := B.exec
  have hb := B.bytes
  have hr := B.returns
  have hts := atoms_spec (ws := wsX11_lookAt) B.pre
  have hown : s.vm.findClass RX11 = some m.cls := findClass_of_methodNamed B.named
  have hlocks := B.notSynchronized
  have hi_X11 : ∀ w ∈ u_ws RX11 TX11 46, w ∈ wsX11_lookAt := fun _ h => List.mem_cons_of_mem _ (List.mem_append_right _ (h))
  subst hsz
  have hS : va_S (fun _ : Nat => False) s.heap s.heap [] := va_S.rf
  have hl := lv_entry ([.ref h0]) (n := 6) (Nat.le_of_ble_eq_true rfl)
  rw [lg_entry_eq]
  generalize (lg_sl ([.ref h0]) ++ List.replicate (6 - (lg_sl ([.ref h0])).length) Slot.unset).toArray = ls at hl ⊢
  have hl : lv_has ls 6 [(0, .ref h0)] := hl
  refine lv_aload_n hx hb dX11_lookAt_0 rfl (lv_at hl 0 rfl) ?_
  have hPc := hP.sub (ws' := [(h0, .inr (11, f_h0)), (m3, .inl (cI, 8, .inl fm3)), (m4, .inl (cI, 8, .inl fm4)), (m5, .inl (cI, 8, .inl fm5)), (m7, .inl (cI, 4, .inl fm7)), (m8, .inl (cI, 4, .inl fm8)), (m38, .inl (cI, 6, .inl fm38)), (m39, .inl (cI, 6, .inl fm39)), (m40, .inl (cI, 6, .inl fm40))]) [0, 1, 2, 3, 4, 5, 6, 7, 8] rfl
  refine va_calli (va_runV (As := []) (rest := []) ⟨hx, hb, hml, hown, hts⟩ (c_X11_handsThatFit l dC dI cI cZ cQ h0 nq nh m3 m4 m5 m7 m8 wm m38 m39 m40 f_h0 fm3 fm4 fm5 fm7 fm8 fm38 fm39 fm40 s.heap.size e_h0_2 e_h0_6 e_h0_3 e_h0_4 e_h0_5 e_h0_7 e_h0_8 e_h0_37 e_h0_38 e_h0_39 e_h0_40 (by omega) (by first | assumption | decide) (by omega) (by omega) (by first | assumption | decide) (by first | assumption | decide)) (cwV 0 hts gX11_lookAt_X11_handsThatFit rfl rfl rfl (by decide +kernel) ⟨Nat.le_of_ble_eq_true rfl, Nat.le_of_ble_eq_true rfl⟩) ⟨fun a U g mk q => by obtain ⟨q0, q1, qP, qK⟩ := q; exact ⟨q0, q1, qP, va_K.moved (u := U) (U := U.calling g mk a) (Vm.Alike.refl U.vm) qK⟩, va_recv hK hP (ci := 11) (q0 := 0) rfl rfl, fun U hU hW => ⟨rfl, by rw [hU], by rw [hU]; exact hPc, va_K.moved hW.alike hK⟩⟩ rfl rfl hl.1 rfl (lv_room (Nat.le_of_ble_eq_true rfl)) dX11_lookAt_1 ⟨Nat.le_of_ble_eq_true rfl, Nat.le_of_ble_eq_true rfl⟩) hS (fun q _ h => False.elim h) (fun q h => False.elim h) (fun r1 u2 t H1 locs ht hvm hw3 hB hz1 hk1 hS => ?_)
  have hP := hP.kept (fun k q hk => hk1 q.1 (hP k q hk).lt (fun h => h))
  clear hz1 hk1 hPc
  generalize H1 = H at hP hS ht ⊢
  try dsimp only at hw3
  refine lv_istore_n (lv' := [(1, .int r1), (0, .ref h0)]) hx hb dX11_lookAt_4 rfl hl (by decide) rfl (fun ls hl => ?_)
  refine lv_iconst (v := (-1)) hx hb dX11_lookAt_5 (by decide) ?_
  refine lv_istore_n (lv' := [(2, .int (-1)), (1, .int r1), (0, .ref h0)]) hx hb dX11_lookAt_6 rfl hl (by decide) rfl (fun ls hl => ?_)
  refine lv_iload_n hx hb dX11_lookAt_7 rfl (lv_at hl 1 rfl) ?_
  have hPc := hP.sub (ws' := []) [] rfl
  refine va_calli (va_runS (As := [.int r1]) (rest := []) ⟨hx, hb, hml, hown, hts⟩ (c_X11_bits l dC dI cI cZ cQ r1 H.size ) (va_cwS 1 hts gX11_lookAt_X11_bits rfl rfl rfl (by decide +kernel) ⟨Nat.le_of_ble_eq_true rfl, Nat.le_of_ble_eq_true rfl⟩) ⟨fun a U g mk q => by obtain ⟨q0, q1, qP, qK⟩ := q; exact ⟨q0, q1, qP, va_K.moved (u := U) (U := U.calling g mk a) (Vm.Alike.refl U.vm) qK⟩, fun U hU hW => ⟨rfl, by rw [hU], by rw [hU]; exact hPc, va_K.moved hW.alike hK⟩⟩ rfl rfl hl.1 rfl (lv_room (Nat.le_of_ble_eq_true rfl)) dX11_lookAt_8 ⟨Nat.le_of_ble_eq_true rfl, Nat.le_of_ble_eq_true rfl⟩) hS (fun q _ h => False.elim h) (fun q h => False.elim h) (fun r4 u5 t H1 locs ht hvm hw6 hB hz1 hk1 hS => ?_)
  have hP := hP.kept (fun k q hk => hk1 q.1 (hP k q hk).lt (fun h => h))
  clear hz1 hk1 hPc
  generalize H1 = H at hP hS ht ⊢
  try dsimp only at hw6
  refine lv_istore_n (lv' := [(3, .int r4), (2, .int (-1)), (1, .int r1), (0, .ref h0)]) hx hb dX11_lookAt_11 rfl hl (by decide) rfl (fun ls hl => ?_)
  refine lv_iconst (v := 0) hx hb dX11_lookAt_12 (by decide) ?_
  refine lv_istore (lv' := [(4, .int 0), (3, .int r4), (2, .int (-1)), (1, .int r1), (0, .ref h0)]) hx hb dX11_lookAt_13 hl (by decide) rfl (fun ls hl => ?_)
  refine (fun (K : ∀ (d15 : Nat) (k15 : Nat) (a15_2 : Int32) (a15_3 : Int32) (H : Heap) (locs : List Loc) (ls : Array Slot), k15 + d15 = nq → va_P (dC, dI) vwCl [(h0, .inr (11, f_h0)), (m3, .inl (cI, 8, .inl fm3)), (m4, .inl (cI, 8, .inl fm4)), (m5, .inl (cI, 8, .inl fm5)), (m7, .inl (cI, 4, .inl fm7)), (m8, .inl (cI, 4, .inl fm8)), (m38, .inl (cI, 6, .inl fm38)), (m39, .inl (cI, 6, .inl fm39)), (m40, .inl (cI, 6, .inl fm40))] H → va_S (fun _ : Nat => False) s.heap H locs → lv_has ls 6 [(4, .int (nI k15)), (2, .int a15_2), (3, .int a15_3), (1, .int r1), (0, .ref h0)] → W p l e _ s m _ below meth c H locs _ _ _ (F0 m 15 ls [])) => K nq 0 (-1) r4 _ _ _ (by omega) hP hS (lv_sub hl [0, 2, 1, 3, 4] rfl)) ?_
  intro d15
  induction d15 with
  | zero =>
    intro k15 a15_2 a15_3 H locs ls hk15 hP hS hl
    refine lv_iload hx hb dX11_lookAt_15 (lv_at hl 0 rfl) ?_
    refine lv_aload_n hx hb dX11_lookAt_17 rfl (lv_at hl 4 rfl) ?_
    refine va_get (D := (dC, dI)) (ci := 11) (v := .int (nI nq)) (C := RX11) (T := TX11) (N := 46) hx hb hts hi_X11 hown hK hP 0 rfl rfl 2 (by decide) (hts (.fieldLink RX11 99 "LeftQuillsModel" "quills" "I") (wmx 1 rfl)) (fun _ h9 => h9) e_h0_2 dX11_lookAt_18 ?_
    refine lv_icmp_ge (tgt := 65) hx hb dX11_lookAt_21 (by decide) (fun c7 => ?_) (fun c7 => ?_)
    ·
      have c7 : nq ≤ k15 := (nI_leI (a := nq) (b := k15) (by omega) (by omega)).mp c7
      refine lv_iload_n hx hb dX11_lookAt_65 rfl (lv_at hl 1 rfl) ?_
      exact W.iret (v := a15_2) hx hb hr (fun t ht hW => ⟨⟨a15_2, (fun _ => 0), rfl, trivial, trivial⟩, hS.F ht⟩) hS.2.2 dX11_lookAt_66
    ·
      have c7 : ¬ nq ≤ k15 := fun h => c7 ((nI_leI (a := nq) (b := k15) (by omega) (by omega)).mpr h)
      omega
  | succ d15 ih15 =>
    intro k15 a15_2 a15_3 H locs ls hk15 hP hS hl
    refine lv_iload hx hb dX11_lookAt_15 (lv_at hl 0 rfl) ?_
    refine lv_aload_n hx hb dX11_lookAt_17 rfl (lv_at hl 4 rfl) ?_
    refine va_get (D := (dC, dI)) (ci := 11) (v := .int (nI nq)) (C := RX11) (T := TX11) (N := 46) hx hb hts hi_X11 hown hK hP 0 rfl rfl 2 (by decide) (hts (.fieldLink RX11 99 "LeftQuillsModel" "quills" "I") (wmx 1 rfl)) (fun _ h9 => h9) e_h0_2 dX11_lookAt_18 ?_
    refine lv_icmp_ge (tgt := 65) hx hb dX11_lookAt_21 (by decide) (fun c8 => ?_) (fun c8 => ?_)
    ·
      have c8 : nq ≤ k15 := (nI_leI (a := nq) (b := k15) (by omega) (by omega)).mp c8
      omega
    ·
      have c8 : ¬ nq ≤ k15 := fun h => c8 ((nI_leI (a := nq) (b := k15) (by omega) (by omega)).mpr h)
      refine lv_aload_n hx hb dX11_lookAt_24 rfl (lv_at hl 4 rfl) ?_
      refine lv_iload hx hb dX11_lookAt_25 (lv_at hl 0 rfl) ?_
      refine lv_iload_n hx hb dX11_lookAt_27 rfl (lv_at hl 3 rfl) ?_
      have hPc := hP.sub (ws' := [(h0, .inr (11, f_h0)), (m3, .inl (cI, 8, .inl fm3)), (m4, .inl (cI, 8, .inl fm4)), (m5, .inl (cI, 8, .inl fm5)), (m7, .inl (cI, 4, .inl fm7)), (m8, .inl (cI, 4, .inl fm8))]) [0, 1, 2, 3, 4, 5] rfl
      refine va_calli (va_runV (As := [.int (nI k15), .int r1]) (rest := []) ⟨hx, hb, hml, hown, hts⟩ (c_X11_greatestPart l dC dI cI cZ cQ h0 nq nh m3 m4 m5 m7 m8 f_h0 fm3 fm4 fm5 fm7 fm8 k15 r1 H.size e_h0_2 e_h0_6 e_h0_3 e_h0_4 e_h0_5 e_h0_7 e_h0_8 (by omega) (by first | assumption | decide) (by omega) (by omega)) (cwV 2 hts gX11_lookAt_X11_greatestPart rfl rfl rfl (by decide +kernel) ⟨Nat.le_of_ble_eq_true rfl, Nat.le_of_ble_eq_true rfl⟩) ⟨fun a U g mk q => by obtain ⟨q0, q1, qP, qK⟩ := q; exact ⟨q0, q1, qP, va_K.moved (u := U) (U := U.calling g mk a) (Vm.Alike.refl U.vm) qK⟩, va_recv hK hP (ci := 11) (q0 := 0) rfl rfl, fun U hU hW => ⟨rfl, by rw [hU], by rw [hU]; exact hPc, va_K.moved hW.alike hK⟩⟩ rfl rfl hl.1 rfl (lv_room (Nat.le_of_ble_eq_true rfl)) dX11_lookAt_28 ⟨Nat.le_of_ble_eq_true rfl, Nat.le_of_ble_eq_true rfl⟩) hS (fun q _ h => False.elim h) (fun q h => False.elim h) (fun r9 u10 t H1 locs ht hvm hw11 hB hz1 hk1 hS => ?_)
      have hP := hP.kept (fun k q hk => hk1 q.1 (hP k q hk).lt (fun h => h))
      clear hz1 hk1 hPc
      generalize H1 = H at hP hS ht ⊢
      try dsimp only at hw11
      refine lv_istore (lv' := [(5, .int r9), (4, .int (nI k15)), (2, .int a15_2), (3, .int a15_3), (1, .int r1), (0, .ref h0)]) hx hb dX11_lookAt_31 hl (by decide) rfl (fun ls hl => ?_)
      refine lv_iload hx hb dX11_lookAt_33 (lv_at hl 0 rfl) ?_
      refine lv_iload_n hx hb dX11_lookAt_35 rfl (lv_at hl 3 rfl) ?_
      refine lv_icmp_ge (tgt := 44) hx hb dX11_lookAt_36 (by decide) (fun c12 => ?_) (fun c12 => ?_)
      ·
        refine lv_iload_n hx hb dX11_lookAt_44 rfl (lv_at hl 2 rfl) ?_
        refine lv_istore_n (lv' := [(2, .int a15_2), (5, .int r9), (4, .int (nI k15)), (3, .int a15_3), (1, .int r1), (0, .ref h0)]) hx hb dX11_lookAt_45 rfl hl (by decide) rfl (fun ls hl => ?_)
        refine lv_iload hx hb dX11_lookAt_46 (lv_at hl 1 rfl) ?_
        refine lv_iload_n hx hb dX11_lookAt_48 rfl (lv_at hl 3 rfl) ?_
        refine lv_icmp_ge (tgt := 57) hx hb dX11_lookAt_49 (by decide) (fun c13 => ?_) (fun c13 => ?_)
        ·
          refine lv_iload_n hx hb dX11_lookAt_57 rfl (lv_at hl 3 rfl) ?_
          refine lv_istore_n (lv' := [(3, .int a15_3), (2, .int a15_2), (5, .int r9), (4, .int (nI k15)), (1, .int r1), (0, .ref h0)]) hx hb dX11_lookAt_58 rfl hl (by decide) rfl (fun ls hl => ?_)
          refine lv_iinc (v := nI (k15 + 1)) (lv' := [(4, .int (nI (k15 + 1))), (3, .int a15_3), (2, .int a15_2), (5, .int r9), (1, .int r1), (0, .ref h0)]) hx hb dX11_lookAt_59 hl (k := 3) rfl ((rfl : nI k15 + Int32.ofInt 1 = nI k15 + 1).trans (nI_add k15 1)) (by decide) rfl (fun ls hl => ?_)
          refine lv_goto (tgt := 15) hx hb dX11_lookAt_62 (by decide) ?_
          exact ih15 (k15 + 1) a15_2 a15_3 _ _ _ (by omega) hP hS (lv_sub hl [0, 2, 1, 4, 5] rfl)
        ·
          refine lv_iload hx hb dX11_lookAt_52 (lv_at hl 1 rfl) ?_
          refine lv_goto (tgt := 58) hx hb dX11_lookAt_54 (by decide) ?_
          refine lv_istore_n (lv' := [(3, .int r9), (2, .int a15_2), (5, .int r9), (4, .int (nI k15)), (1, .int r1), (0, .ref h0)]) hx hb dX11_lookAt_58 rfl hl (by decide) rfl (fun ls hl => ?_)
          refine lv_iinc (v := nI (k15 + 1)) (lv' := [(4, .int (nI (k15 + 1))), (3, .int r9), (2, .int a15_2), (5, .int r9), (1, .int r1), (0, .ref h0)]) hx hb dX11_lookAt_59 hl (k := 3) rfl ((rfl : nI k15 + Int32.ofInt 1 = nI k15 + 1).trans (nI_add k15 1)) (by decide) rfl (fun ls hl => ?_)
          refine lv_goto (tgt := 15) hx hb dX11_lookAt_62 (by decide) ?_
          exact ih15 (k15 + 1) a15_2 r9 _ _ _ (by omega) hP hS (lv_sub hl [0, 2, 1, 4, 5] rfl)
      ·
        refine lv_iload hx hb dX11_lookAt_39 (lv_at hl 1 rfl) ?_
        refine lv_goto (tgt := 45) hx hb dX11_lookAt_41 (by decide) ?_
        refine lv_istore_n (lv' := [(2, .int (nI k15)), (5, .int r9), (4, .int (nI k15)), (3, .int a15_3), (1, .int r1), (0, .ref h0)]) hx hb dX11_lookAt_45 rfl hl (by decide) rfl (fun ls hl => ?_)
        refine lv_iload hx hb dX11_lookAt_46 (lv_at hl 1 rfl) ?_
        refine lv_iload_n hx hb dX11_lookAt_48 rfl (lv_at hl 3 rfl) ?_
        refine lv_icmp_ge (tgt := 57) hx hb dX11_lookAt_49 (by decide) (fun c14 => ?_) (fun c14 => ?_)
        ·
          refine lv_iload_n hx hb dX11_lookAt_57 rfl (lv_at hl 3 rfl) ?_
          refine lv_istore_n (lv' := [(3, .int a15_3), (2, .int (nI k15)), (5, .int r9), (4, .int (nI k15)), (1, .int r1), (0, .ref h0)]) hx hb dX11_lookAt_58 rfl hl (by decide) rfl (fun ls hl => ?_)
          refine lv_iinc (v := nI (k15 + 1)) (lv' := [(4, .int (nI (k15 + 1))), (3, .int a15_3), (2, .int (nI k15)), (5, .int r9), (1, .int r1), (0, .ref h0)]) hx hb dX11_lookAt_59 hl (k := 3) rfl ((rfl : nI k15 + Int32.ofInt 1 = nI k15 + 1).trans (nI_add k15 1)) (by decide) rfl (fun ls hl => ?_)
          refine lv_goto (tgt := 15) hx hb dX11_lookAt_62 (by decide) ?_
          exact ih15 (k15 + 1) (nI k15) a15_3 _ _ _ (by omega) hP hS (lv_sub hl [0, 2, 1, 4, 5] rfl)
        ·
          refine lv_iload hx hb dX11_lookAt_52 (lv_at hl 1 rfl) ?_
          refine lv_goto (tgt := 58) hx hb dX11_lookAt_54 (by decide) ?_
          refine lv_istore_n (lv' := [(3, .int r9), (2, .int (nI k15)), (5, .int r9), (4, .int (nI k15)), (1, .int r1), (0, .ref h0)]) hx hb dX11_lookAt_58 rfl hl (by decide) rfl (fun ls hl => ?_)
          refine lv_iinc (v := nI (k15 + 1)) (lv' := [(4, .int (nI (k15 + 1))), (3, .int r9), (2, .int (nI k15)), (5, .int r9), (1, .int r1), (0, .ref h0)]) hx hb dX11_lookAt_59 hl (k := 3) rfl ((rfl : nI k15 + Int32.ofInt 1 = nI k15 + 1).trans (nI_add k15 1)) (by decide) rfl (fun ls hl => ?_)
          refine lv_goto (tgt := 15) hx hb dX11_lookAt_62 (by decide) ?_
          exact ih15 (k15 + 1) (nI k15) r9 _ _ _ (by omega) hP hS (lv_sub hl [0, 2, 1, 4, 5] rfl)
