set_option maxHeartbeats 4000000 in
set_option maxRecDepth 100000 in
theorem c_X9_leftAheadD (l : Launch) (dC : Nat → ClassId) (dI : Nat → Nat → Nat) (cI cZ cQ : ClassId) (h0 : Nat) (ho : Nat) (hd : Nat) (f_h0 : List Value) (o5 : Nat) (o6 : Nat) (o7 : Nat) (o10 : Nat) (o11 : Nat) (o12 : Nat) (nq : Nat) (nh : Nat) (f_ho : List Value) (a3 : Nat) (a4 : Nat) (f_hd : List Value) (fa3 : Nat → Int32) (fa4 : Nat → Int32) (fo5 : Nat → Int32) (fo6 : Nat → Int32) (fo7 : Nat → Int32) (fo10 : Nat → Int32) (fo11 : Nat → Int32) (fo12 : Nat → Int32) (sz : Nat) (e_h0_0 : fAt f_h0 0 = some (.ref ho)) (e_h0_1 : fAt f_h0 1 = some (.ref hd)) (e_ho_5 : fAt f_ho 5 = some (.ref o5)) (e_ho_6 : fAt f_ho 6 = some (.ref o6)) (e_ho_7 : fAt f_ho 7 = some (.ref o7)) (e_ho_10 : fAt f_ho 10 = some (.ref o10)) (e_ho_11 : fAt f_ho 11 = some (.ref o11)) (e_ho_12 : fAt f_ho 12 = some (.ref o12)) (e_ho_3 : fAt f_ho 3 = some (.int (nI nq))) (e_ho_4 : fAt f_ho 4 = some (.int (nI nh))) (e_hd_3 : fAt f_hd 3 = some (.ref a3)) (e_hd_4 : fAt f_hd 4 = some (.ref a4)) (hnq : nq ≤ 8) (hnh : nh ≤ 4) : Met l yX9_leftAheadOfRight wsX9_leftAheadOfRight ({ frames := 4, cells := 0, slots := 0, locals := 133 }) (va_Pc [.ref h0] (fun U => U.heap.size = sz ∧ va_P (dC, dI) vwCl [(h0, .inr (9, f_h0)), (ho, .inr (5, f_ho)), (hd, .inr (1, f_hd)), (a3, .inl (cI, 8, .inl fa3)), (a4, .inl (cI, 8, .inl fa4)), (o5, .inl (cI, 8, .inl fo5)), (o6, .inl (cI, 8, .inl fo6)), (o7, .inl (cI, 8, .inl fo7)), (o10, .inl (cI, 4, .inl fo10)), (o11, .inl (cI, 4, .inl fo11)), (o12, .inl (cI, 4, .inl fo12))] U.heap ∧ va_K (dC, dI) vwCl (tys0 cI cZ cQ) U ∧ xN U)) (va_Qi (fun (r : Int32) (u : Nat → Nat) => r = spF (fun j k => drV (fo5 j) (gdM lcB (wrF (fo5 j) (fo6 j) (fo7 j) (fo10 k) (fo11 k)) (fo12 k) (fa3 j) (fa4 j) 999)) nh nq) (fun (_ : Nat → Nat) (_ : State) => True) (fun _ : Nat => False)) 0 0 (fun _ : Nat => False) := by
  refine Met.ofW (cc := cX9_leftAheadOfRight) (maxL := 5) (ret := (some .int)) (by decide) rfl ?_
  intro p e s m args below meth c s₁ B hml hv
  obtain ⟨rfl, hsz, hP, hK, hN⟩ := hv
  have hx := B.exec
  have hb := B.bytes
  have hr := B.returns
  have hts := atoms_spec (ws := wsX9_leftAheadOfRight) B.pre
  have hown : s.vm.findClass RX9 = some m.cls := findClass_of_methodNamed B.named
  have hlocks := B.notSynchronized
  have hi_X5 : ∀ w ∈ u_ws RX5 TX5 13, w ∈ wsX9_leftAheadOfRight := fun _ h => List.mem_cons_of_mem _ (List.mem_append_left _ (List.mem_append_right _ (h)))
  have hi_X9 : ∀ w ∈ u_ws RX9 TX9 3, w ∈ wsX9_leftAheadOfRight := fun _ h => List.mem_cons_of_mem _ (List.mem_append_left _ (List.mem_append_left _ (List.mem_append_right _ (h))))
  subst hsz
  have hS : va_S (fun _ : Nat => False) s.heap s.heap [] := va_S.rf
  have hl := lv_entry ([.ref h0]) (n := 5) (Nat.le_of_ble_eq_true rfl)
  rw [lg_entry_eq]
  generalize (lg_sl ([.ref h0]) ++ List.replicate (5 - (lg_sl ([.ref h0])).length) Slot.unset).toArray = ls at hl ⊢
  have hl : lv_has ls 5 [(0, .ref h0)] := hl
  refine lv_iconst (v := 0) hx hb dX9_leftAheadOfRight_0 (by decide) ?_
  refine lv_istore_n (lv' := [(1, .int 0), (0, .ref h0)]) hx hb dX9_leftAheadOfRight_1 rfl hl (by decide) rfl (fun ls hl => ?_)
  refine lv_iconst (v := 0) hx hb dX9_leftAheadOfRight_2 (by decide) ?_
  refine lv_istore_n (lv' := [(2, .int 0), (1, .int 0), (0, .ref h0)]) hx hb dX9_leftAheadOfRight_3 rfl hl (by decide) rfl (fun ls hl => ?_)
  refine (fun (K : ∀ (d4 : Nat) (k4 : Nat) (a4_1 : Int32) (H : Heap) (locs : List Loc) (ls : Array Slot), k4 + d4 = nq → a4_1 = spF (fun j k => drV (fo5 j) (gdM lcB (wrF (fo5 j) (fo6 j) (fo7 j) (fo10 k) (fo11 k)) (fo12 k) (fa3 j) (fa4 j) 999)) nh k4 → va_P (dC, dI) vwCl [(h0, .inr (9, f_h0)), (ho, .inr (5, f_ho)), (hd, .inr (1, f_hd)), (a3, .inl (cI, 8, .inl fa3)), (a4, .inl (cI, 8, .inl fa4)), (o5, .inl (cI, 8, .inl fo5)), (o6, .inl (cI, 8, .inl fo6)), (o7, .inl (cI, 8, .inl fo7)), (o10, .inl (cI, 4, .inl fo10)), (o11, .inl (cI, 4, .inl fo11)), (o12, .inl (cI, 4, .inl fo12))] H → va_S (fun _ : Nat => False) s.heap H locs → lv_has ls 5 [(2, .int (nI k4)), (1, .int a4_1), (0, .ref h0)] → W p l e _ s m _ below meth c H locs _ _ _ (F0 m 4 ls [])) => K nq 0 0 _ _ _ (by omega) rfl hP hS (lv_sub hl [0, 1, 2] rfl)) ?_
  intro d4
  induction d4 with
  | zero =>
    intro k4 a4_1 H locs ls hk4 hv4_0 hP hS hl
    refine lv_iload_n hx hb dX9_leftAheadOfRight_4 rfl (lv_at hl 0 rfl) ?_
    refine lv_aload_n hx hb dX9_leftAheadOfRight_5 rfl (lv_at hl 2 rfl) ?_
    refine va_get (D := (dC, dI)) (ci := 9) (v := .ref ho) (C := RX9) (T := TX9) (N := 3) hx hb hts hi_X9 hown hK hP 0 rfl rfl 0 (by decide) (hts (.fieldLink RX9 15 "LeftQuills$Trials" "office" "LLeftQuills$Office;") (wmx 1 rfl)) (fun _ h9 => h9) e_h0_0 dX9_leftAheadOfRight_6 ?_
    refine va_get (D := (dC, dI)) (ci := 5) (v := .int (nI nq)) (C := RX5) (T := TX5) (N := 13) hx hb hts hi_X5 hown hK hP 1 rfl rfl 3 (by decide) (hts (.fieldLink RX9 66 "LeftQuills$Office" "quills" "I") (wmx 2 rfl)) (fun _ h9 => h9) e_ho_3 dX9_leftAheadOfRight_9 ?_
    refine lv_icmp_ge (tgt := 71) hx hb dX9_leftAheadOfRight_12 (by decide) (fun c1 => ?_) (fun c1 => ?_)
    ·
      have c1 : nq ≤ k4 := (nI_leI (a := nq) (b := k4) (by omega) (by omega)).mp c1
      refine lv_iload_n hx hb dX9_leftAheadOfRight_71 rfl (lv_at hl 1 rfl) ?_
      exact W.iret (v := a4_1) hx hb hr (fun t ht hW => ⟨⟨a4_1, (fun _ => 0), rfl, (hv4_0.trans (by rw [show k4 = nq from by omega])), trivial⟩, hS.F ht⟩) hS.2.2 dX9_leftAheadOfRight_72
    ·
      have c1 : ¬ nq ≤ k4 := fun h => c1 ((nI_leI (a := nq) (b := k4) (by omega) (by omega)).mpr h)
      omega
  | succ d4 ih4 =>
    intro k4 a4_1 H locs ls hk4 hv4_0 hP hS hl
    refine lv_iload_n hx hb dX9_leftAheadOfRight_4 rfl (lv_at hl 0 rfl) ?_
    refine lv_aload_n hx hb dX9_leftAheadOfRight_5 rfl (lv_at hl 2 rfl) ?_
    refine va_get (D := (dC, dI)) (ci := 9) (v := .ref ho) (C := RX9) (T := TX9) (N := 3) hx hb hts hi_X9 hown hK hP 0 rfl rfl 0 (by decide) (hts (.fieldLink RX9 15 "LeftQuills$Trials" "office" "LLeftQuills$Office;") (wmx 1 rfl)) (fun _ h9 => h9) e_h0_0 dX9_leftAheadOfRight_6 ?_
    refine va_get (D := (dC, dI)) (ci := 5) (v := .int (nI nq)) (C := RX5) (T := TX5) (N := 13) hx hb hts hi_X5 hown hK hP 1 rfl rfl 3 (by decide) (hts (.fieldLink RX9 66 "LeftQuills$Office" "quills" "I") (wmx 2 rfl)) (fun _ h9 => h9) e_ho_3 dX9_leftAheadOfRight_9 ?_
    refine lv_icmp_ge (tgt := 71) hx hb dX9_leftAheadOfRight_12 (by decide) (fun c2 => ?_) (fun c2 => ?_)
    ·
      have c2 : nq ≤ k4 := (nI_leI (a := nq) (b := k4) (by omega) (by omega)).mp c2
      omega
    ·
      have c2 : ¬ nq ≤ k4 := fun h => c2 ((nI_leI (a := nq) (b := k4) (by omega) (by omega)).mpr h)
      refine lv_iconst (v := 0) hx hb dX9_leftAheadOfRight_15 (by decide) ?_
      refine lv_istore_n (lv' := [(3, .int 0), (2, .int (nI k4)), (1, .int a4_1), (0, .ref h0)]) hx hb dX9_leftAheadOfRight_16 rfl hl (by decide) rfl (fun ls hl => ?_)
      refine (fun (K : ∀ (d17 : Nat) (k17 : Nat) (a17_1 : Int32) (H : Heap) (locs : List Loc) (ls : Array Slot), k17 + d17 = nh → a17_1 = spF (fun j k => drV (fo5 j) (gdM lcB (wrF (fo5 j) (fo6 j) (fo7 j) (fo10 k) (fo11 k)) (fo12 k) (fa3 j) (fa4 j) 999)) nh k4 + smF ((fun j k => drV (fo5 j) (gdM lcB (wrF (fo5 j) (fo6 j) (fo7 j) (fo10 k) (fo11 k)) (fo12 k) (fa3 j) (fa4 j) 999)) k4) k17 → va_P (dC, dI) vwCl [(h0, .inr (9, f_h0)), (ho, .inr (5, f_ho)), (hd, .inr (1, f_hd)), (a3, .inl (cI, 8, .inl fa3)), (a4, .inl (cI, 8, .inl fa4)), (o5, .inl (cI, 8, .inl fo5)), (o6, .inl (cI, 8, .inl fo6)), (o7, .inl (cI, 8, .inl fo7)), (o10, .inl (cI, 4, .inl fo10)), (o11, .inl (cI, 4, .inl fo11)), (o12, .inl (cI, 4, .inl fo12))] H → va_S (fun _ : Nat => False) s.heap H locs → lv_has ls 5 [(3, .int (nI k17)), (1, .int a17_1), (2, .int (nI k4)), (0, .ref h0)] → W p l e _ s m _ below meth c H locs _ _ _ (F0 m 17 ls [])) => K nh 0 a4_1 _ _ _ (by omega) (dr_new hv4_0) hP hS (lv_sub hl [0, 2, 1, 3] rfl)) ?_
      intro d17
      induction d17 with
      | zero =>
        intro k17 a17_1 H locs ls hk17 hv17_0 hP hS hl
        refine lv_iload_n hx hb dX9_leftAheadOfRight_17 rfl (lv_at hl 0 rfl) ?_
        refine lv_aload_n hx hb dX9_leftAheadOfRight_18 rfl (lv_at hl 3 rfl) ?_
        refine va_get (D := (dC, dI)) (ci := 9) (v := .ref ho) (C := RX9) (T := TX9) (N := 3) hx hb hts hi_X9 hown hK hP 0 rfl rfl 0 (by decide) (hts (.fieldLink RX9 15 "LeftQuills$Trials" "office" "LLeftQuills$Office;") (wmx 1 rfl)) (fun _ h9 => h9) e_h0_0 dX9_leftAheadOfRight_19 ?_
        refine va_get (D := (dC, dI)) (ci := 5) (v := .int (nI nh)) (C := RX5) (T := TX5) (N := 13) hx hb hts hi_X5 hown hK hP 1 rfl rfl 4 (by decide) (hts (.fieldLink RX9 70 "LeftQuills$Office" "hands" "I") (wmx 3 rfl)) (fun _ h9 => h9) e_ho_4 dX9_leftAheadOfRight_22 ?_
        refine lv_icmp_ge (tgt := 65) hx hb dX9_leftAheadOfRight_25 (by decide) (fun c3 => ?_) (fun c3 => ?_)
        ·
          have c3 : nh ≤ k17 := (nI_leI (a := nh) (b := k17) (by omega) (by omega)).mp c3
          refine lv_iinc (v := nI (k4 + 1)) (lv' := [(2, .int (nI (k4 + 1))), (3, .int (nI k17)), (1, .int a17_1), (0, .ref h0)]) hx hb dX9_leftAheadOfRight_65 hl (k := 2) rfl ((rfl : nI k4 + Int32.ofInt 1 = nI k4 + 1).trans (nI_add k4 1)) (by decide) rfl (fun ls hl => ?_)
          refine lv_goto (tgt := 4) hx hb dX9_leftAheadOfRight_68 (by decide) ?_
          exact ih4 (k4 + 1) a17_1 _ _ _ (by omega) (dr_out hv17_0 (show k17 = nh from by omega)) hP hS (lv_sub hl [0, 2, 3] rfl)
        ·
          have c3 : ¬ nh ≤ k17 := fun h => c3 ((nI_leI (a := nh) (b := k17) (by omega) (by omega)).mpr h)
          omega
      | succ d17 ih17 =>
        intro k17 a17_1 H locs ls hk17 hv17_0 hP hS hl
        refine lv_iload_n hx hb dX9_leftAheadOfRight_17 rfl (lv_at hl 0 rfl) ?_
        refine lv_aload_n hx hb dX9_leftAheadOfRight_18 rfl (lv_at hl 3 rfl) ?_
        refine va_get (D := (dC, dI)) (ci := 9) (v := .ref ho) (C := RX9) (T := TX9) (N := 3) hx hb hts hi_X9 hown hK hP 0 rfl rfl 0 (by decide) (hts (.fieldLink RX9 15 "LeftQuills$Trials" "office" "LLeftQuills$Office;") (wmx 1 rfl)) (fun _ h9 => h9) e_h0_0 dX9_leftAheadOfRight_19 ?_
        refine va_get (D := (dC, dI)) (ci := 5) (v := .int (nI nh)) (C := RX5) (T := TX5) (N := 13) hx hb hts hi_X5 hown hK hP 1 rfl rfl 4 (by decide) (hts (.fieldLink RX9 70 "LeftQuills$Office" "hands" "I") (wmx 3 rfl)) (fun _ h9 => h9) e_ho_4 dX9_leftAheadOfRight_22 ?_
        refine lv_icmp_ge (tgt := 65) hx hb dX9_leftAheadOfRight_25 (by decide) (fun c4 => ?_) (fun c4 => ?_)
        ·
          have c4 : nh ≤ k17 := (nI_leI (a := nh) (b := k17) (by omega) (by omega)).mp c4
          omega
        ·
          have c4 : ¬ nh ≤ k17 := fun h => c4 ((nI_leI (a := nh) (b := k17) (by omega) (by omega)).mpr h)
          refine lv_aload_n hx hb dX9_leftAheadOfRight_28 rfl (lv_at hl 3 rfl) ?_
          refine lv_iload_n hx hb dX9_leftAheadOfRight_29 rfl (lv_at hl 2 rfl) ?_
          refine lv_iload_n hx hb dX9_leftAheadOfRight_30 rfl (lv_at hl 0 rfl) ?_
          have hPc := hP.sub (ws' := [(h0, .inr (9, f_h0)), (ho, .inr (5, f_ho)), (hd, .inr (1, f_hd)), (a3, .inl (cI, 8, .inl fa3)), (a4, .inl (cI, 8, .inl fa4)), (o5, .inl (cI, 8, .inl fo5)), (o6, .inl (cI, 8, .inl fo6)), (o7, .inl (cI, 8, .inl fo7)), (o10, .inl (cI, 4, .inl fo10)), (o11, .inl (cI, 4, .inl fo11)), (o12, .inl (cI, 4, .inl fo12))]) [0, 1, 2, 3, 4, 5, 6, 7, 8, 9, 10] rfl
          refine va_calli (va_runV (As := [.int (nI k4), .int (nI k17)]) (rest := []) ⟨hx, hb, hml, hown, hts⟩ (c_X9_goodNowD l dC dI cI cZ cQ h0 ho hd f_h0 o5 o6 o7 o10 o11 o12 f_ho a3 a4 f_hd fa3 fa4 fo5 fo6 fo7 fo10 fo11 fo12 k4 k17 H.size e_h0_0 e_h0_1 e_ho_5 e_ho_6 e_ho_7 e_ho_10 e_ho_11 e_ho_12 e_hd_3 e_hd_4 (by omega) (by omega)) (cwV 2 hts gX9_leftAheadOfRight_X9_goodNow rfl rfl rfl hd_X9_goodNow_RX9 ⟨Nat.le_of_ble_eq_true rfl, Nat.le_of_ble_eq_true rfl⟩) ⟨fun a U g mk q => by obtain ⟨q0, q1, qP, qK, qN⟩ := q; exact ⟨q0, q1, qP, va_K.moved (u := U) (U := U.calling g mk a) (Vm.Alike.refl U.vm) qK, qN.calling⟩, va_recv hK hP (ci := 9) (q0 := 0) rfl rfl, fun U hU hW => ⟨rfl, by rw [hU], by rw [hU]; exact hPc, va_K.moved hW.alike hK, hN.warm hW⟩⟩ rfl rfl hl.1 rfl (lv_room (Nat.le_of_ble_eq_true rfl)) dX9_leftAheadOfRight_31 ⟨Nat.le_of_ble_eq_true rfl, Nat.le_of_ble_eq_true rfl⟩) hS (fun q _ h => False.elim h) (fun q h => False.elim h) (fun r5 u6 t H1 locs ht hvm hw7 hB hz1 hk1 hS => ?_)
          have hP := hP.kept (fun k q hk => hk1 q.1 (hP k q hk).lt (fun h => h))
          clear hz1 hk1 hPc
          generalize H1 = H at hP hS ht ⊢
          try dsimp only at hw7
          obtain ⟨w8, hw8, ew8, rfl⟩ := nat_ix gdM_le hw7
          refine lv_istore (lv' := [(4, .int (nI w8)), (3, .int (nI k17)), (1, .int a17_1), (2, .int (nI k4)), (0, .ref h0)]) hx hb dX9_leftAheadOfRight_34 hl (by decide) rfl (fun ls hl => ?_)
          refine lv_iload_n hx hb dX9_leftAheadOfRight_36 rfl (lv_at hl 2 rfl) ?_
          refine lv_aload_n hx hb dX9_leftAheadOfRight_37 rfl (lv_at hl 4 rfl) ?_
          refine va_get (D := (dC, dI)) (ci := 9) (v := .ref ho) (C := RX9) (T := TX9) (N := 3) hx hb hts hi_X9 hown hK hP 0 rfl rfl 0 (by decide) (hts (.fieldLink RX9 15 "LeftQuills$Trials" "office" "LLeftQuills$Office;") (wmx 1 rfl)) (fun _ h9 => h9) e_h0_0 dX9_leftAheadOfRight_38 ?_
          refine va_get (D := (dC, dI)) (ci := 5) (v := .ref o5) (C := RX5) (T := TX5) (N := 13) hx hb hts hi_X5 hown hK hP 1 rfl rfl 5 (by decide) (hts (.fieldLink RX9 73 "LeftQuills$Office" "wing" "[I") (wmx 4 rfl)) (fun _ h9 => h9) e_ho_5 dX9_leftAheadOfRight_41 ?_
          refine lv_iload_n hx hb dX9_leftAheadOfRight_44 rfl (lv_at hl 3 rfl) ?_
          refine va_iald hx hb hK hP 5 0 rfl rfl (vp_in_nI (n := k4) (N := 8) (by omega) (by decide)) dX9_leftAheadOfRight_45 ?_
          refine W.eq (g2 := F0 m 46 ls [.int (fo5 k4), .int a17_1]) (congrArg (fun y9 => F0 m 46 ls (.int (fo5 y9) :: [.int a17_1])) ((nI_clamp (n := k4) (by omega)))) ?_
          refine lv_if_ne (tgt := 54) hx hb dX9_leftAheadOfRight_46 (by decide) (fun c9 => ?_) (fun c9 => ?_)
          ·
            refine lv_iload hx hb dX9_leftAheadOfRight_54 (lv_at hl 0 rfl) ?_
            refine lv_ineg hx hb dX9_leftAheadOfRight_56 ?_
            refine lv_topi (fun z10 ez10 => ?_)
            refine lv_iadd hx hb dX9_leftAheadOfRight_57 ?_
            refine lv_istore_n (lv' := [(1, .int (a17_1 + z10)), (4, .int (nI w8)), (3, .int (nI k17)), (2, .int (nI k4)), (0, .ref h0)]) hx hb dX9_leftAheadOfRight_58 rfl hl (by decide) rfl (fun ls hl => ?_)
            refine lv_iinc (v := nI (k17 + 1)) (lv' := [(3, .int (nI (k17 + 1))), (1, .int (a17_1 + z10)), (4, .int (nI w8)), (2, .int (nI k4)), (0, .ref h0)]) hx hb dX9_leftAheadOfRight_59 hl (k := 2) rfl ((rfl : nI k17 + Int32.ofInt 1 = nI k17 + 1).trans (nI_add k17 1)) (by decide) rfl (fun ls hl => ?_)
            refine lv_goto (tgt := 17) hx hb dX9_leftAheadOfRight_62 (by decide) ?_
            exact ih17 (k17 + 1) (a17_1 + z10) _ _ _ (by omega) (dr_in hv17_0 (ez10.trans (by rw [ew8.out]; first | exact (if_pos c9).symm | exact (if_neg c9).symm))) hP hS (lv_sub hl [0, 1, 3, 4] rfl)
          ·
            refine lv_iload hx hb dX9_leftAheadOfRight_49 (lv_at hl 0 rfl) ?_
            refine lv_goto (tgt := 57) hx hb dX9_leftAheadOfRight_51 (by decide) ?_
            refine lv_iadd hx hb dX9_leftAheadOfRight_57 ?_
            refine lv_istore_n (lv' := [(1, .int (a17_1 + (nI w8))), (4, .int (nI w8)), (3, .int (nI k17)), (2, .int (nI k4)), (0, .ref h0)]) hx hb dX9_leftAheadOfRight_58 rfl hl (by decide) rfl (fun ls hl => ?_)
            refine lv_iinc (v := nI (k17 + 1)) (lv' := [(3, .int (nI (k17 + 1))), (1, .int (a17_1 + (nI w8))), (4, .int (nI w8)), (2, .int (nI k4)), (0, .ref h0)]) hx hb dX9_leftAheadOfRight_59 hl (k := 2) rfl ((rfl : nI k17 + Int32.ofInt 1 = nI k17 + 1).trans (nI_add k17 1)) (by decide) rfl (fun ls hl => ?_)
            refine lv_goto (tgt := 17) hx hb dX9_leftAheadOfRight_62 (by decide) ?_
            exact ih17 (k17 + 1) (a17_1 + (nI w8)) _ _ _ (by omega) (dr_in hv17_0 (by rw [ew8.out]; first | exact (if_pos c9).symm | exact (if_neg c9).symm)) hP hS (lv_sub hl [0, 1, 3, 4] rfl)
set_option maxHeartbeats 4000000 in
set_option maxRecDepth 100000 in
theorem c_X10_dearerD (l : Launch) (dC : Nat → ClassId) (dI : Nat → Nat → Nat) (cI cZ cQ : ClassId) (h0 : Nat) (x4 : Nat) (x9 : Nat) (f_h0 : List Value) (o5 : Nat) (o6 : Nat) (o7 : Nat) (o10 : Nat) (o11 : Nat) (o12 : Nat) (nq : Nat) (nh : Nat) (f_x4 : List Value) (x6 : Nat) (f_x9 : List Value) (a2 : Nat) (a3 : Nat) (a4 : Nat) (f_x6 : List Value) (fa3 : Nat → Int32) (fa4 : Nat → Int32) (fo5 : Nat → Int32) (fo6 : Nat → Int32) (fo7 : Nat → Int32) (fo10 : Nat → Int32) (fo11 : Nat → Int32) (fo12 : Nat → Int32) (sz : Nat) (e_h0_4 : fAt f_h0 4 = some (.ref x4)) (e_h0_9 : fAt f_h0 9 = some (.ref x9)) (e_x4_5 : fAt f_x4 5 = some (.ref o5)) (e_x4_6 : fAt f_x4 6 = some (.ref o6)) (e_x4_7 : fAt f_x4 7 = some (.ref o7)) (e_x4_10 : fAt f_x4 10 = some (.ref o10)) (e_x4_11 : fAt f_x4 11 = some (.ref o11)) (e_x4_12 : fAt f_x4 12 = some (.ref o12)) (e_x4_3 : fAt f_x4 3 = some (.int (nI nq))) (e_x4_4 : fAt f_x4 4 = some (.int (nI nh))) (e_x9_0 : fAt f_x9 0 = some (.ref x4)) (e_x9_1 : fAt f_x9 1 = some (.ref x6)) (e_x6_2 : fAt f_x6 2 = some (.ref a2)) (e_x6_3 : fAt f_x6 3 = some (.ref a3)) (e_x6_4 : fAt f_x6 4 = some (.ref a4)) (hnq : nq ≤ 8) (hnh : nh ≤ 4) : Met l yX10_dearer wsX10_dearer ({ frames := 5, cells := 0, slots := 0, locals := 157 }) (va_Pc [.ref h0] (fun U => U.heap.size = sz ∧ va_P (dC, dI) vwCl [(h0, .inr (10, f_h0)), (x4, .inr (5, f_x4)), (x9, .inr (9, f_x9)), (x6, .inr (1, f_x6)), (a3, .inl (cI, 8, .inl fa3)), (a4, .inl (cI, 8, .inl fa4)), (o5, .inl (cI, 8, .inl fo5)), (o6, .inl (cI, 8, .inl fo6)), (o7, .inl (cI, 8, .inl fo7)), (o10, .inl (cI, 4, .inl fo10)), (o11, .inl (cI, 4, .inl fo11)), (o12, .inl (cI, 4, .inl fo12))] U.heap ∧ va_K (dC, dI) vwCl (tys0 cI cZ cQ) U ∧ xN U)) (va_Qi (fun (r : Int32) (u : Nat → Nat) => r = 100000 + spF (fun j k => drV (fo5 j) (gdM lcB (wrF (fo5 j) (fo6 j) (fo7 j) (fo10 k) (fo11 k)) (fo12 k) (fa3 j) (fa4 j) 999)) nh nq) (fun (_ : Nat → Nat) (_ : State) => True) (fun _ : Nat => False)) 0 0 (fun _ : Nat => False) := by
  refine Met.ofW (cc := cX10_dearer) (maxL := 1) (ret := (some .int)) (by decide) rfl ?_
  intro p e s m args below meth c s₁ B hml hv
  obtain ⟨rfl, hsz, hP, hK, hN⟩ := hv
  have hx := B.exec
  have hb := B.bytes
  have hr := B.returns
  have hts := atoms_spec (ws := wsX10_dearer) B.pre
  have hown : s.vm.findClass RX10 = some m.cls := findClass_of_methodNamed B.named
  have hlocks := B.notSynchronized
  have hi_X10 : ∀ w ∈ u_ws RX10 TX10 14, w ∈ wsX10_dearer := fun _ h => List.mem_cons_of_mem _ (List.mem_append_left _ (List.mem_append_left _ (List.mem_append_left _ (List.mem_append_right _ (h)))))
  subst hsz
  have hS : va_S (fun _ : Nat => False) s.heap s.heap [] := va_S.rf
  have hl := lv_entry ([.ref h0]) (n := 1) (Nat.le_of_ble_eq_true rfl)
  rw [lg_entry_eq]
  generalize (lg_sl ([.ref h0]) ++ List.replicate (1 - (lg_sl ([.ref h0])).length) Slot.unset).toArray = ls at hl ⊢
  have hl : lv_has ls 1 [(0, .ref h0)] := hl
  refine lv_ldcw (v := 100000) hx hb hown (hts (.constant RX10 260 100000) (wmx 1 rfl)) dX10_dearer_0 ?_
  refine lv_aload_n hx hb dX10_dearer_3 rfl (lv_at hl 0 rfl) ?_
  refine va_get (D := (dC, dI)) (ci := 10) (v := .ref x9) (C := RX10) (T := TX10) (N := 14) hx hb hts hi_X10 hown hK hP 0 rfl rfl 9 (by decide) (hts (.fieldLink RX10 65 "LeftQuills" "trials" "LLeftQuills$Trials;") (wmx 2 rfl)) (fun _ h9 => h9) e_h0_9 dX10_dearer_4 ?_
  have hPc := hP.sub (ws' := [(x9, .inr (9, f_x9)), (x4, .inr (5, f_x4)), (x6, .inr (1, f_x6)), (a3, .inl (cI, 8, .inl fa3)), (a4, .inl (cI, 8, .inl fa4)), (o5, .inl (cI, 8, .inl fo5)), (o6, .inl (cI, 8, .inl fo6)), (o7, .inl (cI, 8, .inl fo7)), (o10, .inl (cI, 4, .inl fo10)), (o11, .inl (cI, 4, .inl fo11)), (o12, .inl (cI, 4, .inl fo12))]) [2, 1, 3, 4, 5, 6, 7, 8, 9, 10, 11] rfl
  refine va_calli (va_runV (As := []) (rest := [.int 100000]) ⟨hx, hb, hml, hown, hts⟩ (c_X9_leftAheadD l dC dI cI cZ cQ x9 x4 x6 f_x9 o5 o6 o7 o10 o11 o12 nq nh f_x4 a3 a4 f_x6 fa3 fa4 fo5 fo6 fo7 fo10 fo11 fo12 s.heap.size e_x9_0 e_x9_1 e_x4_5 e_x4_6 e_x4_7 e_x4_10 e_x4_11 e_x4_12 e_x4_3 e_x4_4 e_x6_3 e_x6_4 (by omega) (by omega)) (cwV 0 hts gX10_dearer_X9_leftAheadOfRight rfl rfl rfl hd_X9_leftAheadOfRight_RX9 ⟨Nat.le_of_ble_eq_true rfl, Nat.le_of_ble_eq_true rfl⟩) ⟨fun a U g mk q => by obtain ⟨q0, q1, qP, qK, qN⟩ := q; exact ⟨q0, q1, qP, va_K.moved (u := U) (U := U.calling g mk a) (Vm.Alike.refl U.vm) qK, qN.calling⟩, va_recv hK hP (ci := 9) (q0 := 2) rfl rfl, fun U hU hW => ⟨rfl, by rw [hU], by rw [hU]; exact hPc, va_K.moved hW.alike hK, hN.warm hW⟩⟩ rfl rfl hl.1 rfl (lv_room (Nat.le_of_ble_eq_true rfl)) dX10_dearer_7 ⟨Nat.le_of_ble_eq_true rfl, Nat.le_of_ble_eq_true rfl⟩) hS (fun q _ h => False.elim h) (fun q h => False.elim h) (fun r1 u2 t H1 locs ht hvm hw3 hB hz1 hk1 hS => ?_)
  have hP := hP.kept (fun k q hk => hk1 q.1 (hP k q hk).lt (fun h => h))
  clear hz1 hk1 hPc
  generalize H1 = H at hP hS ht ⊢
  try dsimp only at hw3
  subst hw3
  refine lv_iadd hx hb dX10_dearer_10 ?_
  exact W.iret (v := 100000 + (spF (fun j k => drV (fo5 j) (gdM lcB (wrF (fo5 j) (fo6 j) (fo7 j) (fo10 k) (fo11 k)) (fo12 k) (fa3 j) (fa4 j) 999)) nh nq)) hx hb hr (fun t ht hW => ⟨⟨100000 + (spF (fun j k => drV (fo5 j) (gdM lcB (wrF (fo5 j) (fo6 j) (fo7 j) (fo10 k) (fo11 k)) (fo12 k) (fa3 j) (fa4 j) 999)) nh nq), (fun _ => 0), rfl, rfl, trivial⟩, hS.F ht⟩) hS.2.2 dX10_dearer_11
set_option maxHeartbeats 4000000 in
set_option maxRecDepth 100000 in
theorem c_X11_dearerD (l : Launch) (dC : Nat → ClassId) (dI : Nat → Nat → Nat) (cI cZ cQ : ClassId) (h0 : Nat) (nq : Nat) (nh : Nat) (m3 : Nat) (m4 : Nat) (m5 : Nat) (m7 : Nat) (m8 : Nat) (m9 : Nat) (m10 : Nat) (f_h0 : List Value) (fm3 : Nat → Int32) (fm4 : Nat → Int32) (fm5 : Nat → Int32) (fm7 : Nat → Int32) (fm8 : Nat → Int32) (fm9 : Nat → Int32) (fm10 : Nat → Int32) (sz : Nat) (e_h0_2 : fAt f_h0 2 = some (.int (nI nq))) (e_h0_6 : fAt f_h0 6 = some (.int (nI nh))) (e_h0_3 : fAt f_h0 3 = some (.ref m3)) (e_h0_4 : fAt f_h0 4 = some (.ref m4)) (e_h0_5 : fAt f_h0 5 = some (.ref m5)) (e_h0_7 : fAt f_h0 7 = some (.ref m7)) (e_h0_8 : fAt f_h0 8 = some (.ref m8)) (e_h0_9 : fAt f_h0 9 = some (.ref m9)) (e_h0_10 : fAt f_h0 10 = some (.ref m10)) (hnq : nq ≤ 8) (hci : cIn fm5 nq) (hnh : nh ≤ 4) : Met l yX11_dearer wsX11_dearer ({ frames := 5, cells := 0, slots := 0, locals := 157 }) (va_Pc [.ref h0] (fun U => U.heap.size = sz ∧ va_P (dC, dI) vwCl [(h0, .inr (11, f_h0)), (m3, .inl (cI, 8, .inl fm3)), (m4, .inl (cI, 8, .inl fm4)), (m5, .inl (cI, 8, .inl fm5)), (m7, .inl (cI, 4, .inl fm7)), (m8, .inl (cI, 4, .inl fm8)), (m9, .inl (cI, 4, .inl fm9)), (m10, .inl (cI, 34, .inl fm10))] U.heap ∧ va_K (dC, dI) vwCl (tys0 cI cZ cQ) U)) (va_Qi (fun (r : Int32) (u : Nat → Nat) => r = 100000 + spF (fun j k => drV (fm3 j) (gdM lmB (wrF (fm3 j) (fm4 j) (fm5 j) (fm7 k) (fm8 k)) (fm9 k) (fm10 (8 + j)) (fm10 (16 + j)) 999)) nh nq) (fun (_ : Nat → Nat) (_ : State) => True) (fun _ : Nat => False)) 0 0 (fun _ : Nat => False) := by
  refine Met.ofW (cc := cX11_dearer) (maxL := 4) (ret := (some .int)) (by decide) rfl ?_
  intro p e s m args below meth c s₁ B hml hv
  obtain ⟨rfl, hsz, hP, hK⟩ := hv
  have hx := B.exec
  have hb := B.bytes
  have hr := B.returns
  have hts := atoms_spec (ws := wsX11_dearer) B.pre
  have hown : s.vm.findClass RX11 = some m.cls := findClass_of_methodNamed B.named
  have hlocks := B.notSynchronized
  have hi_X11 : ∀ w ∈ u_ws RX11 TX11 46, w ∈ wsX11_dearer := fun _ h => List.mem_cons_of_mem _ (List.mem_append_right _ (h))
  subst hsz
  have hS : va_S (fun _ : Nat => False) s.heap s.heap [] := va_S.rf
  have hl := lv_entry ([.ref h0]) (n := 4) (Nat.le_of_ble_eq_true rfl)
  rw [lg_entry_eq]
  generalize (lg_sl ([.ref h0]) ++ List.replicate (4 - (lg_sl ([.ref h0])).length) Slot.unset).toArray = ls at hl ⊢
  have hl : lv_has ls 4 [(0, .ref h0)] := hl
  refine lv_ldcw (v := 100000) hx hb hown (hts (.constant RX11 306 100000) (wmx 1 rfl)) dX11_dearer_0 ?_
  refine lv_istore_n (lv' := [(1, .int 100000), (0, .ref h0)]) hx hb dX11_dearer_3 rfl hl (by decide) rfl (fun ls hl => ?_)
  refine lv_iconst (v := 0) hx hb dX11_dearer_4 (by decide) ?_
  refine lv_istore_n (lv' := [(2, .int 0), (1, .int 100000), (0, .ref h0)]) hx hb dX11_dearer_5 rfl hl (by decide) rfl (fun ls hl => ?_)
  refine (fun (K : ∀ (d6 : Nat) (k6 : Nat) (a6_1 : Int32) (H : Heap) (locs : List Loc) (ls : Array Slot), k6 + d6 = nq → a6_1 = 100000 + spF (fun j k => drV (fm3 j) (gdM lmB (wrF (fm3 j) (fm4 j) (fm5 j) (fm7 k) (fm8 k)) (fm9 k) (fm10 (8 + j)) (fm10 (16 + j)) 999)) nh k6 → va_P (dC, dI) vwCl [(h0, .inr (11, f_h0)), (m3, .inl (cI, 8, .inl fm3)), (m4, .inl (cI, 8, .inl fm4)), (m5, .inl (cI, 8, .inl fm5)), (m7, .inl (cI, 4, .inl fm7)), (m8, .inl (cI, 4, .inl fm8)), (m9, .inl (cI, 4, .inl fm9)), (m10, .inl (cI, 34, .inl fm10))] H → va_S (fun _ : Nat => False) s.heap H locs → lv_has ls 4 [(2, .int (nI k6)), (1, .int a6_1), (0, .ref h0)] → W p l e _ s m _ below meth c H locs _ _ _ (F0 m 6 ls [])) => K nq 0 100000 _ _ _ (by omega) rfl hP hS (lv_sub hl [0, 1, 2] rfl)) ?_
  intro d6
  induction d6 with
  | zero =>
    intro k6 a6_1 H locs ls hk6 hv6_0 hP hS hl
    refine lv_iload_n hx hb dX11_dearer_6 rfl (lv_at hl 0 rfl) ?_
    refine lv_aload_n hx hb dX11_dearer_7 rfl (lv_at hl 2 rfl) ?_
    refine va_get (D := (dC, dI)) (ci := 11) (v := .int (nI nq)) (C := RX11) (T := TX11) (N := 46) hx hb hts hi_X11 hown hK hP 0 rfl rfl 2 (by decide) (hts (.fieldLink RX11 99 "LeftQuillsModel" "quills" "I") (wmx 2 rfl)) (fun _ h9 => h9) e_h0_2 dX11_dearer_8 ?_
    refine lv_icmp_ge (tgt := 64) hx hb dX11_dearer_11 (by decide) (fun c1 => ?_) (fun c1 => ?_)
    ·
      have c1 : nq ≤ k6 := (nI_leI (a := nq) (b := k6) (by omega) (by omega)).mp c1
      refine lv_iload_n hx hb dX11_dearer_64 rfl (lv_at hl 1 rfl) ?_
      exact W.iret (v := a6_1) hx hb hr (fun t ht hW => ⟨⟨a6_1, (fun _ => 0), rfl, (hv6_0.trans (by rw [show k6 = nq from by omega])), trivial⟩, hS.F ht⟩) hS.2.2 dX11_dearer_65
    ·
      have c1 : ¬ nq ≤ k6 := fun h => c1 ((nI_leI (a := nq) (b := k6) (by omega) (by omega)).mpr h)
      omega
  | succ d6 ih6 =>
    intro k6 a6_1 H locs ls hk6 hv6_0 hP hS hl
    refine lv_iload_n hx hb dX11_dearer_6 rfl (lv_at hl 0 rfl) ?_
    refine lv_aload_n hx hb dX11_dearer_7 rfl (lv_at hl 2 rfl) ?_
    refine va_get (D := (dC, dI)) (ci := 11) (v := .int (nI nq)) (C := RX11) (T := TX11) (N := 46) hx hb hts hi_X11 hown hK hP 0 rfl rfl 2 (by decide) (hts (.fieldLink RX11 99 "LeftQuillsModel" "quills" "I") (wmx 2 rfl)) (fun _ h9 => h9) e_h0_2 dX11_dearer_8 ?_
    refine lv_icmp_ge (tgt := 64) hx hb dX11_dearer_11 (by decide) (fun c2 => ?_) (fun c2 => ?_)
    ·
      have c2 : nq ≤ k6 := (nI_leI (a := nq) (b := k6) (by omega) (by omega)).mp c2
      omega
    ·
      have c2 : ¬ nq ≤ k6 := fun h => c2 ((nI_leI (a := nq) (b := k6) (by omega) (by omega)).mpr h)
      refine lv_iconst (v := 0) hx hb dX11_dearer_14 (by decide) ?_
      refine lv_istore_n (lv' := [(3, .int 0), (2, .int (nI k6)), (1, .int a6_1), (0, .ref h0)]) hx hb dX11_dearer_15 rfl hl (by decide) rfl (fun ls hl => ?_)
      refine (fun (K : ∀ (d16 : Nat) (k16 : Nat) (a16_1 : Int32) (H : Heap) (locs : List Loc) (ls : Array Slot), k16 + d16 = nh → a16_1 = 100000 + (spF (fun j k => drV (fm3 j) (gdM lmB (wrF (fm3 j) (fm4 j) (fm5 j) (fm7 k) (fm8 k)) (fm9 k) (fm10 (8 + j)) (fm10 (16 + j)) 999)) nh k6 + smF ((fun j k => drV (fm3 j) (gdM lmB (wrF (fm3 j) (fm4 j) (fm5 j) (fm7 k) (fm8 k)) (fm9 k) (fm10 (8 + j)) (fm10 (16 + j)) 999)) k6) k16) → va_P (dC, dI) vwCl [(h0, .inr (11, f_h0)), (m3, .inl (cI, 8, .inl fm3)), (m4, .inl (cI, 8, .inl fm4)), (m5, .inl (cI, 8, .inl fm5)), (m7, .inl (cI, 4, .inl fm7)), (m8, .inl (cI, 4, .inl fm8)), (m9, .inl (cI, 4, .inl fm9)), (m10, .inl (cI, 34, .inl fm10))] H → va_S (fun _ : Nat => False) s.heap H locs → lv_has ls 4 [(3, .int (nI k16)), (1, .int a16_1), (2, .int (nI k6)), (0, .ref h0)] → W p l e _ s m _ below meth c H locs _ _ _ (F0 m 16 ls [])) => K nh 0 a6_1 _ _ _ (by omega) (dm_new hv6_0) hP hS (lv_sub hl [0, 2, 1, 3] rfl)) ?_
      intro d16
      induction d16 with
      | zero =>
        intro k16 a16_1 H locs ls hk16 hv16_0 hP hS hl
        refine lv_iload_n hx hb dX11_dearer_16 rfl (lv_at hl 0 rfl) ?_
        refine lv_aload_n hx hb dX11_dearer_17 rfl (lv_at hl 3 rfl) ?_
        refine va_get (D := (dC, dI)) (ci := 11) (v := .int (nI nh)) (C := RX11) (T := TX11) (N := 46) hx hb hts hi_X11 hown hK hP 0 rfl rfl 6 (by decide) (hts (.fieldLink RX11 106 "LeftQuillsModel" "hands" "I") (wmx 3 rfl)) (fun _ h9 => h9) e_h0_6 dX11_dearer_18 ?_
        refine lv_icmp_ge (tgt := 58) hx hb dX11_dearer_21 (by decide) (fun c3 => ?_) (fun c3 => ?_)
        ·
          have c3 : nh ≤ k16 := (nI_leI (a := nh) (b := k16) (by omega) (by omega)).mp c3
          refine lv_iinc (v := nI (k6 + 1)) (lv' := [(2, .int (nI (k6 + 1))), (3, .int (nI k16)), (1, .int a16_1), (0, .ref h0)]) hx hb dX11_dearer_58 hl (k := 2) rfl ((rfl : nI k6 + Int32.ofInt 1 = nI k6 + 1).trans (nI_add k6 1)) (by decide) rfl (fun ls hl => ?_)
          refine lv_goto (tgt := 6) hx hb dX11_dearer_61 (by decide) ?_
          exact ih6 (k6 + 1) a16_1 _ _ _ (by omega) (dm_out hv16_0 (show k16 = nh from by omega)) hP hS (lv_sub hl [0, 2, 3] rfl)
        ·
          have c3 : ¬ nh ≤ k16 := fun h => c3 ((nI_leI (a := nh) (b := k16) (by omega) (by omega)).mpr h)
          omega
      | succ d16 ih16 =>
        intro k16 a16_1 H locs ls hk16 hv16_0 hP hS hl
        refine lv_iload_n hx hb dX11_dearer_16 rfl (lv_at hl 0 rfl) ?_
        refine lv_aload_n hx hb dX11_dearer_17 rfl (lv_at hl 3 rfl) ?_
        refine va_get (D := (dC, dI)) (ci := 11) (v := .int (nI nh)) (C := RX11) (T := TX11) (N := 46) hx hb hts hi_X11 hown hK hP 0 rfl rfl 6 (by decide) (hts (.fieldLink RX11 106 "LeftQuillsModel" "hands" "I") (wmx 3 rfl)) (fun _ h9 => h9) e_h0_6 dX11_dearer_18 ?_
        refine lv_icmp_ge (tgt := 58) hx hb dX11_dearer_21 (by decide) (fun c4 => ?_) (fun c4 => ?_)
        ·
          have c4 : nh ≤ k16 := (nI_leI (a := nh) (b := k16) (by omega) (by omega)).mp c4
          omega
        ·
          have c4 : ¬ nh ≤ k16 := fun h => c4 ((nI_leI (a := nh) (b := k16) (by omega) (by omega)).mpr h)
          refine lv_iload_n hx hb dX11_dearer_24 rfl (lv_at hl 1 rfl) ?_
          refine lv_aload_n hx hb dX11_dearer_25 rfl (lv_at hl 3 rfl) ?_
          refine va_get (D := (dC, dI)) (ci := 11) (v := .ref m3) (C := RX11) (T := TX11) (N := 46) hx hb hts hi_X11 hown hK hP 0 rfl rfl 3 (by decide) (hts (.fieldLink RX11 7 "LeftQuillsModel" "wing" "[I") (wmx 4 rfl)) (fun _ h9 => h9) e_h0_3 dX11_dearer_26 ?_
          refine lv_iload_n hx hb dX11_dearer_29 rfl (lv_at hl 2 rfl) ?_
          refine va_iald hx hb hK hP 1 0 rfl rfl (vp_in_nI (n := k6) (N := 8) (by omega) (by decide)) dX11_dearer_30 ?_
          refine W.eq (g2 := F0 m 31 ls [.int (fm3 k6), .int a16_1]) (congrArg (fun y9 => F0 m 31 ls (.int (fm3 y9) :: [.int a16_1])) ((nI_clamp (n := k6) (by omega)))) ?_
          refine lv_if_ne (tgt := 43) hx hb dX11_dearer_31 (by decide) (fun c5 => ?_) (fun c5 => ?_)
          ·
            refine lv_aload_n hx hb dX11_dearer_43 rfl (lv_at hl 3 rfl) ?_
            refine lv_iload_n hx hb dX11_dearer_44 rfl (lv_at hl 2 rfl) ?_
            refine lv_iload_n hx hb dX11_dearer_45 rfl (lv_at hl 0 rfl) ?_
            have hPc := hP.sub (ws' := [(h0, .inr (11, f_h0)), (m3, .inl (cI, 8, .inl fm3)), (m4, .inl (cI, 8, .inl fm4)), (m5, .inl (cI, 8, .inl fm5)), (m7, .inl (cI, 4, .inl fm7)), (m8, .inl (cI, 4, .inl fm8)), (m9, .inl (cI, 4, .inl fm9)), (m10, .inl (cI, 34, .inl fm10))]) [0, 1, 2, 3, 4, 5, 6, 7] rfl
            refine va_calli (va_runV (As := [.int (nI k6), .int (nI k16)]) (rest := [.int a16_1]) ⟨hx, hb, hml, hown, hts⟩ (c_X11_goodNowD l dC dI cI cZ cQ h0 m3 m4 m5 m7 m8 m9 m10 f_h0 fm3 fm4 fm5 fm7 fm8 fm9 fm10 k6 k16 nq H.size e_h0_3 e_h0_4 e_h0_5 e_h0_7 e_h0_8 e_h0_9 e_h0_10 (by omega) (by first | assumption | decide) (by omega) (by omega)) (cwV 2 hts gX11_dearer_X11_goodNow rfl rfl rfl hd_X11_goodNow_RX11 ⟨Nat.le_of_ble_eq_true rfl, Nat.le_of_ble_eq_true rfl⟩) (pv_R (va_recv hK hP (ci := 11) (q0 := 0) rfl rfl) hK hPc) rfl rfl hl.1 rfl (lv_room (Nat.le_of_ble_eq_true rfl)) dX11_dearer_46 ⟨Nat.le_of_ble_eq_true rfl, Nat.le_of_ble_eq_true rfl⟩) hS (fun q _ h => False.elim h) (fun q h => False.elim h) (fun r6 u7 t H1 locs ht hvm hw8 hB hz1 hk1 hS => ?_)
            have hP := hP.kept (fun k q hk => hk1 q.1 (hP k q hk).lt (fun h => h))
            clear hz1 hk1 hPc
            generalize H1 = H at hP hS ht ⊢
            try dsimp only at hw8
            obtain ⟨w9, hw9, ew9, rfl⟩ := nat_ix gdM_le hw8
            refine lv_ineg hx hb dX11_dearer_49 ?_
            refine lv_topi (fun z10 ez10 => ?_)
            refine lv_iadd hx hb dX11_dearer_50 ?_
            refine lv_istore_n (lv' := [(1, .int (a16_1 + z10)), (3, .int (nI k16)), (2, .int (nI k6)), (0, .ref h0)]) hx hb dX11_dearer_51 rfl hl (by decide) rfl (fun ls hl => ?_)
            refine lv_iinc (v := nI (k16 + 1)) (lv' := [(3, .int (nI (k16 + 1))), (1, .int (a16_1 + z10)), (2, .int (nI k6)), (0, .ref h0)]) hx hb dX11_dearer_52 hl (k := 1) rfl ((rfl : nI k16 + Int32.ofInt 1 = nI k16 + 1).trans (nI_add k16 1)) (by decide) rfl (fun ls hl => ?_)
            refine lv_goto (tgt := 16) hx hb dX11_dearer_55 (by decide) ?_
            exact ih16 (k16 + 1) (a16_1 + z10) _ _ _ (by omega) (dm_in hv16_0 (ez10.trans (by rw [ew9.out]; first | exact (if_pos c5).symm | exact (if_neg c5).symm))) hP hS (lv_sub hl [0, 1, 2, 3] rfl)
          ·
            refine lv_aload_n hx hb dX11_dearer_34 rfl (lv_at hl 3 rfl) ?_
            refine lv_iload_n hx hb dX11_dearer_35 rfl (lv_at hl 2 rfl) ?_
            refine lv_iload_n hx hb dX11_dearer_36 rfl (lv_at hl 0 rfl) ?_
            have hPc := hP.sub (ws' := [(h0, .inr (11, f_h0)), (m3, .inl (cI, 8, .inl fm3)), (m4, .inl (cI, 8, .inl fm4)), (m5, .inl (cI, 8, .inl fm5)), (m7, .inl (cI, 4, .inl fm7)), (m8, .inl (cI, 4, .inl fm8)), (m9, .inl (cI, 4, .inl fm9)), (m10, .inl (cI, 34, .inl fm10))]) [0, 1, 2, 3, 4, 5, 6, 7] rfl
            refine va_calli (va_runV (As := [.int (nI k6), .int (nI k16)]) (rest := [.int a16_1]) ⟨hx, hb, hml, hown, hts⟩ (c_X11_goodNowD l dC dI cI cZ cQ h0 m3 m4 m5 m7 m8 m9 m10 f_h0 fm3 fm4 fm5 fm7 fm8 fm9 fm10 k6 k16 nq H.size e_h0_3 e_h0_4 e_h0_5 e_h0_7 e_h0_8 e_h0_9 e_h0_10 (by omega) (by first | assumption | decide) (by omega) (by omega)) (cwV 2 hts gX11_dearer_X11_goodNow rfl rfl rfl hd_X11_goodNow_RX11 ⟨Nat.le_of_ble_eq_true rfl, Nat.le_of_ble_eq_true rfl⟩) (pv_R (va_recv hK hP (ci := 11) (q0 := 0) rfl rfl) hK hPc) rfl rfl hl.1 rfl (lv_room (Nat.le_of_ble_eq_true rfl)) dX11_dearer_37 ⟨Nat.le_of_ble_eq_true rfl, Nat.le_of_ble_eq_true rfl⟩) hS (fun q _ h => False.elim h) (fun q h => False.elim h) (fun r11 u12 t H1 locs ht hvm hw13 hB hz1 hk1 hS => ?_)
            have hP := hP.kept (fun k q hk => hk1 q.1 (hP k q hk).lt (fun h => h))
            clear hz1 hk1 hPc
            generalize H1 = H at hP hS ht ⊢
            try dsimp only at hw13
            obtain ⟨w14, hw14, ew14, rfl⟩ := nat_ix gdM_le hw13
            refine lv_goto (tgt := 50) hx hb dX11_dearer_40 (by decide) ?_
            refine lv_iadd hx hb dX11_dearer_50 ?_
            refine lv_istore_n (lv' := [(1, .int (a16_1 + (nI w14))), (3, .int (nI k16)), (2, .int (nI k6)), (0, .ref h0)]) hx hb dX11_dearer_51 rfl hl (by decide) rfl (fun ls hl => ?_)
            refine lv_iinc (v := nI (k16 + 1)) (lv' := [(3, .int (nI (k16 + 1))), (1, .int (a16_1 + (nI w14))), (2, .int (nI k6)), (0, .ref h0)]) hx hb dX11_dearer_52 hl (k := 1) rfl ((rfl : nI k16 + Int32.ofInt 1 = nI k16 + 1).trans (nI_add k16 1)) (by decide) rfl (fun ls hl => ?_)
            refine lv_goto (tgt := 16) hx hb dX11_dearer_55 (by decide) ?_
            exact ih16 (k16 + 1) (a16_1 + (nI w14)) _ _ _ (by omega) (dm_in hv16_0 (by rw [ew14.out]; first | exact (if_pos c5).symm | exact (if_neg c5).symm)) hP hS (lv_sub hl [0, 1, 2, 3] rfl)
