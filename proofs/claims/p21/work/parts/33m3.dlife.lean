set_option maxHeartbeats 4000000 in
set_option maxRecDepth 100000 in
theorem c_X9_goodInLifeD (l : Launch) (dC : Nat → ClassId) (dI : Nat → Nat → Nat) (cI cZ cQ : ClassId) (h0 : Nat) (ho : Nat) (hd : Nat) (f_h0 : List Value) (o5 : Nat) (o6 : Nat) (o7 : Nat) (o10 : Nat) (o11 : Nat) (o12 : Nat) (f_ho : List Value) (a2 : Nat) (a3 : Nat) (a4 : Nat) (f_hd : List Value) (fa2 : Nat → Int32) (fa3 : Nat → Int32) (fa4 : Nat → Int32) (fo5 : Nat → Int32) (fo6 : Nat → Int32) (fo7 : Nat → Int32) (fo10 : Nat → Int32) (fo11 : Nat → Int32) (fo12 : Nat → Int32) (j : Nat) (k : Nat) (len : Nat) (sz : Nat) (e_h0_0 : fAt f_h0 0 = some (.ref ho)) (e_h0_1 : fAt f_h0 1 = some (.ref hd)) (e_ho_5 : fAt f_ho 5 = some (.ref o5)) (e_ho_6 : fAt f_ho 6 = some (.ref o6)) (e_ho_7 : fAt f_ho 7 = some (.ref o7)) (e_ho_10 : fAt f_ho 10 = some (.ref o10)) (e_ho_11 : fAt f_ho 11 = some (.ref o11)) (e_ho_12 : fAt f_ho 12 = some (.ref o12)) (e_hd_2 : fAt f_hd 2 = some (.ref a2)) (e_hd_3 : fAt f_hd 3 = some (.ref a3)) (e_hd_4 : fAt f_hd 4 = some (.ref a4)) (hj : j < 8) (hk : k < 4) (hl9 : fa2 j = nI len) (hl : len ≤ 99) : Met l yX9_goodInLife wsX9_goodInLife ({ frames := 4, cells := 0, slots := 0, locals := 133 }) (va_Pc [.ref h0, .int (nI j), .int (nI k)] (fun U => U.heap.size = sz ∧ va_P (dC, dI) vwCl [(h0, .inr (9, f_h0)), (ho, .inr (5, f_ho)), (hd, .inr (1, f_hd)), (a2, .inl (cI, 8, .inl fa2)), (a3, .inl (cI, 8, .inl fa3)), (a4, .inl (cI, 8, .inl fa4)), (o5, .inl (cI, 8, .inl fo5)), (o6, .inl (cI, 8, .inl fo6)), (o7, .inl (cI, 8, .inl fo7)), (o10, .inl (cI, 4, .inl fo10)), (o11, .inl (cI, 4, .inl fo11)), (o12, .inl (cI, 4, .inl fo12))] U.heap ∧ va_K (dC, dI) vwCl (tys0 cI cZ cQ) U ∧ xN U)) (va_Qi (fun (r : Int32) (u : Nat → Nat) => r = nI (lfM (gdM lcB (wrF (fo5 j) (fo6 j) (fo7 j) (fo10 k) (fo11 k)) (fo12 k) (fa3 j) (fa4 j) 999) (gdM lcB (wrF (fo5 j) (fo6 j) (fo7 j) (fo10 k) (fo11 k)) (fo12 k) (fa3 j) 0 999) (fa2 j).toNatClampNeg)) (fun (_ : Nat → Nat) (_ : State) => True) (fun _ : Nat => False)) 0 0 (fun _ : Nat => False) := by
  refine Met.ofW (cc := cX9_goodInLife) (maxL := 6) (ret := (some .int)) (by decide) rfl ?_
  intro p e s m args below meth c s₁ B hml hv
  obtain ⟨rfl, hsz, hP, hK, hN⟩ := hv
  have hx := B.exec
  have hb := B.bytes
  have hr := B.returns
  have hts := atoms_spec (ws := wsX9_goodInLife) B.pre
  have hown : s.vm.findClass RX9 = some m.cls := findClass_of_methodNamed B.named
  have hlocks := B.notSynchronized
  have hi_X1 : ∀ w ∈ u_ws RX1 TX1 8, w ∈ wsX9_goodInLife := fun _ h => List.mem_cons_of_mem _ (List.mem_append_left _ (List.mem_append_right _ (h)))
  have hi_X9 : ∀ w ∈ u_ws RX9 TX9 3, w ∈ wsX9_goodInLife := fun _ h => List.mem_cons_of_mem _ (List.mem_append_left _ (List.mem_append_left _ (List.mem_append_right _ (h))))
  subst hsz
  have hS : va_S (fun _ : Nat => False) s.heap s.heap [] := va_S.rf
  have hl := lv_entry ([.ref h0, .int (nI j), .int (nI k)]) (n := 6) (Nat.le_of_ble_eq_true rfl)
  rw [lg_entry_eq]
  generalize (lg_sl ([.ref h0, .int (nI j), .int (nI k)]) ++ List.replicate (6 - (lg_sl ([.ref h0, .int (nI j), .int (nI k)])).length) Slot.unset).toArray = ls at hl ⊢
  have hl : lv_has ls 6 [(0, .ref h0), (1, .int (nI j)), (2, .int (nI k))] := hl
  refine lv_aload_n hx hb dX9_goodInLife_0 rfl (lv_at hl 0 rfl) ?_
  refine lv_iload_n hx hb dX9_goodInLife_1 rfl (lv_at hl 1 rfl) ?_
  refine lv_iload_n hx hb dX9_goodInLife_2 rfl (lv_at hl 2 rfl) ?_
  have hPc := hP.sub (ws' := [(h0, .inr (9, f_h0)), (ho, .inr (5, f_ho)), (hd, .inr (1, f_hd)), (a3, .inl (cI, 8, .inl fa3)), (a4, .inl (cI, 8, .inl fa4)), (o5, .inl (cI, 8, .inl fo5)), (o6, .inl (cI, 8, .inl fo6)), (o7, .inl (cI, 8, .inl fo7)), (o10, .inl (cI, 4, .inl fo10)), (o11, .inl (cI, 4, .inl fo11)), (o12, .inl (cI, 4, .inl fo12))]) [0, 1, 2, 4, 5, 6, 7, 8, 9, 10, 11] rfl
  refine va_calli (va_runV (As := [.int (nI j), .int (nI k)]) (rest := []) ⟨hx, hb, hml, hown, hts⟩ (c_X9_goodNowD l dC dI cI cZ cQ h0 ho hd f_h0 o5 o6 o7 o10 o11 o12 f_ho a3 a4 f_hd fa3 fa4 fo5 fo6 fo7 fo10 fo11 fo12 j k s.heap.size e_h0_0 e_h0_1 e_ho_5 e_ho_6 e_ho_7 e_ho_10 e_ho_11 e_ho_12 e_hd_3 e_hd_4 (by omega) (by omega)) (cwV 2 hts gX9_goodInLife_X9_goodNow rfl rfl rfl hd_X9_goodNow_RX9 ⟨Nat.le_of_ble_eq_true rfl, Nat.le_of_ble_eq_true rfl⟩) ⟨fun a U g mk q => by obtain ⟨q0, q1, qP, qK, qN⟩ := q; exact ⟨q0, q1, qP, va_K.moved (u := U) (U := U.calling g mk a) (Vm.Alike.refl U.vm) qK, qN.calling⟩, va_recv hK hP (ci := 9) (q0 := 0) rfl rfl, fun U hU hW => ⟨rfl, by rw [hU], by rw [hU]; exact hPc, va_K.moved hW.alike hK, hN.warm hW⟩⟩ rfl rfl hl.1 rfl (lv_room (Nat.le_of_ble_eq_true rfl)) dX9_goodInLife_3 ⟨Nat.le_of_ble_eq_true rfl, Nat.le_of_ble_eq_true rfl⟩) hS (fun q _ h => False.elim h) (fun q h => False.elim h) (fun r1 u2 t H1 locs ht hvm hw3 hB hz1 hk1 hS => ?_)
  have hP := hP.kept (fun k q hk => hk1 q.1 (hP k q hk).lt (fun h => h))
  clear hz1 hk1 hPc
  generalize H1 = H at hP hS ht ⊢
  try dsimp only at hw3
  obtain ⟨w4, hw4, ew4, rfl⟩ := nat_ix gdM_le hw3
  refine lv_istore_n (lv' := [(3, .int (nI w4)), (0, .ref h0), (1, .int (nI j)), (2, .int (nI k))]) hx hb dX9_goodInLife_6 rfl hl (by decide) rfl (fun ls hl => ?_)
  refine lv_aload_n hx hb dX9_goodInLife_7 rfl (lv_at hl 1 rfl) ?_
  refine lv_iload_n hx hb dX9_goodInLife_8 rfl (lv_at hl 2 rfl) ?_
  refine lv_iload_n hx hb dX9_goodInLife_9 rfl (lv_at hl 3 rfl) ?_
  refine lv_iconst (v := 0) hx hb dX9_goodInLife_10 (by decide) ?_
  have hPc := hP.sub (ws' := [(h0, .inr (9, f_h0)), (ho, .inr (5, f_ho)), (hd, .inr (1, f_hd)), (a3, .inl (cI, 8, .inl fa3)), (o5, .inl (cI, 8, .inl fo5)), (o6, .inl (cI, 8, .inl fo6)), (o7, .inl (cI, 8, .inl fo7)), (o10, .inl (cI, 4, .inl fo10)), (o11, .inl (cI, 4, .inl fo11)), (o12, .inl (cI, 4, .inl fo12))]) [0, 1, 2, 4, 6, 7, 8, 9, 10, 11] rfl
  refine va_calli (va_runV (As := [.int (nI j), .int (nI k), .int 0]) (rest := []) ⟨hx, hb, hml, hown, hts⟩ (c_X9_goodFromD l dC dI cI cZ cQ h0 ho hd f_h0 o5 o6 o7 o10 o11 o12 f_ho a3 f_hd fa3 fo5 fo6 fo7 fo10 fo11 fo12 j k 0 H.size e_h0_0 e_h0_1 e_ho_5 e_ho_6 e_ho_7 e_ho_10 e_ho_11 e_ho_12 e_hd_3 (by omega) (by omega)) (cwV 3 hts gX9_goodInLife_X9_goodFrom rfl rfl rfl hd_X9_goodFrom_RX9 ⟨Nat.le_of_ble_eq_true rfl, Nat.le_of_ble_eq_true rfl⟩) ⟨fun a U g mk q => by obtain ⟨q0, q1, qP, qK, qN⟩ := q; exact ⟨q0, q1, qP, va_K.moved (u := U) (U := U.calling g mk a) (Vm.Alike.refl U.vm) qK, qN.calling⟩, va_recv hK hP (ci := 9) (q0 := 0) rfl rfl, fun U hU hW => ⟨rfl, by rw [hU], by rw [hU]; exact hPc, va_K.moved hW.alike hK, hN.warm hW⟩⟩ rfl rfl hl.1 rfl (lv_room (Nat.le_of_ble_eq_true rfl)) dX9_goodInLife_11 ⟨Nat.le_of_ble_eq_true rfl, Nat.le_of_ble_eq_true rfl⟩) hS (fun q _ h => False.elim h) (fun q h => False.elim h) (fun r5 u6 t H1 locs ht hvm hw7 hB hz1 hk1 hS => ?_)
  have hP := hP.kept (fun k q hk => hk1 q.1 (hP k q hk).lt (fun h => h))
  clear hz1 hk1 hPc
  generalize H1 = H at hP hS ht ⊢
  try dsimp only at hw7
  obtain ⟨w8, hw8, ew8, rfl⟩ := nat_ix gdM_le hw7
  refine lv_istore (lv' := [(4, .int (nI w8)), (3, .int (nI w4)), (0, .ref h0), (1, .int (nI j)), (2, .int (nI k))]) hx hb dX9_goodInLife_14 hl (by decide) rfl (fun ls hl => ?_)
  refine lv_aload_n hx hb dX9_goodInLife_16 rfl (lv_at hl 2 rfl) ?_
  refine va_get (D := (dC, dI)) (ci := 9) (v := .ref hd) (C := RX9) (T := TX9) (N := 3) hx hb hts hi_X9 hown hK hP 0 rfl rfl 1 (by decide) (hts (.fieldLink RX9 19 "LeftQuills$Trials" "desk" "LLeftQuills$Desk;") (wmx 1 rfl)) (fun _ h9 => h9) e_h0_1 dX9_goodInLife_17 ?_
  refine va_get (D := (dC, dI)) (ci := 1) (v := .ref a2) (C := RX1) (T := TX1) (N := 8) hx hb hts hi_X1 hown hK hP 2 rfl rfl 2 (by decide) (hts (.fieldLink RX9 51 "LeftQuills$Desk" "length" "[I") (wmx 2 rfl)) (fun _ h9 => h9) e_hd_2 dX9_goodInLife_20 ?_
  refine lv_iload_n hx hb dX9_goodInLife_23 rfl (lv_at hl 3 rfl) ?_
  refine va_iald hx hb hK hP 3 0 rfl rfl (vp_in_nI (n := j) (N := 8) (by omega) (by decide)) dX9_goodInLife_24 ?_
  refine W.eq (g2 := F0 m 25 ls [.int (fa2 j)]) (congrArg (fun y9 => F0 m 25 ls (.int (fa2 y9) :: [])) ((nI_clamp (n := j) (by omega)))) ?_
  refine lv_topi (fun z9 ez9 => ?_)
  obtain rfl : z9 = nI len := ez9.trans hl9
  refine lv_istore (lv' := [(5, .int (nI len)), (4, .int (nI w8)), (3, .int (nI w4)), (0, .ref h0), (1, .int (nI j)), (2, .int (nI k))]) hx hb dX9_goodInLife_25 hl (by decide) rfl (fun ls hl => ?_)
  refine (fun (K : ∀ (d27 : Nat) (x27 : Nat) (y27 : Nat) (H : Heap) (locs : List Loc) (ls : Array Slot), x27 ≤ 5 * d27 + 4 → x27 ≤ 99 → y27 + 1000 * (x27 / 5) ≤ 20979 → Hid (y27 + x27 / 5 * w8 = w4 + len / 5 * w8) → va_P (dC, dI) vwCl [(h0, .inr (9, f_h0)), (ho, .inr (5, f_ho)), (hd, .inr (1, f_hd)), (a2, .inl (cI, 8, .inl fa2)), (a3, .inl (cI, 8, .inl fa3)), (a4, .inl (cI, 8, .inl fa4)), (o5, .inl (cI, 8, .inl fo5)), (o6, .inl (cI, 8, .inl fo6)), (o7, .inl (cI, 8, .inl fo7)), (o10, .inl (cI, 4, .inl fo10)), (o11, .inl (cI, 4, .inl fo11)), (o12, .inl (cI, 4, .inl fo12))] H → va_S (fun _ : Nat => False) s.heap H locs → lv_has ls 6 [(5, .int (nI x27)), (3, .int (nI y27)), (4, .int (nI w8)), (0, .ref h0), (1, .int (nI j)), (2, .int (nI k))] → W p l e _ s m _ below meth c H locs _ _ _ (F0 m 27 ls [])) => K len len w4 _ _ _ (by omega) (by omega) (by omega) (Hid.mk rfl) hP hS (lv_sub hl [0, 2, 1, 3, 4, 5] rfl)) ?_
  intro d27
  induction d27 with
  | zero =>
    intro x27 y27 H locs ls hd27 hx27 hy27 hv27 hP hS hl
    refine lv_iload hx hb dX9_goodInLife_27 (lv_at hl 0 rfl) ?_
    refine lv_iconst (v := 5) hx hb dX9_goodInLife_29 (by decide) ?_
    refine lv_icmp_lt (tgt := 44) hx hb dX9_goodInLife_30 (by decide) (fun c10 => ?_) (fun c10 => ?_)
    ·
      have c10 : x27 < 5 := (nI_ltI (a := x27) (b := 5) (by omega) (by omega)).mp c10
      refine lv_sipush (v := 999) hx hb dX9_goodInLife_44 (by decide) ?_
      refine lv_iload_n hx hb dX9_goodInLife_47 rfl (lv_at hl 1 rfl) ?_
      refine va_mmin hx hb (hml.trans hl.1.symm) hown (hts (.methodLink RX9 54 Lib.Math.min.name) (wmx 3 rfl)) (hts (.static Lib.Math.min.name) (wmx 4 rfl)) (hts (.initialized "java/lang/Math") (wmx 5 rfl)) (hts (.code Lib.Math.min.name Lib.Math.min.code 2 (some .int)) (wmx 6 rfl)) (Nat.le_of_ble_eq_true rfl) (Nat.le_of_ble_eq_true rfl) (Nat.le_of_ble_eq_true rfl) (Nat.le_of_ble_eq_true rfl) dX9_goodInLife_48 ?_
      refine lv_topi (fun z11 ez11 => ?_)
      obtain rfl : z11 = nI (min 999 y27) := ez11.trans (x_minN (a := 999) (b := y27) (by omega) (by omega))
      exact W.iret (v := nI (min 999 y27)) hx hb hr (fun t ht hW => ⟨⟨nI (min 999 y27), (fun _ => 0), rfl, (by rw [← ew4.out, ← ew8.out, i_nat hl9 (by omega)]; exact lf_end (by omega) hv27), trivial⟩, hS.F ht⟩) hS.2.2 dX9_goodInLife_51
    ·
      have c10 : ¬ x27 < 5 := fun h => c10 ((nI_ltI (a := x27) (b := 5) (by omega) (by omega)).mpr h)
      omega
  | succ d27 ih27 =>
    intro x27 y27 H locs ls hd27 hx27 hy27 hv27 hP hS hl
    refine lv_iload hx hb dX9_goodInLife_27 (lv_at hl 0 rfl) ?_
    refine lv_iconst (v := 5) hx hb dX9_goodInLife_29 (by decide) ?_
    refine lv_icmp_lt (tgt := 44) hx hb dX9_goodInLife_30 (by decide) (fun c12 => ?_) (fun c12 => ?_)
    ·
      have c12 : x27 < 5 := (nI_ltI (a := x27) (b := 5) (by omega) (by omega)).mp c12
      refine lv_sipush (v := 999) hx hb dX9_goodInLife_44 (by decide) ?_
      refine lv_iload_n hx hb dX9_goodInLife_47 rfl (lv_at hl 1 rfl) ?_
      refine va_mmin hx hb (hml.trans hl.1.symm) hown (hts (.methodLink RX9 54 Lib.Math.min.name) (wmx 3 rfl)) (hts (.static Lib.Math.min.name) (wmx 4 rfl)) (hts (.initialized "java/lang/Math") (wmx 5 rfl)) (hts (.code Lib.Math.min.name Lib.Math.min.code 2 (some .int)) (wmx 6 rfl)) (Nat.le_of_ble_eq_true rfl) (Nat.le_of_ble_eq_true rfl) (Nat.le_of_ble_eq_true rfl) (Nat.le_of_ble_eq_true rfl) dX9_goodInLife_48 ?_
      refine lv_topi (fun z13 ez13 => ?_)
      obtain rfl : z13 = nI (min 999 y27) := ez13.trans (x_minN (a := 999) (b := y27) (by omega) (by omega))
      exact W.iret (v := nI (min 999 y27)) hx hb hr (fun t ht hW => ⟨⟨nI (min 999 y27), (fun _ => 0), rfl, (by rw [← ew4.out, ← ew8.out, i_nat hl9 (by omega)]; exact lf_end (by omega) hv27), trivial⟩, hS.F ht⟩) hS.2.2 dX9_goodInLife_51
    ·
      have c12 : ¬ x27 < 5 := fun h => c12 ((nI_ltI (a := x27) (b := 5) (by omega) (by omega)).mpr h)
      refine lv_iload_n hx hb dX9_goodInLife_33 rfl (lv_at hl 1 rfl) ?_
      refine lv_iload hx hb dX9_goodInLife_34 (lv_at hl 2 rfl) ?_
      refine lv_iadd hx hb dX9_goodInLife_36 ?_
      refine lv_topi (fun z14 ez14 => ?_)
      obtain rfl : z14 = nI (y27 + w8) := ez14.trans (nI_add y27 w8)
      refine lv_istore_n (lv' := [(3, .int (nI (y27 + w8))), (5, .int (nI x27)), (4, .int (nI w8)), (0, .ref h0), (1, .int (nI j)), (2, .int (nI k))]) hx hb dX9_goodInLife_37 rfl hl (by decide) rfl (fun ls hl => ?_)
      refine lv_iinc (v := nI (x27 - 5)) (lv' := [(5, .int (nI (x27 - 5))), (3, .int (nI (y27 + w8))), (4, .int (nI w8)), (0, .ref h0), (1, .int (nI j)), (2, .int (nI k))]) hx hb dX9_goodInLife_38 hl (k := 1) rfl (x_inc5 (a := x27) (by omega)) (by decide) rfl (fun ls hl => ?_)
      refine lv_goto (tgt := 27) hx hb dX9_goodInLife_41 (by decide) ?_
      exact ih27 (x27 - 5) (y27 + w8) _ _ _ (by omega) (by omega) (by omega) (lf_step (by omega) hv27) hP hS (lv_sub hl [0, 1, 2, 3, 4, 5] rfl)
set_option maxHeartbeats 4000000 in
set_option maxRecDepth 100000 in
theorem c_X11_lifeOfD (l : Launch) (dC : Nat → ClassId) (dI : Nat → Nat → Nat) (cI cZ cQ : ClassId) (h0 : Nat) (m3 : Nat) (m4 : Nat) (m5 : Nat) (m7 : Nat) (m8 : Nat) (m9 : Nat) (m10 : Nat) (f_h0 : List Value) (fm3 : Nat → Int32) (fm4 : Nat → Int32) (fm5 : Nat → Int32) (fm7 : Nat → Int32) (fm8 : Nat → Int32) (fm9 : Nat → Int32) (fm10 : Nat → Int32) (j : Nat) (k : Nat) (nq : Nat) (len : Nat) (sz : Nat) (e_h0_3 : fAt f_h0 3 = some (.ref m3)) (e_h0_4 : fAt f_h0 4 = some (.ref m4)) (e_h0_5 : fAt f_h0 5 = some (.ref m5)) (e_h0_7 : fAt f_h0 7 = some (.ref m7)) (e_h0_8 : fAt f_h0 8 = some (.ref m8)) (e_h0_9 : fAt f_h0 9 = some (.ref m9)) (e_h0_10 : fAt f_h0 10 = some (.ref m10)) (hnq : nq ≤ 8) (hci : cIn fm5 nq) (hj : j < nq) (hk : k < 4) (hl9 : fm10 j = nI len) (hl : len ≤ 99) : Met l yX11_lifeOf wsX11_lifeOf ({ frames := 5, cells := 0, slots := 0, locals := 157 }) (va_Pc [.ref h0, .int (nI j), .int (nI k)] (fun U => U.heap.size = sz ∧ va_P (dC, dI) vwCl [(h0, .inr (11, f_h0)), (m3, .inl (cI, 8, .inl fm3)), (m4, .inl (cI, 8, .inl fm4)), (m5, .inl (cI, 8, .inl fm5)), (m7, .inl (cI, 4, .inl fm7)), (m8, .inl (cI, 4, .inl fm8)), (m9, .inl (cI, 4, .inl fm9)), (m10, .inl (cI, 34, .inl fm10))] U.heap ∧ va_K (dC, dI) vwCl (tys0 cI cZ cQ) U)) (va_Qi (fun (r : Int32) (u : Nat → Nat) => r = nI (lfM (gdM lmB (wrF (fm3 j) (fm4 j) (fm5 j) (fm7 k) (fm8 k)) (fm9 k) (fm10 (8 + j)) (fm10 (16 + j)) 999) (gdM lmB (wrF (fm3 j) (fm4 j) (fm5 j) (fm7 k) (fm8 k)) (fm9 k) (fm10 (8 + j)) 0 999) (fm10 j).toNatClampNeg)) (fun (_ : Nat → Nat) (_ : State) => True) (fun _ : Nat => False)) 0 0 (fun _ : Nat => False) := by
  refine Met.ofW (cc := cX11_lifeOf) (maxL := 6) (ret := (some .int)) (by decide) rfl ?_
  intro p e s m args below meth c s₁ B hml hv
  obtain ⟨rfl, hsz, hP, hK⟩ := hv
  have hx := B.exec
  have hb := B.bytes
  have hr := B.returns
  have hts := atoms_spec (ws := wsX11_lifeOf) B.pre
  have hown : s.vm.findClass RX11 = some m.cls := findClass_of_methodNamed B.named
  have hlocks := B.notSynchronized
  have hi_X11 : ∀ w ∈ u_ws RX11 TX11 46, w ∈ wsX11_lifeOf := fun _ h => List.mem_cons_of_mem _ (List.mem_append_right _ (h))
  subst hsz
  have hS : va_S (fun _ : Nat => False) s.heap s.heap [] := va_S.rf
  have hl := lv_entry ([.ref h0, .int (nI j), .int (nI k)]) (n := 6) (Nat.le_of_ble_eq_true rfl)
  rw [lg_entry_eq]
  generalize (lg_sl ([.ref h0, .int (nI j), .int (nI k)]) ++ List.replicate (6 - (lg_sl ([.ref h0, .int (nI j), .int (nI k)])).length) Slot.unset).toArray = ls at hl ⊢
  have hl : lv_has ls 6 [(0, .ref h0), (1, .int (nI j)), (2, .int (nI k))] := hl
  refine lv_aload_n hx hb dX11_lifeOf_0 rfl (lv_at hl 0 rfl) ?_
  refine lv_iload_n hx hb dX11_lifeOf_1 rfl (lv_at hl 1 rfl) ?_
  refine lv_iload_n hx hb dX11_lifeOf_2 rfl (lv_at hl 2 rfl) ?_
  have hPc := hP.sub (ws' := [(h0, .inr (11, f_h0)), (m3, .inl (cI, 8, .inl fm3)), (m4, .inl (cI, 8, .inl fm4)), (m5, .inl (cI, 8, .inl fm5)), (m7, .inl (cI, 4, .inl fm7)), (m8, .inl (cI, 4, .inl fm8)), (m9, .inl (cI, 4, .inl fm9)), (m10, .inl (cI, 34, .inl fm10))]) [0, 1, 2, 3, 4, 5, 6, 7] rfl
  refine va_calli (va_runV (As := [.int (nI j), .int (nI k)]) (rest := []) ⟨hx, hb, hml, hown, hts⟩ (c_X11_goodNowD l dC dI cI cZ cQ h0 m3 m4 m5 m7 m8 m9 m10 f_h0 fm3 fm4 fm5 fm7 fm8 fm9 fm10 j k nq s.heap.size e_h0_3 e_h0_4 e_h0_5 e_h0_7 e_h0_8 e_h0_9 e_h0_10 (by omega) (by first | assumption | decide) (by omega) (by omega)) (cwV 2 hts gX11_lifeOf_X11_goodNow rfl rfl rfl hd_X11_goodNow_RX11 ⟨Nat.le_of_ble_eq_true rfl, Nat.le_of_ble_eq_true rfl⟩) (pv_R (va_recv hK hP (ci := 11) (q0 := 0) rfl rfl) hK hPc) rfl rfl hl.1 rfl (lv_room (Nat.le_of_ble_eq_true rfl)) dX11_lifeOf_3 ⟨Nat.le_of_ble_eq_true rfl, Nat.le_of_ble_eq_true rfl⟩) hS (fun q _ h => False.elim h) (fun q h => False.elim h) (fun r1 u2 t H1 locs ht hvm hw3 hB hz1 hk1 hS => ?_)
  have hP := hP.kept (fun k q hk => hk1 q.1 (hP k q hk).lt (fun h => h))
  clear hz1 hk1 hPc
  generalize H1 = H at hP hS ht ⊢
  try dsimp only at hw3
  obtain ⟨w4, hw4, ew4, rfl⟩ := nat_ix gdM_le hw3
  refine lv_istore_n (lv' := [(3, .int (nI w4)), (0, .ref h0), (1, .int (nI j)), (2, .int (nI k))]) hx hb dX11_lifeOf_6 rfl hl (by decide) rfl (fun ls hl => ?_)
  refine lv_aload_n hx hb dX11_lifeOf_7 rfl (lv_at hl 1 rfl) ?_
  refine lv_iconst (v := 0) hx hb dX11_lifeOf_8 (by decide) ?_
  refine lv_iload_n hx hb dX11_lifeOf_9 rfl (lv_at hl 2 rfl) ?_
  refine lv_iload_n hx hb dX11_lifeOf_10 rfl (lv_at hl 3 rfl) ?_
  refine lv_sipush (v := 999) hx hb dX11_lifeOf_11 (by decide) ?_
  have hPc := hP.sub (ws' := [(h0, .inr (11, f_h0)), (m3, .inl (cI, 8, .inl fm3)), (m4, .inl (cI, 8, .inl fm4)), (m5, .inl (cI, 8, .inl fm5)), (m7, .inl (cI, 4, .inl fm7)), (m8, .inl (cI, 4, .inl fm8)), (m9, .inl (cI, 4, .inl fm9)), (m10, .inl (cI, 34, .inl fm10))]) [0, 1, 2, 3, 4, 5, 6, 7] rfl
  refine va_calli (va_runV (As := [.int 0, .int (nI j), .int (nI k), .int 999]) (rest := []) ⟨hx, hb, hml, hown, hts⟩ (c_X11_pagesFromD l dC dI cI cZ cQ h0 m3 m4 m5 m7 m8 m9 m10 f_h0 fm3 fm4 fm5 fm7 fm8 fm9 fm10 0 j k 999 nq H.size e_h0_3 e_h0_4 e_h0_5 e_h0_7 e_h0_8 e_h0_9 e_h0_10 (by omega) (by first | assumption | decide) (by omega) (by omega) (by omega)) (cwV 4 hts gX11_lifeOf_X11_pagesFrom rfl rfl rfl hd_X11_pagesFrom_RX11 ⟨Nat.le_of_ble_eq_true rfl, Nat.le_of_ble_eq_true rfl⟩) (pv_R (va_recv hK hP (ci := 11) (q0 := 0) rfl rfl) hK hPc) rfl rfl hl.1 rfl (lv_room (Nat.le_of_ble_eq_true rfl)) dX11_lifeOf_14 ⟨Nat.le_of_ble_eq_true rfl, Nat.le_of_ble_eq_true rfl⟩) hS (fun q _ h => False.elim h) (fun q h => False.elim h) (fun r5 u6 t H1 locs ht hvm hw7 hB hz1 hk1 hS => ?_)
  have hP := hP.kept (fun k q hk => hk1 q.1 (hP k q hk).lt (fun h => h))
  clear hz1 hk1 hPc
  generalize H1 = H at hP hS ht ⊢
  try dsimp only at hw7
  obtain ⟨w8, hw8, ew8, rfl⟩ := nat_ix gdM_le hw7
  refine lv_istore (lv' := [(4, .int (nI w8)), (3, .int (nI w4)), (0, .ref h0), (1, .int (nI j)), (2, .int (nI k))]) hx hb dX11_lifeOf_17 hl (by decide) rfl (fun ls hl => ?_)
  refine lv_aload_n hx hb dX11_lifeOf_19 rfl (lv_at hl 2 rfl) ?_
  refine va_get (D := (dC, dI)) (ci := 11) (v := .ref m10) (C := RX11) (T := TX11) (N := 46) hx hb hts hi_X11 hown hK hP 0 rfl rfl 10 (by decide) (hts (.fieldLink RX11 28 "LeftQuillsModel" "now" "[I") (wmx 1 rfl)) (fun _ h9 => h9) e_h0_10 dX11_lifeOf_20 ?_
  refine lv_iload_n hx hb dX11_lifeOf_23 rfl (lv_at hl 3 rfl) ?_
  refine va_iald hx hb hK hP 7 0 rfl rfl (vp_in_nI (n := j) (N := 34) (by omega) (by decide)) dX11_lifeOf_24 ?_
  refine W.eq (g2 := F0 m 25 ls [.int (fm10 j)]) (congrArg (fun y9 => F0 m 25 ls (.int (fm10 y9) :: [])) ((nI_clamp (n := j) (by omega)))) ?_
  refine lv_topi (fun z9 ez9 => ?_)
  obtain rfl : z9 = nI len := ez9.trans hl9
  refine lv_istore (lv' := [(5, .int (nI len)), (4, .int (nI w8)), (3, .int (nI w4)), (0, .ref h0), (1, .int (nI j)), (2, .int (nI k))]) hx hb dX11_lifeOf_25 hl (by decide) rfl (fun ls hl => ?_)
  refine (fun (K : ∀ (d27 : Nat) (x27 : Nat) (y27 : Nat) (H : Heap) (locs : List Loc) (ls : Array Slot), x27 ≤ 5 * d27 + 4 → x27 ≤ 99 → y27 + 1000 * (x27 / 5) ≤ 20979 → Hid (y27 + x27 / 5 * w8 = w4 + len / 5 * w8) → va_P (dC, dI) vwCl [(h0, .inr (11, f_h0)), (m3, .inl (cI, 8, .inl fm3)), (m4, .inl (cI, 8, .inl fm4)), (m5, .inl (cI, 8, .inl fm5)), (m7, .inl (cI, 4, .inl fm7)), (m8, .inl (cI, 4, .inl fm8)), (m9, .inl (cI, 4, .inl fm9)), (m10, .inl (cI, 34, .inl fm10))] H → va_S (fun _ : Nat => False) s.heap H locs → lv_has ls 6 [(5, .int (nI x27)), (3, .int (nI y27)), (4, .int (nI w8)), (0, .ref h0), (1, .int (nI j)), (2, .int (nI k))] → W p l e _ s m _ below meth c H locs _ _ _ (F0 m 27 ls [])) => K len len w4 _ _ _ (by omega) (by omega) (by omega) (Hid.mk rfl) hP hS (lv_sub hl [0, 2, 1, 3, 4, 5] rfl)) ?_
  intro d27
  induction d27 with
  | zero =>
    intro x27 y27 H locs ls hd27 hx27 hy27 hv27 hP hS hl
    refine lv_iload hx hb dX11_lifeOf_27 (lv_at hl 0 rfl) ?_
    refine lv_iconst (v := 5) hx hb dX11_lifeOf_29 (by decide) ?_
    refine lv_icmp_lt (tgt := 56) hx hb dX11_lifeOf_30 (by decide) (fun c10 => ?_) (fun c10 => ?_)
    ·
      have c10 : x27 < 5 := (nI_ltI (a := x27) (b := 5) (by omega) (by omega)).mp c10
      refine lv_iload_n hx hb dX11_lifeOf_56 rfl (lv_at hl 1 rfl) ?_
      refine lv_sipush (v := 999) hx hb dX11_lifeOf_57 (by decide) ?_
      refine lv_icmp_ge (tgt := 67) hx hb dX11_lifeOf_60 (by decide) (fun c11 => ?_) (fun c11 => ?_)
      ·
        have c11 : 999 ≤ y27 := (nI_leI (a := 999) (b := y27) (by omega) (by omega)).mp c11
        refine lv_sipush (v := 999) hx hb dX11_lifeOf_67 (by decide) ?_
        exact W.iret (v := 999) hx hb hr (fun t ht hW => ⟨⟨999, (fun _ => 0), rfl, (by rw [← ew4.out, ← ew8.out, i_nat hl9 (by omega)]; exact lf_full (by omega) hv27), trivial⟩, hS.F ht⟩) hS.2.2 dX11_lifeOf_70
      ·
        have c11 : ¬ 999 ≤ y27 := fun h => c11 ((nI_leI (a := 999) (b := y27) (by omega) (by omega)).mpr h)
        refine lv_iload_n hx hb dX11_lifeOf_63 rfl (lv_at hl 1 rfl) ?_
        refine lv_goto (tgt := 70) hx hb dX11_lifeOf_64 (by decide) ?_
        exact W.iret (v := nI y27) hx hb hr (fun t ht hW => ⟨⟨nI y27, (fun _ => 0), rfl, (by rw [← ew4.out, ← ew8.out, i_nat hl9 (by omega)]; exact lf_less (by omega) (by omega) hv27), trivial⟩, hS.F ht⟩) hS.2.2 dX11_lifeOf_70
    ·
      have c10 : ¬ x27 < 5 := fun h => c10 ((nI_ltI (a := x27) (b := 5) (by omega) (by omega)).mpr h)
      omega
  | succ d27 ih27 =>
    intro x27 y27 H locs ls hd27 hx27 hy27 hv27 hP hS hl
    refine lv_iload hx hb dX11_lifeOf_27 (lv_at hl 0 rfl) ?_
    refine lv_iconst (v := 5) hx hb dX11_lifeOf_29 (by decide) ?_
    refine lv_icmp_lt (tgt := 56) hx hb dX11_lifeOf_30 (by decide) (fun c12 => ?_) (fun c12 => ?_)
    ·
      have c12 : x27 < 5 := (nI_ltI (a := x27) (b := 5) (by omega) (by omega)).mp c12
      refine lv_iload_n hx hb dX11_lifeOf_56 rfl (lv_at hl 1 rfl) ?_
      refine lv_sipush (v := 999) hx hb dX11_lifeOf_57 (by decide) ?_
      refine lv_icmp_ge (tgt := 67) hx hb dX11_lifeOf_60 (by decide) (fun c13 => ?_) (fun c13 => ?_)
      ·
        have c13 : 999 ≤ y27 := (nI_leI (a := 999) (b := y27) (by omega) (by omega)).mp c13
        refine lv_sipush (v := 999) hx hb dX11_lifeOf_67 (by decide) ?_
        exact W.iret (v := 999) hx hb hr (fun t ht hW => ⟨⟨999, (fun _ => 0), rfl, (by rw [← ew4.out, ← ew8.out, i_nat hl9 (by omega)]; exact lf_full (by omega) hv27), trivial⟩, hS.F ht⟩) hS.2.2 dX11_lifeOf_70
      ·
        have c13 : ¬ 999 ≤ y27 := fun h => c13 ((nI_leI (a := 999) (b := y27) (by omega) (by omega)).mpr h)
        refine lv_iload_n hx hb dX11_lifeOf_63 rfl (lv_at hl 1 rfl) ?_
        refine lv_goto (tgt := 70) hx hb dX11_lifeOf_64 (by decide) ?_
        exact W.iret (v := nI y27) hx hb hr (fun t ht hW => ⟨⟨nI y27, (fun _ => 0), rfl, (by rw [← ew4.out, ← ew8.out, i_nat hl9 (by omega)]; exact lf_less (by omega) (by omega) hv27), trivial⟩, hS.F ht⟩) hS.2.2 dX11_lifeOf_70
    ·
      have c12 : ¬ x27 < 5 := fun h => c12 ((nI_ltI (a := x27) (b := 5) (by omega) (by omega)).mpr h)
      refine lv_iload hx hb dX11_lifeOf_33 (lv_at hl 2 rfl) ?_
      refine lv_if_le (tgt := 56) hx hb dX11_lifeOf_35 (by decide) (fun c14 => ?_) (fun c14 => ?_)
      ·
        have c14 : w8 ≤ 0 := (nI_leI (a := w8) (b := 0) (by omega) (by omega)).mp c14
        refine lv_iload_n hx hb dX11_lifeOf_56 rfl (lv_at hl 1 rfl) ?_
        refine lv_sipush (v := 999) hx hb dX11_lifeOf_57 (by decide) ?_
        refine lv_icmp_ge (tgt := 67) hx hb dX11_lifeOf_60 (by decide) (fun c15 => ?_) (fun c15 => ?_)
        ·
          have c15 : 999 ≤ y27 := (nI_leI (a := 999) (b := y27) (by omega) (by omega)).mp c15
          refine lv_sipush (v := 999) hx hb dX11_lifeOf_67 (by decide) ?_
          exact W.iret (v := 999) hx hb hr (fun t ht hW => ⟨⟨999, (fun _ => 0), rfl, (by rw [← ew4.out, ← ew8.out, i_nat hl9 (by omega)]; exact lf_full (by omega) hv27), trivial⟩, hS.F ht⟩) hS.2.2 dX11_lifeOf_70
        ·
          have c15 : ¬ 999 ≤ y27 := fun h => c15 ((nI_leI (a := 999) (b := y27) (by omega) (by omega)).mpr h)
          refine lv_iload_n hx hb dX11_lifeOf_63 rfl (lv_at hl 1 rfl) ?_
          refine lv_goto (tgt := 70) hx hb dX11_lifeOf_64 (by decide) ?_
          exact W.iret (v := nI y27) hx hb hr (fun t ht hW => ⟨⟨nI y27, (fun _ => 0), rfl, (by rw [← ew4.out, ← ew8.out, i_nat hl9 (by omega)]; exact lf_none (by omega) (by omega) hv27), trivial⟩, hS.F ht⟩) hS.2.2 dX11_lifeOf_70
      ·
        have c14 : ¬ w8 ≤ 0 := fun h => c14 ((nI_leI (a := w8) (b := 0) (by omega) (by omega)).mpr h)
        refine lv_iload_n hx hb dX11_lifeOf_38 rfl (lv_at hl 1 rfl) ?_
        refine lv_sipush (v := 999) hx hb dX11_lifeOf_39 (by decide) ?_
        refine lv_icmp_ge (tgt := 56) hx hb dX11_lifeOf_42 (by decide) (fun c16 => ?_) (fun c16 => ?_)
        ·
          have c16 : 999 ≤ y27 := (nI_leI (a := 999) (b := y27) (by omega) (by omega)).mp c16
          refine lv_iload_n hx hb dX11_lifeOf_56 rfl (lv_at hl 1 rfl) ?_
          refine lv_sipush (v := 999) hx hb dX11_lifeOf_57 (by decide) ?_
          refine lv_icmp_ge (tgt := 67) hx hb dX11_lifeOf_60 (by decide) (fun c17 => ?_) (fun c17 => ?_)
          ·
            have c17 : 999 ≤ y27 := (nI_leI (a := 999) (b := y27) (by omega) (by omega)).mp c17
            refine lv_sipush (v := 999) hx hb dX11_lifeOf_67 (by decide) ?_
            exact W.iret (v := 999) hx hb hr (fun t ht hW => ⟨⟨999, (fun _ => 0), rfl, (by rw [← ew4.out, ← ew8.out, i_nat hl9 (by omega)]; exact lf_full (by omega) hv27), trivial⟩, hS.F ht⟩) hS.2.2 dX11_lifeOf_70
          ·
            have c17 : ¬ 999 ≤ y27 := fun h => c17 ((nI_leI (a := 999) (b := y27) (by omega) (by omega)).mpr h)
            refine lv_iload_n hx hb dX11_lifeOf_63 rfl (lv_at hl 1 rfl) ?_
            refine lv_goto (tgt := 70) hx hb dX11_lifeOf_64 (by decide) ?_
            exact W.iret (v := nI y27) hx hb hr (fun t ht hW => ⟨⟨nI y27, (fun _ => 0), rfl, (by rw [← ew4.out, ← ew8.out, i_nat hl9 (by omega)]; exact lf_none (by omega) (by omega) hv27), trivial⟩, hS.F ht⟩) hS.2.2 dX11_lifeOf_70
        ·
          have c16 : ¬ 999 ≤ y27 := fun h => c16 ((nI_leI (a := 999) (b := y27) (by omega) (by omega)).mpr h)
          refine lv_iinc (v := nI (x27 - 5)) (lv' := [(5, .int (nI (x27 - 5))), (3, .int (nI y27)), (4, .int (nI w8)), (0, .ref h0), (1, .int (nI j)), (2, .int (nI k))]) hx hb dX11_lifeOf_45 hl (k := 0) rfl (x_inc5 (a := x27) (by omega)) (by decide) rfl (fun ls hl => ?_)
          refine lv_iload_n hx hb dX11_lifeOf_48 rfl (lv_at hl 1 rfl) ?_
          refine lv_iload hx hb dX11_lifeOf_49 (lv_at hl 2 rfl) ?_
          refine lv_iadd hx hb dX11_lifeOf_51 ?_
          refine lv_topi (fun z18 ez18 => ?_)
          obtain rfl : z18 = nI (y27 + w8) := ez18.trans (nI_add y27 w8)
          refine lv_istore_n (lv' := [(3, .int (nI (y27 + w8))), (5, .int (nI (x27 - 5))), (4, .int (nI w8)), (0, .ref h0), (1, .int (nI j)), (2, .int (nI k))]) hx hb dX11_lifeOf_52 rfl hl (by decide) rfl (fun ls hl => ?_)
          refine lv_goto (tgt := 27) hx hb dX11_lifeOf_53 (by decide) ?_
          exact ih27 (x27 - 5) (y27 + w8) _ _ _ (by omega) (by omega) (by omega) (lf_step (by omega) hv27) hP hS (lv_sub hl [1, 0, 2, 3, 4, 5] rfl)
set_option maxHeartbeats 4000000 in
set_option maxRecDepth 100000 in
theorem c_X10_geeseD (l : Launch) (dC : Nat → ClassId) (dI : Nat → Nat → Nat) (cI cZ cQ : ClassId) (h0 : Nat) (x4 : Nat) (x9 : Nat) (f_h0 : List Value) (o5 : Nat) (o6 : Nat) (o7 : Nat) (o10 : Nat) (o11 : Nat) (o12 : Nat) (nq : Nat) (nh : Nat) (f_x4 : List Value) (x6 : Nat) (f_x9 : List Value) (a2 : Nat) (a3 : Nat) (a4 : Nat) (f_x6 : List Value) (fa2 : Nat → Int32) (fa3 : Nat → Int32) (fa4 : Nat → Int32) (fo5 : Nat → Int32) (fo6 : Nat → Int32) (fo7 : Nat → Int32) (fo10 : Nat → Int32) (fo11 : Nat → Int32) (fo12 : Nat → Int32) (q0 : Int32) (q1 : Int32) (q2 : Int32) (sz : Nat) (e_h0_4 : fAt f_h0 4 = some (.ref x4)) (e_h0_9 : fAt f_h0 9 = some (.ref x9)) (e_x4_5 : fAt f_x4 5 = some (.ref o5)) (e_x4_6 : fAt f_x4 6 = some (.ref o6)) (e_x4_7 : fAt f_x4 7 = some (.ref o7)) (e_x4_10 : fAt f_x4 10 = some (.ref o10)) (e_x4_11 : fAt f_x4 11 = some (.ref o11)) (e_x4_12 : fAt f_x4 12 = some (.ref o12)) (e_x4_3 : fAt f_x4 3 = some (.int (nI nq))) (e_x4_4 : fAt f_x4 4 = some (.int (nI nh))) (e_x9_0 : fAt f_x9 0 = some (.ref x4)) (e_x9_1 : fAt f_x9 1 = some (.ref x6)) (e_x6_2 : fAt f_x6 2 = some (.ref a2)) (e_x6_3 : fAt f_x6 3 = some (.ref a3)) (e_x6_4 : fAt f_x6 4 = some (.ref a4)) (hnq : nq ≤ 8) (hnh : nh ≤ 4) (hlen : ∀ j, j < nq → ∃ l : Nat, l ≤ 99 ∧ fa2 j = nI l) : Met l yX10_geese wsX10_geese ({ frames := 5, cells := 0, slots := 0, locals := 158 }) (va_Pc [.ref h0, .int q0, .int q1, .int q2] (fun U => U.heap.size = sz ∧ va_P (dC, dI) vwCl [(h0, .inr (10, f_h0)), (x4, .inr (5, f_x4)), (x9, .inr (9, f_x9)), (x6, .inr (1, f_x6)), (a2, .inl (cI, 8, .inl fa2)), (a3, .inl (cI, 8, .inl fa3)), (a4, .inl (cI, 8, .inl fa4)), (o5, .inl (cI, 8, .inl fo5)), (o6, .inl (cI, 8, .inl fo6)), (o7, .inl (cI, 8, .inl fo7)), (o10, .inl (cI, 4, .inl fo10)), (o11, .inl (cI, 4, .inl fo11)), (o12, .inl (cI, 4, .inl fo12))] U.heap ∧ va_K (dC, dI) vwCl (tys0 cI cZ cQ) U ∧ xN U)) (va_Qi (fun (r : Int32) (u : Nat → Nat) => r = gsR nq nh q0 q1 q2 (fun j k => lfM (gdM lcB (wrF (fo5 j) (fo6 j) (fo7 j) (fo10 k) (fo11 k)) (fo12 k) (fa3 j) (fa4 j) 999) (gdM lcB (wrF (fo5 j) (fo6 j) (fo7 j) (fo10 k) (fo11 k)) (fo12 k) (fa3 j) 0 999) (fa2 j).toNatClampNeg)) (fun (_ : Nat → Nat) (_ : State) => True) (fun _ : Nat => False)) 0 0 (fun _ : Nat => False) := by
  refine Met.ofW (cc := cX10_geese) (maxL := 5) (ret := (some .int)) (by decide) rfl ?_
  intro p e s m args below meth c s₁ B hml hv
  obtain ⟨rfl, hsz, hP, hK, hN⟩ := hv
  have hx := B.exec
  have hb := B.bytes
  have hr := B.returns
  have hts := atoms_spec (ws := wsX10_geese) B.pre
  have hown : s.vm.findClass RX10 = some m.cls := findClass_of_methodNamed B.named
  have hlocks := B.notSynchronized
  have hi_X10 : ∀ w ∈ u_ws RX10 TX10 14, w ∈ wsX10_geese := fun _ h => List.mem_cons_of_mem _ (List.mem_append_left _ (List.mem_append_left _ (List.mem_append_left _ (List.mem_append_right _ (h)))))
  subst hsz
  have hS : va_S (fun _ : Nat => False) s.heap s.heap [] := va_S.rf
  have hl := lv_entry ([.ref h0, .int q0, .int q1, .int q2]) (n := 5) (Nat.le_of_ble_eq_true rfl)
  rw [lg_entry_eq]
  generalize (lg_sl ([.ref h0, .int q0, .int q1, .int q2]) ++ List.replicate (5 - (lg_sl ([.ref h0, .int q0, .int q1, .int q2])).length) Slot.unset).toArray = ls at hl ⊢
  have hl : lv_has ls 5 [(0, .ref h0), (1, .int q0), (2, .int q1), (3, .int q2)] := hl
  refine lv_aload_n hx hb dX10_geese_0 rfl (lv_at hl 0 rfl) ?_
  refine lv_iload_n hx hb dX10_geese_1 rfl (lv_at hl 1 rfl) ?_
  have hPc := hP.sub (ws' := [(h0, .inr (10, f_h0)), (x4, .inr (5, f_x4))]) [0, 1] rfl
  refine va_calli (va_runV (As := [.int q0]) (rest := []) ⟨hx, hb, hml, hown, hts⟩ (c_X10_isQuill l dC dI cI cZ cQ h0 x4 f_h0 (nI nq) f_x4 q0 s.heap.size e_h0_4 e_x4_3) (cwV 1 hts gX10_geese_X10_isQuill rfl rfl rfl hd_X10_isQuill_RX10 ⟨Nat.le_of_ble_eq_true rfl, Nat.le_of_ble_eq_true rfl⟩) (pv_R (va_recv hK hP (ci := 10) (q0 := 0) rfl rfl) hK hPc) rfl rfl hl.1 rfl (lv_room (Nat.le_of_ble_eq_true rfl)) dX10_geese_2 ⟨Nat.le_of_ble_eq_true rfl, Nat.le_of_ble_eq_true rfl⟩) hS (fun q _ h => False.elim h) (fun q h => False.elim h) (fun r1 u2 t H1 locs ht hvm hw3 hB hz1 hk1 hS => ?_)
  have hP := hP.kept (fun k q hk => hk1 q.1 (hP k q hk).lt (fun h => h))
  clear hz1 hk1 hPc
  generalize H1 = H at hP hS ht ⊢
  try dsimp only at hw3
  rcases hw3 with ⟨rfl, hw3⟩ | ⟨rfl, hw3⟩
  ·
    obtain ⟨j4, hj4, rfl⟩ := x_ix hw3 (by omega)
    refine lv_if_eq (tgt := 16) hx hb dX10_geese_5 (by decide) (fun c5 => ?_) (fun c5 => ?_)
    · exact absurd c5 (by decide)
    clear c5
    refine lv_aload_n hx hb dX10_geese_8 rfl (lv_at hl 0 rfl) ?_
    refine lv_iload_n hx hb dX10_geese_9 rfl (lv_at hl 2 rfl) ?_
    have hPc := hP.sub (ws' := [(h0, .inr (10, f_h0)), (x4, .inr (5, f_x4))]) [0, 1] rfl
    refine va_calli (va_runV (As := [.int q1]) (rest := []) ⟨hx, hb, hml, hown, hts⟩ (c_X10_isHand l dC dI cI cZ cQ h0 x4 f_h0 (nI nh) f_x4 q1 H.size e_h0_4 e_x4_4) (cwV 1 hts gX10_geese_X10_isHand rfl rfl rfl hd_X10_isHand_RX10 ⟨Nat.le_of_ble_eq_true rfl, Nat.le_of_ble_eq_true rfl⟩) (pv_R (va_recv hK hP (ci := 10) (q0 := 0) rfl rfl) hK hPc) rfl rfl hl.1 rfl (lv_room (Nat.le_of_ble_eq_true rfl)) dX10_geese_10 ⟨Nat.le_of_ble_eq_true rfl, Nat.le_of_ble_eq_true rfl⟩) hS (fun q _ h => False.elim h) (fun q h => False.elim h) (fun r6 u7 t H1 locs ht hvm hw8 hB hz1 hk1 hS => ?_)
    have hP := hP.kept (fun k q hk => hk1 q.1 (hP k q hk).lt (fun h => h))
    clear hz1 hk1 hPc
    generalize H1 = H at hP hS ht ⊢
    try dsimp only at hw8
    rcases hw8 with ⟨rfl, hw8⟩ | ⟨rfl, hw8⟩
    ·
      obtain ⟨j9, hj9, rfl⟩ := x_ix hw8 (by omega)
      refine lv_if_ne (tgt := 19) hx hb dX10_geese_13 (by decide) (fun c10 => ?_) (fun c10 => ?_)
      rotate_left
      · exact absurd c10 (by decide)
      clear c10
      refine lv_iload_n hx hb dX10_geese_19 rfl (lv_at hl 3 rfl) ?_
      refine lv_iconst (v := 1) hx hb dX10_geese_20 (by decide) ?_
      refine lv_ldcw (v := 99999) hx hb hown (hts (.constant RX10 264 99999) (wmx 2 rfl)) dX10_geese_21 ?_
      have hPc := hP.sub (ws' := []) [] rfl
      refine va_calli (va_runS (As := [.int q2, .int 1, .int 99999]) (rest := []) ⟨hx, hb, hml, hown, hts⟩ (c_X10_within l dC dI cI cZ cQ q2 1 99999 H.size ) (va_cwS 3 hts gX10_geese_X10_within rfl rfl rfl (by decide +kernel) ⟨Nat.le_of_ble_eq_true rfl, Nat.le_of_ble_eq_true rfl⟩) (ps_R hK hPc) rfl rfl hl.1 rfl (lv_room (Nat.le_of_ble_eq_true rfl)) dX10_geese_24 ⟨Nat.le_of_ble_eq_true rfl, Nat.le_of_ble_eq_true rfl⟩) hS (fun q _ h => False.elim h) (fun q h => False.elim h) (fun r11 u12 t H1 locs ht hvm hw13 hB hz1 hk1 hS => ?_)
      have hP := hP.kept (fun k q hk => hk1 q.1 (hP k q hk).lt (fun h => h))
      clear hz1 hk1 hPc
      generalize H1 = H at hP hS ht ⊢
      try dsimp only at hw13
      rcases hw13 with ⟨rfl, hw13⟩ | ⟨rfl, hw13⟩
      ·
        obtain ⟨j14, haj14, hbj14, rfl⟩ := x_rng (a := 1) (b := 99999) (by decide) (by decide) hw13
        refine lv_if_ne (tgt := 33) hx hb dX10_geese_27 (by decide) (fun c15 => ?_) (fun c15 => ?_)
        rotate_left
        · exact absurd c15 (by decide)
        clear c15
        refine lv_bipush (v := 10) hx hb dX10_geese_33 (by decide) ?_
        refine lv_aload_n hx hb dX10_geese_35 rfl (lv_at hl 0 rfl) ?_
        refine va_get (D := (dC, dI)) (ci := 10) (v := .ref x9) (C := RX10) (T := TX10) (N := 14) hx hb hts hi_X10 hown hK hP 0 rfl rfl 9 (by decide) (hts (.fieldLink RX10 65 "LeftQuills" "trials" "LLeftQuills$Trials;") (wmx 4 rfl)) (fun _ h9 => h9) e_h0_9 dX10_geese_36 ?_
        refine lv_iload_n hx hb dX10_geese_39 rfl (lv_at hl 1 rfl) ?_
        refine lv_iload_n hx hb dX10_geese_40 rfl (lv_at hl 2 rfl) ?_
        obtain ⟨l16, hl16, el16⟩ := hlen j4 (by omega)
        have hPc := hP.sub (ws' := [(x9, .inr (9, f_x9)), (x4, .inr (5, f_x4)), (x6, .inr (1, f_x6)), (a2, .inl (cI, 8, .inl fa2)), (a3, .inl (cI, 8, .inl fa3)), (a4, .inl (cI, 8, .inl fa4)), (o5, .inl (cI, 8, .inl fo5)), (o6, .inl (cI, 8, .inl fo6)), (o7, .inl (cI, 8, .inl fo7)), (o10, .inl (cI, 4, .inl fo10)), (o11, .inl (cI, 4, .inl fo11)), (o12, .inl (cI, 4, .inl fo12))]) [2, 1, 3, 4, 5, 6, 7, 8, 9, 10, 11, 12] rfl
        refine va_calli (va_runV (As := [.int (nI j4), .int (nI j9)]) (rest := [.int 10]) ⟨hx, hb, hml, hown, hts⟩ (c_X9_goodInLifeD l dC dI cI cZ cQ x9 x4 x6 f_x9 o5 o6 o7 o10 o11 o12 f_x4 a2 a3 a4 f_x6 fa2 fa3 fa4 fo5 fo6 fo7 fo10 fo11 fo12 j4 j9 l16 H.size e_x9_0 e_x9_1 e_x4_5 e_x4_6 e_x4_7 e_x4_10 e_x4_11 e_x4_12 e_x6_2 e_x6_3 e_x6_4 (by omega) (by omega) el16 hl16) (cwV 2 hts gX10_geese_X9_goodInLife rfl rfl rfl hd_X9_goodInLife_RX9 ⟨Nat.le_of_ble_eq_true rfl, Nat.le_of_ble_eq_true rfl⟩) ⟨fun a U g mk q => by obtain ⟨q0, q1, qP, qK, qN⟩ := q; exact ⟨q0, q1, qP, va_K.moved (u := U) (U := U.calling g mk a) (Vm.Alike.refl U.vm) qK, qN.calling⟩, va_recv hK hP (ci := 9) (q0 := 2) rfl rfl, fun U hU hW => ⟨rfl, by rw [hU], by rw [hU]; exact hPc, va_K.moved hW.alike hK, hN.warm hW⟩⟩ rfl rfl hl.1 rfl (lv_room (Nat.le_of_ble_eq_true rfl)) dX10_geese_41 ⟨Nat.le_of_ble_eq_true rfl, Nat.le_of_ble_eq_true rfl⟩) hS (fun q _ h => False.elim h) (fun q h => False.elim h) (fun r17 u18 t H1 locs ht hvm hw19 hB hz1 hk1 hS => ?_)
        have hP := hP.kept (fun k q hk => hk1 q.1 (hP k q hk).lt (fun h => h))
        clear hz1 hk1 hPc
        generalize H1 = H at hP hS ht ⊢
        try dsimp only at hw19
        obtain ⟨w20, hw20, ew20, rfl⟩ := nat_ix lfM_le hw19
        refine lv_imul hx hb dX10_geese_44 ?_
        refine lv_topi (fun z21 ez21 => ?_)
        obtain rfl : z21 = nI (10 * w20) := ez21.trans (pk_mul 10 w20)
        refine lv_istore (lv' := [(4, .int (nI (10 * w20))), (0, .ref h0), (1, .int (nI j4)), (2, .int (nI j9)), (3, .int (nI j14))]) hx hb dX10_geese_45 hl (by decide) rfl (fun ls hl => ?_)
        refine lv_iload hx hb dX10_geese_47 (lv_at hl 0 rfl) ?_
        refine lv_if_gt (tgt := 54) hx hb dX10_geese_49 (by decide) (fun c22 => ?_) (fun c22 => ?_)
        ·
          have c22 : 0 < (10 * w20) := (nI_ltI (a := 0) (b := 10 * w20) (by omega) (by omega)).mp c22
          refine lv_iload_n hx hb dX10_geese_54 rfl (lv_at hl 4 rfl) ?_
          refine lv_iload hx hb dX10_geese_55 (lv_at hl 0 rfl) ?_
          refine lv_iadd hx hb dX10_geese_57 ?_
          refine lv_topi (fun z23 ez23 => ?_)
          obtain rfl : z23 = nI (j14 + (10 * w20)) := ez23.trans (nI_add j14 (10 * w20))
          refine lv_iconst (v := 1) hx hb dX10_geese_58 (by decide) ?_
          refine lv_isub hx hb dX10_geese_59 ?_
          refine lv_topi (fun z24 ez24 => ?_)
          obtain rfl : z24 = nI ((j14 + (10 * w20)) - 1) := ez24.trans (pk_sub (a := j14 + (10 * w20)) (b := 1) (by omega))
          refine lv_iload hx hb dX10_geese_60 (lv_at hl 0 rfl) ?_
          refine lv_idiv hx hb dX10_geese_62 (nI_ne0 (n := 10 * w20) (by omega) (by omega)) ?_
          refine lv_topi (fun z25 ez25 => ?_)
          obtain rfl : z25 = nI (((j14 + (10 * w20)) - 1) / (10 * w20)) := ez25.trans (pk_div (a := (j14 + (10 * w20)) - 1) (d := 10 * w20) (by omega) (by omega) (by omega))
          exact W.iret (v := nI (((j14 + (10 * w20)) - 1) / (10 * w20))) hx hb hr (fun t ht hW => ⟨⟨nI (((j14 + (10 * w20)) - 1) / (10 * w20)), (fun _ => 0), rfl, (gs_y hw3 hw8 hw13 (by omega) (by omega) (by omega) ew20.out (gs_1 (by omega))), trivial⟩, hS.F ht⟩) hS.2.2 dX10_geese_63
        ·
          have c22 : ¬ 0 < (10 * w20) := fun h => c22 ((nI_ltI (a := 0) (b := 10 * w20) (by omega) (by omega)).mpr h)
          refine lv_iconst (v := (-1)) hx hb dX10_geese_52 (by decide) ?_
          exact W.iret (v := (-1)) hx hb hr (fun t ht hW => ⟨⟨(-1), (fun _ => 0), rfl, (gs_y hw3 hw8 hw13 (by omega) (by omega) (by omega) ew20.out (gs_0 (by omega))), trivial⟩, hS.F ht⟩) hS.2.2 dX10_geese_53
      ·
        refine lv_if_ne (tgt := 33) hx hb dX10_geese_27 (by decide) (fun c26 => ?_) (fun c26 => ?_)
        · exact absurd c26 (by decide)
        clear c26
        refine lv_ldc (v := (-1000000002)) hx hb hown (hts (.constant RX10 103 (-1000000002)) (wmx 3 rfl)) dX10_geese_30 ?_
        exact W.iret (v := (-1000000002)) hx hb hr (fun t ht hW => ⟨⟨(-1000000002), (fun _ => 0), rfl, (gs_o hw3 hw8 hw13), trivial⟩, hS.F ht⟩) hS.2.2 dX10_geese_32
    ·
      refine lv_if_ne (tgt := 19) hx hb dX10_geese_13 (by decide) (fun c27 => ?_) (fun c27 => ?_)
      · exact absurd c27 (by decide)
      clear c27
      refine lv_ldc (v := (-1000000001)) hx hb hown (hts (.constant RX10 160 (-1000000001)) (wmx 1 rfl)) dX10_geese_16 ?_
      exact W.iret (v := (-1000000001)) hx hb hr (fun t ht hW => ⟨⟨(-1000000001), (fun _ => 0), rfl, (gs_n1 hw8), trivial⟩, hS.F ht⟩) hS.2.2 dX10_geese_18
  ·
    refine lv_if_eq (tgt := 16) hx hb dX10_geese_5 (by decide) (fun c28 => ?_) (fun c28 => ?_)
    rotate_left
    · exact absurd c28 (by decide)
    clear c28
    refine lv_ldc (v := (-1000000001)) hx hb hown (hts (.constant RX10 160 (-1000000001)) (wmx 1 rfl)) dX10_geese_16 ?_
    exact W.iret (v := (-1000000001)) hx hb hr (fun t ht hW => ⟨⟨(-1000000001), (fun _ => 0), rfl, (gs_n0 hw3), trivial⟩, hS.F ht⟩) hS.2.2 dX10_geese_18
set_option maxHeartbeats 4000000 in
set_option maxRecDepth 100000 in
theorem c_X11_geeseD (l : Launch) (dC : Nat → ClassId) (dI : Nat → Nat → Nat) (cI cZ cQ : ClassId) (h0 : Nat) (nq : Nat) (nh : Nat) (m3 : Nat) (m4 : Nat) (m5 : Nat) (m7 : Nat) (m8 : Nat) (m9 : Nat) (m10 : Nat) (f_h0 : List Value) (fm3 : Nat → Int32) (fm4 : Nat → Int32) (fm5 : Nat → Int32) (fm7 : Nat → Int32) (fm8 : Nat → Int32) (fm9 : Nat → Int32) (fm10 : Nat → Int32) (q0 : Int32) (q1 : Int32) (q2 : Int32) (sz : Nat) (e_h0_2 : fAt f_h0 2 = some (.int (nI nq))) (e_h0_6 : fAt f_h0 6 = some (.int (nI nh))) (e_h0_3 : fAt f_h0 3 = some (.ref m3)) (e_h0_4 : fAt f_h0 4 = some (.ref m4)) (e_h0_5 : fAt f_h0 5 = some (.ref m5)) (e_h0_7 : fAt f_h0 7 = some (.ref m7)) (e_h0_8 : fAt f_h0 8 = some (.ref m8)) (e_h0_9 : fAt f_h0 9 = some (.ref m9)) (e_h0_10 : fAt f_h0 10 = some (.ref m10)) (hnq : nq ≤ 8) (hci : cIn fm5 nq) (hnh : nh ≤ 4) (hlen : ∀ j, j < nq → ∃ l : Nat, l ≤ 99 ∧ fm10 j = nI l) : Met l yX11_geese wsX11_geese ({ frames := 6, cells := 0, slots := 0, locals := 182 }) (va_Pc [.ref h0, .int q0, .int q1, .int q2] (fun U => U.heap.size = sz ∧ va_P (dC, dI) vwCl [(h0, .inr (11, f_h0)), (m3, .inl (cI, 8, .inl fm3)), (m4, .inl (cI, 8, .inl fm4)), (m5, .inl (cI, 8, .inl fm5)), (m7, .inl (cI, 4, .inl fm7)), (m8, .inl (cI, 4, .inl fm8)), (m9, .inl (cI, 4, .inl fm9)), (m10, .inl (cI, 34, .inl fm10))] U.heap ∧ va_K (dC, dI) vwCl (tys0 cI cZ cQ) U)) (va_Qi (fun (r : Int32) (u : Nat → Nat) => r = gsR nq nh q0 q1 q2 (fun j k => lfM (gdM lmB (wrF (fm3 j) (fm4 j) (fm5 j) (fm7 k) (fm8 k)) (fm9 k) (fm10 (8 + j)) (fm10 (16 + j)) 999) (gdM lmB (wrF (fm3 j) (fm4 j) (fm5 j) (fm7 k) (fm8 k)) (fm9 k) (fm10 (8 + j)) 0 999) (fm10 j).toNatClampNeg)) (fun (_ : Nat → Nat) (_ : State) => True) (fun _ : Nat => False)) 0 0 (fun _ : Nat => False) := by
  refine Met.ofW (cc := cX11_geese) (maxL := 6) (ret := (some .int)) (by decide) rfl ?_
  intro p e s m args below meth c s₁ B hml hv
  obtain ⟨rfl, hsz, hP, hK⟩ := hv
  have hx := B.exec
  have hb := B.bytes
  have hr := B.returns
  have hts := atoms_spec (ws := wsX11_geese) B.pre
  have hown : s.vm.findClass RX11 = some m.cls := findClass_of_methodNamed B.named
  have hlocks := B.notSynchronized
  subst hsz
  have hS : va_S (fun _ : Nat => False) s.heap s.heap [] := va_S.rf
  have hl := lv_entry ([.ref h0, .int q0, .int q1, .int q2]) (n := 6) (Nat.le_of_ble_eq_true rfl)
  rw [lg_entry_eq]
  generalize (lg_sl ([.ref h0, .int q0, .int q1, .int q2]) ++ List.replicate (6 - (lg_sl ([.ref h0, .int q0, .int q1, .int q2])).length) Slot.unset).toArray = ls at hl ⊢
  have hl : lv_has ls 6 [(0, .ref h0), (1, .int q0), (2, .int q1), (3, .int q2)] := hl
  refine lv_aload_n hx hb dX11_geese_0 rfl (lv_at hl 0 rfl) ?_
  refine lv_iload_n hx hb dX11_geese_1 rfl (lv_at hl 1 rfl) ?_
  have hPc := hP.sub (ws' := [(h0, .inr (11, f_h0))]) [0] rfl
  refine va_calli (va_runV (As := [.int q0]) (rest := []) ⟨hx, hb, hml, hown, hts⟩ (c_X11_isQuill l dC dI cI cZ cQ h0 (nI nq) f_h0 q0 s.heap.size e_h0_2 (nI_pos' (n := nq) (by omega))) (cwV 1 hts gX11_geese_X11_isQuill rfl rfl rfl hd_X11_isQuill_RX11 ⟨Nat.le_of_ble_eq_true rfl, Nat.le_of_ble_eq_true rfl⟩) (pv_R (va_recv hK hP (ci := 11) (q0 := 0) rfl rfl) hK hPc) rfl rfl hl.1 rfl (lv_room (Nat.le_of_ble_eq_true rfl)) dX11_geese_2 ⟨Nat.le_of_ble_eq_true rfl, Nat.le_of_ble_eq_true rfl⟩) hS (fun q _ h => False.elim h) (fun q h => False.elim h) (fun r1 u2 t H1 locs ht hvm hw3 hB hz1 hk1 hS => ?_)
  have hP := hP.kept (fun k q hk => hk1 q.1 (hP k q hk).lt (fun h => h))
  clear hz1 hk1 hPc
  generalize H1 = H at hP hS ht ⊢
  try dsimp only at hw3
  rcases hw3 with ⟨rfl, hw3⟩ | ⟨rfl, hw3⟩
  ·
    obtain ⟨j4, hj4, rfl⟩ := x_ix hw3 (by omega)
    refine lv_if_eq (tgt := 16) hx hb dX11_geese_5 (by decide) (fun c5 => ?_) (fun c5 => ?_)
    · exact absurd c5 (by decide)
    clear c5
    refine lv_aload_n hx hb dX11_geese_8 rfl (lv_at hl 0 rfl) ?_
    refine lv_iload_n hx hb dX11_geese_9 rfl (lv_at hl 2 rfl) ?_
    have hPc := hP.sub (ws' := [(h0, .inr (11, f_h0))]) [0] rfl
    refine va_calli (va_runV (As := [.int q1]) (rest := []) ⟨hx, hb, hml, hown, hts⟩ (c_X11_isHand l dC dI cI cZ cQ h0 (nI nh) f_h0 q1 H.size e_h0_6 (nI_pos' (n := nh) (by omega))) (cwV 1 hts gX11_geese_X11_isHand rfl rfl rfl hd_X11_isHand_RX11 ⟨Nat.le_of_ble_eq_true rfl, Nat.le_of_ble_eq_true rfl⟩) (pv_R (va_recv hK hP (ci := 11) (q0 := 0) rfl rfl) hK hPc) rfl rfl hl.1 rfl (lv_room (Nat.le_of_ble_eq_true rfl)) dX11_geese_10 ⟨Nat.le_of_ble_eq_true rfl, Nat.le_of_ble_eq_true rfl⟩) hS (fun q _ h => False.elim h) (fun q h => False.elim h) (fun r6 u7 t H1 locs ht hvm hw8 hB hz1 hk1 hS => ?_)
    have hP := hP.kept (fun k q hk => hk1 q.1 (hP k q hk).lt (fun h => h))
    clear hz1 hk1 hPc
    generalize H1 = H at hP hS ht ⊢
    try dsimp only at hw8
    rcases hw8 with ⟨rfl, hw8⟩ | ⟨rfl, hw8⟩
    ·
      obtain ⟨j9, hj9, rfl⟩ := x_ix hw8 (by omega)
      refine lv_if_ne (tgt := 19) hx hb dX11_geese_13 (by decide) (fun c10 => ?_) (fun c10 => ?_)
      rotate_left
      · exact absurd c10 (by decide)
      clear c10
      refine lv_iload_n hx hb dX11_geese_19 rfl (lv_at hl 3 rfl) ?_
      refine lv_i2l hx hb dX11_geese_20 rfl ?_
      refine lv_lconst (v := 1) hx hb dX11_geese_21 (by decide) ?_
      refine lv_topl (fun z11 ez11 => ?_)
      obtain rfl : z11 = (1 : Int32).toInt64 := ez11.trans (by decide)
      refine lv_ldc2 (v := 99999) hx hb hown (hts (.constantLong RX11 307 99999) (wmx 2 rfl)) dX11_geese_22 ?_
      refine lv_topl (fun z12 ez12 => ?_)
      obtain rfl : z12 = (99999 : Int32).toInt64 := ez12.trans (by decide)
      have hPc := hP.sub (ws' := []) [] rfl
      refine va_calli (va_runS (As := [.long q2.toInt64, .long ((1 : Int32).toInt64), .long ((99999 : Int32).toInt64)]) (rest := []) ⟨hx, hb, hml, hown, hts⟩ (c_X11_in l dC dI cI cZ cQ q2 1 99999 H.size ) (va_cwS 3 hts gX11_geese_X11_in rfl rfl rfl (by decide +kernel) ⟨Nat.le_of_ble_eq_true rfl, Nat.le_of_ble_eq_true rfl⟩) (ps_R hK hPc) rfl rfl hl.1 rfl (lv_room (Nat.le_of_ble_eq_true rfl)) dX11_geese_25 ⟨Nat.le_of_ble_eq_true rfl, Nat.le_of_ble_eq_true rfl⟩) hS (fun q _ h => False.elim h) (fun q h => False.elim h) (fun r13 u14 t H1 locs ht hvm hw15 hB hz1 hk1 hS => ?_)
      have hP := hP.kept (fun k q hk => hk1 q.1 (hP k q hk).lt (fun h => h))
      clear hz1 hk1 hPc
      generalize H1 = H at hP hS ht ⊢
      try dsimp only at hw15
      rcases hw15 with ⟨rfl, hw15⟩ | ⟨rfl, hw15⟩
      ·
        obtain ⟨j16, haj16, hbj16, rfl⟩ := x_rng (a := 1) (b := 99999) (by decide) (by decide) hw15
        refine lv_if_ne (tgt := 34) hx hb dX11_geese_28 (by decide) (fun c17 => ?_) (fun c17 => ?_)
        rotate_left
        · exact absurd c17 (by decide)
        clear c17
        refine lv_aload_n hx hb dX11_geese_34 rfl (lv_at hl 0 rfl) ?_
        refine lv_iload_n hx hb dX11_geese_35 rfl (lv_at hl 1 rfl) ?_
        refine lv_iload_n hx hb dX11_geese_36 rfl (lv_at hl 2 rfl) ?_
        obtain ⟨l18, hl18, el18⟩ := hlen j4 (by omega)
        have hPc := hP.sub (ws' := [(h0, .inr (11, f_h0)), (m3, .inl (cI, 8, .inl fm3)), (m4, .inl (cI, 8, .inl fm4)), (m5, .inl (cI, 8, .inl fm5)), (m7, .inl (cI, 4, .inl fm7)), (m8, .inl (cI, 4, .inl fm8)), (m9, .inl (cI, 4, .inl fm9)), (m10, .inl (cI, 34, .inl fm10))]) [0, 1, 2, 3, 4, 5, 6, 7] rfl
        refine va_calli (va_runV (As := [.int (nI j4), .int (nI j9)]) (rest := []) ⟨hx, hb, hml, hown, hts⟩ (c_X11_lifeOfD l dC dI cI cZ cQ h0 m3 m4 m5 m7 m8 m9 m10 f_h0 fm3 fm4 fm5 fm7 fm8 fm9 fm10 j4 j9 nq l18 H.size e_h0_3 e_h0_4 e_h0_5 e_h0_7 e_h0_8 e_h0_9 e_h0_10 (by omega) (by first | assumption | decide) (by omega) (by omega) el18 hl18) (cwV 2 hts gX11_geese_X11_lifeOf rfl rfl rfl hd_X11_lifeOf_RX11 ⟨Nat.le_of_ble_eq_true rfl, Nat.le_of_ble_eq_true rfl⟩) (pv_R (va_recv hK hP (ci := 11) (q0 := 0) rfl rfl) hK hPc) rfl rfl hl.1 rfl (lv_room (Nat.le_of_ble_eq_true rfl)) dX11_geese_37 ⟨Nat.le_of_ble_eq_true rfl, Nat.le_of_ble_eq_true rfl⟩) hS (fun q _ h => False.elim h) (fun q h => False.elim h) (fun r19 u20 t H1 locs ht hvm hw21 hB hz1 hk1 hS => ?_)
        have hP := hP.kept (fun k q hk => hk1 q.1 (hP k q hk).lt (fun h => h))
        clear hz1 hk1 hPc
        generalize H1 = H at hP hS ht ⊢
        try dsimp only at hw21
        obtain ⟨w22, hw22, ew22, rfl⟩ := nat_ix lfM_le hw21
        refine lv_istore (lv' := [(4, .int (nI w22)), (0, .ref h0), (1, .int (nI j4)), (2, .int (nI j9)), (3, .int (nI j16))]) hx hb dX11_geese_40 hl (by decide) rfl (fun ls hl => ?_)
        refine lv_iload hx hb dX11_geese_42 (lv_at hl 0 rfl) ?_
        refine lv_if_ne (tgt := 49) hx hb dX11_geese_44 (by decide) (fun c23 => ?_) (fun c23 => ?_)
        ·
          have c23 : ¬ w22 = 0 := fun h => c23 ((nI_eq (a := w22) (b := 0) (by omega) (by omega)).mpr h)
          refine lv_iload_n hx hb dX11_geese_49 rfl (lv_at hl 4 rfl) ?_
          refine lv_iload hx hb dX11_geese_50 (lv_at hl 0 rfl) ?_
          refine lv_iadd hx hb dX11_geese_52 ?_
          refine lv_topi (fun z24 ez24 => ?_)
          obtain rfl : z24 = nI (j16 + w22) := ez24.trans (nI_add j16 w22)
          refine lv_iconst (v := 1) hx hb dX11_geese_53 (by decide) ?_
          refine lv_isub hx hb dX11_geese_54 ?_
          refine lv_topi (fun z25 ez25 => ?_)
          obtain rfl : z25 = nI ((j16 + w22) - 1) := ez25.trans (pk_sub (a := j16 + w22) (b := 1) (by omega))
          refine lv_iload hx hb dX11_geese_55 (lv_at hl 0 rfl) ?_
          refine lv_idiv hx hb dX11_geese_57 (nI_ne0 (n := w22) (by omega) (by omega)) ?_
          refine lv_topi (fun z26 ez26 => ?_)
          obtain rfl : z26 = nI (((j16 + w22) - 1) / w22) := ez26.trans (pk_div (a := (j16 + w22) - 1) (d := w22) (by omega) (by omega) (by omega))
          refine lv_istore (lv' := [(5, .int (nI (((j16 + w22) - 1) / w22))), (4, .int (nI w22)), (0, .ref h0), (1, .int (nI j4)), (2, .int (nI j9)), (3, .int (nI j16))]) hx hb dX11_geese_58 hl (by decide) rfl (fun ls hl => ?_)
          have hdv9 : ((j16 + w22) - 1) / w22 ≤ ((j16 + w22) - 1) := Nat.div_le_self _ _
          refine lv_iload hx hb dX11_geese_60 (lv_at hl 0 rfl) ?_
          refine lv_bipush (v := 9) hx hb dX11_geese_62 (by decide) ?_
          refine lv_iadd hx hb dX11_geese_64 ?_
          refine lv_topi (fun z27 ez27 => ?_)
          obtain rfl : z27 = nI ((((j16 + w22) - 1) / w22) + 9) := ez27.trans (nI_add (((j16 + w22) - 1) / w22) 9)
          refine lv_bipush (v := 10) hx hb dX11_geese_65 (by decide) ?_
          refine lv_idiv hx hb dX11_geese_67 (by decide) ?_
          refine lv_topi (fun z28 ez28 => ?_)
          obtain rfl : z28 = nI (((((j16 + w22) - 1) / w22) + 9) / 10) := ez28.trans (pk_div (a := (((j16 + w22) - 1) / w22) + 9) (d := 10) (by omega) (by omega) (by omega))
          exact W.iret (v := nI (((((j16 + w22) - 1) / w22) + 9) / 10)) hx hb hr (fun t ht hW => ⟨⟨nI (((((j16 + w22) - 1) / w22) + 9) / 10), (fun _ => 0), rfl, (gs_y hw3 hw8 hw15 (by omega) (by omega) (by omega) ew22.out (gs_m (by omega))), trivial⟩, hS.F ht⟩) hS.2.2 dX11_geese_68
        ·
          have c23 : w22 = 0 := (nI_eq (a := w22) (b := 0) (by omega) (by omega)).mp c23
          refine lv_iconst (v := (-1)) hx hb dX11_geese_47 (by decide) ?_
          exact W.iret (v := (-1)) hx hb hr (fun t ht hW => ⟨⟨(-1), (fun _ => 0), rfl, (gs_y hw3 hw8 hw15 (by omega) (by omega) (by omega) ew22.out (gs_0 (by omega))), trivial⟩, hS.F ht⟩) hS.2.2 dX11_geese_48
      ·
        refine lv_if_ne (tgt := 34) hx hb dX11_geese_28 (by decide) (fun c29 => ?_) (fun c29 => ?_)
        · exact absurd c29 (by decide)
        clear c29
        refine lv_ldc (v := (-1000000002)) hx hb hown (hts (.constant RX11 111 (-1000000002)) (wmx 3 rfl)) dX11_geese_31 ?_
        exact W.iret (v := (-1000000002)) hx hb hr (fun t ht hW => ⟨⟨(-1000000002), (fun _ => 0), rfl, (gs_o hw3 hw8 hw15), trivial⟩, hS.F ht⟩) hS.2.2 dX11_geese_33
    ·
      refine lv_if_ne (tgt := 19) hx hb dX11_geese_13 (by decide) (fun c30 => ?_) (fun c30 => ?_)
      · exact absurd c30 (by decide)
      clear c30
      refine lv_ldc (v := (-1000000001)) hx hb hown (hts (.constant RX11 188 (-1000000001)) (wmx 1 rfl)) dX11_geese_16 ?_
      exact W.iret (v := (-1000000001)) hx hb hr (fun t ht hW => ⟨⟨(-1000000001), (fun _ => 0), rfl, (gs_n1 hw8), trivial⟩, hS.F ht⟩) hS.2.2 dX11_geese_18
  ·
    refine lv_if_eq (tgt := 16) hx hb dX11_geese_5 (by decide) (fun c31 => ?_) (fun c31 => ?_)
    rotate_left
    · exact absurd c31 (by decide)
    clear c31
    refine lv_ldc (v := (-1000000001)) hx hb hown (hts (.constant RX11 188 (-1000000001)) (wmx 1 rfl)) dX11_geese_16 ?_
    exact W.iret (v := (-1000000001)) hx hb hr (fun t ht hW => ⟨⟨(-1000000001), (fun _ => 0), rfl, (gs_n0 hw3), trivial⟩, hS.F ht⟩) hS.2.2 dX11_geese_18
