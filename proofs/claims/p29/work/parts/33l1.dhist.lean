set_option maxHeartbeats 4000000 in
set_option maxRecDepth 100000 in
theorem c_X3_pushD (l : Launch) (dC : Nat → ClassId) (dI : Nat → Nat → Nat) (cI cZ cQ : ClassId) (h0 : Nat) (hq : Nat) (o : Nat) (n : Nat) (fq : Nat → Option Nat) (dj : Nat) (mia : Int32) (cua : Int32) (a2 : Nat) (a3 : Nat) (a4 : Nat) (a5 : Nat) (a6 : Nat) (ho : Nat) (fa2 : Nat → Int32) (fa3 : Nat → Int32) (fa4 : Nat → Int32) (fa5 : Nat → Int32) (fa6 : Nat → Int32) (hw : Nat) (mib : Int32) (cub : Int32) (b2 : Nat) (b3 : Nat) (b4 : Nat) (b5 : Nat) (b6 : Nat) (hp : Nat) (fb2 : Nat → Int32) (fb3 : Nat → Int32) (fb4 : Nat → Int32) (fb5 : Nat → Int32) (fb6 : Nat → Int32) (sz : Nat) (ho19 : o ≤ 19) (hn20 : n ≤ 20) (hfq : fq ((o + n) % 20) = some dj) : Met l yX3_push wsX3_push ({ frames := 2, cells := 0, slots := 0, locals := 61 }) (va_Pc [.ref h0, .ref hw] (fun U => U.heap.size = sz ∧ va_P (dC, dI) vwCl [(h0, .inr (3, [.ref hq, .int (nI o), .int (nI n)])), (hq, .inl (cQ, 20, .inr (.inr (.inr (.inr fq))))), (dj, .inr (1, [.int mia, .int cua, .ref a2, .ref a3, .ref a4, .ref a5, .ref a6, .ref ho])), (a2, .inl (cI, 8, .inl fa2)), (a3, .inl (cI, 8, .inl fa3)), (a4, .inl (cI, 8, .inl fa4)), (a5, .inl (cI, 4, .inl fa5)), (a6, .inl (cI, 4, .inl fa6)), (hw, .inr (1, [.int mib, .int cub, .ref b2, .ref b3, .ref b4, .ref b5, .ref b6, .ref hp])), (b2, .inl (cI, 8, .inl fb2)), (b3, .inl (cI, 8, .inl fb3)), (b4, .inl (cI, 8, .inl fb4)), (b5, .inl (cI, 4, .inl fb5)), (b6, .inl (cI, 4, .inl fb6))] U.heap ∧ va_K (dC, dI) vwCl (tys0 cI cZ cQ) U ∧ va_D (fun _ => True) [(h0, .inr (3, [.ref hq, .int (nI o), .int (nI n)])), (hq, .inl (cQ, 20, .inr (.inr (.inr (.inr fq))))), (dj, .inr (1, [.int mia, .int cua, .ref a2, .ref a3, .ref a4, .ref a5, .ref a6, .ref ho])), (a2, .inl (cI, 8, .inl fa2)), (a3, .inl (cI, 8, .inl fa3)), (a4, .inl (cI, 8, .inl fa4)), (a5, .inl (cI, 4, .inl fa5)), (a6, .inl (cI, 4, .inl fa6)), (hw, .inr (1, [.int mib, .int cub, .ref b2, .ref b3, .ref b4, .ref b5, .ref b6, .ref hp])), (b2, .inl (cI, 8, .inl fb2)), (b3, .inl (cI, 8, .inl fb3)), (b4, .inl (cI, 8, .inl fb4)), (b5, .inl (cI, 4, .inl fb5)), (b6, .inl (cI, 4, .inl fb6))])) (va_Qv (fun (u : Nat → Nat) => True) (fun (_ : Nat → Nat) (t : State) => ∃ (gg0 gg1 gg2 gg3 gg4 : Nat → Int32) (ii2 ii3 : Int32) (kk0 kk1 : Nat), kk0 ≤ 19 ∧ kk1 ≤ 20 ∧ (∀ i, i < 34 → dk ii2 ii3 gg0 gg1 gg2 gg3 gg4 i = dk mib cub fb2 fb3 fb4 fb5 fb6 i) ∧ (kk0 = if n < 20 then o else (o + 1) % 20) ∧ (kk1 = if n < 20 then n + 1 else n) ∧ va_P (dC, dI) vwCl [(h0, .inr (3, [.ref hq, .int (nI kk0), .int (nI kk1)])), (hq, .inl (cQ, 20, .inr (.inr (.inr (.inr fq))))), (dj, .inr (1, [.int ii2, .int ii3, .ref a2, .ref a3, .ref a4, .ref a5, .ref a6, .ref ho])), (a2, .inl (cI, 8, .inl gg0)), (a3, .inl (cI, 8, .inl gg1)), (a4, .inl (cI, 8, .inl gg2)), (a5, .inl (cI, 4, .inl gg3)), (a6, .inl (cI, 4, .inl gg4)), (hw, .inr (1, [.int mib, .int cub, .ref b2, .ref b3, .ref b4, .ref b5, .ref b6, .ref hp])), (b2, .inl (cI, 8, .inl fb2)), (b3, .inl (cI, 8, .inl fb3)), (b4, .inl (cI, 8, .inl fb4)), (b5, .inl (cI, 4, .inl fb5)), (b6, .inl (cI, 4, .inl fb6))] t.heap ∧ va_D (va_A [(h0, .inr (3, [.ref hq, .int (nI o), .int (nI n)])), (hq, .inl (cQ, 20, .inr (.inr (.inr (.inr fq))))), (dj, .inr (1, [.int mia, .int cua, .ref a2, .ref a3, .ref a4, .ref a5, .ref a6, .ref ho])), (a2, .inl (cI, 8, .inl fa2)), (a3, .inl (cI, 8, .inl fa3)), (a4, .inl (cI, 8, .inl fa4)), (a5, .inl (cI, 4, .inl fa5)), (a6, .inl (cI, 4, .inl fa6)), (hw, .inr (1, [.int mib, .int cub, .ref b2, .ref b3, .ref b4, .ref b5, .ref b6, .ref hp])), (b2, .inl (cI, 8, .inl fb2)), (b3, .inl (cI, 8, .inl fb3)), (b4, .inl (cI, 8, .inl fb4)), (b5, .inl (cI, 4, .inl fb5)), (b6, .inl (cI, 4, .inl fb6))] sz) [(h0, .inr (3, [.ref hq, .int (nI kk0), .int (nI kk1)])), (hq, .inl (cQ, 20, .inr (.inr (.inr (.inr fq))))), (dj, .inr (1, [.int ii2, .int ii3, .ref a2, .ref a3, .ref a4, .ref a5, .ref a6, .ref ho])), (a2, .inl (cI, 8, .inl gg0)), (a3, .inl (cI, 8, .inl gg1)), (a4, .inl (cI, 8, .inl gg2)), (a5, .inl (cI, 4, .inl gg3)), (a6, .inl (cI, 4, .inl gg4)), (hw, .inr (1, [.int mib, .int cub, .ref b2, .ref b3, .ref b4, .ref b5, .ref b6, .ref hp])), (b2, .inl (cI, 8, .inl fb2)), (b3, .inl (cI, 8, .inl fb3)), (b4, .inl (cI, 8, .inl fb4)), (b5, .inl (cI, 4, .inl fb5)), (b6, .inl (cI, 4, .inl fb6))]) (va_A [(h0, .inr (3, [.ref hq, .int (nI o), .int (nI n)])), (hq, .inl (cQ, 20, .inr (.inr (.inr (.inr fq))))), (dj, .inr (1, [.int mia, .int cua, .ref a2, .ref a3, .ref a4, .ref a5, .ref a6, .ref ho])), (a2, .inl (cI, 8, .inl fa2)), (a3, .inl (cI, 8, .inl fa3)), (a4, .inl (cI, 8, .inl fa4)), (a5, .inl (cI, 4, .inl fa5)), (a6, .inl (cI, 4, .inl fa6)), (hw, .inr (1, [.int mib, .int cub, .ref b2, .ref b3, .ref b4, .ref b5, .ref b6, .ref hp])), (b2, .inl (cI, 8, .inl fb2)), (b3, .inl (cI, 8, .inl fb3)), (b4, .inl (cI, 8, .inl fb4)), (b5, .inl (cI, 4, .inl fb5)), (b6, .inl (cI, 4, .inl fb6))] sz)) 0 0 (va_A [(h0, .inr (3, [.ref hq, .int (nI o), .int (nI n)])), (hq, .inl (cQ, 20, .inr (.inr (.inr (.inr fq))))), (dj, .inr (1, [.int mia, .int cua, .ref a2, .ref a3, .ref a4, .ref a5, .ref a6, .ref ho])), (a2, .inl (cI, 8, .inl fa2)), (a3, .inl (cI, 8, .inl fa3)), (a4, .inl (cI, 8, .inl fa4)), (a5, .inl (cI, 4, .inl fa5)), (a6, .inl (cI, 4, .inl fa6)), (hw, .inr (1, [.int mib, .int cub, .ref b2, .ref b3, .ref b4, .ref b5, .ref b6, .ref hp])), (b2, .inl (cI, 8, .inl fb2)), (b3, .inl (cI, 8, .inl fb3)), (b4, .inl (cI, 8, .inl fb4)), (b5, .inl (cI, 4, .inl fb5)), (b6, .inl (cI, 4, .inl fb6))] sz) := by
  refine Met.ofW (cc := cX3_push) (maxL := 2) (ret := none) (by decide) rfl ?_
  intro p e s m args below meth c s₁ B hml hv
  obtain ⟨rfl, hsz, hP, hK, hD0⟩ := hv
  have hx := B.exec
  have hb := B.bytes
  have hr := B.returns
  have hts := atoms_spec (ws := wsX3_push) B.pre
  have hown : s.vm.findClass RX3 = some m.cls := findClass_of_methodNamed B.named
  have hlocks := B.notSynchronized
  have hi_X3 : ∀ w ∈ u_ws RX3 TX3 3, w ∈ wsX3_push := fun _ h => List.mem_cons_of_mem _ (List.mem_append_left _ (List.mem_append_right _ (h)))
  subst hsz
  have hD := hD0.self (sz := s.heap.size)
  generalize hAe : va_A [(h0, .inr (3, [.ref hq, .int (nI o), .int (nI n)])), (hq, .inl (cQ, 20, .inr (.inr (.inr (.inr fq))))), (dj, .inr (1, [.int mia, .int cua, .ref a2, .ref a3, .ref a4, .ref a5, .ref a6, .ref ho])), (a2, .inl (cI, 8, .inl fa2)), (a3, .inl (cI, 8, .inl fa3)), (a4, .inl (cI, 8, .inl fa4)), (a5, .inl (cI, 4, .inl fa5)), (a6, .inl (cI, 4, .inl fa6)), (hw, .inr (1, [.int mib, .int cub, .ref b2, .ref b3, .ref b4, .ref b5, .ref b6, .ref hp])), (b2, .inl (cI, 8, .inl fb2)), (b3, .inl (cI, 8, .inl fb3)), (b4, .inl (cI, 8, .inl fb4)), (b5, .inl (cI, 4, .inl fb5)), (b6, .inl (cI, 4, .inl fb6))] s.heap.size = A at hD ⊢
  have hA : ∀ q : Nat, s.heap.size ≤ q → A q := fun q h => by rw [← hAe]; exact Or.inr h
  have hS : va_S A s.heap s.heap [] := va_S.rf
  have hl := lv_entry ([.ref h0, .ref hw]) (n := 2) (Nat.le_of_ble_eq_true rfl)
  rw [lg_entry_eq]
  generalize (lg_sl ([.ref h0, .ref hw]) ++ List.replicate (2 - (lg_sl ([.ref h0, .ref hw])).length) Slot.unset).toArray = ls at hl ⊢
  have hl : lv_has ls 2 [(0, .ref h0), (1, .ref hw)] := hl
  refine lv_aload_n hx hb dX3_push_0 rfl (lv_at hl 0 rfl) ?_
  refine va_get (D := (dC, dI)) (ci := 3) (v := .ref hq) (C := RX3) (T := TX3) (N := 3) hx hb hts hi_X3 hown hK hP 0 rfl rfl 0 (by decide) (hts (.fieldLink RX3 11 "LeftQuills$History" "desks" "[LLeftQuills$Desk;") (wmx 1 rfl)) (fun _ h9 => h9) rfl dX3_push_1 ?_
  refine lv_aload_n hx hb dX3_push_4 rfl (lv_at hl 0 rfl) ?_
  refine va_get (D := (dC, dI)) (ci := 3) (v := .int (nI o)) (C := RX3) (T := TX3) (N := 3) hx hb hts hi_X3 hown hK hP 0 rfl rfl 1 (by decide) (hts (.fieldLink RX3 15 "LeftQuills$History" "oldest" "I") (wmx 2 rfl)) (fun _ h9 => h9) rfl dX3_push_5 ?_
  refine lv_aload_n hx hb dX3_push_8 rfl (lv_at hl 0 rfl) ?_
  refine va_get (D := (dC, dI)) (ci := 3) (v := .int (nI n)) (C := RX3) (T := TX3) (N := 3) hx hb hts hi_X3 hown hK hP 0 rfl rfl 2 (by decide) (hts (.fieldLink RX3 19 "LeftQuills$History" "count" "I") (wmx 3 rfl)) (fun _ h9 => h9) rfl dX3_push_9 ?_
  refine lv_iadd hx hb dX3_push_12 ?_
  refine lv_topi (fun z1 ez1 => ?_)
  obtain rfl : z1 = nI (o + n) := ez1.trans (nI_add o n)
  refine lv_bipush (v := 20) hx hb dX3_push_13 (by decide) ?_
  refine lv_irem hx hb dX3_push_15 (by decide) ?_
  refine lv_topi (fun z2 ez2 => ?_)
  obtain rfl : z2 = nI ((o + n) % 20) := ez2.trans (pk_rem (a := o + n) (d := 20) (by omega) (by omega) (by omega))
  refine va_aldq hx hb hK hP 1 2 rfl rfl (vp_in_nI (n := (o + n) % 20) (N := 20) (by omega) (by decide)) dX3_push_16 ?_
  refine W.eq (g2 := F0 m 17 ls [.ref dj]) (by rw [nI_clamp (n := (o + n) % 20) (by omega), hfq]; rfl) ?_
  refine lv_aload_n hx hb dX3_push_17 rfl (lv_at hl 1 rfl) ?_
  have hc9 := va_cut (W' := [(dj, .inr (1, [.int mia, .int cua, .ref a2, .ref a3, .ref a4, .ref a5, .ref a6, .ref ho])), (a2, .inl (cI, 8, .inl fa2)), (a3, .inl (cI, 8, .inl fa3)), (a4, .inl (cI, 8, .inl fa4)), (a5, .inl (cI, 4, .inl fa5)), (a6, .inl (cI, 4, .inl fa6)), (hw, .inr (1, [.int mib, .int cub, .ref b2, .ref b3, .ref b4, .ref b5, .ref b6, .ref hp])), (b2, .inl (cI, 8, .inl fb2)), (b3, .inl (cI, 8, .inl fb3)), (b4, .inl (cI, 8, .inl fb4)), (b5, .inl (cI, 4, .inl fb5)), (b6, .inl (cI, 4, .inl fb6))]) hP hD hS hA [2, 3, 4, 5, 6, 7, 8, 9, 10, 11, 12, 13] (by decide) rfl
  have hPc := hc9.1
  have hDc := hc9.2.1
  have hFc := hc9.2.2
  clear hc9
  refine va_callv (va_runV (As := [.ref hw]) (rest := []) ⟨hx, hb, hml, hown, hts⟩ (c_X1_copyFromD l dC dI cI cZ cQ dj mia cua a2 a3 a4 a5 a6 ho fa2 fa3 fa4 fa5 fa6 hw mib cub b2 b3 b4 b5 b6 hp fb2 fb3 fb4 fb5 fb6 s.heap.size ) (cwV 1 hts gX3_push_X1_copyFrom rfl rfl rfl hd_X1_copyFrom_RX1 ⟨Nat.le_of_ble_eq_true rfl, Nat.le_of_ble_eq_true rfl⟩) (pv_D (va_recv hK hP (ci := 1) (q0 := 2) rfl rfl) hK hPc hDc) rfl rfl hl.1 rfl (lv_room (Nat.le_of_ble_eq_true rfl)) dX3_push_18 ⟨Nat.le_of_ble_eq_true rfl, Nat.le_of_ble_eq_true rfl⟩) hS (fun q _ h => hFc q h) hFc (fun u4 t H1 locs ht hvm hw5 hB hz1 hk1 hS => ?_)
  obtain ⟨f6, f7, f8, f9, f10, i11, i12, he13, hP1, hD1⟩ := hB
  replace hP1 := va_hp ht hP1
  obtain ⟨hP, hD⟩ := va_join (wr := [(h0, .inr (3, [.ref hq, .int (nI o), .int (nI n)])), (hq, .inl (cQ, 20, .inr (.inr (.inr (.inr fq)))))]) (w1 := [(dj, .inr (1, [.int i11, .int i12, .ref a2, .ref a3, .ref a4, .ref a5, .ref a6, .ref ho])), (a2, .inl (cI, 8, .inl f6)), (a3, .inl (cI, 8, .inl f7)), (a4, .inl (cI, 8, .inl f8)), (a5, .inl (cI, 4, .inl f9)), (a6, .inl (cI, 4, .inl f10)), (hw, .inr (1, [.int mib, .int cub, .ref b2, .ref b3, .ref b4, .ref b5, .ref b6, .ref hp])), (b2, .inl (cI, 8, .inl fb2)), (b3, .inl (cI, 8, .inl fb3)), (b4, .inl (cI, 8, .inl fb4)), (b5, .inl (cI, 4, .inl fb5)), (b6, .inl (cI, 4, .inl fb6))]) hP hD [2, 3, 4, 5, 6, 7, 8, 9, 10, 11, 12, 13] [0, 1] rfl rfl (by decide +kernel) (by decide +kernel) hk1 hFc hP1 hD1
  clear hP1 hD1
  clear hz1 hk1 hPc hDc hFc
  generalize H1 = H at hP hS ht ⊢
  have hPD : pdW (dC, dI) vwCl A [(h0, .inr (3, [.ref hq, .int (nI o), .int (nI n)])), (hq, .inl (cQ, 20, .inr (.inr (.inr (.inr fq))))), (dj, .inr (1, [.int i11, .int i12, .ref a2, .ref a3, .ref a4, .ref a5, .ref a6, .ref ho])), (a2, .inl (cI, 8, .inl f6)), (a3, .inl (cI, 8, .inl f7)), (a4, .inl (cI, 8, .inl f8)), (a5, .inl (cI, 4, .inl f9)), (a6, .inl (cI, 4, .inl f10)), (hw, .inr (1, [.int mib, .int cub, .ref b2, .ref b3, .ref b4, .ref b5, .ref b6, .ref hp])), (b2, .inl (cI, 8, .inl fb2)), (b3, .inl (cI, 8, .inl fb3)), (b4, .inl (cI, 8, .inl fb4)), (b5, .inl (cI, 4, .inl fb5)), (b6, .inl (cI, 4, .inl fb6))] H := ⟨hP, hD⟩
  have hP := hPD.1
  have hD := hPD.2
  clear hPD
  try dsimp only at hw5
  refine lv_aload_n hx hb dX3_push_21 rfl (lv_at hl 0 rfl) ?_
  refine va_get (D := (dC, dI)) (ci := 3) (v := .int (nI n)) (C := RX3) (T := TX3) (N := 3) hx hb hts hi_X3 hown hK hP 0 rfl rfl 2 (by decide) (hts (.fieldLink RX3 19 "LeftQuills$History" "count" "I") (wmx 3 rfl)) (fun _ h9 => h9) rfl dX3_push_22 ?_
  refine lv_bipush (v := 20) hx hb dX3_push_25 (by decide) ?_
  refine lv_icmp_ge (tgt := 43) hx hb dX3_push_27 (by decide) (fun c14 => ?_) (fun c14 => ?_)
  ·
    have c14 : 20 ≤ n := (nI_leI (a := 20) (b := n) (by omega) (by omega)).mp c14
    refine lv_aload_n hx hb dX3_push_43 rfl (lv_at hl 0 rfl) ?_
    refine lv_aload_n hx hb dX3_push_44 rfl (lv_at hl 0 rfl) ?_
    refine va_get (D := (dC, dI)) (ci := 3) (v := .int (nI o)) (C := RX3) (T := TX3) (N := 3) hx hb hts hi_X3 hown hK hP 0 rfl rfl 1 (by decide) (hts (.fieldLink RX3 15 "LeftQuills$History" "oldest" "I") (wmx 2 rfl)) (fun _ h9 => h9) rfl dX3_push_45 ?_
    refine lv_iconst (v := 1) hx hb dX3_push_48 (by decide) ?_
    refine lv_iadd hx hb dX3_push_49 ?_
    refine lv_topi (fun z15 ez15 => ?_)
    obtain rfl : z15 = nI (o + 1) := ez15.trans (nI_add o 1)
    refine lv_bipush (v := 20) hx hb dX3_push_50 (by decide) ?_
    refine lv_irem hx hb dX3_push_52 (by decide) ?_
    refine lv_topi (fun z16 ez16 => ?_)
    obtain rfl : z16 = nI ((o + 1) % 20) := ez16.trans (pk_rem (a := o + 1) (d := 20) (by omega) (by omega) (by omega))
    refine va_put (D := (dC, dI)) (ci := 3) (v := .int (nI ((o + 1) % 20))) (ty := .int) (C := RX3) (T := TX3) (N := 3) hx hb hts hi_X3 tyX3 tyX3_ok nmX3 hown hK hP hD hS 0 rfl rfl 1 (by decide) (hts (.fieldLink RX3 15 "LeftQuills$History" "oldest" "I") (wmx 2 rfl)) (fun _ h9 => h9) rfl (by decide +kernel) rfl rfl (Nat.le_of_ble_eq_true rfl) dX3_push_53 (fun H locs hP hD hS => ?_)
    have hPD : pdW (dC, dI) vwCl A [(h0, .inr (3, [.ref hq, .int (nI ((o + 1) % 20)), .int (nI n)])), (hq, .inl (cQ, 20, .inr (.inr (.inr (.inr fq))))), (dj, .inr (1, [.int i11, .int i12, .ref a2, .ref a3, .ref a4, .ref a5, .ref a6, .ref ho])), (a2, .inl (cI, 8, .inl f6)), (a3, .inl (cI, 8, .inl f7)), (a4, .inl (cI, 8, .inl f8)), (a5, .inl (cI, 4, .inl f9)), (a6, .inl (cI, 4, .inl f10)), (hw, .inr (1, [.int mib, .int cub, .ref b2, .ref b3, .ref b4, .ref b5, .ref b6, .ref hp])), (b2, .inl (cI, 8, .inl fb2)), (b3, .inl (cI, 8, .inl fb3)), (b4, .inl (cI, 8, .inl fb4)), (b5, .inl (cI, 4, .inl fb5)), (b6, .inl (cI, 4, .inl fb6))] H := ⟨hP, hD⟩
    have hP := hPD.1
    have hD := hPD.2
    clear hPD
    have hP9 := hP.sub (ws' := [(h0, .inr (3, [.ref hq, .int (nI ((o + 1) % 20)), .int (nI n)])), (hq, .inl (cQ, 20, .inr (.inr (.inr (.inr fq))))), (dj, .inr (1, [.int i11, .int i12, .ref a2, .ref a3, .ref a4, .ref a5, .ref a6, .ref ho])), (a2, .inl (cI, 8, .inl f6)), (a3, .inl (cI, 8, .inl f7)), (a4, .inl (cI, 8, .inl f8)), (a5, .inl (cI, 4, .inl f9)), (a6, .inl (cI, 4, .inl f10)), (hw, .inr (1, [.int mib, .int cub, .ref b2, .ref b3, .ref b4, .ref b5, .ref b6, .ref hp])), (b2, .inl (cI, 8, .inl fb2)), (b3, .inl (cI, 8, .inl fb3)), (b4, .inl (cI, 8, .inl fb4)), (b5, .inl (cI, 4, .inl fb5)), (b6, .inl (cI, 4, .inl fb6))]) [0, 1, 2, 3, 4, 5, 6, 7, 8, 9, 10, 11, 12, 13] rfl
    have hD9 := hD.sub (ws' := [(h0, .inr (3, [.ref hq, .int (nI ((o + 1) % 20)), .int (nI n)])), (hq, .inl (cQ, 20, .inr (.inr (.inr (.inr fq))))), (dj, .inr (1, [.int i11, .int i12, .ref a2, .ref a3, .ref a4, .ref a5, .ref a6, .ref ho])), (a2, .inl (cI, 8, .inl f6)), (a3, .inl (cI, 8, .inl f7)), (a4, .inl (cI, 8, .inl f8)), (a5, .inl (cI, 4, .inl f9)), (a6, .inl (cI, 4, .inl f10)), (hw, .inr (1, [.int mib, .int cub, .ref b2, .ref b3, .ref b4, .ref b5, .ref b6, .ref hp])), (b2, .inl (cI, 8, .inl fb2)), (b3, .inl (cI, 8, .inl fb3)), (b4, .inl (cI, 8, .inl fb4)), (b5, .inl (cI, 4, .inl fb5)), (b6, .inl (cI, 4, .inl fb6))]) [0, 1, 2, 3, 4, 5, 6, 7, 8, 9, 10, 11, 12, 13] (by decide +kernel) rfl
    exact W.vret hx hb hr (fun t ht hW => ⟨⟨(fun _ => 0), rfl, trivial, ⟨f6, f7, f8, f9, f10, i11, i12, ((o + 1) % 20), n, by omega, by omega, he13, (by rw [if_neg (by omega)]), (by rw [if_neg (by omega)]), va_hq ht hP9, hD9⟩⟩, hS.F ht⟩) hS.2.2 dX3_push_56
  ·
    have c14 : ¬ 20 ≤ n := fun h => c14 ((nI_leI (a := 20) (b := n) (by omega) (by omega)).mpr h)
    refine lv_aload_n hx hb dX3_push_30 rfl (lv_at hl 0 rfl) ?_
    refine lv_dup hx hb dX3_push_31 rfl ?_
    refine va_get (D := (dC, dI)) (ci := 3) (v := .int (nI n)) (C := RX3) (T := TX3) (N := 3) hx hb hts hi_X3 hown hK hP 0 rfl rfl 2 (by decide) (hts (.fieldLink RX3 19 "LeftQuills$History" "count" "I") (wmx 3 rfl)) (fun _ h9 => h9) rfl dX3_push_32 ?_
    refine lv_iconst (v := 1) hx hb dX3_push_35 (by decide) ?_
    refine lv_iadd hx hb dX3_push_36 ?_
    refine lv_topi (fun z17 ez17 => ?_)
    obtain rfl : z17 = nI (n + 1) := ez17.trans (nI_add n 1)
    refine va_put (D := (dC, dI)) (ci := 3) (v := .int (nI (n + 1))) (ty := .int) (C := RX3) (T := TX3) (N := 3) hx hb hts hi_X3 tyX3 tyX3_ok nmX3 hown hK hP hD hS 0 rfl rfl 2 (by decide) (hts (.fieldLink RX3 19 "LeftQuills$History" "count" "I") (wmx 3 rfl)) (fun _ h9 => h9) rfl (by decide +kernel) rfl rfl (Nat.le_of_ble_eq_true rfl) dX3_push_37 (fun H locs hP hD hS => ?_)
    have hPD : pdW (dC, dI) vwCl A [(h0, .inr (3, [.ref hq, .int (nI o), .int (nI (n + 1))])), (hq, .inl (cQ, 20, .inr (.inr (.inr (.inr fq))))), (dj, .inr (1, [.int i11, .int i12, .ref a2, .ref a3, .ref a4, .ref a5, .ref a6, .ref ho])), (a2, .inl (cI, 8, .inl f6)), (a3, .inl (cI, 8, .inl f7)), (a4, .inl (cI, 8, .inl f8)), (a5, .inl (cI, 4, .inl f9)), (a6, .inl (cI, 4, .inl f10)), (hw, .inr (1, [.int mib, .int cub, .ref b2, .ref b3, .ref b4, .ref b5, .ref b6, .ref hp])), (b2, .inl (cI, 8, .inl fb2)), (b3, .inl (cI, 8, .inl fb3)), (b4, .inl (cI, 8, .inl fb4)), (b5, .inl (cI, 4, .inl fb5)), (b6, .inl (cI, 4, .inl fb6))] H := ⟨hP, hD⟩
    have hP := hPD.1
    have hD := hPD.2
    clear hPD
    refine lv_goto (tgt := 56) hx hb dX3_push_40 (by decide) ?_
    have hP9 := hP.sub (ws' := [(h0, .inr (3, [.ref hq, .int (nI o), .int (nI (n + 1))])), (hq, .inl (cQ, 20, .inr (.inr (.inr (.inr fq))))), (dj, .inr (1, [.int i11, .int i12, .ref a2, .ref a3, .ref a4, .ref a5, .ref a6, .ref ho])), (a2, .inl (cI, 8, .inl f6)), (a3, .inl (cI, 8, .inl f7)), (a4, .inl (cI, 8, .inl f8)), (a5, .inl (cI, 4, .inl f9)), (a6, .inl (cI, 4, .inl f10)), (hw, .inr (1, [.int mib, .int cub, .ref b2, .ref b3, .ref b4, .ref b5, .ref b6, .ref hp])), (b2, .inl (cI, 8, .inl fb2)), (b3, .inl (cI, 8, .inl fb3)), (b4, .inl (cI, 8, .inl fb4)), (b5, .inl (cI, 4, .inl fb5)), (b6, .inl (cI, 4, .inl fb6))]) [0, 1, 2, 3, 4, 5, 6, 7, 8, 9, 10, 11, 12, 13] rfl
    have hD9 := hD.sub (ws' := [(h0, .inr (3, [.ref hq, .int (nI o), .int (nI (n + 1))])), (hq, .inl (cQ, 20, .inr (.inr (.inr (.inr fq))))), (dj, .inr (1, [.int i11, .int i12, .ref a2, .ref a3, .ref a4, .ref a5, .ref a6, .ref ho])), (a2, .inl (cI, 8, .inl f6)), (a3, .inl (cI, 8, .inl f7)), (a4, .inl (cI, 8, .inl f8)), (a5, .inl (cI, 4, .inl f9)), (a6, .inl (cI, 4, .inl f10)), (hw, .inr (1, [.int mib, .int cub, .ref b2, .ref b3, .ref b4, .ref b5, .ref b6, .ref hp])), (b2, .inl (cI, 8, .inl fb2)), (b3, .inl (cI, 8, .inl fb3)), (b4, .inl (cI, 8, .inl fb4)), (b5, .inl (cI, 4, .inl fb5)), (b6, .inl (cI, 4, .inl fb6))]) [0, 1, 2, 3, 4, 5, 6, 7, 8, 9, 10, 11, 12, 13] (by decide +kernel) rfl
    exact W.vret hx hb hr (fun t ht hW => ⟨⟨(fun _ => 0), rfl, trivial, ⟨f6, f7, f8, f9, f10, i11, i12, o, (n + 1), by omega, by omega, he13, (by rw [if_pos (by omega)]), (by rw [if_pos (by omega)]), va_hq ht hP9, hD9⟩⟩, hS.F ht⟩) hS.2.2 dX3_push_56
set_option maxHeartbeats 4000000 in
set_option maxRecDepth 100000 in
theorem c_X3_popIntoD (l : Launch) (dC : Nat → ClassId) (dI : Nat → Nat → Nat) (cI cZ cQ : ClassId) (h0 : Nat) (hq : Nat) (o : Nat) (n : Nat) (fq : Nat → Option Nat) (dj : Nat) (mia : Int32) (cua : Int32) (a2 : Nat) (a3 : Nat) (a4 : Nat) (a5 : Nat) (a6 : Nat) (ho : Nat) (fa2 : Nat → Int32) (fa3 : Nat → Int32) (fa4 : Nat → Int32) (fa5 : Nat → Int32) (fa6 : Nat → Int32) (hw : Nat) (mib : Int32) (cub : Int32) (b2 : Nat) (b3 : Nat) (b4 : Nat) (b5 : Nat) (b6 : Nat) (hp : Nat) (fb2 : Nat → Int32) (fb3 : Nat → Int32) (fb4 : Nat → Int32) (fb5 : Nat → Int32) (fb6 : Nat → Int32) (sz : Nat) (ho19 : o ≤ 19) (hn20 : n ≤ 20) (hn0 : 0 < n) (hfq : fq ((o + (n - 1)) % 20) = some dj) : Met l yX3_popInto wsX3_popInto ({ frames := 2, cells := 0, slots := 0, locals := 61 }) (va_Pc [.ref h0, .ref hw] (fun U => U.heap.size = sz ∧ va_P (dC, dI) vwCl [(h0, .inr (3, [.ref hq, .int (nI o), .int (nI n)])), (hq, .inl (cQ, 20, .inr (.inr (.inr (.inr fq))))), (dj, .inr (1, [.int mia, .int cua, .ref a2, .ref a3, .ref a4, .ref a5, .ref a6, .ref ho])), (a2, .inl (cI, 8, .inl fa2)), (a3, .inl (cI, 8, .inl fa3)), (a4, .inl (cI, 8, .inl fa4)), (a5, .inl (cI, 4, .inl fa5)), (a6, .inl (cI, 4, .inl fa6)), (hw, .inr (1, [.int mib, .int cub, .ref b2, .ref b3, .ref b4, .ref b5, .ref b6, .ref hp])), (b2, .inl (cI, 8, .inl fb2)), (b3, .inl (cI, 8, .inl fb3)), (b4, .inl (cI, 8, .inl fb4)), (b5, .inl (cI, 4, .inl fb5)), (b6, .inl (cI, 4, .inl fb6))] U.heap ∧ va_K (dC, dI) vwCl (tys0 cI cZ cQ) U ∧ va_D (fun _ => True) [(h0, .inr (3, [.ref hq, .int (nI o), .int (nI n)])), (hq, .inl (cQ, 20, .inr (.inr (.inr (.inr fq))))), (dj, .inr (1, [.int mia, .int cua, .ref a2, .ref a3, .ref a4, .ref a5, .ref a6, .ref ho])), (a2, .inl (cI, 8, .inl fa2)), (a3, .inl (cI, 8, .inl fa3)), (a4, .inl (cI, 8, .inl fa4)), (a5, .inl (cI, 4, .inl fa5)), (a6, .inl (cI, 4, .inl fa6)), (hw, .inr (1, [.int mib, .int cub, .ref b2, .ref b3, .ref b4, .ref b5, .ref b6, .ref hp])), (b2, .inl (cI, 8, .inl fb2)), (b3, .inl (cI, 8, .inl fb3)), (b4, .inl (cI, 8, .inl fb4)), (b5, .inl (cI, 4, .inl fb5)), (b6, .inl (cI, 4, .inl fb6))])) (va_Qv (fun (u : Nat → Nat) => True) (fun (_ : Nat → Nat) (t : State) => ∃ (gg0 gg1 gg2 gg3 gg4 : Nat → Int32) (ii1 ii2 : Int32) (kk0 : Nat), kk0 ≤ 20 ∧ (∀ i, i < 34 → dk ii1 ii2 gg0 gg1 gg2 gg3 gg4 i = dk mia cua fa2 fa3 fa4 fa5 fa6 i) ∧ (kk0 = n - 1) ∧ va_P (dC, dI) vwCl [(h0, .inr (3, [.ref hq, .int (nI o), .int (nI kk0)])), (hq, .inl (cQ, 20, .inr (.inr (.inr (.inr fq))))), (dj, .inr (1, [.int mia, .int cua, .ref a2, .ref a3, .ref a4, .ref a5, .ref a6, .ref ho])), (a2, .inl (cI, 8, .inl fa2)), (a3, .inl (cI, 8, .inl fa3)), (a4, .inl (cI, 8, .inl fa4)), (a5, .inl (cI, 4, .inl fa5)), (a6, .inl (cI, 4, .inl fa6)), (hw, .inr (1, [.int ii1, .int ii2, .ref b2, .ref b3, .ref b4, .ref b5, .ref b6, .ref hp])), (b2, .inl (cI, 8, .inl gg0)), (b3, .inl (cI, 8, .inl gg1)), (b4, .inl (cI, 8, .inl gg2)), (b5, .inl (cI, 4, .inl gg3)), (b6, .inl (cI, 4, .inl gg4))] t.heap ∧ va_D (va_A [(h0, .inr (3, [.ref hq, .int (nI o), .int (nI n)])), (hq, .inl (cQ, 20, .inr (.inr (.inr (.inr fq))))), (dj, .inr (1, [.int mia, .int cua, .ref a2, .ref a3, .ref a4, .ref a5, .ref a6, .ref ho])), (a2, .inl (cI, 8, .inl fa2)), (a3, .inl (cI, 8, .inl fa3)), (a4, .inl (cI, 8, .inl fa4)), (a5, .inl (cI, 4, .inl fa5)), (a6, .inl (cI, 4, .inl fa6)), (hw, .inr (1, [.int mib, .int cub, .ref b2, .ref b3, .ref b4, .ref b5, .ref b6, .ref hp])), (b2, .inl (cI, 8, .inl fb2)), (b3, .inl (cI, 8, .inl fb3)), (b4, .inl (cI, 8, .inl fb4)), (b5, .inl (cI, 4, .inl fb5)), (b6, .inl (cI, 4, .inl fb6))] sz) [(h0, .inr (3, [.ref hq, .int (nI o), .int (nI kk0)])), (hq, .inl (cQ, 20, .inr (.inr (.inr (.inr fq))))), (dj, .inr (1, [.int mia, .int cua, .ref a2, .ref a3, .ref a4, .ref a5, .ref a6, .ref ho])), (a2, .inl (cI, 8, .inl fa2)), (a3, .inl (cI, 8, .inl fa3)), (a4, .inl (cI, 8, .inl fa4)), (a5, .inl (cI, 4, .inl fa5)), (a6, .inl (cI, 4, .inl fa6)), (hw, .inr (1, [.int ii1, .int ii2, .ref b2, .ref b3, .ref b4, .ref b5, .ref b6, .ref hp])), (b2, .inl (cI, 8, .inl gg0)), (b3, .inl (cI, 8, .inl gg1)), (b4, .inl (cI, 8, .inl gg2)), (b5, .inl (cI, 4, .inl gg3)), (b6, .inl (cI, 4, .inl gg4))]) (va_A [(h0, .inr (3, [.ref hq, .int (nI o), .int (nI n)])), (hq, .inl (cQ, 20, .inr (.inr (.inr (.inr fq))))), (dj, .inr (1, [.int mia, .int cua, .ref a2, .ref a3, .ref a4, .ref a5, .ref a6, .ref ho])), (a2, .inl (cI, 8, .inl fa2)), (a3, .inl (cI, 8, .inl fa3)), (a4, .inl (cI, 8, .inl fa4)), (a5, .inl (cI, 4, .inl fa5)), (a6, .inl (cI, 4, .inl fa6)), (hw, .inr (1, [.int mib, .int cub, .ref b2, .ref b3, .ref b4, .ref b5, .ref b6, .ref hp])), (b2, .inl (cI, 8, .inl fb2)), (b3, .inl (cI, 8, .inl fb3)), (b4, .inl (cI, 8, .inl fb4)), (b5, .inl (cI, 4, .inl fb5)), (b6, .inl (cI, 4, .inl fb6))] sz)) 0 0 (va_A [(h0, .inr (3, [.ref hq, .int (nI o), .int (nI n)])), (hq, .inl (cQ, 20, .inr (.inr (.inr (.inr fq))))), (dj, .inr (1, [.int mia, .int cua, .ref a2, .ref a3, .ref a4, .ref a5, .ref a6, .ref ho])), (a2, .inl (cI, 8, .inl fa2)), (a3, .inl (cI, 8, .inl fa3)), (a4, .inl (cI, 8, .inl fa4)), (a5, .inl (cI, 4, .inl fa5)), (a6, .inl (cI, 4, .inl fa6)), (hw, .inr (1, [.int mib, .int cub, .ref b2, .ref b3, .ref b4, .ref b5, .ref b6, .ref hp])), (b2, .inl (cI, 8, .inl fb2)), (b3, .inl (cI, 8, .inl fb3)), (b4, .inl (cI, 8, .inl fb4)), (b5, .inl (cI, 4, .inl fb5)), (b6, .inl (cI, 4, .inl fb6))] sz) := by
  refine Met.ofW (cc := cX3_popInto) (maxL := 2) (ret := none) (by decide) rfl ?_
  intro p e s m args below meth c s₁ B hml hv
  obtain ⟨rfl, hsz, hP, hK, hD0⟩ := hv
  have hx := B.exec
  have hb := B.bytes
  have hr := B.returns
  have hts := atoms_spec (ws := wsX3_popInto) B.pre
  have hown : s.vm.findClass RX3 = some m.cls := findClass_of_methodNamed B.named
  have hlocks := B.notSynchronized
  have hi_X3 : ∀ w ∈ u_ws RX3 TX3 3, w ∈ wsX3_popInto := fun _ h => List.mem_cons_of_mem _ (List.mem_append_left _ (List.mem_append_right _ (h)))
  subst hsz
  have hD := hD0.self (sz := s.heap.size)
  generalize hAe : va_A [(h0, .inr (3, [.ref hq, .int (nI o), .int (nI n)])), (hq, .inl (cQ, 20, .inr (.inr (.inr (.inr fq))))), (dj, .inr (1, [.int mia, .int cua, .ref a2, .ref a3, .ref a4, .ref a5, .ref a6, .ref ho])), (a2, .inl (cI, 8, .inl fa2)), (a3, .inl (cI, 8, .inl fa3)), (a4, .inl (cI, 8, .inl fa4)), (a5, .inl (cI, 4, .inl fa5)), (a6, .inl (cI, 4, .inl fa6)), (hw, .inr (1, [.int mib, .int cub, .ref b2, .ref b3, .ref b4, .ref b5, .ref b6, .ref hp])), (b2, .inl (cI, 8, .inl fb2)), (b3, .inl (cI, 8, .inl fb3)), (b4, .inl (cI, 8, .inl fb4)), (b5, .inl (cI, 4, .inl fb5)), (b6, .inl (cI, 4, .inl fb6))] s.heap.size = A at hD ⊢
  have hA : ∀ q : Nat, s.heap.size ≤ q → A q := fun q h => by rw [← hAe]; exact Or.inr h
  have hS : va_S A s.heap s.heap [] := va_S.rf
  have hl := lv_entry ([.ref h0, .ref hw]) (n := 2) (Nat.le_of_ble_eq_true rfl)
  rw [lg_entry_eq]
  generalize (lg_sl ([.ref h0, .ref hw]) ++ List.replicate (2 - (lg_sl ([.ref h0, .ref hw])).length) Slot.unset).toArray = ls at hl ⊢
  have hl : lv_has ls 2 [(0, .ref h0), (1, .ref hw)] := hl
  refine lv_aload_n hx hb dX3_popInto_0 rfl (lv_at hl 0 rfl) ?_
  refine va_get (D := (dC, dI)) (ci := 3) (v := .int (nI n)) (C := RX3) (T := TX3) (N := 3) hx hb hts hi_X3 hown hK hP 0 rfl rfl 2 (by decide) (hts (.fieldLink RX3 19 "LeftQuills$History" "count" "I") (wmx 1 rfl)) (fun _ h9 => h9) rfl dX3_popInto_1 ?_
  refine lv_if_gt (tgt := 8) hx hb dX3_popInto_4 (by decide) (fun c1 => ?_) (fun c1 => ?_)
  ·
    have c1 : 0 < n := (nI_ltI (a := 0) (b := n) (by omega) (by omega)).mp c1
    refine lv_aload_n hx hb dX3_popInto_8 rfl (lv_at hl 0 rfl) ?_
    refine lv_dup hx hb dX3_popInto_9 rfl ?_
    refine va_get (D := (dC, dI)) (ci := 3) (v := .int (nI n)) (C := RX3) (T := TX3) (N := 3) hx hb hts hi_X3 hown hK hP 0 rfl rfl 2 (by decide) (hts (.fieldLink RX3 19 "LeftQuills$History" "count" "I") (wmx 1 rfl)) (fun _ h9 => h9) rfl dX3_popInto_10 ?_
    refine lv_iconst (v := 1) hx hb dX3_popInto_13 (by decide) ?_
    refine lv_isub hx hb dX3_popInto_14 ?_
    refine lv_topi (fun z2 ez2 => ?_)
    obtain rfl : z2 = nI (n - 1) := ez2.trans (pk_sub (a := n) (b := 1) (by omega))
    refine va_put (D := (dC, dI)) (ci := 3) (v := .int (nI (n - 1))) (ty := .int) (C := RX3) (T := TX3) (N := 3) hx hb hts hi_X3 tyX3 tyX3_ok nmX3 hown hK hP hD hS 0 rfl rfl 2 (by decide) (hts (.fieldLink RX3 19 "LeftQuills$History" "count" "I") (wmx 1 rfl)) (fun _ h9 => h9) rfl (by decide +kernel) rfl rfl (Nat.le_of_ble_eq_true rfl) dX3_popInto_15 (fun H locs hP hD hS => ?_)
    have hPD : pdW (dC, dI) vwCl A [(h0, .inr (3, [.ref hq, .int (nI o), .int (nI (n - 1))])), (hq, .inl (cQ, 20, .inr (.inr (.inr (.inr fq))))), (dj, .inr (1, [.int mia, .int cua, .ref a2, .ref a3, .ref a4, .ref a5, .ref a6, .ref ho])), (a2, .inl (cI, 8, .inl fa2)), (a3, .inl (cI, 8, .inl fa3)), (a4, .inl (cI, 8, .inl fa4)), (a5, .inl (cI, 4, .inl fa5)), (a6, .inl (cI, 4, .inl fa6)), (hw, .inr (1, [.int mib, .int cub, .ref b2, .ref b3, .ref b4, .ref b5, .ref b6, .ref hp])), (b2, .inl (cI, 8, .inl fb2)), (b3, .inl (cI, 8, .inl fb3)), (b4, .inl (cI, 8, .inl fb4)), (b5, .inl (cI, 4, .inl fb5)), (b6, .inl (cI, 4, .inl fb6))] H := ⟨hP, hD⟩
    have hP := hPD.1
    have hD := hPD.2
    clear hPD
    refine lv_aload_n hx hb dX3_popInto_18 rfl (lv_at hl 1 rfl) ?_
    refine lv_aload_n hx hb dX3_popInto_19 rfl (lv_at hl 0 rfl) ?_
    refine va_get (D := (dC, dI)) (ci := 3) (v := .ref hq) (C := RX3) (T := TX3) (N := 3) hx hb hts hi_X3 hown hK hP 0 rfl rfl 0 (by decide) (hts (.fieldLink RX3 11 "LeftQuills$History" "desks" "[LLeftQuills$Desk;") (wmx 2 rfl)) (fun _ h9 => h9) rfl dX3_popInto_20 ?_
    refine lv_aload_n hx hb dX3_popInto_23 rfl (lv_at hl 0 rfl) ?_
    refine va_get (D := (dC, dI)) (ci := 3) (v := .int (nI o)) (C := RX3) (T := TX3) (N := 3) hx hb hts hi_X3 hown hK hP 0 rfl rfl 1 (by decide) (hts (.fieldLink RX3 15 "LeftQuills$History" "oldest" "I") (wmx 3 rfl)) (fun _ h9 => h9) rfl dX3_popInto_24 ?_
    refine lv_aload_n hx hb dX3_popInto_27 rfl (lv_at hl 0 rfl) ?_
    refine va_get (D := (dC, dI)) (ci := 3) (v := .int (nI (n - 1))) (C := RX3) (T := TX3) (N := 3) hx hb hts hi_X3 hown hK hP 0 rfl rfl 2 (by decide) (hts (.fieldLink RX3 19 "LeftQuills$History" "count" "I") (wmx 1 rfl)) (fun _ h9 => h9) rfl dX3_popInto_28 ?_
    refine lv_iadd hx hb dX3_popInto_31 ?_
    refine lv_topi (fun z3 ez3 => ?_)
    obtain rfl : z3 = nI (o + (n - 1)) := ez3.trans (nI_add o (n - 1))
    refine lv_bipush (v := 20) hx hb dX3_popInto_32 (by decide) ?_
    refine lv_irem hx hb dX3_popInto_34 (by decide) ?_
    refine lv_topi (fun z4 ez4 => ?_)
    obtain rfl : z4 = nI ((o + (n - 1)) % 20) := ez4.trans (pk_rem (a := o + (n - 1)) (d := 20) (by omega) (by omega) (by omega))
    refine va_aldq hx hb hK hP 1 2 rfl rfl (vp_in_nI (n := (o + (n - 1)) % 20) (N := 20) (by omega) (by decide)) dX3_popInto_35 ?_
    refine W.eq (g2 := F0 m 36 ls [.ref dj, .ref hw]) (by rw [nI_clamp (n := (o + (n - 1)) % 20) (by omega), hfq]; rfl) ?_
    have hc9 := va_cut (W' := [(hw, .inr (1, [.int mib, .int cub, .ref b2, .ref b3, .ref b4, .ref b5, .ref b6, .ref hp])), (b2, .inl (cI, 8, .inl fb2)), (b3, .inl (cI, 8, .inl fb3)), (b4, .inl (cI, 8, .inl fb4)), (b5, .inl (cI, 4, .inl fb5)), (b6, .inl (cI, 4, .inl fb6)), (dj, .inr (1, [.int mia, .int cua, .ref a2, .ref a3, .ref a4, .ref a5, .ref a6, .ref ho])), (a2, .inl (cI, 8, .inl fa2)), (a3, .inl (cI, 8, .inl fa3)), (a4, .inl (cI, 8, .inl fa4)), (a5, .inl (cI, 4, .inl fa5)), (a6, .inl (cI, 4, .inl fa6))]) hP hD hS hA [8, 9, 10, 11, 12, 13, 2, 3, 4, 5, 6, 7] (by decide) rfl
    have hPc := hc9.1
    have hDc := hc9.2.1
    have hFc := hc9.2.2
    clear hc9
    refine va_callv (va_runV (As := [.ref dj]) (rest := []) ⟨hx, hb, hml, hown, hts⟩ (c_X1_copyFromD l dC dI cI cZ cQ hw mib cub b2 b3 b4 b5 b6 hp fb2 fb3 fb4 fb5 fb6 dj mia cua a2 a3 a4 a5 a6 ho fa2 fa3 fa4 fa5 fa6 H.size ) (cwV 1 hts gX3_popInto_X1_copyFrom rfl rfl rfl hd_X1_copyFrom_RX1 ⟨Nat.le_of_ble_eq_true rfl, Nat.le_of_ble_eq_true rfl⟩) (pv_D (va_recv hK hP (ci := 1) (q0 := 8) rfl rfl) hK hPc hDc) rfl rfl hl.1 rfl (lv_room (Nat.le_of_ble_eq_true rfl)) dX3_popInto_36 ⟨Nat.le_of_ble_eq_true rfl, Nat.le_of_ble_eq_true rfl⟩) hS (fun q _ h => hFc q h) hFc (fun u6 t H1 locs ht hvm hw7 hB hz1 hk1 hS => ?_)
    obtain ⟨f8, f9, f10, f11, f12, i13, i14, he15, hP1, hD1⟩ := hB
    replace hP1 := va_hp ht hP1
    obtain ⟨hP, hD⟩ := va_join (wr := [(h0, .inr (3, [.ref hq, .int (nI o), .int (nI (n - 1))])), (hq, .inl (cQ, 20, .inr (.inr (.inr (.inr fq)))))]) (w1 := [(hw, .inr (1, [.int i13, .int i14, .ref b2, .ref b3, .ref b4, .ref b5, .ref b6, .ref hp])), (b2, .inl (cI, 8, .inl f8)), (b3, .inl (cI, 8, .inl f9)), (b4, .inl (cI, 8, .inl f10)), (b5, .inl (cI, 4, .inl f11)), (b6, .inl (cI, 4, .inl f12)), (dj, .inr (1, [.int mia, .int cua, .ref a2, .ref a3, .ref a4, .ref a5, .ref a6, .ref ho])), (a2, .inl (cI, 8, .inl fa2)), (a3, .inl (cI, 8, .inl fa3)), (a4, .inl (cI, 8, .inl fa4)), (a5, .inl (cI, 4, .inl fa5)), (a6, .inl (cI, 4, .inl fa6))]) hP hD [8, 9, 10, 11, 12, 13, 2, 3, 4, 5, 6, 7] [0, 1] rfl rfl (by decide +kernel) (by decide +kernel) hk1 hFc hP1 hD1
    clear hP1 hD1
    clear hz1 hk1 hPc hDc hFc
    generalize H1 = H at hP hS ht ⊢
    have hPD : pdW (dC, dI) vwCl A [(h0, .inr (3, [.ref hq, .int (nI o), .int (nI (n - 1))])), (hq, .inl (cQ, 20, .inr (.inr (.inr (.inr fq))))), (hw, .inr (1, [.int i13, .int i14, .ref b2, .ref b3, .ref b4, .ref b5, .ref b6, .ref hp])), (b2, .inl (cI, 8, .inl f8)), (b3, .inl (cI, 8, .inl f9)), (b4, .inl (cI, 8, .inl f10)), (b5, .inl (cI, 4, .inl f11)), (b6, .inl (cI, 4, .inl f12)), (dj, .inr (1, [.int mia, .int cua, .ref a2, .ref a3, .ref a4, .ref a5, .ref a6, .ref ho])), (a2, .inl (cI, 8, .inl fa2)), (a3, .inl (cI, 8, .inl fa3)), (a4, .inl (cI, 8, .inl fa4)), (a5, .inl (cI, 4, .inl fa5)), (a6, .inl (cI, 4, .inl fa6))] H := ⟨hP, hD⟩
    have hP := hPD.1
    have hD := hPD.2
    clear hPD
    try dsimp only at hw7
    have hP9 := hP.sub (ws' := [(h0, .inr (3, [.ref hq, .int (nI o), .int (nI (n - 1))])), (hq, .inl (cQ, 20, .inr (.inr (.inr (.inr fq))))), (dj, .inr (1, [.int mia, .int cua, .ref a2, .ref a3, .ref a4, .ref a5, .ref a6, .ref ho])), (a2, .inl (cI, 8, .inl fa2)), (a3, .inl (cI, 8, .inl fa3)), (a4, .inl (cI, 8, .inl fa4)), (a5, .inl (cI, 4, .inl fa5)), (a6, .inl (cI, 4, .inl fa6)), (hw, .inr (1, [.int i13, .int i14, .ref b2, .ref b3, .ref b4, .ref b5, .ref b6, .ref hp])), (b2, .inl (cI, 8, .inl f8)), (b3, .inl (cI, 8, .inl f9)), (b4, .inl (cI, 8, .inl f10)), (b5, .inl (cI, 4, .inl f11)), (b6, .inl (cI, 4, .inl f12))]) [0, 1, 8, 9, 10, 11, 12, 13, 2, 3, 4, 5, 6, 7] rfl
    have hD9 := hD.sub (ws' := [(h0, .inr (3, [.ref hq, .int (nI o), .int (nI (n - 1))])), (hq, .inl (cQ, 20, .inr (.inr (.inr (.inr fq))))), (dj, .inr (1, [.int mia, .int cua, .ref a2, .ref a3, .ref a4, .ref a5, .ref a6, .ref ho])), (a2, .inl (cI, 8, .inl fa2)), (a3, .inl (cI, 8, .inl fa3)), (a4, .inl (cI, 8, .inl fa4)), (a5, .inl (cI, 4, .inl fa5)), (a6, .inl (cI, 4, .inl fa6)), (hw, .inr (1, [.int i13, .int i14, .ref b2, .ref b3, .ref b4, .ref b5, .ref b6, .ref hp])), (b2, .inl (cI, 8, .inl f8)), (b3, .inl (cI, 8, .inl f9)), (b4, .inl (cI, 8, .inl f10)), (b5, .inl (cI, 4, .inl f11)), (b6, .inl (cI, 4, .inl f12))]) [0, 1, 8, 9, 10, 11, 12, 13, 2, 3, 4, 5, 6, 7] (by decide +kernel) rfl
    exact W.vret hx hb hr (fun t ht hW => ⟨⟨(fun _ => 0), rfl, trivial, ⟨f8, f9, f10, f11, f12, i13, i14, (n - 1), by omega, he15, rfl, va_hq ht hP9, hD9⟩⟩, hS.F ht⟩) hS.2.2 dX3_popInto_39
  ·
    have c1 : ¬ 0 < n := fun h => c1 ((nI_ltI (a := 0) (b := n) (by omega) (by omega)).mpr h)
    omega
set_option maxHeartbeats 4000000 in
set_option maxRecDepth 100000 in
theorem c_X3_forgetD (l : Launch) (dC : Nat → ClassId) (dI : Nat → Nat → Nat) (cI cZ cQ : ClassId) (h0 : Nat) (hq : Nat) (o : Nat) (n : Nat) (sz : Nat)  : Met l yX3_forget wsX3_forget ({ frames := 0, cells := 0, slots := 0, locals := 40 }) (va_Pc [.ref h0] (fun U => U.heap.size = sz ∧ va_P (dC, dI) vwCl [(h0, .inr (3, [.ref hq, .int (nI o), .int (nI n)]))] U.heap ∧ va_K (dC, dI) vwCl (tys0 cI cZ cQ) U ∧ va_D (fun _ => True) [(h0, .inr (3, [.ref hq, .int (nI o), .int (nI n)]))])) (va_Qv (fun (u : Nat → Nat) => True) (fun (_ : Nat → Nat) (t : State) => ∃ (kk0 : Nat), kk0 ≤ 20 ∧ (kk0 = 0) ∧ va_P (dC, dI) vwCl [(h0, .inr (3, [.ref hq, .int (nI o), .int (nI kk0)]))] t.heap ∧ va_D (va_A [(h0, .inr (3, [.ref hq, .int (nI o), .int (nI n)]))] sz) [(h0, .inr (3, [.ref hq, .int (nI o), .int (nI kk0)]))]) (va_A [(h0, .inr (3, [.ref hq, .int (nI o), .int (nI n)]))] sz)) 0 0 (va_A [(h0, .inr (3, [.ref hq, .int (nI o), .int (nI n)]))] sz) := by
  refine Met.ofW (cc := cX3_forget) (maxL := 1) (ret := none) (by decide) rfl ?_
  intro p e s m args below meth c s₁ B hml hv
  obtain ⟨rfl, hsz, hP, hK, hD0⟩ := hv
  have hx := B.exec
  have hb := B.bytes
  have hr := B.returns
  have hts := atoms_spec (ws := wsX3_forget) B.pre
  have hown : s.vm.findClass RX3 = some m.cls := findClass_of_methodNamed B.named
  have hlocks := B.notSynchronized
  have hi_X3 : ∀ w ∈ u_ws RX3 TX3 3, w ∈ wsX3_forget := fun _ h => List.mem_cons_of_mem _ (List.mem_append_right _ (h))
  subst hsz
  have hD := hD0.self (sz := s.heap.size)
  generalize hAe : va_A [(h0, .inr (3, [.ref hq, .int (nI o), .int (nI n)]))] s.heap.size = A at hD ⊢
  have hA : ∀ q : Nat, s.heap.size ≤ q → A q := fun q h => by rw [← hAe]; exact Or.inr h
  have hS : va_S A s.heap s.heap [] := va_S.rf
  have hl := lv_entry ([.ref h0]) (n := 1) (Nat.le_of_ble_eq_true rfl)
  rw [lg_entry_eq]
  generalize (lg_sl ([.ref h0]) ++ List.replicate (1 - (lg_sl ([.ref h0])).length) Slot.unset).toArray = ls at hl ⊢
  have hl : lv_has ls 1 [(0, .ref h0)] := hl
  refine lv_aload_n hx hb dX3_forget_0 rfl (lv_at hl 0 rfl) ?_
  refine lv_iconst (v := 0) hx hb dX3_forget_1 (by decide) ?_
  refine va_put (D := (dC, dI)) (ci := 3) (v := .int 0) (ty := .int) (C := RX3) (T := TX3) (N := 3) hx hb hts hi_X3 tyX3 tyX3_ok nmX3 hown hK hP hD hS 0 rfl rfl 2 (by decide) (hts (.fieldLink RX3 19 "LeftQuills$History" "count" "I") (wmx 1 rfl)) (fun _ h9 => h9) rfl (by decide +kernel) rfl rfl (Nat.le_of_ble_eq_true rfl) dX3_forget_2 (fun H locs hP hD hS => ?_)
  have hPD : pdW (dC, dI) vwCl A [(h0, .inr (3, [.ref hq, .int (nI o), .int 0]))] H := ⟨hP, hD⟩
  have hP := hPD.1
  have hD := hPD.2
  clear hPD
  have hP9 := hP.sub (ws' := [(h0, .inr (3, [.ref hq, .int (nI o), .int 0]))]) [0] rfl
  have hD9 := hD.sub (ws' := [(h0, .inr (3, [.ref hq, .int (nI o), .int 0]))]) [0] (by decide +kernel) rfl
  exact W.vret hx hb hr (fun t ht hW => ⟨⟨(fun _ => 0), rfl, trivial, ⟨0, by omega, rfl, va_hq ht hP9, hD9⟩⟩, hS.F ht⟩) hS.2.2 dX3_forget_5
