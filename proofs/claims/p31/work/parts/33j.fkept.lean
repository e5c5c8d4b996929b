set_option maxHeartbeats 4000000 in
set_option maxRecDepth 100000 in
theorem c_X10_keepF (l : Launch) (dC : Nat → ClassId) (dI : Nat → Nat → Nat) (cI cZ cQ : ClassId) (h0 : Nat) (sd : Nat) (x6 : Nat) (x7 : Nat) (x8 : Nat) (f_h0 : List Value) (i0 : Nat) (i1 : Nat) (i2 : Nat) (f_x8 : List Value) (fi0 : Nat → Option Nat) (fi1 : Nat → Int32) (fi2 : Nat → Int32) (mib : Int32) (cub : Int32) (b2 : Nat) (b3 : Nat) (b4 : Nat) (b5 : Nat) (b6 : Nat) (x4 : Nat) (fb2 : Nat → Int32) (fb3 : Nat → Int32) (fb4 : Nat → Int32) (fb5 : Nat → Int32) (fb6 : Nat → Int32) (dt : Nat) (mit : Int32) (cut : Int32) (t2 : Nat) (t3 : Nat) (t4 : Nat) (t5 : Nat) (t6 : Nat) (ft2 : Nat → Int32) (ft3 : Nat → Int32) (ft4 : Nat → Int32) (ft5 : Nat → Int32) (ft6 : Nat → Int32) (dv : Nat) (miv : Int32) (cuv : Int32) (v2 : Nat) (v3 : Nat) (v4 : Nat) (v5 : Nat) (v6 : Nat) (fv2 : Nat → Int32) (fv3 : Nat → Int32) (fv4 : Nat → Int32) (fv5 : Nat → Int32) (fv6 : Nat → Int32) (hq : Nat) (o : Nat) (n : Nat) (q0 : Int32) (sz : Nat) (e_h0_3 : fAt f_h0 3 = some (.int (nI sd))) (e_h0_6 : fAt f_h0 6 = some (.ref x6)) (e_h0_7 : fAt f_h0 7 = some (.ref x7)) (e_h0_8 : fAt f_h0 8 = some (.ref x8)) (e_x8_0 : fAt f_x8 0 = some (.ref i0)) (e_x8_1 : fAt f_x8 1 = some (.ref i1)) (e_x8_2 : fAt f_x8 2 = some (.ref i2)) (hf0 : fi0 0 = some dt) (hf1 : fi0 1 = some dv) (hsi : sIn fi1) (hsd : sd ≤ 2147483647) (ho19 : o ≤ 19) (hn20 : n ≤ 20) : Met l yX10_keep wsX10_keep ({ frames := 2, cells := 0, slots := 0, locals := 62 }) (va_Pc [.ref h0, .int q0] (fun U => U.heap.size = sz ∧ va_P (dC, dI) vwCl [(h0, .inr (10, f_h0)), (x8, .inr (4, f_x8)), (i0, .inl (cQ, 2, .inr (.inr (.inr (.inr fi0))))), (i1, .inl (cI, 2, .inl fi1)), (i2, .inl (cZ, 2, .inl fi2)), (x6, .inr (1, [.int mib, .int cub, .ref b2, .ref b3, .ref b4, .ref b5, .ref b6, .ref x4])), (b2, .inl (cI, 8, .inl fb2)), (b3, .inl (cI, 8, .inl fb3)), (b4, .inl (cI, 8, .inl fb4)), (b5, .inl (cI, 4, .inl fb5)), (b6, .inl (cI, 4, .inl fb6)), (dt, .inr (1, [.int mit, .int cut, .ref t2, .ref t3, .ref t4, .ref t5, .ref t6, .ref x4])), (t2, .inl (cI, 8, .inl ft2)), (t3, .inl (cI, 8, .inl ft3)), (t4, .inl (cI, 8, .inl ft4)), (t5, .inl (cI, 4, .inl ft5)), (t6, .inl (cI, 4, .inl ft6)), (dv, .inr (1, [.int miv, .int cuv, .ref v2, .ref v3, .ref v4, .ref v5, .ref v6, .ref x4])), (v2, .inl (cI, 8, .inl fv2)), (v3, .inl (cI, 8, .inl fv3)), (v4, .inl (cI, 8, .inl fv4)), (v5, .inl (cI, 4, .inl fv5)), (v6, .inl (cI, 4, .inl fv6)), (x7, .inr (3, [.ref hq, .int (nI o), .int (nI n)]))] U.heap ∧ va_K (dC, dI) vwCl (tys0 cI cZ cQ) U ∧ va_D (fun _ => True) [(h0, .inr (10, f_h0)), (x8, .inr (4, f_x8)), (i0, .inl (cQ, 2, .inr (.inr (.inr (.inr fi0))))), (i1, .inl (cI, 2, .inl fi1)), (i2, .inl (cZ, 2, .inl fi2)), (x6, .inr (1, [.int mib, .int cub, .ref b2, .ref b3, .ref b4, .ref b5, .ref b6, .ref x4])), (b2, .inl (cI, 8, .inl fb2)), (b3, .inl (cI, 8, .inl fb3)), (b4, .inl (cI, 8, .inl fb4)), (b5, .inl (cI, 4, .inl fb5)), (b6, .inl (cI, 4, .inl fb6)), (dt, .inr (1, [.int mit, .int cut, .ref t2, .ref t3, .ref t4, .ref t5, .ref t6, .ref x4])), (t2, .inl (cI, 8, .inl ft2)), (t3, .inl (cI, 8, .inl ft3)), (t4, .inl (cI, 8, .inl ft4)), (t5, .inl (cI, 4, .inl ft5)), (t6, .inl (cI, 4, .inl ft6)), (dv, .inr (1, [.int miv, .int cuv, .ref v2, .ref v3, .ref v4, .ref v5, .ref v6, .ref x4])), (v2, .inl (cI, 8, .inl fv2)), (v3, .inl (cI, 8, .inl fv3)), (v4, .inl (cI, 8, .inl fv4)), (v5, .inl (cI, 4, .inl fv5)), (v6, .inl (cI, 4, .inl fv6)), (x7, .inr (3, [.ref hq, .int (nI o), .int (nI n)]))])) (va_Qi (fun (r : Int32) (u : Nat → Nat) => r = if 0 ≤ q0 ∧ q0 ≤ 1 then 1 else (-1000000001)) (fun (_ : Nat → Nat) (t : State) => ∃ (gg0 gg1 gg2 gg3 gg4 gg5 gg6 gg7 gg8 gg9 gg10 gg11 : Nat → Int32) (ii0 ii1 ii2 ii3 : Int32) (kk4 : Nat), kk4 ≤ 20 ∧ (sIn gg0) ∧ (gg1 = keptT q0 fi2) ∧ va_P (dC, dI) vwCl [(h0, .inr (10, f_h0)), (x8, .inr (4, f_x8)), (i0, .inl (cQ, 2, .inr (.inr (.inr (.inr fi0))))), (i1, .inl (cI, 2, .inl gg0)), (i2, .inl (cZ, 2, .inl gg1)), (x6, .inr (1, [.int mib, .int cub, .ref b2, .ref b3, .ref b4, .ref b5, .ref b6, .ref x4])), (b2, .inl (cI, 8, .inl fb2)), (b3, .inl (cI, 8, .inl fb3)), (b4, .inl (cI, 8, .inl fb4)), (b5, .inl (cI, 4, .inl fb5)), (b6, .inl (cI, 4, .inl fb6)), (dt, .inr (1, [.int ii0, .int ii1, .ref t2, .ref t3, .ref t4, .ref t5, .ref t6, .ref x4])), (t2, .inl (cI, 8, .inl gg2)), (t3, .inl (cI, 8, .inl gg3)), (t4, .inl (cI, 8, .inl gg4)), (t5, .inl (cI, 4, .inl gg5)), (t6, .inl (cI, 4, .inl gg6)), (dv, .inr (1, [.int ii2, .int ii3, .ref v2, .ref v3, .ref v4, .ref v5, .ref v6, .ref x4])), (v2, .inl (cI, 8, .inl gg7)), (v3, .inl (cI, 8, .inl gg8)), (v4, .inl (cI, 8, .inl gg9)), (v5, .inl (cI, 4, .inl gg10)), (v6, .inl (cI, 4, .inl gg11)), (x7, .inr (3, [.ref hq, .int (nI o), .int (nI kk4)]))] t.heap ∧ va_D (va_A [(h0, .inr (10, f_h0)), (x8, .inr (4, f_x8)), (i0, .inl (cQ, 2, .inr (.inr (.inr (.inr fi0))))), (i1, .inl (cI, 2, .inl fi1)), (i2, .inl (cZ, 2, .inl fi2)), (x6, .inr (1, [.int mib, .int cub, .ref b2, .ref b3, .ref b4, .ref b5, .ref b6, .ref x4])), (b2, .inl (cI, 8, .inl fb2)), (b3, .inl (cI, 8, .inl fb3)), (b4, .inl (cI, 8, .inl fb4)), (b5, .inl (cI, 4, .inl fb5)), (b6, .inl (cI, 4, .inl fb6)), (dt, .inr (1, [.int mit, .int cut, .ref t2, .ref t3, .ref t4, .ref t5, .ref t6, .ref x4])), (t2, .inl (cI, 8, .inl ft2)), (t3, .inl (cI, 8, .inl ft3)), (t4, .inl (cI, 8, .inl ft4)), (t5, .inl (cI, 4, .inl ft5)), (t6, .inl (cI, 4, .inl ft6)), (dv, .inr (1, [.int miv, .int cuv, .ref v2, .ref v3, .ref v4, .ref v5, .ref v6, .ref x4])), (v2, .inl (cI, 8, .inl fv2)), (v3, .inl (cI, 8, .inl fv3)), (v4, .inl (cI, 8, .inl fv4)), (v5, .inl (cI, 4, .inl fv5)), (v6, .inl (cI, 4, .inl fv6)), (x7, .inr (3, [.ref hq, .int (nI o), .int (nI n)]))] sz) [(h0, .inr (10, f_h0)), (x8, .inr (4, f_x8)), (i0, .inl (cQ, 2, .inr (.inr (.inr (.inr fi0))))), (i1, .inl (cI, 2, .inl gg0)), (i2, .inl (cZ, 2, .inl gg1)), (x6, .inr (1, [.int mib, .int cub, .ref b2, .ref b3, .ref b4, .ref b5, .ref b6, .ref x4])), (b2, .inl (cI, 8, .inl fb2)), (b3, .inl (cI, 8, .inl fb3)), (b4, .inl (cI, 8, .inl fb4)), (b5, .inl (cI, 4, .inl fb5)), (b6, .inl (cI, 4, .inl fb6)), (dt, .inr (1, [.int ii0, .int ii1, .ref t2, .ref t3, .ref t4, .ref t5, .ref t6, .ref x4])), (t2, .inl (cI, 8, .inl gg2)), (t3, .inl (cI, 8, .inl gg3)), (t4, .inl (cI, 8, .inl gg4)), (t5, .inl (cI, 4, .inl gg5)), (t6, .inl (cI, 4, .inl gg6)), (dv, .inr (1, [.int ii2, .int ii3, .ref v2, .ref v3, .ref v4, .ref v5, .ref v6, .ref x4])), (v2, .inl (cI, 8, .inl gg7)), (v3, .inl (cI, 8, .inl gg8)), (v4, .inl (cI, 8, .inl gg9)), (v5, .inl (cI, 4, .inl gg10)), (v6, .inl (cI, 4, .inl gg11)), (x7, .inr (3, [.ref hq, .int (nI o), .int (nI kk4)]))]) (va_A [(h0, .inr (10, f_h0)), (x8, .inr (4, f_x8)), (i0, .inl (cQ, 2, .inr (.inr (.inr (.inr fi0))))), (i1, .inl (cI, 2, .inl fi1)), (i2, .inl (cZ, 2, .inl fi2)), (x6, .inr (1, [.int mib, .int cub, .ref b2, .ref b3, .ref b4, .ref b5, .ref b6, .ref x4])), (b2, .inl (cI, 8, .inl fb2)), (b3, .inl (cI, 8, .inl fb3)), (b4, .inl (cI, 8, .inl fb4)), (b5, .inl (cI, 4, .inl fb5)), (b6, .inl (cI, 4, .inl fb6)), (dt, .inr (1, [.int mit, .int cut, .ref t2, .ref t3, .ref t4, .ref t5, .ref t6, .ref x4])), (t2, .inl (cI, 8, .inl ft2)), (t3, .inl (cI, 8, .inl ft3)), (t4, .inl (cI, 8, .inl ft4)), (t5, .inl (cI, 4, .inl ft5)), (t6, .inl (cI, 4, .inl ft6)), (dv, .inr (1, [.int miv, .int cuv, .ref v2, .ref v3, .ref v4, .ref v5, .ref v6, .ref x4])), (v2, .inl (cI, 8, .inl fv2)), (v3, .inl (cI, 8, .inl fv3)), (v4, .inl (cI, 8, .inl fv4)), (v5, .inl (cI, 4, .inl fv5)), (v6, .inl (cI, 4, .inl fv6)), (x7, .inr (3, [.ref hq, .int (nI o), .int (nI n)]))] sz)) 0 0 (va_A [(h0, .inr (10, f_h0)), (x8, .inr (4, f_x8)), (i0, .inl (cQ, 2, .inr (.inr (.inr (.inr fi0))))), (i1, .inl (cI, 2, .inl fi1)), (i2, .inl (cZ, 2, .inl fi2)), (x6, .inr (1, [.int mib, .int cub, .ref b2, .ref b3, .ref b4, .ref b5, .ref b6, .ref x4])), (b2, .inl (cI, 8, .inl fb2)), (b3, .inl (cI, 8, .inl fb3)), (b4, .inl (cI, 8, .inl fb4)), (b5, .inl (cI, 4, .inl fb5)), (b6, .inl (cI, 4, .inl fb6)), (dt, .inr (1, [.int mit, .int cut, .ref t2, .ref t3, .ref t4, .ref t5, .ref t6, .ref x4])), (t2, .inl (cI, 8, .inl ft2)), (t3, .inl (cI, 8, .inl ft3)), (t4, .inl (cI, 8, .inl ft4)), (t5, .inl (cI, 4, .inl ft5)), (t6, .inl (cI, 4, .inl ft6)), (dv, .inr (1, [.int miv, .int cuv, .ref v2, .ref v3, .ref v4, .ref v5, .ref v6, .ref x4])), (v2, .inl (cI, 8, .inl fv2)), (v3, .inl (cI, 8, .inl fv3)), (v4, .inl (cI, 8, .inl fv4)), (v5, .inl (cI, 4, .inl fv5)), (v6, .inl (cI, 4, .inl fv6)), (x7, .inr (3, [.ref hq, .int (nI o), .int (nI n)]))] sz) := by
  refine Met.ofW (cc := cX10_keep) (maxL := 2) (ret := (some .int)) (by decide) rfl ?_
  intro p e s m args below meth c s₁ B hml hv
  obtain ⟨rfl, hsz, hP, hK, hD0⟩ := hv
  have hx := B.exec
  have hb := B.bytes
  have hr := B.returns
  have hts := atoms_spec (ws := wsX10_keep) B.pre
  have hown : s.vm.findClass RX10 = some m.cls := findClass_of_methodNamed B.named
  have hlocks := B.notSynchronized
  have hi_X10 : ∀ w ∈ u_ws RX10 TX10 14, w ∈ wsX10_keep := fun _ h => List.mem_cons_of_mem _ (List.mem_append_left _ (List.mem_append_left _ (List.mem_append_left _ (List.mem_append_right _ (h)))))
  have hi_X4 : ∀ w ∈ u_ws RX4 TX4 3, w ∈ wsX10_keep := fun _ h => List.mem_cons_of_mem _ (List.mem_append_left _ (List.mem_append_left _ (List.mem_append_right _ (h))))
  subst hsz
  have hD := hD0.self (sz := s.heap.size)
  generalize hAe : va_A [(h0, .inr (10, f_h0)), (x8, .inr (4, f_x8)), (i0, .inl (cQ, 2, .inr (.inr (.inr (.inr fi0))))), (i1, .inl (cI, 2, .inl fi1)), (i2, .inl (cZ, 2, .inl fi2)), (x6, .inr (1, [.int mib, .int cub, .ref b2, .ref b3, .ref b4, .ref b5, .ref b6, .ref x4])), (b2, .inl (cI, 8, .inl fb2)), (b3, .inl (cI, 8, .inl fb3)), (b4, .inl (cI, 8, .inl fb4)), (b5, .inl (cI, 4, .inl fb5)), (b6, .inl (cI, 4, .inl fb6)), (dt, .inr (1, [.int mit, .int cut, .ref t2, .ref t3, .ref t4, .ref t5, .ref t6, .ref x4])), (t2, .inl (cI, 8, .inl ft2)), (t3, .inl (cI, 8, .inl ft3)), (t4, .inl (cI, 8, .inl ft4)), (t5, .inl (cI, 4, .inl ft5)), (t6, .inl (cI, 4, .inl ft6)), (dv, .inr (1, [.int miv, .int cuv, .ref v2, .ref v3, .ref v4, .ref v5, .ref v6, .ref x4])), (v2, .inl (cI, 8, .inl fv2)), (v3, .inl (cI, 8, .inl fv3)), (v4, .inl (cI, 8, .inl fv4)), (v5, .inl (cI, 4, .inl fv5)), (v6, .inl (cI, 4, .inl fv6)), (x7, .inr (3, [.ref hq, .int (nI o), .int (nI n)]))] s.heap.size = A at hD ⊢
  have hA : ∀ q : Nat, s.heap.size ≤ q → A q := fun q h => by rw [← hAe]; exact Or.inr h
  have hS : va_S A s.heap s.heap [] := va_S.rf
  have hl := lv_entry ([.ref h0, .int q0]) (n := 2) (Nat.le_of_ble_eq_true rfl)
  rw [lg_entry_eq]
  generalize (lg_sl ([.ref h0, .int q0]) ++ List.replicate (2 - (lg_sl ([.ref h0, .int q0])).length) Slot.unset).toArray = ls at hl ⊢
  have hl : lv_has ls 2 [(0, .ref h0), (1, .int q0)] := hl
  refine lv_iload_n hx hb dX10_keep_0 rfl (lv_at hl 1 rfl) ?_
  refine lv_iconst (v := 0) hx hb dX10_keep_1 (by decide) ?_
  refine lv_iconst (v := 1) hx hb dX10_keep_2 (by decide) ?_
  have hPc := hP.sub (ws' := []) [] rfl
  refine va_calli (va_runS (As := [.int q0, .int 0, .int 1]) (rest := []) ⟨hx, hb, hml, hown, hts⟩ (c_X10_within l dC dI cI cZ cQ q0 0 1 s.heap.size ) (va_cwS 3 hts gX10_keep_X10_within rfl rfl rfl (by decide +kernel) ⟨Nat.le_of_ble_eq_true rfl, Nat.le_of_ble_eq_true rfl⟩) (ps_R hK hPc) rfl rfl hl.1 rfl (lv_room (Nat.le_of_ble_eq_true rfl)) dX10_keep_3 ⟨Nat.le_of_ble_eq_true rfl, Nat.le_of_ble_eq_true rfl⟩) hS (fun q _ h => False.elim h) (fun q h => False.elim h) (fun r1 u2 t H1 locs ht hvm hw3 hB hz1 hk1 hS => ?_)
  have hP := hP.kept (fun k q hk => hk1 q.1 (hP k q hk).lt (fun h => h))
  clear hz1 hk1 hPc
  generalize H1 = H at hP hS ht ⊢
  try dsimp only at hw3
  rcases hw3 with ⟨rfl, hw3⟩ | ⟨rfl, hw3⟩
  ·
    rcases x_01 hw3 with rfl | rfl
    ·
      refine lv_if_ne (tgt := 12) hx hb dX10_keep_6 (by decide) (fun c4 => ?_) (fun c4 => ?_)
      rotate_left
      · exact absurd c4 (by decide)
      clear c4
      refine lv_aload_n hx hb dX10_keep_12 rfl (lv_at hl 0 rfl) ?_
      refine va_get (D := (dC, dI)) (ci := 10) (v := .ref x8) (C := RX10) (T := TX10) (N := 14) hx hb hts hi_X10 hown hK hP 0 rfl rfl 8 (by decide) (hts (.fieldLink RX10 56 "LeftQuills" "images" "LLeftQuills$Images;") (wmx 2 rfl)) (fun _ h9 => h9) e_h0_8 dX10_keep_13 ?_
      refine va_get (D := (dC, dI)) (ci := 4) (v := .ref i0) (C := RX4) (T := TX4) (N := 3) hx hb hts hi_X4 hown hK hP 1 rfl rfl 0 (by decide) (hts (.fieldLink RX10 291 "LeftQuills$Images" "desks" "[LLeftQuills$Desk;") (wmx 3 rfl)) (fun _ h9 => h9) e_x8_0 dX10_keep_16 ?_
      refine lv_iload_n hx hb dX10_keep_19 rfl (lv_at hl 1 rfl) ?_
      refine va_aldq hx hb hK hP 2 2 rfl rfl (vp_in_iff.mpr ⟨by decide, by decide⟩) dX10_keep_20 ?_
      refine W.eq (g2 := F0 m 21 ls [.ref dt]) (by rw [show ((0 : Int32)).toNatClampNeg = 0 from by decide, hf0]; rfl) ?_
      refine lv_aload_n hx hb dX10_keep_21 rfl (lv_at hl 0 rfl) ?_
      refine va_get (D := (dC, dI)) (ci := 10) (v := .ref x6) (C := RX10) (T := TX10) (N := 14) hx hb hts hi_X10 hown hK hP 0 rfl rfl 6 (by decide) (hts (.fieldLink RX10 42 "LeftQuills" "desk" "LLeftQuills$Desk;") (wmx 4 rfl)) (fun _ h9 => h9) e_h0_6 dX10_keep_22 ?_
      have hc9 := va_cut (W' := [(dt, .inr (1, [.int mit, .int cut, .ref t2, .ref t3, .ref t4, .ref t5, .ref t6, .ref x4])), (t2, .inl (cI, 8, .inl ft2)), (t3, .inl (cI, 8, .inl ft3)), (t4, .inl (cI, 8, .inl ft4)), (t5, .inl (cI, 4, .inl ft5)), (t6, .inl (cI, 4, .inl ft6)), (x6, .inr (1, [.int mib, .int cub, .ref b2, .ref b3, .ref b4, .ref b5, .ref b6, .ref x4])), (b2, .inl (cI, 8, .inl fb2)), (b3, .inl (cI, 8, .inl fb3)), (b4, .inl (cI, 8, .inl fb4)), (b5, .inl (cI, 4, .inl fb5)), (b6, .inl (cI, 4, .inl fb6))]) hP hD hS hA [11, 12, 13, 14, 15, 16, 5, 6, 7, 8, 9, 10] (by decide) rfl
      have hPc := hc9.1
      have hDc := hc9.2.1
      have hFc := hc9.2.2
      clear hc9
      refine va_callv (va_runV (As := [.ref x6]) (rest := []) ⟨hx, hb, hml, hown, hts⟩ (c_X1_copyFrom l dC dI cI cZ cQ dt mit cut t2 t3 t4 t5 t6 x4 ft2 ft3 ft4 ft5 ft6 x6 mib cub b2 b3 b4 b5 b6 x4 fb2 fb3 fb4 fb5 fb6 H.size ) (cwV 1 hts gX10_keep_X1_copyFrom rfl rfl rfl hd_X1_copyFrom_RX1 ⟨Nat.le_of_ble_eq_true rfl, Nat.le_of_ble_eq_true rfl⟩) (pv_D (va_recv hK hP (ci := 1) (q0 := 11) rfl rfl) hK hPc hDc) rfl rfl hl.1 rfl (lv_room (Nat.le_of_ble_eq_true rfl)) dX10_keep_25 ⟨Nat.le_of_ble_eq_true rfl, Nat.le_of_ble_eq_true rfl⟩) hS (fun q _ h => hFc q h) hFc (fun u6 t H1 locs ht hvm hw7 hB hz1 hk1 hS => ?_)
      obtain ⟨f8, f9, f10, f11, f12, i13, i14, hP1, hD1⟩ := hB
      replace hP1 := va_hp ht hP1
      obtain ⟨hP, hD⟩ := va_join (wr := [(h0, .inr (10, f_h0)), (x8, .inr (4, f_x8)), (i0, .inl (cQ, 2, .inr (.inr (.inr (.inr fi0))))), (i1, .inl (cI, 2, .inl fi1)), (i2, .inl (cZ, 2, .inl fi2)), (dv, .inr (1, [.int miv, .int cuv, .ref v2, .ref v3, .ref v4, .ref v5, .ref v6, .ref x4])), (v2, .inl (cI, 8, .inl fv2)), (v3, .inl (cI, 8, .inl fv3)), (v4, .inl (cI, 8, .inl fv4)), (v5, .inl (cI, 4, .inl fv5)), (v6, .inl (cI, 4, .inl fv6)), (x7, .inr (3, [.ref hq, .int (nI o), .int (nI n)]))]) (w1 := [(dt, .inr (1, [.int i13, .int i14, .ref t2, .ref t3, .ref t4, .ref t5, .ref t6, .ref x4])), (t2, .inl (cI, 8, .inl f8)), (t3, .inl (cI, 8, .inl f9)), (t4, .inl (cI, 8, .inl f10)), (t5, .inl (cI, 4, .inl f11)), (t6, .inl (cI, 4, .inl f12)), (x6, .inr (1, [.int mib, .int cub, .ref b2, .ref b3, .ref b4, .ref b5, .ref b6, .ref x4])), (b2, .inl (cI, 8, .inl fb2)), (b3, .inl (cI, 8, .inl fb3)), (b4, .inl (cI, 8, .inl fb4)), (b5, .inl (cI, 4, .inl fb5)), (b6, .inl (cI, 4, .inl fb6))]) hP hD [11, 12, 13, 14, 15, 16, 5, 6, 7, 8, 9, 10] [0, 1, 2, 3, 4, 17, 18, 19, 20, 21, 22, 23] rfl rfl (by decide +kernel) (by decide +kernel) hk1 hFc hP1 hD1
      clear hP1 hD1
      clear hz1 hk1 hPc hDc hFc
      generalize H1 = H at hP hS ht ⊢
      have hPD : pdW (dC, dI) vwCl A [(h0, .inr (10, f_h0)), (x8, .inr (4, f_x8)), (i0, .inl (cQ, 2, .inr (.inr (.inr (.inr fi0))))), (i1, .inl (cI, 2, .inl fi1)), (i2, .inl (cZ, 2, .inl fi2)), (dv, .inr (1, [.int miv, .int cuv, .ref v2, .ref v3, .ref v4, .ref v5, .ref v6, .ref x4])), (v2, .inl (cI, 8, .inl fv2)), (v3, .inl (cI, 8, .inl fv3)), (v4, .inl (cI, 8, .inl fv4)), (v5, .inl (cI, 4, .inl fv5)), (v6, .inl (cI, 4, .inl fv6)), (x7, .inr (3, [.ref hq, .int (nI o), .int (nI n)])), (dt, .inr (1, [.int i13, .int i14, .ref t2, .ref t3, .ref t4, .ref t5, .ref t6, .ref x4])), (t2, .inl (cI, 8, .inl f8)), (t3, .inl (cI, 8, .inl f9)), (t4, .inl (cI, 8, .inl f10)), (t5, .inl (cI, 4, .inl f11)), (t6, .inl (cI, 4, .inl f12)), (x6, .inr (1, [.int mib, .int cub, .ref b2, .ref b3, .ref b4, .ref b5, .ref b6, .ref x4])), (b2, .inl (cI, 8, .inl fb2)), (b3, .inl (cI, 8, .inl fb3)), (b4, .inl (cI, 8, .inl fb4)), (b5, .inl (cI, 4, .inl fb5)), (b6, .inl (cI, 4, .inl fb6))] H := ⟨hP, hD⟩
      have hP := hPD.1
      have hD := hPD.2
      clear hPD
      try dsimp only at hw7
      refine lv_aload_n hx hb dX10_keep_28 rfl (lv_at hl 0 rfl) ?_
      refine va_get (D := (dC, dI)) (ci := 10) (v := .ref x8) (C := RX10) (T := TX10) (N := 14) hx hb hts hi_X10 hown hK hP 0 rfl rfl 8 (by decide) (hts (.fieldLink RX10 56 "LeftQuills" "images" "LLeftQuills$Images;") (wmx 2 rfl)) (fun _ h9 => h9) e_h0_8 dX10_keep_29 ?_
      refine va_get (D := (dC, dI)) (ci := 4) (v := .ref i1) (C := RX4) (T := TX4) (N := 3) hx hb hts hi_X4 hown hK hP 1 rfl rfl 1 (by decide) (hts (.fieldLink RX10 297 "LeftQuills$Images" "seeds" "[I") (wmx 5 rfl)) (fun _ h9 => h9) e_x8_1 dX10_keep_32 ?_
      refine lv_iload_n hx hb dX10_keep_35 rfl (lv_at hl 1 rfl) ?_
      refine lv_aload_n hx hb dX10_keep_36 rfl (lv_at hl 0 rfl) ?_
      refine va_get (D := (dC, dI)) (ci := 10) (v := .int (nI sd)) (C := RX10) (T := TX10) (N := 14) hx hb hts hi_X10 hown hK hP 0 rfl rfl 3 (by decide) (hts (.fieldLink RX10 20 "LeftQuills" "seed" "I") (wmx 6 rfl)) (fun _ h9 => h9) e_h0_3 dX10_keep_37 ?_
      refine va_iast hx hb hK hP hD hS 3 0 rfl rfl (vp_in_iff.mpr ⟨by decide, by decide⟩) dX10_keep_40 (fun H locs hP hD hS => ?_)
      have hcl := (show ((0 : Int32)).toNatClampNeg = 0 from by decide)
      rw [hcl] at hP hD
      clear hcl
      have hPD : pdW (dC, dI) vwCl A [(h0, .inr (10, f_h0)), (x8, .inr (4, f_x8)), (i0, .inl (cQ, 2, .inr (.inr (.inr (.inr fi0))))), (i1, .inl (cI, 2, .inl (upd fi1 0 (nI sd)))), (i2, .inl (cZ, 2, .inl fi2)), (dv, .inr (1, [.int miv, .int cuv, .ref v2, .ref v3, .ref v4, .ref v5, .ref v6, .ref x4])), (v2, .inl (cI, 8, .inl fv2)), (v3, .inl (cI, 8, .inl fv3)), (v4, .inl (cI, 8, .inl fv4)), (v5, .inl (cI, 4, .inl fv5)), (v6, .inl (cI, 4, .inl fv6)), (x7, .inr (3, [.ref hq, .int (nI o), .int (nI n)])), (dt, .inr (1, [.int i13, .int i14, .ref t2, .ref t3, .ref t4, .ref t5, .ref t6, .ref x4])), (t2, .inl (cI, 8, .inl f8)), (t3, .inl (cI, 8, .inl f9)), (t4, .inl (cI, 8, .inl f10)), (t5, .inl (cI, 4, .inl f11)), (t6, .inl (cI, 4, .inl f12)), (x6, .inr (1, [.int mib, .int cub, .ref b2, .ref b3, .ref b4, .ref b5, .ref b6, .ref x4])), (b2, .inl (cI, 8, .inl fb2)), (b3, .inl (cI, 8, .inl fb3)), (b4, .inl (cI, 8, .inl fb4)), (b5, .inl (cI, 4, .inl fb5)), (b6, .inl (cI, 4, .inl fb6))] H := ⟨hP, hD⟩
      have hP := hPD.1
      have hD := hPD.2
      clear hPD
      refine lv_aload_n hx hb dX10_keep_41 rfl (lv_at hl 0 rfl) ?_
      refine va_get (D := (dC, dI)) (ci := 10) (v := .ref x8) (C := RX10) (T := TX10) (N := 14) hx hb hts hi_X10 hown hK hP 0 rfl rfl 8 (by decide) (hts (.fieldLink RX10 56 "LeftQuills" "images" "LLeftQuills$Images;") (wmx 2 rfl)) (fun _ h9 => h9) e_h0_8 dX10_keep_42 ?_
      refine va_get (D := (dC, dI)) (ci := 4) (v := .ref i2) (C := RX4) (T := TX4) (N := 3) hx hb hts hi_X4 hown hK hP 1 rfl rfl 2 (by decide) (hts (.fieldLink RX10 300 "LeftQuills$Images" "kept" "[Z") (wmx 7 rfl)) (fun _ h9 => h9) e_x8_2 dX10_keep_45 ?_
      refine lv_iload_n hx hb dX10_keep_48 rfl (lv_at hl 1 rfl) ?_
      refine lv_iconst (v := 1) hx hb dX10_keep_49 (by decide) ?_
      refine va_zast hx hb hK hP hD hS 4 1 rfl rfl (vp_in_iff.mpr ⟨by decide, by decide⟩) dX10_keep_50 (fun H locs hP hD hS => ?_)
      have hcl := (show ((0 : Int32)).toNatClampNeg = 0 from by decide)
      rw [hcl] at hP hD
      clear hcl
      have hPD : pdW (dC, dI) vwCl A [(h0, .inr (10, f_h0)), (x8, .inr (4, f_x8)), (i0, .inl (cQ, 2, .inr (.inr (.inr (.inr fi0))))), (i1, .inl (cI, 2, .inl (upd fi1 0 (nI sd)))), (i2, .inl (cZ, 2, .inl (upd fi2 0 1))), (dv, .inr (1, [.int miv, .int cuv, .ref v2, .ref v3, .ref v4, .ref v5, .ref v6, .ref x4])), (v2, .inl (cI, 8, .inl fv2)), (v3, .inl (cI, 8, .inl fv3)), (v4, .inl (cI, 8, .inl fv4)), (v5, .inl (cI, 4, .inl fv5)), (v6, .inl (cI, 4, .inl fv6)), (x7, .inr (3, [.ref hq, .int (nI o), .int (nI n)])), (dt, .inr (1, [.int i13, .int i14, .ref t2, .ref t3, .ref t4, .ref t5, .ref t6, .ref x4])), (t2, .inl (cI, 8, .inl f8)), (t3, .inl (cI, 8, .inl f9)), (t4, .inl (cI, 8, .inl f10)), (t5, .inl (cI, 4, .inl f11)), (t6, .inl (cI, 4, .inl f12)), (x6, .inr (1, [.int mib, .int cub, .ref b2, .ref b3, .ref b4, .ref b5, .ref b6, .ref x4])), (b2, .inl (cI, 8, .inl fb2)), (b3, .inl (cI, 8, .inl fb3)), (b4, .inl (cI, 8, .inl fb4)), (b5, .inl (cI, 4, .inl fb5)), (b6, .inl (cI, 4, .inl fb6))] H := ⟨hP, hD⟩
      have hP := hPD.1
      have hD := hPD.2
      clear hPD
      refine lv_aload_n hx hb dX10_keep_51 rfl (lv_at hl 0 rfl) ?_
      refine va_get (D := (dC, dI)) (ci := 10) (v := .ref x7) (C := RX10) (T := TX10) (N := 14) hx hb hts hi_X10 hown hK hP 0 rfl rfl 7 (by decide) (hts (.fieldLink RX10 49 "LeftQuills" "history" "LLeftQuills$History;") (wmx 8 rfl)) (fun _ h9 => h9) e_h0_7 dX10_keep_52 ?_
      have hc9 := va_cut (W' := [(x7, .inr (3, [.ref hq, .int (nI o), .int (nI n)]))]) hP hD hS hA [11] (by decide) rfl
      have hPc := hc9.1
      have hDc := hc9.2.1
      have hFc := hc9.2.2
      clear hc9
      refine va_callv (va_runV (As := []) (rest := []) ⟨hx, hb, hml, hown, hts⟩ (c_X3_forget l dC dI cI cZ cQ x7 hq o n H.size ) (cwV 0 hts gX10_keep_X3_forget rfl rfl rfl hd_X3_forget_RX3 ⟨Nat.le_of_ble_eq_true rfl, Nat.le_of_ble_eq_true rfl⟩) (pv_D (va_recv hK hP (ci := 3) (q0 := 11) rfl rfl) hK hPc hDc) rfl rfl hl.1 rfl (lv_room (Nat.le_of_ble_eq_true rfl)) dX10_keep_55 ⟨Nat.le_of_ble_eq_true rfl, Nat.le_of_ble_eq_true rfl⟩) hS (fun q _ h => hFc q h) hFc (fun u18 t H1 locs ht hvm hw19 hB hz1 hk1 hS => ?_)
      obtain ⟨k20, hk20, hP1, hD1⟩ := hB
      replace hP1 := va_hp ht hP1
      obtain ⟨hP, hD⟩ := va_join (wr := [(h0, .inr (10, f_h0)), (x8, .inr (4, f_x8)), (i0, .inl (cQ, 2, .inr (.inr (.inr (.inr fi0))))), (i1, .inl (cI, 2, .inl (upd fi1 0 (nI sd)))), (i2, .inl (cZ, 2, .inl (upd fi2 0 1))), (dv, .inr (1, [.int miv, .int cuv, .ref v2, .ref v3, .ref v4, .ref v5, .ref v6, .ref x4])), (v2, .inl (cI, 8, .inl fv2)), (v3, .inl (cI, 8, .inl fv3)), (v4, .inl (cI, 8, .inl fv4)), (v5, .inl (cI, 4, .inl fv5)), (v6, .inl (cI, 4, .inl fv6)), (dt, .inr (1, [.int i13, .int i14, .ref t2, .ref t3, .ref t4, .ref t5, .ref t6, .ref x4])), (t2, .inl (cI, 8, .inl f8)), (t3, .inl (cI, 8, .inl f9)), (t4, .inl (cI, 8, .inl f10)), (t5, .inl (cI, 4, .inl f11)), (t6, .inl (cI, 4, .inl f12)), (x6, .inr (1, [.int mib, .int cub, .ref b2, .ref b3, .ref b4, .ref b5, .ref b6, .ref x4])), (b2, .inl (cI, 8, .inl fb2)), (b3, .inl (cI, 8, .inl fb3)), (b4, .inl (cI, 8, .inl fb4)), (b5, .inl (cI, 4, .inl fb5)), (b6, .inl (cI, 4, .inl fb6))]) (w1 := [(x7, .inr (3, [.ref hq, .int (nI o), .int (nI k20)]))]) hP hD [11] [0, 1, 2, 3, 4, 5, 6, 7, 8, 9, 10, 12, 13, 14, 15, 16, 17, 18, 19, 20, 21, 22, 23] rfl rfl (by decide +kernel) (by decide +kernel) hk1 hFc hP1 hD1
      clear hP1 hD1
      clear hz1 hk1 hPc hDc hFc
      generalize H1 = H at hP hS ht ⊢
      have hPD : pdW (dC, dI) vwCl A [(h0, .inr (10, f_h0)), (x8, .inr (4, f_x8)), (i0, .inl (cQ, 2, .inr (.inr (.inr (.inr fi0))))), (i1, .inl (cI, 2, .inl (upd fi1 0 (nI sd)))), (i2, .inl (cZ, 2, .inl (upd fi2 0 1))), (dv, .inr (1, [.int miv, .int cuv, .ref v2, .ref v3, .ref v4, .ref v5, .ref v6, .ref x4])), (v2, .inl (cI, 8, .inl fv2)), (v3, .inl (cI, 8, .inl fv3)), (v4, .inl (cI, 8, .inl fv4)), (v5, .inl (cI, 4, .inl fv5)), (v6, .inl (cI, 4, .inl fv6)), (dt, .inr (1, [.int i13, .int i14, .ref t2, .ref t3, .ref t4, .ref t5, .ref t6, .ref x4])), (t2, .inl (cI, 8, .inl f8)), (t3, .inl (cI, 8, .inl f9)), (t4, .inl (cI, 8, .inl f10)), (t5, .inl (cI, 4, .inl f11)), (t6, .inl (cI, 4, .inl f12)), (x6, .inr (1, [.int mib, .int cub, .ref b2, .ref b3, .ref b4, .ref b5, .ref b6, .ref x4])), (b2, .inl (cI, 8, .inl fb2)), (b3, .inl (cI, 8, .inl fb3)), (b4, .inl (cI, 8, .inl fb4)), (b5, .inl (cI, 4, .inl fb5)), (b6, .inl (cI, 4, .inl fb6)), (x7, .inr (3, [.ref hq, .int (nI o), .int (nI k20)]))] H := ⟨hP, hD⟩
      have hP := hPD.1
      have hD := hPD.2
      clear hPD
      try dsimp only at hw19
      refine lv_iconst (v := 1) hx hb dX10_keep_58 (by decide) ?_
      have hP9 := hP.sub (ws' := [(h0, .inr (10, f_h0)), (x8, .inr (4, f_x8)), (i0, .inl (cQ, 2, .inr (.inr (.inr (.inr fi0))))), (i1, .inl (cI, 2, .inl (upd fi1 0 (nI sd)))), (i2, .inl (cZ, 2, .inl (upd fi2 0 1))), (x6, .inr (1, [.int mib, .int cub, .ref b2, .ref b3, .ref b4, .ref b5, .ref b6, .ref x4])), (b2, .inl (cI, 8, .inl fb2)), (b3, .inl (cI, 8, .inl fb3)), (b4, .inl (cI, 8, .inl fb4)), (b5, .inl (cI, 4, .inl fb5)), (b6, .inl (cI, 4, .inl fb6)), (dt, .inr (1, [.int i13, .int i14, .ref t2, .ref t3, .ref t4, .ref t5, .ref t6, .ref x4])), (t2, .inl (cI, 8, .inl f8)), (t3, .inl (cI, 8, .inl f9)), (t4, .inl (cI, 8, .inl f10)), (t5, .inl (cI, 4, .inl f11)), (t6, .inl (cI, 4, .inl f12)), (dv, .inr (1, [.int miv, .int cuv, .ref v2, .ref v3, .ref v4, .ref v5, .ref v6, .ref x4])), (v2, .inl (cI, 8, .inl fv2)), (v3, .inl (cI, 8, .inl fv3)), (v4, .inl (cI, 8, .inl fv4)), (v5, .inl (cI, 4, .inl fv5)), (v6, .inl (cI, 4, .inl fv6)), (x7, .inr (3, [.ref hq, .int (nI o), .int (nI k20)]))]) [0, 1, 2, 3, 4, 17, 18, 19, 20, 21, 22, 11, 12, 13, 14, 15, 16, 5, 6, 7, 8, 9, 10, 23] rfl
      have hD9 := hD.sub (ws' := [(h0, .inr (10, f_h0)), (x8, .inr (4, f_x8)), (i0, .inl (cQ, 2, .inr (.inr (.inr (.inr fi0))))), (i1, .inl (cI, 2, .inl (upd fi1 0 (nI sd)))), (i2, .inl (cZ, 2, .inl (upd fi2 0 1))), (x6, .inr (1, [.int mib, .int cub, .ref b2, .ref b3, .ref b4, .ref b5, .ref b6, .ref x4])), (b2, .inl (cI, 8, .inl fb2)), (b3, .inl (cI, 8, .inl fb3)), (b4, .inl (cI, 8, .inl fb4)), (b5, .inl (cI, 4, .inl fb5)), (b6, .inl (cI, 4, .inl fb6)), (dt, .inr (1, [.int i13, .int i14, .ref t2, .ref t3, .ref t4, .ref t5, .ref t6, .ref x4])), (t2, .inl (cI, 8, .inl f8)), (t3, .inl (cI, 8, .inl f9)), (t4, .inl (cI, 8, .inl f10)), (t5, .inl (cI, 4, .inl f11)), (t6, .inl (cI, 4, .inl f12)), (dv, .inr (1, [.int miv, .int cuv, .ref v2, .ref v3, .ref v4, .ref v5, .ref v6, .ref x4])), (v2, .inl (cI, 8, .inl fv2)), (v3, .inl (cI, 8, .inl fv3)), (v4, .inl (cI, 8, .inl fv4)), (v5, .inl (cI, 4, .inl fv5)), (v6, .inl (cI, 4, .inl fv6)), (x7, .inr (3, [.ref hq, .int (nI o), .int (nI k20)]))]) [0, 1, 2, 3, 4, 17, 18, 19, 20, 21, 22, 11, 12, 13, 14, 15, 16, 5, 6, 7, 8, 9, 10, 23] (by decide +kernel) rfl
      exact W.iret (v := 1) hx hb hr (fun t ht hW => ⟨⟨1, (fun _ => 0), rfl, (if_pos hw3).symm, ⟨(upd fi1 0 (nI sd)), (upd fi2 0 1), f8, f9, f10, f11, f12, fv2, fv3, fv4, fv5, fv6, i13, i14, miv, cuv, k20, by omega, sIn_up hsi (by omega), ((if_pos hw3).symm), va_hq ht hP9, hD9⟩⟩, hS.F ht⟩) hS.2.2 dX10_keep_59
    ·
      refine lv_if_ne (tgt := 12) hx hb dX10_keep_6 (by decide) (fun c21 => ?_) (fun c21 => ?_)
      rotate_left
      · exact absurd c21 (by decide)
      clear c21
      refine lv_aload_n hx hb dX10_keep_12 rfl (lv_at hl 0 rfl) ?_
      refine va_get (D := (dC, dI)) (ci := 10) (v := .ref x8) (C := RX10) (T := TX10) (N := 14) hx hb hts hi_X10 hown hK hP 0 rfl rfl 8 (by decide) (hts (.fieldLink RX10 56 "LeftQuills" "images" "LLeftQuills$Images;") (wmx 2 rfl)) (fun _ h9 => h9) e_h0_8 dX10_keep_13 ?_
      refine va_get (D := (dC, dI)) (ci := 4) (v := .ref i0) (C := RX4) (T := TX4) (N := 3) hx hb hts hi_X4 hown hK hP 1 rfl rfl 0 (by decide) (hts (.fieldLink RX10 291 "LeftQuills$Images" "desks" "[LLeftQuills$Desk;") (wmx 3 rfl)) (fun _ h9 => h9) e_x8_0 dX10_keep_16 ?_
      refine lv_iload_n hx hb dX10_keep_19 rfl (lv_at hl 1 rfl) ?_
      refine va_aldq hx hb hK hP 2 2 rfl rfl (vp_in_iff.mpr ⟨by decide, by decide⟩) dX10_keep_20 ?_
      refine W.eq (g2 := F0 m 21 ls [.ref dv]) (by rw [show ((1 : Int32)).toNatClampNeg = 1 from by decide, hf1]; rfl) ?_
      refine lv_aload_n hx hb dX10_keep_21 rfl (lv_at hl 0 rfl) ?_
      refine va_get (D := (dC, dI)) (ci := 10) (v := .ref x6) (C := RX10) (T := TX10) (N := 14) hx hb hts hi_X10 hown hK hP 0 rfl rfl 6 (by decide) (hts (.fieldLink RX10 42 "LeftQuills" "desk" "LLeftQuills$Desk;") (wmx 4 rfl)) (fun _ h9 => h9) e_h0_6 dX10_keep_22 ?_
      have hc9 := va_cut (W' := [(dv, .inr (1, [.int miv, .int cuv, .ref v2, .ref v3, .ref v4, .ref v5, .ref v6, .ref x4])), (v2, .inl (cI, 8, .inl fv2)), (v3, .inl (cI, 8, .inl fv3)), (v4, .inl (cI, 8, .inl fv4)), (v5, .inl (cI, 4, .inl fv5)), (v6, .inl (cI, 4, .inl fv6)), (x6, .inr (1, [.int mib, .int cub, .ref b2, .ref b3, .ref b4, .ref b5, .ref b6, .ref x4])), (b2, .inl (cI, 8, .inl fb2)), (b3, .inl (cI, 8, .inl fb3)), (b4, .inl (cI, 8, .inl fb4)), (b5, .inl (cI, 4, .inl fb5)), (b6, .inl (cI, 4, .inl fb6))]) hP hD hS hA [17, 18, 19, 20, 21, 22, 5, 6, 7, 8, 9, 10] (by decide) rfl
      have hPc := hc9.1
      have hDc := hc9.2.1
      have hFc := hc9.2.2
      clear hc9
      refine va_callv (va_runV (As := [.ref x6]) (rest := []) ⟨hx, hb, hml, hown, hts⟩ (c_X1_copyFrom l dC dI cI cZ cQ dv miv cuv v2 v3 v4 v5 v6 x4 fv2 fv3 fv4 fv5 fv6 x6 mib cub b2 b3 b4 b5 b6 x4 fb2 fb3 fb4 fb5 fb6 H.size ) (cwV 1 hts gX10_keep_X1_copyFrom rfl rfl rfl hd_X1_copyFrom_RX1 ⟨Nat.le_of_ble_eq_true rfl, Nat.le_of_ble_eq_true rfl⟩) (pv_D (va_recv hK hP (ci := 1) (q0 := 17) rfl rfl) hK hPc hDc) rfl rfl hl.1 rfl (lv_room (Nat.le_of_ble_eq_true rfl)) dX10_keep_25 ⟨Nat.le_of_ble_eq_true rfl, Nat.le_of_ble_eq_true rfl⟩) hS (fun q _ h => hFc q h) hFc (fun u23 t H1 locs ht hvm hw24 hB hz1 hk1 hS => ?_)
      obtain ⟨f25, f26, f27, f28, f29, i30, i31, hP1, hD1⟩ := hB
      replace hP1 := va_hp ht hP1
      obtain ⟨hP, hD⟩ := va_join (wr := [(h0, .inr (10, f_h0)), (x8, .inr (4, f_x8)), (i0, .inl (cQ, 2, .inr (.inr (.inr (.inr fi0))))), (i1, .inl (cI, 2, .inl fi1)), (i2, .inl (cZ, 2, .inl fi2)), (dt, .inr (1, [.int mit, .int cut, .ref t2, .ref t3, .ref t4, .ref t5, .ref t6, .ref x4])), (t2, .inl (cI, 8, .inl ft2)), (t3, .inl (cI, 8, .inl ft3)), (t4, .inl (cI, 8, .inl ft4)), (t5, .inl (cI, 4, .inl ft5)), (t6, .inl (cI, 4, .inl ft6)), (x7, .inr (3, [.ref hq, .int (nI o), .int (nI n)]))]) (w1 := [(dv, .inr (1, [.int i30, .int i31, .ref v2, .ref v3, .ref v4, .ref v5, .ref v6, .ref x4])), (v2, .inl (cI, 8, .inl f25)), (v3, .inl (cI, 8, .inl f26)), (v4, .inl (cI, 8, .inl f27)), (v5, .inl (cI, 4, .inl f28)), (v6, .inl (cI, 4, .inl f29)), (x6, .inr (1, [.int mib, .int cub, .ref b2, .ref b3, .ref b4, .ref b5, .ref b6, .ref x4])), (b2, .inl (cI, 8, .inl fb2)), (b3, .inl (cI, 8, .inl fb3)), (b4, .inl (cI, 8, .inl fb4)), (b5, .inl (cI, 4, .inl fb5)), (b6, .inl (cI, 4, .inl fb6))]) hP hD [17, 18, 19, 20, 21, 22, 5, 6, 7, 8, 9, 10] [0, 1, 2, 3, 4, 11, 12, 13, 14, 15, 16, 23] rfl rfl (by decide +kernel) (by decide +kernel) hk1 hFc hP1 hD1
      clear hP1 hD1
      clear hz1 hk1 hPc hDc hFc
      generalize H1 = H at hP hS ht ⊢
      have hPD : pdW (dC, dI) vwCl A [(h0, .inr (10, f_h0)), (x8, .inr (4, f_x8)), (i0, .inl (cQ, 2, .inr (.inr (.inr (.inr fi0))))), (i1, .inl (cI, 2, .inl fi1)), (i2, .inl (cZ, 2, .inl fi2)), (dt, .inr (1, [.int mit, .int cut, .ref t2, .ref t3, .ref t4, .ref t5, .ref t6, .ref x4])), (t2, .inl (cI, 8, .inl ft2)), (t3, .inl (cI, 8, .inl ft3)), (t4, .inl (cI, 8, .inl ft4)), (t5, .inl (cI, 4, .inl ft5)), (t6, .inl (cI, 4, .inl ft6)), (x7, .inr (3, [.ref hq, .int (nI o), .int (nI n)])), (dv, .inr (1, [.int i30, .int i31, .ref v2, .ref v3, .ref v4, .ref v5, .ref v6, .ref x4])), (v2, .inl (cI, 8, .inl f25)), (v3, .inl (cI, 8, .inl f26)), (v4, .inl (cI, 8, .inl f27)), (v5, .inl (cI, 4, .inl f28)), (v6, .inl (cI, 4, .inl f29)), (x6, .inr (1, [.int mib, .int cub, .ref b2, .ref b3, .ref b4, .ref b5, .ref b6, .ref x4])), (b2, .inl (cI, 8, .inl fb2)), (b3, .inl (cI, 8, .inl fb3)), (b4, .inl (cI, 8, .inl fb4)), (b5, .inl (cI, 4, .inl fb5)), (b6, .inl (cI, 4, .inl fb6))] H := ⟨hP, hD⟩
      have hP := hPD.1
      have hD := hPD.2
      clear hPD
      try dsimp only at hw24
      refine lv_aload_n hx hb dX10_keep_28 rfl (lv_at hl 0 rfl) ?_
      refine va_get (D := (dC, dI)) (ci := 10) (v := .ref x8) (C := RX10) (T := TX10) (N := 14) hx hb hts hi_X10 hown hK hP 0 rfl rfl 8 (by decide) (hts (.fieldLink RX10 56 "LeftQuills" "images" "LLeftQuills$Images;") (wmx 2 rfl)) (fun _ h9 => h9) e_h0_8 dX10_keep_29 ?_
      refine va_get (D := (dC, dI)) (ci := 4) (v := .ref i1) (C := RX4) (T := TX4) (N := 3) hx hb hts hi_X4 hown hK hP 1 rfl rfl 1 (by decide) (hts (.fieldLink RX10 297 "LeftQuills$Images" "seeds" "[I") (wmx 5 rfl)) (fun _ h9 => h9) e_x8_1 dX10_keep_32 ?_
      refine lv_iload_n hx hb dX10_keep_35 rfl (lv_at hl 1 rfl) ?_
      refine lv_aload_n hx hb dX10_keep_36 rfl (lv_at hl 0 rfl) ?_
      refine va_get (D := (dC, dI)) (ci := 10) (v := .int (nI sd)) (C := RX10) (T := TX10) (N := 14) hx hb hts hi_X10 hown hK hP 0 rfl rfl 3 (by decide) (hts (.fieldLink RX10 20 "LeftQuills" "seed" "I") (wmx 6 rfl)) (fun _ h9 => h9) e_h0_3 dX10_keep_37 ?_
      refine va_iast hx hb hK hP hD hS 3 0 rfl rfl (vp_in_iff.mpr ⟨by decide, by decide⟩) dX10_keep_40 (fun H locs hP hD hS => ?_)
      have hcl := (show ((1 : Int32)).toNatClampNeg = 1 from by decide)
      rw [hcl] at hP hD
      clear hcl
      have hPD : pdW (dC, dI) vwCl A [(h0, .inr (10, f_h0)), (x8, .inr (4, f_x8)), (i0, .inl (cQ, 2, .inr (.inr (.inr (.inr fi0))))), (i1, .inl (cI, 2, .inl (upd fi1 1 (nI sd)))), (i2, .inl (cZ, 2, .inl fi2)), (dt, .inr (1, [.int mit, .int cut, .ref t2, .ref t3, .ref t4, .ref t5, .ref t6, .ref x4])), (t2, .inl (cI, 8, .inl ft2)), (t3, .inl (cI, 8, .inl ft3)), (t4, .inl (cI, 8, .inl ft4)), (t5, .inl (cI, 4, .inl ft5)), (t6, .inl (cI, 4, .inl ft6)), (x7, .inr (3, [.ref hq, .int (nI o), .int (nI n)])), (dv, .inr (1, [.int i30, .int i31, .ref v2, .ref v3, .ref v4, .ref v5, .ref v6, .ref x4])), (v2, .inl (cI, 8, .inl f25)), (v3, .inl (cI, 8, .inl f26)), (v4, .inl (cI, 8, .inl f27)), (v5, .inl (cI, 4, .inl f28)), (v6, .inl (cI, 4, .inl f29)), (x6, .inr (1, [.int mib, .int cub, .ref b2, .ref b3, .ref b4, .ref b5, .ref b6, .ref x4])), (b2, .inl (cI, 8, .inl fb2)), (b3, .inl (cI, 8, .inl fb3)), (b4, .inl (cI, 8, .inl fb4)), (b5, .inl (cI, 4, .inl fb5)), (b6, .inl (cI, 4, .inl fb6))] H := ⟨hP, hD⟩
      have hP := hPD.1
      have hD := hPD.2
      clear hPD
      refine lv_aload_n hx hb dX10_keep_41 rfl (lv_at hl 0 rfl) ?_
      refine va_get (D := (dC, dI)) (ci := 10) (v := .ref x8) (C := RX10) (T := TX10) (N := 14) hx hb hts hi_X10 hown hK hP 0 rfl rfl 8 (by decide) (hts (.fieldLink RX10 56 "LeftQuills" "images" "LLeftQuills$Images;") (wmx 2 rfl)) (fun _ h9 => h9) e_h0_8 dX10_keep_42 ?_
      refine va_get (D := (dC, dI)) (ci := 4) (v := .ref i2) (C := RX4) (T := TX4) (N := 3) hx hb hts hi_X4 hown hK hP 1 rfl rfl 2 (by decide) (hts (.fieldLink RX10 300 "LeftQuills$Images" "kept" "[Z") (wmx 7 rfl)) (fun _ h9 => h9) e_x8_2 dX10_keep_45 ?_
      refine lv_iload_n hx hb dX10_keep_48 rfl (lv_at hl 1 rfl) ?_
      refine lv_iconst (v := 1) hx hb dX10_keep_49 (by decide) ?_
      refine va_zast hx hb hK hP hD hS 4 1 rfl rfl (vp_in_iff.mpr ⟨by decide, by decide⟩) dX10_keep_50 (fun H locs hP hD hS => ?_)
      have hcl := (show ((1 : Int32)).toNatClampNeg = 1 from by decide)
      rw [hcl] at hP hD
      clear hcl
      have hPD : pdW (dC, dI) vwCl A [(h0, .inr (10, f_h0)), (x8, .inr (4, f_x8)), (i0, .inl (cQ, 2, .inr (.inr (.inr (.inr fi0))))), (i1, .inl (cI, 2, .inl (upd fi1 1 (nI sd)))), (i2, .inl (cZ, 2, .inl (upd fi2 1 1))), (dt, .inr (1, [.int mit, .int cut, .ref t2, .ref t3, .ref t4, .ref t5, .ref t6, .ref x4])), (t2, .inl (cI, 8, .inl ft2)), (t3, .inl (cI, 8, .inl ft3)), (t4, .inl (cI, 8, .inl ft4)), (t5, .inl (cI, 4, .inl ft5)), (t6, .inl (cI, 4, .inl ft6)), (x7, .inr (3, [.ref hq, .int (nI o), .int (nI n)])), (dv, .inr (1, [.int i30, .int i31, .ref v2, .ref v3, .ref v4, .ref v5, .ref v6, .ref x4])), (v2, .inl (cI, 8, .inl f25)), (v3, .inl (cI, 8, .inl f26)), (v4, .inl (cI, 8, .inl f27)), (v5, .inl (cI, 4, .inl f28)), (v6, .inl (cI, 4, .inl f29)), (x6, .inr (1, [.int mib, .int cub, .ref b2, .ref b3, .ref b4, .ref b5, .ref b6, .ref x4])), (b2, .inl (cI, 8, .inl fb2)), (b3, .inl (cI, 8, .inl fb3)), (b4, .inl (cI, 8, .inl fb4)), (b5, .inl (cI, 4, .inl fb5)), (b6, .inl (cI, 4, .inl fb6))] H := ⟨hP, hD⟩
      have hP := hPD.1
      have hD := hPD.2
      clear hPD
      refine lv_aload_n hx hb dX10_keep_51 rfl (lv_at hl 0 rfl) ?_
      refine va_get (D := (dC, dI)) (ci := 10) (v := .ref x7) (C := RX10) (T := TX10) (N := 14) hx hb hts hi_X10 hown hK hP 0 rfl rfl 7 (by decide) (hts (.fieldLink RX10 49 "LeftQuills" "history" "LLeftQuills$History;") (wmx 8 rfl)) (fun _ h9 => h9) e_h0_7 dX10_keep_52 ?_
      have hc9 := va_cut (W' := [(x7, .inr (3, [.ref hq, .int (nI o), .int (nI n)]))]) hP hD hS hA [11] (by decide) rfl
      have hPc := hc9.1
      have hDc := hc9.2.1
      have hFc := hc9.2.2
      clear hc9
      refine va_callv (va_runV (As := []) (rest := []) ⟨hx, hb, hml, hown, hts⟩ (c_X3_forget l dC dI cI cZ cQ x7 hq o n H.size ) (cwV 0 hts gX10_keep_X3_forget rfl rfl rfl hd_X3_forget_RX3 ⟨Nat.le_of_ble_eq_true rfl, Nat.le_of_ble_eq_true rfl⟩) (pv_D (va_recv hK hP (ci := 3) (q0 := 11) rfl rfl) hK hPc hDc) rfl rfl hl.1 rfl (lv_room (Nat.le_of_ble_eq_true rfl)) dX10_keep_55 ⟨Nat.le_of_ble_eq_true rfl, Nat.le_of_ble_eq_true rfl⟩) hS (fun q _ h => hFc q h) hFc (fun u35 t H1 locs ht hvm hw36 hB hz1 hk1 hS => ?_)
      obtain ⟨k37, hk37, hP1, hD1⟩ := hB
      replace hP1 := va_hp ht hP1
      obtain ⟨hP, hD⟩ := va_join (wr := [(h0, .inr (10, f_h0)), (x8, .inr (4, f_x8)), (i0, .inl (cQ, 2, .inr (.inr (.inr (.inr fi0))))), (i1, .inl (cI, 2, .inl (upd fi1 1 (nI sd)))), (i2, .inl (cZ, 2, .inl (upd fi2 1 1))), (dt, .inr (1, [.int mit, .int cut, .ref t2, .ref t3, .ref t4, .ref t5, .ref t6, .ref x4])), (t2, .inl (cI, 8, .inl ft2)), (t3, .inl (cI, 8, .inl ft3)), (t4, .inl (cI, 8, .inl ft4)), (t5, .inl (cI, 4, .inl ft5)), (t6, .inl (cI, 4, .inl ft6)), (dv, .inr (1, [.int i30, .int i31, .ref v2, .ref v3, .ref v4, .ref v5, .ref v6, .ref x4])), (v2, .inl (cI, 8, .inl f25)), (v3, .inl (cI, 8, .inl f26)), (v4, .inl (cI, 8, .inl f27)), (v5, .inl (cI, 4, .inl f28)), (v6, .inl (cI, 4, .inl f29)), (x6, .inr (1, [.int mib, .int cub, .ref b2, .ref b3, .ref b4, .ref b5, .ref b6, .ref x4])), (b2, .inl (cI, 8, .inl fb2)), (b3, .inl (cI, 8, .inl fb3)), (b4, .inl (cI, 8, .inl fb4)), (b5, .inl (cI, 4, .inl fb5)), (b6, .inl (cI, 4, .inl fb6))]) (w1 := [(x7, .inr (3, [.ref hq, .int (nI o), .int (nI k37)]))]) hP hD [11] [0, 1, 2, 3, 4, 5, 6, 7, 8, 9, 10, 12, 13, 14, 15, 16, 17, 18, 19, 20, 21, 22, 23] rfl rfl (by decide +kernel) (by decide +kernel) hk1 hFc hP1 hD1
      clear hP1 hD1
      clear hz1 hk1 hPc hDc hFc
      generalize H1 = H at hP hS ht ⊢
      have hPD : pdW (dC, dI) vwCl A [(h0, .inr (10, f_h0)), (x8, .inr (4, f_x8)), (i0, .inl (cQ, 2, .inr (.inr (.inr (.inr fi0))))), (i1, .inl (cI, 2, .inl (upd fi1 1 (nI sd)))), (i2, .inl (cZ, 2, .inl (upd fi2 1 1))), (dt, .inr (1, [.int mit, .int cut, .ref t2, .ref t3, .ref t4, .ref t5, .ref t6, .ref x4])), (t2, .inl (cI, 8, .inl ft2)), (t3, .inl (cI, 8, .inl ft3)), (t4, .inl (cI, 8, .inl ft4)), (t5, .inl (cI, 4, .inl ft5)), (t6, .inl (cI, 4, .inl ft6)), (dv, .inr (1, [.int i30, .int i31, .ref v2, .ref v3, .ref v4, .ref v5, .ref v6, .ref x4])), (v2, .inl (cI, 8, .inl f25)), (v3, .inl (cI, 8, .inl f26)), (v4, .inl (cI, 8, .inl f27)), (v5, .inl (cI, 4, .inl f28)), (v6, .inl (cI, 4, .inl f29)), (x6, .inr (1, [.int mib, .int cub, .ref b2, .ref b3, .ref b4, .ref b5, .ref b6, .ref x4])), (b2, .inl (cI, 8, .inl fb2)), (b3, .inl (cI, 8, .inl fb3)), (b4, .inl (cI, 8, .inl fb4)), (b5, .inl (cI, 4, .inl fb5)), (b6, .inl (cI, 4, .inl fb6)), (x7, .inr (3, [.ref hq, .int (nI o), .int (nI k37)]))] H := ⟨hP, hD⟩
      have hP := hPD.1
      have hD := hPD.2
      clear hPD
      try dsimp only at hw36
      refine lv_iconst (v := 1) hx hb dX10_keep_58 (by decide) ?_
      have hP9 := hP.sub (ws' := [(h0, .inr (10, f_h0)), (x8, .inr (4, f_x8)), (i0, .inl (cQ, 2, .inr (.inr (.inr (.inr fi0))))), (i1, .inl (cI, 2, .inl (upd fi1 1 (nI sd)))), (i2, .inl (cZ, 2, .inl (upd fi2 1 1))), (x6, .inr (1, [.int mib, .int cub, .ref b2, .ref b3, .ref b4, .ref b5, .ref b6, .ref x4])), (b2, .inl (cI, 8, .inl fb2)), (b3, .inl (cI, 8, .inl fb3)), (b4, .inl (cI, 8, .inl fb4)), (b5, .inl (cI, 4, .inl fb5)), (b6, .inl (cI, 4, .inl fb6)), (dt, .inr (1, [.int mit, .int cut, .ref t2, .ref t3, .ref t4, .ref t5, .ref t6, .ref x4])), (t2, .inl (cI, 8, .inl ft2)), (t3, .inl (cI, 8, .inl ft3)), (t4, .inl (cI, 8, .inl ft4)), (t5, .inl (cI, 4, .inl ft5)), (t6, .inl (cI, 4, .inl ft6)), (dv, .inr (1, [.int i30, .int i31, .ref v2, .ref v3, .ref v4, .ref v5, .ref v6, .ref x4])), (v2, .inl (cI, 8, .inl f25)), (v3, .inl (cI, 8, .inl f26)), (v4, .inl (cI, 8, .inl f27)), (v5, .inl (cI, 4, .inl f28)), (v6, .inl (cI, 4, .inl f29)), (x7, .inr (3, [.ref hq, .int (nI o), .int (nI k37)]))]) [0, 1, 2, 3, 4, 17, 18, 19, 20, 21, 22, 5, 6, 7, 8, 9, 10, 11, 12, 13, 14, 15, 16, 23] rfl
      have hD9 := hD.sub (ws' := [(h0, .inr (10, f_h0)), (x8, .inr (4, f_x8)), (i0, .inl (cQ, 2, .inr (.inr (.inr (.inr fi0))))), (i1, .inl (cI, 2, .inl (upd fi1 1 (nI sd)))), (i2, .inl (cZ, 2, .inl (upd fi2 1 1))), (x6, .inr (1, [.int mib, .int cub, .ref b2, .ref b3, .ref b4, .ref b5, .ref b6, .ref x4])), (b2, .inl (cI, 8, .inl fb2)), (b3, .inl (cI, 8, .inl fb3)), (b4, .inl (cI, 8, .inl fb4)), (b5, .inl (cI, 4, .inl fb5)), (b6, .inl (cI, 4, .inl fb6)), (dt, .inr (1, [.int mit, .int cut, .ref t2, .ref t3, .ref t4, .ref t5, .ref t6, .ref x4])), (t2, .inl (cI, 8, .inl ft2)), (t3, .inl (cI, 8, .inl ft3)), (t4, .inl (cI, 8, .inl ft4)), (t5, .inl (cI, 4, .inl ft5)), (t6, .inl (cI, 4, .inl ft6)), (dv, .inr (1, [.int i30, .int i31, .ref v2, .ref v3, .ref v4, .ref v5, .ref v6, .ref x4])), (v2, .inl (cI, 8, .inl f25)), (v3, .inl (cI, 8, .inl f26)), (v4, .inl (cI, 8, .inl f27)), (v5, .inl (cI, 4, .inl f28)), (v6, .inl (cI, 4, .inl f29)), (x7, .inr (3, [.ref hq, .int (nI o), .int (nI k37)]))]) [0, 1, 2, 3, 4, 17, 18, 19, 20, 21, 22, 5, 6, 7, 8, 9, 10, 11, 12, 13, 14, 15, 16, 23] (by decide +kernel) rfl
      exact W.iret (v := 1) hx hb hr (fun t ht hW => ⟨⟨1, (fun _ => 0), rfl, (if_pos hw3).symm, ⟨(upd fi1 1 (nI sd)), (upd fi2 1 1), ft2, ft3, ft4, ft5, ft6, f25, f26, f27, f28, f29, mit, cut, i30, i31, k37, by omega, sIn_up hsi (by omega), ((if_pos hw3).symm), va_hq ht hP9, hD9⟩⟩, hS.F ht⟩) hS.2.2 dX10_keep_59
  ·
    refine lv_if_ne (tgt := 12) hx hb dX10_keep_6 (by decide) (fun c38 => ?_) (fun c38 => ?_)
    · exact absurd c38 (by decide)
    clear c38
    refine lv_ldc (v := (-1000000001)) hx hb hown (hts (.constant RX10 160 (-1000000001)) (wmx 1 rfl)) dX10_keep_9 ?_
    have hP9 := hP.sub (ws' := [(h0, .inr (10, f_h0)), (x8, .inr (4, f_x8)), (i0, .inl (cQ, 2, .inr (.inr (.inr (.inr fi0))))), (i1, .inl (cI, 2, .inl fi1)), (i2, .inl (cZ, 2, .inl fi2)), (x6, .inr (1, [.int mib, .int cub, .ref b2, .ref b3, .ref b4, .ref b5, .ref b6, .ref x4])), (b2, .inl (cI, 8, .inl fb2)), (b3, .inl (cI, 8, .inl fb3)), (b4, .inl (cI, 8, .inl fb4)), (b5, .inl (cI, 4, .inl fb5)), (b6, .inl (cI, 4, .inl fb6)), (dt, .inr (1, [.int mit, .int cut, .ref t2, .ref t3, .ref t4, .ref t5, .ref t6, .ref x4])), (t2, .inl (cI, 8, .inl ft2)), (t3, .inl (cI, 8, .inl ft3)), (t4, .inl (cI, 8, .inl ft4)), (t5, .inl (cI, 4, .inl ft5)), (t6, .inl (cI, 4, .inl ft6)), (dv, .inr (1, [.int miv, .int cuv, .ref v2, .ref v3, .ref v4, .ref v5, .ref v6, .ref x4])), (v2, .inl (cI, 8, .inl fv2)), (v3, .inl (cI, 8, .inl fv3)), (v4, .inl (cI, 8, .inl fv4)), (v5, .inl (cI, 4, .inl fv5)), (v6, .inl (cI, 4, .inl fv6)), (x7, .inr (3, [.ref hq, .int (nI o), .int (nI n)]))]) [0, 1, 2, 3, 4, 5, 6, 7, 8, 9, 10, 11, 12, 13, 14, 15, 16, 17, 18, 19, 20, 21, 22, 23] rfl
    have hD9 := hD.sub (ws' := [(h0, .inr (10, f_h0)), (x8, .inr (4, f_x8)), (i0, .inl (cQ, 2, .inr (.inr (.inr (.inr fi0))))), (i1, .inl (cI, 2, .inl fi1)), (i2, .inl (cZ, 2, .inl fi2)), (x6, .inr (1, [.int mib, .int cub, .ref b2, .ref b3, .ref b4, .ref b5, .ref b6, .ref x4])), (b2, .inl (cI, 8, .inl fb2)), (b3, .inl (cI, 8, .inl fb3)), (b4, .inl (cI, 8, .inl fb4)), (b5, .inl (cI, 4, .inl fb5)), (b6, .inl (cI, 4, .inl fb6)), (dt, .inr (1, [.int mit, .int cut, .ref t2, .ref t3, .ref t4, .ref t5, .ref t6, .ref x4])), (t2, .inl (cI, 8, .inl ft2)), (t3, .inl (cI, 8, .inl ft3)), (t4, .inl (cI, 8, .inl ft4)), (t5, .inl (cI, 4, .inl ft5)), (t6, .inl (cI, 4, .inl ft6)), (dv, .inr (1, [.int miv, .int cuv, .ref v2, .ref v3, .ref v4, .ref v5, .ref v6, .ref x4])), (v2, .inl (cI, 8, .inl fv2)), (v3, .inl (cI, 8, .inl fv3)), (v4, .inl (cI, 8, .inl fv4)), (v5, .inl (cI, 4, .inl fv5)), (v6, .inl (cI, 4, .inl fv6)), (x7, .inr (3, [.ref hq, .int (nI o), .int (nI n)]))]) [0, 1, 2, 3, 4, 5, 6, 7, 8, 9, 10, 11, 12, 13, 14, 15, 16, 17, 18, 19, 20, 21, 22, 23] (by decide +kernel) rfl
    exact W.iret (v := (-1000000001)) hx hb hr (fun t ht hW => ⟨⟨(-1000000001), (fun _ => 0), rfl, (if_neg hw3).symm, ⟨fi1, fi2, ft2, ft3, ft4, ft5, ft6, fv2, fv3, fv4, fv5, fv6, mit, cut, miv, cuv, n, by omega, hsi, ((if_neg hw3).symm), va_hq ht hP9, hD9⟩⟩, hS.F ht⟩) hS.2.2 dX10_keep_11
set_option maxHeartbeats 4000000 in
set_option maxRecDepth 100000 in
theorem c_X11_keepF (l : Launch) (dC : Nat → ClassId) (dI : Nat → Nat → Nat) (cI cZ cQ : ClassId) (h0 : Nat) (n0 : Int32) (n1 : Int32) (nq : Nat) (m3 : Nat) (m4 : Nat) (m5 : Nat) (nh : Nat) (m7 : Nat) (m8 : Nat) (m9 : Nat) (m10 : Nat) (sd : Nat) (m12 : Nat) (tx : Nat) (n14 : Int32) (at9 : Nat) (n16 : Int32) (n17 : Int32) (m18 : Nat) (rq : Nat) (m20 : Nat) (m21 : Nat) (m22 : Nat) (m23 : Nat) (m24 : Nat) (rh : Nat) (m26 : Nat) (m27 : Nat) (m28 : Nat) (un : Nat) (m30 : Nat) (n31 : Int32) (n32 : Int32) (m33 : Nat) (n34 : Int32) (n35 : Int32) (m36 : Nat) (wm : Nat) (m38 : Nat) (m39 : Nat) (m40 : Nat) (bk : Nat) (m42 : Nat) (m43 : Nat) (m44 : Nat) (m45 : Nat) (fm10 : Nat → Int32) (fm44 : Nat → Int32) (fm45 : Nat → Int32) (q0 : Int32) (sz : Nat) (hmi : mIn fm44) (hsd : sd ≤ 2147483647) (hun : un ≤ 20) : Met l yX11_keep wsX11_keep ({ frames := 1, cells := 0, slots := 0, locals := 65 }) (va_Pc [.ref h0, .int q0] (fun U => U.heap.size = sz ∧ va_P (dC, dI) vwCl [(h0, .inr (11, (.int n0 :: .int n1 :: .int (nI nq) :: .ref m3 :: .ref m4 :: .ref m5 :: .int (nI nh) :: .ref m7 :: .ref m8 :: .ref m9 :: .ref m10 :: .int (nI sd) :: .ref m12 :: .int (nI tx) :: .int n14 :: .int (nI at9) :: .int n16 :: .int n17 :: .ref m18 :: .int (nI rq) :: .ref m20 :: .ref m21 :: .ref m22 :: .ref m23 :: .ref m24 :: .int (nI rh) :: .ref m26 :: .ref m27 :: .ref m28 :: .int (nI un) :: .ref m30 :: .int n31 :: .int n32 :: .ref m33 :: .int n34 :: .int n35 :: .ref m36 :: .int (nI wm) :: .ref m38 :: .ref m39 :: .ref m40 :: .int (nI bk) :: .ref m42 :: .ref m43 :: .ref m44 :: .ref m45 :: []))), (m10, .inl (cI, 34, .inl fm10)), (m44, .inl (cI, 70, .inl fm44)), (m45, .inl (cZ, 2, .inl fm45))] U.heap ∧ va_K (dC, dI) vwCl (tys0 cI cZ cQ) U ∧ va_D (fun _ => True) [(h0, .inr (11, (.int n0 :: .int n1 :: .int (nI nq) :: .ref m3 :: .ref m4 :: .ref m5 :: .int (nI nh) :: .ref m7 :: .ref m8 :: .ref m9 :: .ref m10 :: .int (nI sd) :: .ref m12 :: .int (nI tx) :: .int n14 :: .int (nI at9) :: .int n16 :: .int n17 :: .ref m18 :: .int (nI rq) :: .ref m20 :: .ref m21 :: .ref m22 :: .ref m23 :: .ref m24 :: .int (nI rh) :: .ref m26 :: .ref m27 :: .ref m28 :: .int (nI un) :: .ref m30 :: .int n31 :: .int n32 :: .ref m33 :: .int n34 :: .int n35 :: .ref m36 :: .int (nI wm) :: .ref m38 :: .ref m39 :: .ref m40 :: .int (nI bk) :: .ref m42 :: .ref m43 :: .ref m44 :: .ref m45 :: []))), (m10, .inl (cI, 34, .inl fm10)), (m44, .inl (cI, 70, .inl fm44)), (m45, .inl (cZ, 2, .inl fm45))])) (va_Qi (fun (r : Int32) (u : Nat → Nat) => r = if 0 ≤ q0 ∧ q0 ≤ 1 then 1 else (-1000000001)) (fun (_ : Nat → Nat) (t : State) => ∃ (gg0 gg1 : Nat → Int32) (kk0 : Nat), kk0 ≤ 20 ∧ (mIn gg0) ∧ (gg1 = keptT q0 fm45) ∧ va_P (dC, dI) vwCl [(h0, .inr (11, (.int n0 :: .int n1 :: .int (nI nq) :: .ref m3 :: .ref m4 :: .ref m5 :: .int (nI nh) :: .ref m7 :: .ref m8 :: .ref m9 :: .ref m10 :: .int (nI sd) :: .ref m12 :: .int (nI tx) :: .int n14 :: .int (nI at9) :: .int n16 :: .int n17 :: .ref m18 :: .int (nI rq) :: .ref m20 :: .ref m21 :: .ref m22 :: .ref m23 :: .ref m24 :: .int (nI rh) :: .ref m26 :: .ref m27 :: .ref m28 :: .int (nI kk0) :: .ref m30 :: .int n31 :: .int n32 :: .ref m33 :: .int n34 :: .int n35 :: .ref m36 :: .int (nI wm) :: .ref m38 :: .ref m39 :: .ref m40 :: .int (nI bk) :: .ref m42 :: .ref m43 :: .ref m44 :: .ref m45 :: []))), (m10, .inl (cI, 34, .inl fm10)), (m44, .inl (cI, 70, .inl gg0)), (m45, .inl (cZ, 2, .inl gg1))] t.heap ∧ va_D (va_A [(h0, .inr (11, (.int n0 :: .int n1 :: .int (nI nq) :: .ref m3 :: .ref m4 :: .ref m5 :: .int (nI nh) :: .ref m7 :: .ref m8 :: .ref m9 :: .ref m10 :: .int (nI sd) :: .ref m12 :: .int (nI tx) :: .int n14 :: .int (nI at9) :: .int n16 :: .int n17 :: .ref m18 :: .int (nI rq) :: .ref m20 :: .ref m21 :: .ref m22 :: .ref m23 :: .ref m24 :: .int (nI rh) :: .ref m26 :: .ref m27 :: .ref m28 :: .int (nI un) :: .ref m30 :: .int n31 :: .int n32 :: .ref m33 :: .int n34 :: .int n35 :: .ref m36 :: .int (nI wm) :: .ref m38 :: .ref m39 :: .ref m40 :: .int (nI bk) :: .ref m42 :: .ref m43 :: .ref m44 :: .ref m45 :: []))), (m10, .inl (cI, 34, .inl fm10)), (m44, .inl (cI, 70, .inl fm44)), (m45, .inl (cZ, 2, .inl fm45))] sz) [(h0, .inr (11, (.int n0 :: .int n1 :: .int (nI nq) :: .ref m3 :: .ref m4 :: .ref m5 :: .int (nI nh) :: .ref m7 :: .ref m8 :: .ref m9 :: .ref m10 :: .int (nI sd) :: .ref m12 :: .int (nI tx) :: .int n14 :: .int (nI at9) :: .int n16 :: .int n17 :: .ref m18 :: .int (nI rq) :: .ref m20 :: .ref m21 :: .ref m22 :: .ref m23 :: .ref m24 :: .int (nI rh) :: .ref m26 :: .ref m27 :: .ref m28 :: .int (nI kk0) :: .ref m30 :: .int n31 :: .int n32 :: .ref m33 :: .int n34 :: .int n35 :: .ref m36 :: .int (nI wm) :: .ref m38 :: .ref m39 :: .ref m40 :: .int (nI bk) :: .ref m42 :: .ref m43 :: .ref m44 :: .ref m45 :: []))), (m10, .inl (cI, 34, .inl fm10)), (m44, .inl (cI, 70, .inl gg0)), (m45, .inl (cZ, 2, .inl gg1))]) (va_A [(h0, .inr (11, (.int n0 :: .int n1 :: .int (nI nq) :: .ref m3 :: .ref m4 :: .ref m5 :: .int (nI nh) :: .ref m7 :: .ref m8 :: .ref m9 :: .ref m10 :: .int (nI sd) :: .ref m12 :: .int (nI tx) :: .int n14 :: .int (nI at9) :: .int n16 :: .int n17 :: .ref m18 :: .int (nI rq) :: .ref m20 :: .ref m21 :: .ref m22 :: .ref m23 :: .ref m24 :: .int (nI rh) :: .ref m26 :: .ref m27 :: .ref m28 :: .int (nI un) :: .ref m30 :: .int n31 :: .int n32 :: .ref m33 :: .int n34 :: .int n35 :: .ref m36 :: .int (nI wm) :: .ref m38 :: .ref m39 :: .ref m40 :: .int (nI bk) :: .ref m42 :: .ref m43 :: .ref m44 :: .ref m45 :: []))), (m10, .inl (cI, 34, .inl fm10)), (m44, .inl (cI, 70, .inl fm44)), (m45, .inl (cZ, 2, .inl fm45))] sz)) 0 0 (va_A [(h0, .inr (11, (.int n0 :: .int n1 :: .int (nI nq) :: .ref m3 :: .ref m4 :: .ref m5 :: .int (nI nh) :: .ref m7 :: .ref m8 :: .ref m9 :: .ref m10 :: .int (nI sd) :: .ref m12 :: .int (nI tx) :: .int n14 :: .int (nI at9) :: .int n16 :: .int n17 :: .ref m18 :: .int (nI rq) :: .ref m20 :: .ref m21 :: .ref m22 :: .ref m23 :: .ref m24 :: .int (nI rh) :: .ref m26 :: .ref m27 :: .ref m28 :: .int (nI un) :: .ref m30 :: .int n31 :: .int n32 :: .ref m33 :: .int n34 :: .int n35 :: .ref m36 :: .int (nI wm) :: .ref m38 :: .ref m39 :: .ref m40 :: .int (nI bk) :: .ref m42 :: .ref m43 :: .ref m44 :: .ref m45 :: []))), (m10, .inl (cI, 34, .inl fm10)), (m44, .inl (cI, 70, .inl fm44)), (m45, .inl (cZ, 2, .inl fm45))] sz) := by
  refine Met.ofW (cc := cX11_keep) (maxL := 3) (ret := (some .int)) (by decide) rfl ?_
  intro p e s m args below meth c s₁ B hml hv
  obtain ⟨rfl, hsz, hP, hK, hD0⟩ := hv
  have hx := B.exec
  have hb := B.bytes
  have hr := B.returns
  have hts := atoms_spec (ws := wsX11_keep) B.pre
  have hown : s.vm.findClass RX11 = some m.cls := findClass_of_methodNamed B.named
  have hlocks := B.notSynchronized
  have hi_X11 : ∀ w ∈ u_ws RX11 TX11 46, w ∈ wsX11_keep := fun _ h => List.mem_cons_of_mem _ (List.mem_append_right _ (h))
  subst hsz
  have hD := hD0.self (sz := s.heap.size)
  generalize hAe : va_A [(h0, .inr (11, (.int n0 :: .int n1 :: .int (nI nq) :: .ref m3 :: .ref m4 :: .ref m5 :: .int (nI nh) :: .ref m7 :: .ref m8 :: .ref m9 :: .ref m10 :: .int (nI sd) :: .ref m12 :: .int (nI tx) :: .int n14 :: .int (nI at9) :: .int n16 :: .int n17 :: .ref m18 :: .int (nI rq) :: .ref m20 :: .ref m21 :: .ref m22 :: .ref m23 :: .ref m24 :: .int (nI rh) :: .ref m26 :: .ref m27 :: .ref m28 :: .int (nI un) :: .ref m30 :: .int n31 :: .int n32 :: .ref m33 :: .int n34 :: .int n35 :: .ref m36 :: .int (nI wm) :: .ref m38 :: .ref m39 :: .ref m40 :: .int (nI bk) :: .ref m42 :: .ref m43 :: .ref m44 :: .ref m45 :: []))), (m10, .inl (cI, 34, .inl fm10)), (m44, .inl (cI, 70, .inl fm44)), (m45, .inl (cZ, 2, .inl fm45))] s.heap.size = A at hD ⊢
  have hA : ∀ q : Nat, s.heap.size ≤ q → A q := fun q h => by rw [← hAe]; exact Or.inr h
  have hS : va_S A s.heap s.heap [] := va_S.rf
  have hl := lv_entry ([.ref h0, .int q0]) (n := 3) (Nat.le_of_ble_eq_true rfl)
  rw [lg_entry_eq]
  generalize (lg_sl ([.ref h0, .int q0]) ++ List.replicate (3 - (lg_sl ([.ref h0, .int q0])).length) Slot.unset).toArray = ls at hl ⊢
  have hl : lv_has ls 3 [(0, .ref h0), (1, .int q0)] := hl
  refine lv_iload_n hx hb dX11_keep_0 rfl (lv_at hl 1 rfl) ?_
  refine lv_i2l hx hb dX11_keep_1 rfl ?_
  refine lv_lconst (v := 0) hx hb dX11_keep_2 (by decide) ?_
  refine lv_topl (fun z1 ez1 => ?_)
  obtain rfl : z1 = (0 : Int32).toInt64 := ez1.trans (by decide)
  refine lv_lconst (v := 1) hx hb dX11_keep_3 (by decide) ?_
  refine lv_topl (fun z2 ez2 => ?_)
  obtain rfl : z2 = (1 : Int32).toInt64 := ez2.trans (by decide)
  have hPc := hP.sub (ws' := []) [] rfl
  refine va_calli (va_runS (As := [.long q0.toInt64, .long ((0 : Int32).toInt64), .long ((1 : Int32).toInt64)]) (rest := []) ⟨hx, hb, hml, hown, hts⟩ (c_X11_in l dC dI cI cZ cQ q0 0 1 s.heap.size ) (va_cwS 3 hts gX11_keep_X11_in rfl rfl rfl (by decide +kernel) ⟨Nat.le_of_ble_eq_true rfl, Nat.le_of_ble_eq_true rfl⟩) (ps_R hK hPc) rfl rfl hl.1 rfl (lv_room (Nat.le_of_ble_eq_true rfl)) dX11_keep_4 ⟨Nat.le_of_ble_eq_true rfl, Nat.le_of_ble_eq_true rfl⟩) hS (fun q _ h => False.elim h) (fun q h => False.elim h) (fun r3 u4 t H1 locs ht hvm hw5 hB hz1 hk1 hS => ?_)
  have hP := hP.kept (fun k q hk => hk1 q.1 (hP k q hk).lt (fun h => h))
  clear hz1 hk1 hPc
  generalize H1 = H at hP hS ht ⊢
  try dsimp only at hw5
  rcases hw5 with ⟨rfl, hw5⟩ | ⟨rfl, hw5⟩
  ·
    rcases x_01 hw5 with rfl | rfl
    ·
      refine lv_if_ne (tgt := 13) hx hb dX11_keep_7 (by decide) (fun c6 => ?_) (fun c6 => ?_)
      rotate_left
      · exact absurd c6 (by decide)
      clear c6
      refine lv_iconst (v := 0) hx hb dX11_keep_13 (by decide) ?_
      refine lv_istore_n (lv' := [(2, .int 0), (0, .ref h0), (1, .int 0)]) hx hb dX11_keep_14 rfl hl (by decide) rfl (fun ls hl => ?_)
      refine (fun (K : ∀ (d15 : Nat) (k15 : Nat) (f15_m44 : Nat → Int32) (H : Heap) (locs : List Loc) (ls : Array Slot), k15 + d15 = 34 → mIn f15_m44 → va_P (dC, dI) vwCl [(h0, .inr (11, (.int n0 :: .int n1 :: .int (nI nq) :: .ref m3 :: .ref m4 :: .ref m5 :: .int (nI nh) :: .ref m7 :: .ref m8 :: .ref m9 :: .ref m10 :: .int (nI sd) :: .ref m12 :: .int (nI tx) :: .int n14 :: .int (nI at9) :: .int n16 :: .int n17 :: .ref m18 :: .int (nI rq) :: .ref m20 :: .ref m21 :: .ref m22 :: .ref m23 :: .ref m24 :: .int (nI rh) :: .ref m26 :: .ref m27 :: .ref m28 :: .int (nI un) :: .ref m30 :: .int n31 :: .int n32 :: .ref m33 :: .int n34 :: .int n35 :: .ref m36 :: .int (nI wm) :: .ref m38 :: .ref m39 :: .ref m40 :: .int (nI bk) :: .ref m42 :: .ref m43 :: .ref m44 :: .ref m45 :: []))), (m10, .inl (cI, 34, .inl fm10)), (m44, .inl (cI, 70, .inl f15_m44)), (m45, .inl (cZ, 2, .inl fm45))] H → va_D A [(h0, .inr (11, (.int n0 :: .int n1 :: .int (nI nq) :: .ref m3 :: .ref m4 :: .ref m5 :: .int (nI nh) :: .ref m7 :: .ref m8 :: .ref m9 :: .ref m10 :: .int (nI sd) :: .ref m12 :: .int (nI tx) :: .int n14 :: .int (nI at9) :: .int n16 :: .int n17 :: .ref m18 :: .int (nI rq) :: .ref m20 :: .ref m21 :: .ref m22 :: .ref m23 :: .ref m24 :: .int (nI rh) :: .ref m26 :: .ref m27 :: .ref m28 :: .int (nI un) :: .ref m30 :: .int n31 :: .int n32 :: .ref m33 :: .int n34 :: .int n35 :: .ref m36 :: .int (nI wm) :: .ref m38 :: .ref m39 :: .ref m40 :: .int (nI bk) :: .ref m42 :: .ref m43 :: .ref m44 :: .ref m45 :: []))), (m10, .inl (cI, 34, .inl fm10)), (m44, .inl (cI, 70, .inl f15_m44)), (m45, .inl (cZ, 2, .inl fm45))] → va_S A s.heap H locs → lv_has ls 3 [(2, .int (nI k15)), (0, .ref h0), (1, .int 0)] → W p l e _ s m _ below meth c H locs _ _ _ (F0 m 15 ls [])) => K 34 0 fm44 _ _ _ (by omega) hmi hP hD hS (lv_sub hl [0, 1, 2] rfl)) ?_
      intro d15
      induction d15 with
      | zero =>
        intro k15 f15_m44 H locs ls hk15 hv15_0 hP hD hS hl
        refine lv_iload_n hx hb dX11_keep_15 rfl (lv_at hl 0 rfl) ?_
        refine lv_bipush (v := 34) hx hb dX11_keep_16 (by decide) ?_
        refine lv_icmp_ge (tgt := 44) hx hb dX11_keep_18 (by decide) (fun c7 => ?_) (fun c7 => ?_)
        ·
          have c7 : 34 ≤ k15 := (nI_leI (a := 34) (b := k15) (by omega) (by omega)).mp c7
          refine lv_aload_n hx hb dX11_keep_44 rfl (lv_at hl 1 rfl) ?_
          refine va_get (D := (dC, dI)) (ci := 11) (v := .ref m44) (C := RX11) (T := TX11) (N := 46) hx hb hts hi_X11 hown hK hP 0 rfl rfl 44 (by decide) (hts (.fieldLink RX11 89 "LeftQuillsModel" "images" "[I") (wmx 2 rfl)) (fun _ h9 => h9) rfl dX11_keep_45 ?_
          refine lv_bipush (v := 35) hx hb dX11_keep_48 (by decide) ?_
          refine lv_iload_n hx hb dX11_keep_50 rfl (lv_at hl 2 rfl) ?_
          refine lv_imul hx hb dX11_keep_51 ?_
          refine lv_topi (fun z8 ez8 => ?_)
          obtain rfl : z8 = 0 := ez8.trans (by decide)
          refine lv_bipush (v := 34) hx hb dX11_keep_52 (by decide) ?_
          refine lv_iadd hx hb dX11_keep_54 ?_
          refine lv_topi (fun z9 ez9 => ?_)
          obtain rfl : z9 = 34 := ez9.trans (by decide)
          refine lv_aload_n hx hb dX11_keep_55 rfl (lv_at hl 1 rfl) ?_
          refine va_get (D := (dC, dI)) (ci := 11) (v := .int (nI sd)) (C := RX11) (T := TX11) (N := 46) hx hb hts hi_X11 hown hK hP 0 rfl rfl 11 (by decide) (hts (.fieldLink RX11 241 "LeftQuillsModel" "seed" "I") (wmx 4 rfl)) (fun _ h9 => h9) rfl dX11_keep_56 ?_
          refine va_iast hx hb hK hP hD hS 2 0 rfl rfl (vp_in_iff.mpr ⟨by decide, by decide⟩) dX11_keep_59 (fun H locs hP hD hS => ?_)
          have hcl := (show ((34 : Int32)).toNatClampNeg = 34 from by decide)
          rw [hcl] at hP hD
          clear hcl
          have hPD : pdW (dC, dI) vwCl A [(h0, .inr (11, (.int n0 :: .int n1 :: .int (nI nq) :: .ref m3 :: .ref m4 :: .ref m5 :: .int (nI nh) :: .ref m7 :: .ref m8 :: .ref m9 :: .ref m10 :: .int (nI sd) :: .ref m12 :: .int (nI tx) :: .int n14 :: .int (nI at9) :: .int n16 :: .int n17 :: .ref m18 :: .int (nI rq) :: .ref m20 :: .ref m21 :: .ref m22 :: .ref m23 :: .ref m24 :: .int (nI rh) :: .ref m26 :: .ref m27 :: .ref m28 :: .int (nI un) :: .ref m30 :: .int n31 :: .int n32 :: .ref m33 :: .int n34 :: .int n35 :: .ref m36 :: .int (nI wm) :: .ref m38 :: .ref m39 :: .ref m40 :: .int (nI bk) :: .ref m42 :: .ref m43 :: .ref m44 :: .ref m45 :: []))), (m10, .inl (cI, 34, .inl fm10)), (m44, .inl (cI, 70, .inl (upd f15_m44 34 (nI sd)))), (m45, .inl (cZ, 2, .inl fm45))] H := ⟨hP, hD⟩
          have hP := hPD.1
          have hD := hPD.2
          clear hPD
          refine lv_aload_n hx hb dX11_keep_60 rfl (lv_at hl 1 rfl) ?_
          refine va_get (D := (dC, dI)) (ci := 11) (v := .ref m45) (C := RX11) (T := TX11) (N := 46) hx hb hts hi_X11 hown hK hP 0 rfl rfl 45 (by decide) (hts (.fieldLink RX11 92 "LeftQuillsModel" "isKept" "[Z") (wmx 5 rfl)) (fun _ h9 => h9) rfl dX11_keep_61 ?_
          refine lv_iload_n hx hb dX11_keep_64 rfl (lv_at hl 2 rfl) ?_
          refine lv_iconst (v := 1) hx hb dX11_keep_65 (by decide) ?_
          refine va_zast hx hb hK hP hD hS 3 1 rfl rfl (vp_in_iff.mpr ⟨by decide, by decide⟩) dX11_keep_66 (fun H locs hP hD hS => ?_)
          have hcl := (show ((0 : Int32)).toNatClampNeg = 0 from by decide)
          rw [hcl] at hP hD
          clear hcl
          have hPD : pdW (dC, dI) vwCl A [(h0, .inr (11, (.int n0 :: .int n1 :: .int (nI nq) :: .ref m3 :: .ref m4 :: .ref m5 :: .int (nI nh) :: .ref m7 :: .ref m8 :: .ref m9 :: .ref m10 :: .int (nI sd) :: .ref m12 :: .int (nI tx) :: .int n14 :: .int (nI at9) :: .int n16 :: .int n17 :: .ref m18 :: .int (nI rq) :: .ref m20 :: .ref m21 :: .ref m22 :: .ref m23 :: .ref m24 :: .int (nI rh) :: .ref m26 :: .ref m27 :: .ref m28 :: .int (nI un) :: .ref m30 :: .int n31 :: .int n32 :: .ref m33 :: .int n34 :: .int n35 :: .ref m36 :: .int (nI wm) :: .ref m38 :: .ref m39 :: .ref m40 :: .int (nI bk) :: .ref m42 :: .ref m43 :: .ref m44 :: .ref m45 :: []))), (m10, .inl (cI, 34, .inl fm10)), (m44, .inl (cI, 70, .inl (upd f15_m44 34 (nI sd)))), (m45, .inl (cZ, 2, .inl (upd fm45 0 1)))] H := ⟨hP, hD⟩
          have hP := hPD.1
          have hD := hPD.2
          clear hPD
          refine lv_aload_n hx hb dX11_keep_67 rfl (lv_at hl 1 rfl) ?_
          refine lv_iconst (v := 0) hx hb dX11_keep_68 (by decide) ?_
          refine va_put (D := (dC, dI)) (ci := 11) (v := .int 0) (ty := .int) (C := RX11) (T := TX11) (N := 46) hx hb hts hi_X11 tyX11 tyX11_ok nmX11 hown hK hP hD hS 0 rfl rfl 29 (by decide) (hts (.fieldLink RX11 174 "LeftQuillsModel" "undos" "I") (wmx 6 rfl)) (fun _ h9 => h9) rfl (by decide +kernel) rfl rfl (Nat.le_of_ble_eq_true rfl) dX11_keep_69 (fun H locs hP hD hS => ?_)
          have hPD : pdW (dC, dI) vwCl A [(h0, .inr (11, (.int n0 :: .int n1 :: .int (nI nq) :: .ref m3 :: .ref m4 :: .ref m5 :: .int (nI nh) :: .ref m7 :: .ref m8 :: .ref m9 :: .ref m10 :: .int (nI sd) :: .ref m12 :: .int (nI tx) :: .int n14 :: .int (nI at9) :: .int n16 :: .int n17 :: .ref m18 :: .int (nI rq) :: .ref m20 :: .ref m21 :: .ref m22 :: .ref m23 :: .ref m24 :: .int (nI rh) :: .ref m26 :: .ref m27 :: .ref m28 :: .int 0 :: .ref m30 :: .int n31 :: .int n32 :: .ref m33 :: .int n34 :: .int n35 :: .ref m36 :: .int (nI wm) :: .ref m38 :: .ref m39 :: .ref m40 :: .int (nI bk) :: .ref m42 :: .ref m43 :: .ref m44 :: .ref m45 :: []))), (m10, .inl (cI, 34, .inl fm10)), (m44, .inl (cI, 70, .inl (upd f15_m44 34 (nI sd)))), (m45, .inl (cZ, 2, .inl (upd fm45 0 1)))] H := ⟨hP, hD⟩
          have hP := hPD.1
          have hD := hPD.2
          clear hPD
          refine lv_iconst (v := 1) hx hb dX11_keep_72 (by decide) ?_
          have hP9 := hP.sub (ws' := [(h0, .inr (11, (.int n0 :: .int n1 :: .int (nI nq) :: .ref m3 :: .ref m4 :: .ref m5 :: .int (nI nh) :: .ref m7 :: .ref m8 :: .ref m9 :: .ref m10 :: .int (nI sd) :: .ref m12 :: .int (nI tx) :: .int n14 :: .int (nI at9) :: .int n16 :: .int n17 :: .ref m18 :: .int (nI rq) :: .ref m20 :: .ref m21 :: .ref m22 :: .ref m23 :: .ref m24 :: .int (nI rh) :: .ref m26 :: .ref m27 :: .ref m28 :: .int 0 :: .ref m30 :: .int n31 :: .int n32 :: .ref m33 :: .int n34 :: .int n35 :: .ref m36 :: .int (nI wm) :: .ref m38 :: .ref m39 :: .ref m40 :: .int (nI bk) :: .ref m42 :: .ref m43 :: .ref m44 :: .ref m45 :: []))), (m10, .inl (cI, 34, .inl fm10)), (m44, .inl (cI, 70, .inl (upd f15_m44 34 (nI sd)))), (m45, .inl (cZ, 2, .inl (upd fm45 0 1)))]) [0, 1, 2, 3] rfl
          have hD9 := hD.sub (ws' := [(h0, .inr (11, (.int n0 :: .int n1 :: .int (nI nq) :: .ref m3 :: .ref m4 :: .ref m5 :: .int (nI nh) :: .ref m7 :: .ref m8 :: .ref m9 :: .ref m10 :: .int (nI sd) :: .ref m12 :: .int (nI tx) :: .int n14 :: .int (nI at9) :: .int n16 :: .int n17 :: .ref m18 :: .int (nI rq) :: .ref m20 :: .ref m21 :: .ref m22 :: .ref m23 :: .ref m24 :: .int (nI rh) :: .ref m26 :: .ref m27 :: .ref m28 :: .int 0 :: .ref m30 :: .int n31 :: .int n32 :: .ref m33 :: .int n34 :: .int n35 :: .ref m36 :: .int (nI wm) :: .ref m38 :: .ref m39 :: .ref m40 :: .int (nI bk) :: .ref m42 :: .ref m43 :: .ref m44 :: .ref m45 :: []))), (m10, .inl (cI, 34, .inl fm10)), (m44, .inl (cI, 70, .inl (upd f15_m44 34 (nI sd)))), (m45, .inl (cZ, 2, .inl (upd fm45 0 1)))]) [0, 1, 2, 3] (by decide +kernel) rfl
          exact W.iret (v := 1) hx hb hr (fun t ht hW => ⟨⟨1, (fun _ => 0), rfl, (if_pos hw5).symm, ⟨(upd f15_m44 34 (nI sd)), (upd fm45 0 1), 0, by omega, mIn_s34 hv15_0 (by omega), ((if_pos hw5).symm), va_hq ht hP9, hD9⟩⟩, hS.F ht⟩) hS.2.2 dX11_keep_73
        ·
          have c7 : ¬ 34 ≤ k15 := fun h => c7 ((nI_leI (a := 34) (b := k15) (by omega) (by omega)).mpr h)
          omega
      | succ d15 ih15 =>
        intro k15 f15_m44 H locs ls hk15 hv15_0 hP hD hS hl
        refine lv_iload_n hx hb dX11_keep_15 rfl (lv_at hl 0 rfl) ?_
        refine lv_bipush (v := 34) hx hb dX11_keep_16 (by decide) ?_
        refine lv_icmp_ge (tgt := 44) hx hb dX11_keep_18 (by decide) (fun c12 => ?_) (fun c12 => ?_)
        ·
          have c12 : 34 ≤ k15 := (nI_leI (a := 34) (b := k15) (by omega) (by omega)).mp c12
          omega
        ·
          have c12 : ¬ 34 ≤ k15 := fun h => c12 ((nI_leI (a := 34) (b := k15) (by omega) (by omega)).mpr h)
          refine lv_aload_n hx hb dX11_keep_21 rfl (lv_at hl 1 rfl) ?_
          refine va_get (D := (dC, dI)) (ci := 11) (v := .ref m44) (C := RX11) (T := TX11) (N := 46) hx hb hts hi_X11 hown hK hP 0 rfl rfl 44 (by decide) (hts (.fieldLink RX11 89 "LeftQuillsModel" "images" "[I") (wmx 2 rfl)) (fun _ h9 => h9) rfl dX11_keep_22 ?_
          refine lv_bipush (v := 35) hx hb dX11_keep_25 (by decide) ?_
          refine lv_iload_n hx hb dX11_keep_27 rfl (lv_at hl 2 rfl) ?_
          refine lv_imul hx hb dX11_keep_28 ?_
          refine lv_topi (fun z13 ez13 => ?_)
          obtain rfl : z13 = 0 := ez13.trans (by decide)
          refine lv_iload_n hx hb dX11_keep_29 rfl (lv_at hl 0 rfl) ?_
          refine lv_iadd hx hb dX11_keep_30 ?_
          refine lv_topi (fun z14 ez14 => ?_)
          obtain rfl : z14 = nI (0 + k15) := ez14.trans (nI_add 0 k15)
          refine lv_aload_n hx hb dX11_keep_31 rfl (lv_at hl 1 rfl) ?_
          refine va_get (D := (dC, dI)) (ci := 11) (v := .ref m10) (C := RX11) (T := TX11) (N := 46) hx hb hts hi_X11 hown hK hP 0 rfl rfl 10 (by decide) (hts (.fieldLink RX11 28 "LeftQuillsModel" "now" "[I") (wmx 3 rfl)) (fun _ h9 => h9) rfl dX11_keep_32 ?_
          refine lv_iload_n hx hb dX11_keep_35 rfl (lv_at hl 0 rfl) ?_
          refine va_iald hx hb hK hP 1 0 rfl rfl (vp_in_nI (n := k15) (N := 34) (by omega) (by decide)) dX11_keep_36 ?_
          refine W.eq (g2 := F0 m 37 ls [.int (fm10 k15), .int (nI (0 + k15)), .ref m44]) (congrArg (fun y9 => F0 m 37 ls (.int (fm10 y9) :: [.int (nI (0 + k15)), .ref m44])) ((nI_clamp (n := k15) (by omega)))) ?_
          refine va_iast hx hb hK hP hD hS 2 0 rfl rfl (vp_in_nI (n := 0 + k15) (N := 70) (by omega) (by decide)) dX11_keep_37 (fun H locs hP hD hS => ?_)
          have hcl := (nI_clamp (n := 0 + k15) (by omega))
          rw [hcl] at hP hD
          clear hcl
          have hPD : pdW (dC, dI) vwCl A [(h0, .inr (11, (.int n0 :: .int n1 :: .int (nI nq) :: .ref m3 :: .ref m4 :: .ref m5 :: .int (nI nh) :: .ref m7 :: .ref m8 :: .ref m9 :: .ref m10 :: .int (nI sd) :: .ref m12 :: .int (nI tx) :: .int n14 :: .int (nI at9) :: .int n16 :: .int n17 :: .ref m18 :: .int (nI rq) :: .ref m20 :: .ref m21 :: .ref m22 :: .ref m23 :: .ref m24 :: .int (nI rh) :: .ref m26 :: .ref m27 :: .ref m28 :: .int (nI un) :: .ref m30 :: .int n31 :: .int n32 :: .ref m33 :: .int n34 :: .int n35 :: .ref m36 :: .int (nI wm) :: .ref m38 :: .ref m39 :: .ref m40 :: .int (nI bk) :: .ref m42 :: .ref m43 :: .ref m44 :: .ref m45 :: []))), (m10, .inl (cI, 34, .inl fm10)), (m44, .inl (cI, 70, .inl (upd f15_m44 (0 + k15) (fm10 k15)))), (m45, .inl (cZ, 2, .inl fm45))] H := ⟨hP, hD⟩
          have hP := hPD.1
          have hD := hPD.2
          clear hPD
          refine lv_iinc (v := nI (k15 + 1)) (lv' := [(2, .int (nI (k15 + 1))), (0, .ref h0), (1, .int 0)]) hx hb dX11_keep_38 hl (k := 0) rfl ((rfl : nI k15 + Int32.ofInt 1 = nI k15 + 1).trans (nI_add k15 1)) (by decide) rfl (fun ls hl => ?_)
          refine lv_goto (tgt := 15) hx hb dX11_keep_41 (by decide) ?_
          exact ih15 (k15 + 1) (upd f15_m44 (0 + k15) (fm10 k15)) _ _ _ (by omega) (mIn_up hv15_0 (by omega) (by omega)) hP hD hS (lv_sub hl [0, 1, 2] rfl)
    ·
      refine lv_if_ne (tgt := 13) hx hb dX11_keep_7 (by decide) (fun c16 => ?_) (fun c16 => ?_)
      rotate_left
      · exact absurd c16 (by decide)
      clear c16
      refine lv_iconst (v := 0) hx hb dX11_keep_13 (by decide) ?_
      refine lv_istore_n (lv' := [(2, .int 0), (0, .ref h0), (1, .int 1)]) hx hb dX11_keep_14 rfl hl (by decide) rfl (fun ls hl => ?_)
      refine (fun (K : ∀ (d15 : Nat) (k15 : Nat) (f15_m44 : Nat → Int32) (H : Heap) (locs : List Loc) (ls : Array Slot), k15 + d15 = 34 → mIn f15_m44 → va_P (dC, dI) vwCl [(h0, .inr (11, (.int n0 :: .int n1 :: .int (nI nq) :: .ref m3 :: .ref m4 :: .ref m5 :: .int (nI nh) :: .ref m7 :: .ref m8 :: .ref m9 :: .ref m10 :: .int (nI sd) :: .ref m12 :: .int (nI tx) :: .int n14 :: .int (nI at9) :: .int n16 :: .int n17 :: .ref m18 :: .int (nI rq) :: .ref m20 :: .ref m21 :: .ref m22 :: .ref m23 :: .ref m24 :: .int (nI rh) :: .ref m26 :: .ref m27 :: .ref m28 :: .int (nI un) :: .ref m30 :: .int n31 :: .int n32 :: .ref m33 :: .int n34 :: .int n35 :: .ref m36 :: .int (nI wm) :: .ref m38 :: .ref m39 :: .ref m40 :: .int (nI bk) :: .ref m42 :: .ref m43 :: .ref m44 :: .ref m45 :: []))), (m10, .inl (cI, 34, .inl fm10)), (m44, .inl (cI, 70, .inl f15_m44)), (m45, .inl (cZ, 2, .inl fm45))] H → va_D A [(h0, .inr (11, (.int n0 :: .int n1 :: .int (nI nq) :: .ref m3 :: .ref m4 :: .ref m5 :: .int (nI nh) :: .ref m7 :: .ref m8 :: .ref m9 :: .ref m10 :: .int (nI sd) :: .ref m12 :: .int (nI tx) :: .int n14 :: .int (nI at9) :: .int n16 :: .int n17 :: .ref m18 :: .int (nI rq) :: .ref m20 :: .ref m21 :: .ref m22 :: .ref m23 :: .ref m24 :: .int (nI rh) :: .ref m26 :: .ref m27 :: .ref m28 :: .int (nI un) :: .ref m30 :: .int n31 :: .int n32 :: .ref m33 :: .int n34 :: .int n35 :: .ref m36 :: .int (nI wm) :: .ref m38 :: .ref m39 :: .ref m40 :: .int (nI bk) :: .ref m42 :: .ref m43 :: .ref m44 :: .ref m45 :: []))), (m10, .inl (cI, 34, .inl fm10)), (m44, .inl (cI, 70, .inl f15_m44)), (m45, .inl (cZ, 2, .inl fm45))] → va_S A s.heap H locs → lv_has ls 3 [(2, .int (nI k15)), (0, .ref h0), (1, .int 1)] → W p l e _ s m _ below meth c H locs _ _ _ (F0 m 15 ls [])) => K 34 0 fm44 _ _ _ (by omega) hmi hP hD hS (lv_sub hl [0, 1, 2] rfl)) ?_
      intro d15
      induction d15 with
      | zero =>
        intro k15 f15_m44 H locs ls hk15 hv15_0 hP hD hS hl
        refine lv_iload_n hx hb dX11_keep_15 rfl (lv_at hl 0 rfl) ?_
        refine lv_bipush (v := 34) hx hb dX11_keep_16 (by decide) ?_
        refine lv_icmp_ge (tgt := 44) hx hb dX11_keep_18 (by decide) (fun c17 => ?_) (fun c17 => ?_)
        ·
          have c17 : 34 ≤ k15 := (nI_leI (a := 34) (b := k15) (by omega) (by omega)).mp c17
          refine lv_aload_n hx hb dX11_keep_44 rfl (lv_at hl 1 rfl) ?_
          refine va_get (D := (dC, dI)) (ci := 11) (v := .ref m44) (C := RX11) (T := TX11) (N := 46) hx hb hts hi_X11 hown hK hP 0 rfl rfl 44 (by decide) (hts (.fieldLink RX11 89 "LeftQuillsModel" "images" "[I") (wmx 2 rfl)) (fun _ h9 => h9) rfl dX11_keep_45 ?_
          refine lv_bipush (v := 35) hx hb dX11_keep_48 (by decide) ?_
          refine lv_iload_n hx hb dX11_keep_50 rfl (lv_at hl 2 rfl) ?_
          refine lv_imul hx hb dX11_keep_51 ?_
          refine lv_topi (fun z18 ez18 => ?_)
          obtain rfl : z18 = 35 := ez18.trans (by decide)
          refine lv_bipush (v := 34) hx hb dX11_keep_52 (by decide) ?_
          refine lv_iadd hx hb dX11_keep_54 ?_
          refine lv_topi (fun z19 ez19 => ?_)
          obtain rfl : z19 = 69 := ez19.trans (by decide)
          refine lv_aload_n hx hb dX11_keep_55 rfl (lv_at hl 1 rfl) ?_
          refine va_get (D := (dC, dI)) (ci := 11) (v := .int (nI sd)) (C := RX11) (T := TX11) (N := 46) hx hb hts hi_X11 hown hK hP 0 rfl rfl 11 (by decide) (hts (.fieldLink RX11 241 "LeftQuillsModel" "seed" "I") (wmx 4 rfl)) (fun _ h9 => h9) rfl dX11_keep_56 ?_
          refine va_iast hx hb hK hP hD hS 2 0 rfl rfl (vp_in_iff.mpr ⟨by decide, by decide⟩) dX11_keep_59 (fun H locs hP hD hS => ?_)
          have hcl := (show ((69 : Int32)).toNatClampNeg = 69 from by decide)
          rw [hcl] at hP hD
          clear hcl
          have hPD : pdW (dC, dI) vwCl A [(h0, .inr (11, (.int n0 :: .int n1 :: .int (nI nq) :: .ref m3 :: .ref m4 :: .ref m5 :: .int (nI nh) :: .ref m7 :: .ref m8 :: .ref m9 :: .ref m10 :: .int (nI sd) :: .ref m12 :: .int (nI tx) :: .int n14 :: .int (nI at9) :: .int n16 :: .int n17 :: .ref m18 :: .int (nI rq) :: .ref m20 :: .ref m21 :: .ref m22 :: .ref m23 :: .ref m24 :: .int (nI rh) :: .ref m26 :: .ref m27 :: .ref m28 :: .int (nI un) :: .ref m30 :: .int n31 :: .int n32 :: .ref m33 :: .int n34 :: .int n35 :: .ref m36 :: .int (nI wm) :: .ref m38 :: .ref m39 :: .ref m40 :: .int (nI bk) :: .ref m42 :: .ref m43 :: .ref m44 :: .ref m45 :: []))), (m10, .inl (cI, 34, .inl fm10)), (m44, .inl (cI, 70, .inl (upd f15_m44 69 (nI sd)))), (m45, .inl (cZ, 2, .inl fm45))] H := ⟨hP, hD⟩
          have hP := hPD.1
          have hD := hPD.2
          clear hPD
          refine lv_aload_n hx hb dX11_keep_60 rfl (lv_at hl 1 rfl) ?_
          refine va_get (D := (dC, dI)) (ci := 11) (v := .ref m45) (C := RX11) (T := TX11) (N := 46) hx hb hts hi_X11 hown hK hP 0 rfl rfl 45 (by decide) (hts (.fieldLink RX11 92 "LeftQuillsModel" "isKept" "[Z") (wmx 5 rfl)) (fun _ h9 => h9) rfl dX11_keep_61 ?_
          refine lv_iload_n hx hb dX11_keep_64 rfl (lv_at hl 2 rfl) ?_
          refine lv_iconst (v := 1) hx hb dX11_keep_65 (by decide) ?_
          refine va_zast hx hb hK hP hD hS 3 1 rfl rfl (vp_in_iff.mpr ⟨by decide, by decide⟩) dX11_keep_66 (fun H locs hP hD hS => ?_)
          have hcl := (show ((1 : Int32)).toNatClampNeg = 1 from by decide)
          rw [hcl] at hP hD
          clear hcl
          have hPD : pdW (dC, dI) vwCl A [(h0, .inr (11, (.int n0 :: .int n1 :: .int (nI nq) :: .ref m3 :: .ref m4 :: .ref m5 :: .int (nI nh) :: .ref m7 :: .ref m8 :: .ref m9 :: .ref m10 :: .int (nI sd) :: .ref m12 :: .int (nI tx) :: .int n14 :: .int (nI at9) :: .int n16 :: .int n17 :: .ref m18 :: .int (nI rq) :: .ref m20 :: .ref m21 :: .ref m22 :: .ref m23 :: .ref m24 :: .int (nI rh) :: .ref m26 :: .ref m27 :: .ref m28 :: .int (nI un) :: .ref m30 :: .int n31 :: .int n32 :: .ref m33 :: .int n34 :: .int n35 :: .ref m36 :: .int (nI wm) :: .ref m38 :: .ref m39 :: .ref m40 :: .int (nI bk) :: .ref m42 :: .ref m43 :: .ref m44 :: .ref m45 :: []))), (m10, .inl (cI, 34, .inl fm10)), (m44, .inl (cI, 70, .inl (upd f15_m44 69 (nI sd)))), (m45, .inl (cZ, 2, .inl (upd fm45 1 1)))] H := ⟨hP, hD⟩
          have hP := hPD.1
          have hD := hPD.2
          clear hPD
          refine lv_aload_n hx hb dX11_keep_67 rfl (lv_at hl 1 rfl) ?_
          refine lv_iconst (v := 0) hx hb dX11_keep_68 (by decide) ?_
          refine va_put (D := (dC, dI)) (ci := 11) (v := .int 0) (ty := .int) (C := RX11) (T := TX11) (N := 46) hx hb hts hi_X11 tyX11 tyX11_ok nmX11 hown hK hP hD hS 0 rfl rfl 29 (by decide) (hts (.fieldLink RX11 174 "LeftQuillsModel" "undos" "I") (wmx 6 rfl)) (fun _ h9 => h9) rfl (by decide +kernel) rfl rfl (Nat.le_of_ble_eq_true rfl) dX11_keep_69 (fun H locs hP hD hS => ?_)
          have hPD : pdW (dC, dI) vwCl A [(h0, .inr (11, (.int n0 :: .int n1 :: .int (nI nq) :: .ref m3 :: .ref m4 :: .ref m5 :: .int (nI nh) :: .ref m7 :: .ref m8 :: .ref m9 :: .ref m10 :: .int (nI sd) :: .ref m12 :: .int (nI tx) :: .int n14 :: .int (nI at9) :: .int n16 :: .int n17 :: .ref m18 :: .int (nI rq) :: .ref m20 :: .ref m21 :: .ref m22 :: .ref m23 :: .ref m24 :: .int (nI rh) :: .ref m26 :: .ref m27 :: .ref m28 :: .int 0 :: .ref m30 :: .int n31 :: .int n32 :: .ref m33 :: .int n34 :: .int n35 :: .ref m36 :: .int (nI wm) :: .ref m38 :: .ref m39 :: .ref m40 :: .int (nI bk) :: .ref m42 :: .ref m43 :: .ref m44 :: .ref m45 :: []))), (m10, .inl (cI, 34, .inl fm10)), (m44, .inl (cI, 70, .inl (upd f15_m44 69 (nI sd)))), (m45, .inl (cZ, 2, .inl (upd fm45 1 1)))] H := ⟨hP, hD⟩
          have hP := hPD.1
          have hD := hPD.2
          clear hPD
          refine lv_iconst (v := 1) hx hb dX11_keep_72 (by decide) ?_
          have hP9 := hP.sub (ws' := [(h0, .inr (11, (.int n0 :: .int n1 :: .int (nI nq) :: .ref m3 :: .ref m4 :: .ref m5 :: .int (nI nh) :: .ref m7 :: .ref m8 :: .ref m9 :: .ref m10 :: .int (nI sd) :: .ref m12 :: .int (nI tx) :: .int n14 :: .int (nI at9) :: .int n16 :: .int n17 :: .ref m18 :: .int (nI rq) :: .ref m20 :: .ref m21 :: .ref m22 :: .ref m23 :: .ref m24 :: .int (nI rh) :: .ref m26 :: .ref m27 :: .ref m28 :: .int 0 :: .ref m30 :: .int n31 :: .int n32 :: .ref m33 :: .int n34 :: .int n35 :: .ref m36 :: .int (nI wm) :: .ref m38 :: .ref m39 :: .ref m40 :: .int (nI bk) :: .ref m42 :: .ref m43 :: .ref m44 :: .ref m45 :: []))), (m10, .inl (cI, 34, .inl fm10)), (m44, .inl (cI, 70, .inl (upd f15_m44 69 (nI sd)))), (m45, .inl (cZ, 2, .inl (upd fm45 1 1)))]) [0, 1, 2, 3] rfl
          have hD9 := hD.sub (ws' := [(h0, .inr (11, (.int n0 :: .int n1 :: .int (nI nq) :: .ref m3 :: .ref m4 :: .ref m5 :: .int (nI nh) :: .ref m7 :: .ref m8 :: .ref m9 :: .ref m10 :: .int (nI sd) :: .ref m12 :: .int (nI tx) :: .int n14 :: .int (nI at9) :: .int n16 :: .int n17 :: .ref m18 :: .int (nI rq) :: .ref m20 :: .ref m21 :: .ref m22 :: .ref m23 :: .ref m24 :: .int (nI rh) :: .ref m26 :: .ref m27 :: .ref m28 :: .int 0 :: .ref m30 :: .int n31 :: .int n32 :: .ref m33 :: .int n34 :: .int n35 :: .ref m36 :: .int (nI wm) :: .ref m38 :: .ref m39 :: .ref m40 :: .int (nI bk) :: .ref m42 :: .ref m43 :: .ref m44 :: .ref m45 :: []))), (m10, .inl (cI, 34, .inl fm10)), (m44, .inl (cI, 70, .inl (upd f15_m44 69 (nI sd)))), (m45, .inl (cZ, 2, .inl (upd fm45 1 1)))]) [0, 1, 2, 3] (by decide +kernel) rfl
          exact W.iret (v := 1) hx hb hr (fun t ht hW => ⟨⟨1, (fun _ => 0), rfl, (if_pos hw5).symm, ⟨(upd f15_m44 69 (nI sd)), (upd fm45 1 1), 0, by omega, mIn_s69 hv15_0 (by omega), ((if_pos hw5).symm), va_hq ht hP9, hD9⟩⟩, hS.F ht⟩) hS.2.2 dX11_keep_73
        ·
          have c17 : ¬ 34 ≤ k15 := fun h => c17 ((nI_leI (a := 34) (b := k15) (by omega) (by omega)).mpr h)
          omega
      | succ d15 ih15 =>
        intro k15 f15_m44 H locs ls hk15 hv15_0 hP hD hS hl
        refine lv_iload_n hx hb dX11_keep_15 rfl (lv_at hl 0 rfl) ?_
        refine lv_bipush (v := 34) hx hb dX11_keep_16 (by decide) ?_
        refine lv_icmp_ge (tgt := 44) hx hb dX11_keep_18 (by decide) (fun c22 => ?_) (fun c22 => ?_)
        ·
          have c22 : 34 ≤ k15 := (nI_leI (a := 34) (b := k15) (by omega) (by omega)).mp c22
          omega
        ·
          have c22 : ¬ 34 ≤ k15 := fun h => c22 ((nI_leI (a := 34) (b := k15) (by omega) (by omega)).mpr h)
          refine lv_aload_n hx hb dX11_keep_21 rfl (lv_at hl 1 rfl) ?_
          refine va_get (D := (dC, dI)) (ci := 11) (v := .ref m44) (C := RX11) (T := TX11) (N := 46) hx hb hts hi_X11 hown hK hP 0 rfl rfl 44 (by decide) (hts (.fieldLink RX11 89 "LeftQuillsModel" "images" "[I") (wmx 2 rfl)) (fun _ h9 => h9) rfl dX11_keep_22 ?_
          refine lv_bipush (v := 35) hx hb dX11_keep_25 (by decide) ?_
          refine lv_iload_n hx hb dX11_keep_27 rfl (lv_at hl 2 rfl) ?_
          refine lv_imul hx hb dX11_keep_28 ?_
          refine lv_topi (fun z23 ez23 => ?_)
          obtain rfl : z23 = 35 := ez23.trans (by decide)
          refine lv_iload_n hx hb dX11_keep_29 rfl (lv_at hl 0 rfl) ?_
          refine lv_iadd hx hb dX11_keep_30 ?_
          refine lv_topi (fun z24 ez24 => ?_)
          obtain rfl : z24 = nI (35 + k15) := ez24.trans (nI_add 35 k15)
          refine lv_aload_n hx hb dX11_keep_31 rfl (lv_at hl 1 rfl) ?_
          refine va_get (D := (dC, dI)) (ci := 11) (v := .ref m10) (C := RX11) (T := TX11) (N := 46) hx hb hts hi_X11 hown hK hP 0 rfl rfl 10 (by decide) (hts (.fieldLink RX11 28 "LeftQuillsModel" "now" "[I") (wmx 3 rfl)) (fun _ h9 => h9) rfl dX11_keep_32 ?_
          refine lv_iload_n hx hb dX11_keep_35 rfl (lv_at hl 0 rfl) ?_
          refine va_iald hx hb hK hP 1 0 rfl rfl (vp_in_nI (n := k15) (N := 34) (by omega) (by decide)) dX11_keep_36 ?_
          refine W.eq (g2 := F0 m 37 ls [.int (fm10 k15), .int (nI (35 + k15)), .ref m44]) (congrArg (fun y9 => F0 m 37 ls (.int (fm10 y9) :: [.int (nI (35 + k15)), .ref m44])) ((nI_clamp (n := k15) (by omega)))) ?_
          refine va_iast hx hb hK hP hD hS 2 0 rfl rfl (vp_in_nI (n := 35 + k15) (N := 70) (by omega) (by decide)) dX11_keep_37 (fun H locs hP hD hS => ?_)
          have hcl := (nI_clamp (n := 35 + k15) (by omega))
          rw [hcl] at hP hD
          clear hcl
          have hPD : pdW (dC, dI) vwCl A [(h0, .inr (11, (.int n0 :: .int n1 :: .int (nI nq) :: .ref m3 :: .ref m4 :: .ref m5 :: .int (nI nh) :: .ref m7 :: .ref m8 :: .ref m9 :: .ref m10 :: .int (nI sd) :: .ref m12 :: .int (nI tx) :: .int n14 :: .int (nI at9) :: .int n16 :: .int n17 :: .ref m18 :: .int (nI rq) :: .ref m20 :: .ref m21 :: .ref m22 :: .ref m23 :: .ref m24 :: .int (nI rh) :: .ref m26 :: .ref m27 :: .ref m28 :: .int (nI un) :: .ref m30 :: .int n31 :: .int n32 :: .ref m33 :: .int n34 :: .int n35 :: .ref m36 :: .int (nI wm) :: .ref m38 :: .ref m39 :: .ref m40 :: .int (nI bk) :: .ref m42 :: .ref m43 :: .ref m44 :: .ref m45 :: []))), (m10, .inl (cI, 34, .inl fm10)), (m44, .inl (cI, 70, .inl (upd f15_m44 (35 + k15) (fm10 k15)))), (m45, .inl (cZ, 2, .inl fm45))] H := ⟨hP, hD⟩
          have hP := hPD.1
          have hD := hPD.2
          clear hPD
          refine lv_iinc (v := nI (k15 + 1)) (lv' := [(2, .int (nI (k15 + 1))), (0, .ref h0), (1, .int 1)]) hx hb dX11_keep_38 hl (k := 0) rfl ((rfl : nI k15 + Int32.ofInt 1 = nI k15 + 1).trans (nI_add k15 1)) (by decide) rfl (fun ls hl => ?_)
          refine lv_goto (tgt := 15) hx hb dX11_keep_41 (by decide) ?_
          exact ih15 (k15 + 1) (upd f15_m44 (35 + k15) (fm10 k15)) _ _ _ (by omega) (mIn_up hv15_0 (by omega) (by omega)) hP hD hS (lv_sub hl [0, 1, 2] rfl)
  ·
    refine lv_if_ne (tgt := 13) hx hb dX11_keep_7 (by decide) (fun c26 => ?_) (fun c26 => ?_)
    · exact absurd c26 (by decide)
    clear c26
    refine lv_ldc (v := (-1000000001)) hx hb hown (hts (.constant RX11 188 (-1000000001)) (wmx 1 rfl)) dX11_keep_10 ?_
    have hP9 := hP.sub (ws' := [(h0, .inr (11, (.int n0 :: .int n1 :: .int (nI nq) :: .ref m3 :: .ref m4 :: .ref m5 :: .int (nI nh) :: .ref m7 :: .ref m8 :: .ref m9 :: .ref m10 :: .int (nI sd) :: .ref m12 :: .int (nI tx) :: .int n14 :: .int (nI at9) :: .int n16 :: .int n17 :: .ref m18 :: .int (nI rq) :: .ref m20 :: .ref m21 :: .ref m22 :: .ref m23 :: .ref m24 :: .int (nI rh) :: .ref m26 :: .ref m27 :: .ref m28 :: .int (nI un) :: .ref m30 :: .int n31 :: .int n32 :: .ref m33 :: .int n34 :: .int n35 :: .ref m36 :: .int (nI wm) :: .ref m38 :: .ref m39 :: .ref m40 :: .int (nI bk) :: .ref m42 :: .ref m43 :: .ref m44 :: .ref m45 :: []))), (m10, .inl (cI, 34, .inl fm10)), (m44, .inl (cI, 70, .inl fm44)), (m45, .inl (cZ, 2, .inl fm45))]) [0, 1, 2, 3] rfl
    have hD9 := hD.sub (ws' := [(h0, .inr (11, (.int n0 :: .int n1 :: .int (nI nq) :: .ref m3 :: .ref m4 :: .ref m5 :: .int (nI nh) :: .ref m7 :: .ref m8 :: .ref m9 :: .ref m10 :: .int (nI sd) :: .ref m12 :: .int (nI tx) :: .int n14 :: .int (nI at9) :: .int n16 :: .int n17 :: .ref m18 :: .int (nI rq) :: .ref m20 :: .ref m21 :: .ref m22 :: .ref m23 :: .ref m24 :: .int (nI rh) :: .ref m26 :: .ref m27 :: .ref m28 :: .int (nI un) :: .ref m30 :: .int n31 :: .int n32 :: .ref m33 :: .int n34 :: .int n35 :: .ref m36 :: .int (nI wm) :: .ref m38 :: .ref m39 :: .ref m40 :: .int (nI bk) :: .ref m42 :: .ref m43 :: .ref m44 :: .ref m45 :: []))), (m10, .inl (cI, 34, .inl fm10)), (m44, .inl (cI, 70, .inl fm44)), (m45, .inl (cZ, 2, .inl fm45))]) [0, 1, 2, 3] (by decide +kernel) rfl
    exact W.iret (v := (-1000000001)) hx hb hr (fun t ht hW => ⟨⟨(-1000000001), (fun _ => 0), rfl, (if_neg hw5).symm, ⟨fm44, fm45, un, by omega, hmi, ((if_neg hw5).symm), va_hq ht hP9, hD9⟩⟩, hS.F ht⟩) hS.2.2 dX11_keep_12
set_option maxHeartbeats 4000000 in
set_option maxRecDepth 100000 in
theorem c_X10_goBackF (l : Launch) (dC : Nat → ClassId) (dI : Nat → Nat → Nat) (cI cZ cQ : ClassId) (h0 : Nat) (x0 : Nat) (tl : Nat) (fa : Int32) (sd : Nat) (x4 : Nat) (x5 : Nat) (x6 : Nat) (x7 : Nat) (x8 : Nat) (x9 : Nat) (x10 : Nat) (x11 : Nat) (x12 : Nat) (x13 : Nat) (i0 : Nat) (i1 : Nat) (i2 : Nat) (f_x8 : List Value) (fi0 : Nat → Option Nat) (fi1 : Nat → Int32) (fi2 : Nat → Int32) (mib : Int32) (cub : Int32) (b2 : Nat) (b3 : Nat) (b4 : Nat) (b5 : Nat) (b6 : Nat) (fb2 : Nat → Int32) (fb3 : Nat → Int32) (fb4 : Nat → Int32) (fb5 : Nat → Int32) (fb6 : Nat → Int32) (dt : Nat) (mit : Int32) (cut : Int32) (t2 : Nat) (t3 : Nat) (t4 : Nat) (t5 : Nat) (t6 : Nat) (ft2 : Nat → Int32) (ft3 : Nat → Int32) (ft4 : Nat → Int32) (ft5 : Nat → Int32) (ft6 : Nat → Int32) (dv : Nat) (miv : Int32) (cuv : Int32) (v2 : Nat) (v3 : Nat) (v4 : Nat) (v5 : Nat) (v6 : Nat) (fv2 : Nat → Int32) (fv3 : Nat → Int32) (fv4 : Nat → Int32) (fv5 : Nat → Int32) (fv6 : Nat → Int32) (hq : Nat) (o : Nat) (n : Nat) (q0 : Int32) (sz : Nat) (e_x8_0 : fAt f_x8 0 = some (.ref i0)) (e_x8_1 : fAt f_x8 1 = some (.ref i1)) (e_x8_2 : fAt f_x8 2 = some (.ref i2)) (hf0 : fi0 0 = some dt) (hf1 : fi0 1 = some dv) (hsi : sIn fi1) (hsd : sd ≤ 2147483647) (ho19 : o ≤ 19) (hn20 : n ≤ 20) : Met l yX10_goBack wsX10_goBack ({ frames := 2, cells := 0, slots := 0, locals := 62 }) (va_Pc [.ref h0, .int q0] (fun U => U.heap.size = sz ∧ va_P (dC, dI) vwCl [(h0, .inr (10, [.ref x0, .int (nI tl), .int fa, .int (nI sd), .ref x4, .ref x5, .ref x6, .ref x7, .ref x8, .ref x9, .ref x10, .ref x11, .ref x12, .ref x13])), (x8, .inr (4, f_x8)), (i0, .inl (cQ, 2, .inr (.inr (.inr (.inr fi0))))), (i1, .inl (cI, 2, .inl fi1)), (i2, .inl (cZ, 2, .inl fi2)), (x6, .inr (1, [.int mib, .int cub, .ref b2, .ref b3, .ref b4, .ref b5, .ref b6, .ref x4])), (b2, .inl (cI, 8, .inl fb2)), (b3, .inl (cI, 8, .inl fb3)), (b4, .inl (cI, 8, .inl fb4)), (b5, .inl (cI, 4, .inl fb5)), (b6, .inl (cI, 4, .inl fb6)), (dt, .inr (1, [.int mit, .int cut, .ref t2, .ref t3, .ref t4, .ref t5, .ref t6, .ref x4])), (t2, .inl (cI, 8, .inl ft2)), (t3, .inl (cI, 8, .inl ft3)), (t4, .inl (cI, 8, .inl ft4)), (t5, .inl (cI, 4, .inl ft5)), (t6, .inl (cI, 4, .inl ft6)), (dv, .inr (1, [.int miv, .int cuv, .ref v2, .ref v3, .ref v4, .ref v5, .ref v6, .ref x4])), (v2, .inl (cI, 8, .inl fv2)), (v3, .inl (cI, 8, .inl fv3)), (v4, .inl (cI, 8, .inl fv4)), (v5, .inl (cI, 4, .inl fv5)), (v6, .inl (cI, 4, .inl fv6)), (x7, .inr (3, [.ref hq, .int (nI o), .int (nI n)]))] U.heap ∧ va_K (dC, dI) vwCl (tys0 cI cZ cQ) U ∧ va_D (fun _ => True) [(h0, .inr (10, [.ref x0, .int (nI tl), .int fa, .int (nI sd), .ref x4, .ref x5, .ref x6, .ref x7, .ref x8, .ref x9, .ref x10, .ref x11, .ref x12, .ref x13])), (x8, .inr (4, f_x8)), (i0, .inl (cQ, 2, .inr (.inr (.inr (.inr fi0))))), (i1, .inl (cI, 2, .inl fi1)), (i2, .inl (cZ, 2, .inl fi2)), (x6, .inr (1, [.int mib, .int cub, .ref b2, .ref b3, .ref b4, .ref b5, .ref b6, .ref x4])), (b2, .inl (cI, 8, .inl fb2)), (b3, .inl (cI, 8, .inl fb3)), (b4, .inl (cI, 8, .inl fb4)), (b5, .inl (cI, 4, .inl fb5)), (b6, .inl (cI, 4, .inl fb6)), (dt, .inr (1, [.int mit, .int cut, .ref t2, .ref t3, .ref t4, .ref t5, .ref t6, .ref x4])), (t2, .inl (cI, 8, .inl ft2)), (t3, .inl (cI, 8, .inl ft3)), (t4, .inl (cI, 8, .inl ft4)), (t5, .inl (cI, 4, .inl ft5)), (t6, .inl (cI, 4, .inl ft6)), (dv, .inr (1, [.int miv, .int cuv, .ref v2, .ref v3, .ref v4, .ref v5, .ref v6, .ref x4])), (v2, .inl (cI, 8, .inl fv2)), (v3, .inl (cI, 8, .inl fv3)), (v4, .inl (cI, 8, .inl fv4)), (v5, .inl (cI, 4, .inl fv5)), (v6, .inl (cI, 4, .inl fv6)), (x7, .inr (3, [.ref hq, .int (nI o), .int (nI n)]))])) (va_Qi (fun (r : Int32) (u : Nat → Nat) => r = goR q0 fi2) (fun (_ : Nat → Nat) (t : State) => ∃ (gg0 gg1 gg2 gg3 gg4 : Nat → Int32) (ii1 ii2 : Int32) (kk0 kk3 : Nat), kk0 ≤ 2147483647 ∧ kk3 ≤ 20 ∧ va_P (dC, dI) vwCl [(h0, .inr (10, [.ref x0, .int (nI tl), .int fa, .int (nI kk0), .ref x4, .ref x5, .ref x6, .ref x7, .ref x8, .ref x9, .ref x10, .ref x11, .ref x12, .ref x13])), (x8, .inr (4, f_x8)), (i0, .inl (cQ, 2, .inr (.inr (.inr (.inr fi0))))), (i1, .inl (cI, 2, .inl fi1)), (i2, .inl (cZ, 2, .inl fi2)), (x6, .inr (1, [.int ii1, .int ii2, .ref b2, .ref b3, .ref b4, .ref b5, .ref b6, .ref x4])), (b2, .inl (cI, 8, .inl gg0)), (b3, .inl (cI, 8, .inl gg1)), (b4, .inl (cI, 8, .inl gg2)), (b5, .inl (cI, 4, .inl gg3)), (b6, .inl (cI, 4, .inl gg4)), (dt, .inr (1, [.int mit, .int cut, .ref t2, .ref t3, .ref t4, .ref t5, .ref t6, .ref x4])), (t2, .inl (cI, 8, .inl ft2)), (t3, .inl (cI, 8, .inl ft3)), (t4, .inl (cI, 8, .inl ft4)), (t5, .inl (cI, 4, .inl ft5)), (t6, .inl (cI, 4, .inl ft6)), (dv, .inr (1, [.int miv, .int cuv, .ref v2, .ref v3, .ref v4, .ref v5, .ref v6, .ref x4])), (v2, .inl (cI, 8, .inl fv2)), (v3, .inl (cI, 8, .inl fv3)), (v4, .inl (cI, 8, .inl fv4)), (v5, .inl (cI, 4, .inl fv5)), (v6, .inl (cI, 4, .inl fv6)), (x7, .inr (3, [.ref hq, .int (nI o), .int (nI kk3)]))] t.heap ∧ va_D (va_A [(h0, .inr (10, [.ref x0, .int (nI tl), .int fa, .int (nI sd), .ref x4, .ref x5, .ref x6, .ref x7, .ref x8, .ref x9, .ref x10, .ref x11, .ref x12, .ref x13])), (x8, .inr (4, f_x8)), (i0, .inl (cQ, 2, .inr (.inr (.inr (.inr fi0))))), (i1, .inl (cI, 2, .inl fi1)), (i2, .inl (cZ, 2, .inl fi2)), (x6, .inr (1, [.int mib, .int cub, .ref b2, .ref b3, .ref b4, .ref b5, .ref b6, .ref x4])), (b2, .inl (cI, 8, .inl fb2)), (b3, .inl (cI, 8, .inl fb3)), (b4, .inl (cI, 8, .inl fb4)), (b5, .inl (cI, 4, .inl fb5)), (b6, .inl (cI, 4, .inl fb6)), (dt, .inr (1, [.int mit, .int cut, .ref t2, .ref t3, .ref t4, .ref t5, .ref t6, .ref x4])), (t2, .inl (cI, 8, .inl ft2)), (t3, .inl (cI, 8, .inl ft3)), (t4, .inl (cI, 8, .inl ft4)), (t5, .inl (cI, 4, .inl ft5)), (t6, .inl (cI, 4, .inl ft6)), (dv, .inr (1, [.int miv, .int cuv, .ref v2, .ref v3, .ref v4, .ref v5, .ref v6, .ref x4])), (v2, .inl (cI, 8, .inl fv2)), (v3, .inl (cI, 8, .inl fv3)), (v4, .inl (cI, 8, .inl fv4)), (v5, .inl (cI, 4, .inl fv5)), (v6, .inl (cI, 4, .inl fv6)), (x7, .inr (3, [.ref hq, .int (nI o), .int (nI n)]))] sz) [(h0, .inr (10, [.ref x0, .int (nI tl), .int fa, .int (nI kk0), .ref x4, .ref x5, .ref x6, .ref x7, .ref x8, .ref x9, .ref x10, .ref x11, .ref x12, .ref x13])), (x8, .inr (4, f_x8)), (i0, .inl (cQ, 2, .inr (.inr (.inr (.inr fi0))))), (i1, .inl (cI, 2, .inl fi1)), (i2, .inl (cZ, 2, .inl fi2)), (x6, .inr (1, [.int ii1, .int ii2, .ref b2, .ref b3, .ref b4, .ref b5, .ref b6, .ref x4])), (b2, .inl (cI, 8, .inl gg0)), (b3, .inl (cI, 8, .inl gg1)), (b4, .inl (cI, 8, .inl gg2)), (b5, .inl (cI, 4, .inl gg3)), (b6, .inl (cI, 4, .inl gg4)), (dt, .inr (1, [.int mit, .int cut, .ref t2, .ref t3, .ref t4, .ref t5, .ref t6, .ref x4])), (t2, .inl (cI, 8, .inl ft2)), (t3, .inl (cI, 8, .inl ft3)), (t4, .inl (cI, 8, .inl ft4)), (t5, .inl (cI, 4, .inl ft5)), (t6, .inl (cI, 4, .inl ft6)), (dv, .inr (1, [.int miv, .int cuv, .ref v2, .ref v3, .ref v4, .ref v5, .ref v6, .ref x4])), (v2, .inl (cI, 8, .inl fv2)), (v3, .inl (cI, 8, .inl fv3)), (v4, .inl (cI, 8, .inl fv4)), (v5, .inl (cI, 4, .inl fv5)), (v6, .inl (cI, 4, .inl fv6)), (x7, .inr (3, [.ref hq, .int (nI o), .int (nI kk3)]))]) (va_A [(h0, .inr (10, [.ref x0, .int (nI tl), .int fa, .int (nI sd), .ref x4, .ref x5, .ref x6, .ref x7, .ref x8, .ref x9, .ref x10, .ref x11, .ref x12, .ref x13])), (x8, .inr (4, f_x8)), (i0, .inl (cQ, 2, .inr (.inr (.inr (.inr fi0))))), (i1, .inl (cI, 2, .inl fi1)), (i2, .inl (cZ, 2, .inl fi2)), (x6, .inr (1, [.int mib, .int cub, .ref b2, .ref b3, .ref b4, .ref b5, .ref b6, .ref x4])), (b2, .inl (cI, 8, .inl fb2)), (b3, .inl (cI, 8, .inl fb3)), (b4, .inl (cI, 8, .inl fb4)), (b5, .inl (cI, 4, .inl fb5)), (b6, .inl (cI, 4, .inl fb6)), (dt, .inr (1, [.int mit, .int cut, .ref t2, .ref t3, .ref t4, .ref t5, .ref t6, .ref x4])), (t2, .inl (cI, 8, .inl ft2)), (t3, .inl (cI, 8, .inl ft3)), (t4, .inl (cI, 8, .inl ft4)), (t5, .inl (cI, 4, .inl ft5)), (t6, .inl (cI, 4, .inl ft6)), (dv, .inr (1, [.int miv, .int cuv, .ref v2, .ref v3, .ref v4, .ref v5, .ref v6, .ref x4])), (v2, .inl (cI, 8, .inl fv2)), (v3, .inl (cI, 8, .inl fv3)), (v4, .inl (cI, 8, .inl fv4)), (v5, .inl (cI, 4, .inl fv5)), (v6, .inl (cI, 4, .inl fv6)), (x7, .inr (3, [.ref hq, .int (nI o), .int (nI n)]))] sz)) 0 0 (va_A [(h0, .inr (10, [.ref x0, .int (nI tl), .int fa, .int (nI sd), .ref x4, .ref x5, .ref x6, .ref x7, .ref x8, .ref x9, .ref x10, .ref x11, .ref x12, .ref x13])), (x8, .inr (4, f_x8)), (i0, .inl (cQ, 2, .inr (.inr (.inr (.inr fi0))))), (i1, .inl (cI, 2, .inl fi1)), (i2, .inl (cZ, 2, .inl fi2)), (x6, .inr (1, [.int mib, .int cub, .ref b2, .ref b3, .ref b4, .ref b5, .ref b6, .ref x4])), (b2, .inl (cI, 8, .inl fb2)), (b3, .inl (cI, 8, .inl fb3)), (b4, .inl (cI, 8, .inl fb4)), (b5, .inl (cI, 4, .inl fb5)), (b6, .inl (cI, 4, .inl fb6)), (dt, .inr (1, [.int mit, .int cut, .ref t2, .ref t3, .ref t4, .ref t5, .ref t6, .ref x4])), (t2, .inl (cI, 8, .inl ft2)), (t3, .inl (cI, 8, .inl ft3)), (t4, .inl (cI, 8, .inl ft4)), (t5, .inl (cI, 4, .inl ft5)), (t6, .inl (cI, 4, .inl ft6)), (dv, .inr (1, [.int miv, .int cuv, .ref v2, .ref v3, .ref v4, .ref v5, .ref v6, .ref x4])), (v2, .inl (cI, 8, .inl fv2)), (v3, .inl (cI, 8, .inl fv3)), (v4, .inl (cI, 8, .inl fv4)), (v5, .inl (cI, 4, .inl fv5)), (v6, .inl (cI, 4, .inl fv6)), (x7, .inr (3, [.ref hq, .int (nI o), .int (nI n)]))] sz) := by
  refine Met.ofW (cc := cX10_goBack) (maxL := 2) (ret := (some .int)) (by decide) rfl ?_
  intro p e s m args below meth c s₁ B hml hv
  obtain ⟨rfl, hsz, hP, hK, hD0⟩ := hv
  have hx := B.exec
  have hb := B.bytes
  have hr := B.returns
  have hts := atoms_spec (ws := wsX10_goBack) B.pre
  have hown : s.vm.findClass RX10 = some m.cls := findClass_of_methodNamed B.named
  have hlocks := B.notSynchronized
  have hi_X10 : ∀ w ∈ u_ws RX10 TX10 14, w ∈ wsX10_goBack := fun _ h => List.mem_cons_of_mem _ (List.mem_append_left _ (List.mem_append_left _ (List.mem_append_left _ (List.mem_append_right _ (h)))))
  have hi_X4 : ∀ w ∈ u_ws RX4 TX4 3, w ∈ wsX10_goBack := fun _ h => List.mem_cons_of_mem _ (List.mem_append_left _ (List.mem_append_left _ (List.mem_append_right _ (h))))
  subst hsz
  have hD := hD0.self (sz := s.heap.size)
  generalize hAe : va_A [(h0, .inr (10, [.ref x0, .int (nI tl), .int fa, .int (nI sd), .ref x4, .ref x5, .ref x6, .ref x7, .ref x8, .ref x9, .ref x10, .ref x11, .ref x12, .ref x13])), (x8, .inr (4, f_x8)), (i0, .inl (cQ, 2, .inr (.inr (.inr (.inr fi0))))), (i1, .inl (cI, 2, .inl fi1)), (i2, .inl (cZ, 2, .inl fi2)), (x6, .inr (1, [.int mib, .int cub, .ref b2, .ref b3, .ref b4, .ref b5, .ref b6, .ref x4])), (b2, .inl (cI, 8, .inl fb2)), (b3, .inl (cI, 8, .inl fb3)), (b4, .inl (cI, 8, .inl fb4)), (b5, .inl (cI, 4, .inl fb5)), (b6, .inl (cI, 4, .inl fb6)), (dt, .inr (1, [.int mit, .int cut, .ref t2, .ref t3, .ref t4, .ref t5, .ref t6, .ref x4])), (t2, .inl (cI, 8, .inl ft2)), (t3, .inl (cI, 8, .inl ft3)), (t4, .inl (cI, 8, .inl ft4)), (t5, .inl (cI, 4, .inl ft5)), (t6, .inl (cI, 4, .inl ft6)), (dv, .inr (1, [.int miv, .int cuv, .ref v2, .ref v3, .ref v4, .ref v5, .ref v6, .ref x4])), (v2, .inl (cI, 8, .inl fv2)), (v3, .inl (cI, 8, .inl fv3)), (v4, .inl (cI, 8, .inl fv4)), (v5, .inl (cI, 4, .inl fv5)), (v6, .inl (cI, 4, .inl fv6)), (x7, .inr (3, [.ref hq, .int (nI o), .int (nI n)]))] s.heap.size = A at hD ⊢
  have hA : ∀ q : Nat, s.heap.size ≤ q → A q := fun q h => by rw [← hAe]; exact Or.inr h
  have hS : va_S A s.heap s.heap [] := va_S.rf
  have hl := lv_entry ([.ref h0, .int q0]) (n := 2) (Nat.le_of_ble_eq_true rfl)
  rw [lg_entry_eq]
  generalize (lg_sl ([.ref h0, .int q0]) ++ List.replicate (2 - (lg_sl ([.ref h0, .int q0])).length) Slot.unset).toArray = ls at hl ⊢
  have hl : lv_has ls 2 [(0, .ref h0), (1, .int q0)] := hl
  refine lv_iload_n hx hb dX10_goBack_0 rfl (lv_at hl 1 rfl) ?_
  refine lv_iconst (v := 0) hx hb dX10_goBack_1 (by decide) ?_
  refine lv_iconst (v := 1) hx hb dX10_goBack_2 (by decide) ?_
  have hPc := hP.sub (ws' := []) [] rfl
  refine va_calli (va_runS (As := [.int q0, .int 0, .int 1]) (rest := []) ⟨hx, hb, hml, hown, hts⟩ (c_X10_within l dC dI cI cZ cQ q0 0 1 s.heap.size ) (va_cwS 3 hts gX10_goBack_X10_within rfl rfl rfl (by decide +kernel) ⟨Nat.le_of_ble_eq_true rfl, Nat.le_of_ble_eq_true rfl⟩) (ps_R hK hPc) rfl rfl hl.1 rfl (lv_room (Nat.le_of_ble_eq_true rfl)) dX10_goBack_3 ⟨Nat.le_of_ble_eq_true rfl, Nat.le_of_ble_eq_true rfl⟩) hS (fun q _ h => False.elim h) (fun q h => False.elim h) (fun r1 u2 t H1 locs ht hvm hw3 hB hz1 hk1 hS => ?_)
  have hP := hP.kept (fun k q hk => hk1 q.1 (hP k q hk).lt (fun h => h))
  clear hz1 hk1 hPc
  generalize H1 = H at hP hS ht ⊢
  try dsimp only at hw3
  rcases hw3 with ⟨rfl, hw3⟩ | ⟨rfl, hw3⟩
  ·
    rcases x_01 hw3 with rfl | rfl
    ·
      refine lv_if_ne (tgt := 12) hx hb dX10_goBack_6 (by decide) (fun c4 => ?_) (fun c4 => ?_)
      rotate_left
      · exact absurd c4 (by decide)
      clear c4
      refine lv_aload_n hx hb dX10_goBack_12 rfl (lv_at hl 0 rfl) ?_
      refine va_get (D := (dC, dI)) (ci := 10) (v := .ref x8) (C := RX10) (T := TX10) (N := 14) hx hb hts hi_X10 hown hK hP 0 rfl rfl 8 (by decide) (hts (.fieldLink RX10 56 "LeftQuills" "images" "LLeftQuills$Images;") (wmx 2 rfl)) (fun _ h9 => h9) rfl dX10_goBack_13 ?_
      refine va_get (D := (dC, dI)) (ci := 4) (v := .ref i2) (C := RX4) (T := TX4) (N := 3) hx hb hts hi_X4 hown hK hP 1 rfl rfl 2 (by decide) (hts (.fieldLink RX10 300 "LeftQuills$Images" "kept" "[Z") (wmx 3 rfl)) (fun _ h9 => h9) e_x8_2 dX10_goBack_16 ?_
      refine lv_iload_n hx hb dX10_goBack_19 rfl (lv_at hl 1 rfl) ?_
      refine va_zald hx hb hK hP 4 1 rfl rfl (vp_in_iff.mpr ⟨by decide, by decide⟩) dX10_goBack_20 ?_
      refine W.eq (g2 := F0 m 21 ls [.int (fi2 0)]) (congrArg (fun y9 => F0 m 21 ls (.int (fi2 y9) :: [])) ((show ((0 : Int32)).toNatClampNeg = 0 from by decide))) ?_
      refine lv_if_ne (tgt := 27) hx hb dX10_goBack_21 (by decide) (fun c5 => ?_) (fun c5 => ?_)
      ·
        refine lv_aload_n hx hb dX10_goBack_27 rfl (lv_at hl 0 rfl) ?_
        refine va_get (D := (dC, dI)) (ci := 10) (v := .ref x6) (C := RX10) (T := TX10) (N := 14) hx hb hts hi_X10 hown hK hP 0 rfl rfl 6 (by decide) (hts (.fieldLink RX10 42 "LeftQuills" "desk" "LLeftQuills$Desk;") (wmx 5 rfl)) (fun _ h9 => h9) rfl dX10_goBack_28 ?_
        refine lv_aload_n hx hb dX10_goBack_31 rfl (lv_at hl 0 rfl) ?_
        refine va_get (D := (dC, dI)) (ci := 10) (v := .ref x8) (C := RX10) (T := TX10) (N := 14) hx hb hts hi_X10 hown hK hP 0 rfl rfl 8 (by decide) (hts (.fieldLink RX10 56 "LeftQuills" "images" "LLeftQuills$Images;") (wmx 2 rfl)) (fun _ h9 => h9) rfl dX10_goBack_32 ?_
        refine va_get (D := (dC, dI)) (ci := 4) (v := .ref i0) (C := RX4) (T := TX4) (N := 3) hx hb hts hi_X4 hown hK hP 1 rfl rfl 0 (by decide) (hts (.fieldLink RX10 291 "LeftQuills$Images" "desks" "[LLeftQuills$Desk;") (wmx 6 rfl)) (fun _ h9 => h9) e_x8_0 dX10_goBack_35 ?_
        refine lv_iload_n hx hb dX10_goBack_38 rfl (lv_at hl 1 rfl) ?_
        refine va_aldq hx hb hK hP 2 2 rfl rfl (vp_in_iff.mpr ⟨by decide, by decide⟩) dX10_goBack_39 ?_
        refine W.eq (g2 := F0 m 40 ls [.ref dt, .ref x6]) (by rw [show ((0 : Int32)).toNatClampNeg = 0 from by decide, hf0]; rfl) ?_
        have hc9 := va_cut (W' := [(x6, .inr (1, [.int mib, .int cub, .ref b2, .ref b3, .ref b4, .ref b5, .ref b6, .ref x4])), (b2, .inl (cI, 8, .inl fb2)), (b3, .inl (cI, 8, .inl fb3)), (b4, .inl (cI, 8, .inl fb4)), (b5, .inl (cI, 4, .inl fb5)), (b6, .inl (cI, 4, .inl fb6)), (dt, .inr (1, [.int mit, .int cut, .ref t2, .ref t3, .ref t4, .ref t5, .ref t6, .ref x4])), (t2, .inl (cI, 8, .inl ft2)), (t3, .inl (cI, 8, .inl ft3)), (t4, .inl (cI, 8, .inl ft4)), (t5, .inl (cI, 4, .inl ft5)), (t6, .inl (cI, 4, .inl ft6))]) hP hD hS hA [5, 6, 7, 8, 9, 10, 11, 12, 13, 14, 15, 16] (by decide) rfl
        have hPc := hc9.1
        have hDc := hc9.2.1
        have hFc := hc9.2.2
        clear hc9
        refine va_callv (va_runV (As := [.ref dt]) (rest := []) ⟨hx, hb, hml, hown, hts⟩ (c_X1_copyFrom l dC dI cI cZ cQ x6 mib cub b2 b3 b4 b5 b6 x4 fb2 fb3 fb4 fb5 fb6 dt mit cut t2 t3 t4 t5 t6 x4 ft2 ft3 ft4 ft5 ft6 H.size ) (cwV 1 hts gX10_goBack_X1_copyFrom rfl rfl rfl hd_X1_copyFrom_RX1 ⟨Nat.le_of_ble_eq_true rfl, Nat.le_of_ble_eq_true rfl⟩) (pv_D (va_recv hK hP (ci := 1) (q0 := 5) rfl rfl) hK hPc hDc) rfl rfl hl.1 rfl (lv_room (Nat.le_of_ble_eq_true rfl)) dX10_goBack_40 ⟨Nat.le_of_ble_eq_true rfl, Nat.le_of_ble_eq_true rfl⟩) hS (fun q _ h => hFc q h) hFc (fun u7 t H1 locs ht hvm hw8 hB hz1 hk1 hS => ?_)
        obtain ⟨f9, f10, f11, f12, f13, i14, i15, hP1, hD1⟩ := hB
        replace hP1 := va_hp ht hP1
        obtain ⟨hP, hD⟩ := va_join (wr := [(h0, .inr (10, [.ref x0, .int (nI tl), .int fa, .int (nI sd), .ref x4, .ref x5, .ref x6, .ref x7, .ref x8, .ref x9, .ref x10, .ref x11, .ref x12, .ref x13])), (x8, .inr (4, f_x8)), (i0, .inl (cQ, 2, .inr (.inr (.inr (.inr fi0))))), (i1, .inl (cI, 2, .inl fi1)), (i2, .inl (cZ, 2, .inl fi2)), (dv, .inr (1, [.int miv, .int cuv, .ref v2, .ref v3, .ref v4, .ref v5, .ref v6, .ref x4])), (v2, .inl (cI, 8, .inl fv2)), (v3, .inl (cI, 8, .inl fv3)), (v4, .inl (cI, 8, .inl fv4)), (v5, .inl (cI, 4, .inl fv5)), (v6, .inl (cI, 4, .inl fv6)), (x7, .inr (3, [.ref hq, .int (nI o), .int (nI n)]))]) (w1 := [(x6, .inr (1, [.int i14, .int i15, .ref b2, .ref b3, .ref b4, .ref b5, .ref b6, .ref x4])), (b2, .inl (cI, 8, .inl f9)), (b3, .inl (cI, 8, .inl f10)), (b4, .inl (cI, 8, .inl f11)), (b5, .inl (cI, 4, .inl f12)), (b6, .inl (cI, 4, .inl f13)), (dt, .inr (1, [.int mit, .int cut, .ref t2, .ref t3, .ref t4, .ref t5, .ref t6, .ref x4])), (t2, .inl (cI, 8, .inl ft2)), (t3, .inl (cI, 8, .inl ft3)), (t4, .inl (cI, 8, .inl ft4)), (t5, .inl (cI, 4, .inl ft5)), (t6, .inl (cI, 4, .inl ft6))]) hP hD [5, 6, 7, 8, 9, 10, 11, 12, 13, 14, 15, 16] [0, 1, 2, 3, 4, 17, 18, 19, 20, 21, 22, 23] rfl rfl (by decide +kernel) (by decide +kernel) hk1 hFc hP1 hD1
        clear hP1 hD1
        clear hz1 hk1 hPc hDc hFc
        generalize H1 = H at hP hS ht ⊢
        have hPD : pdW (dC, dI) vwCl A [(h0, .inr (10, [.ref x0, .int (nI tl), .int fa, .int (nI sd), .ref x4, .ref x5, .ref x6, .ref x7, .ref x8, .ref x9, .ref x10, .ref x11, .ref x12, .ref x13])), (x8, .inr (4, f_x8)), (i0, .inl (cQ, 2, .inr (.inr (.inr (.inr fi0))))), (i1, .inl (cI, 2, .inl fi1)), (i2, .inl (cZ, 2, .inl fi2)), (dv, .inr (1, [.int miv, .int cuv, .ref v2, .ref v3, .ref v4, .ref v5, .ref v6, .ref x4])), (v2, .inl (cI, 8, .inl fv2)), (v3, .inl (cI, 8, .inl fv3)), (v4, .inl (cI, 8, .inl fv4)), (v5, .inl (cI, 4, .inl fv5)), (v6, .inl (cI, 4, .inl fv6)), (x7, .inr (3, [.ref hq, .int (nI o), .int (nI n)])), (x6, .inr (1, [.int i14, .int i15, .ref b2, .ref b3, .ref b4, .ref b5, .ref b6, .ref x4])), (b2, .inl (cI, 8, .inl f9)), (b3, .inl (cI, 8, .inl f10)), (b4, .inl (cI, 8, .inl f11)), (b5, .inl (cI, 4, .inl f12)), (b6, .inl (cI, 4, .inl f13)), (dt, .inr (1, [.int mit, .int cut, .ref t2, .ref t3, .ref t4, .ref t5, .ref t6, .ref x4])), (t2, .inl (cI, 8, .inl ft2)), (t3, .inl (cI, 8, .inl ft3)), (t4, .inl (cI, 8, .inl ft4)), (t5, .inl (cI, 4, .inl ft5)), (t6, .inl (cI, 4, .inl ft6))] H := ⟨hP, hD⟩
        have hP := hPD.1
        have hD := hPD.2
        clear hPD
        try dsimp only at hw8
        refine lv_aload_n hx hb dX10_goBack_43 rfl (lv_at hl 0 rfl) ?_
        refine lv_aload_n hx hb dX10_goBack_44 rfl (lv_at hl 0 rfl) ?_
        refine va_get (D := (dC, dI)) (ci := 10) (v := .ref x8) (C := RX10) (T := TX10) (N := 14) hx hb hts hi_X10 hown hK hP 0 rfl rfl 8 (by decide) (hts (.fieldLink RX10 56 "LeftQuills" "images" "LLeftQuills$Images;") (wmx 2 rfl)) (fun _ h9 => h9) rfl dX10_goBack_45 ?_
        refine va_get (D := (dC, dI)) (ci := 4) (v := .ref i1) (C := RX4) (T := TX4) (N := 3) hx hb hts hi_X4 hown hK hP 1 rfl rfl 1 (by decide) (hts (.fieldLink RX10 297 "LeftQuills$Images" "seeds" "[I") (wmx 7 rfl)) (fun _ h9 => h9) e_x8_1 dX10_goBack_48 ?_
        refine lv_iload_n hx hb dX10_goBack_51 rfl (lv_at hl 1 rfl) ?_
        refine va_iald hx hb hK hP 3 0 rfl rfl (vp_in_iff.mpr ⟨by decide, by decide⟩) dX10_goBack_52 ?_
        refine W.eq (g2 := F0 m 53 ls [.int (fi1 0), .ref h0]) (congrArg (fun y9 => F0 m 53 ls (.int (fi1 y9) :: [.ref h0])) ((show ((0 : Int32)).toNatClampNeg = 0 from by decide))) ?_
        refine lv_topi (fun z16 ez16 => ?_)
        obtain ⟨j17, hj17, ejj17⟩ := hsi 0 (by decide)
        obtain rfl : z16 = nI j17 := ez16.trans ejj17
        refine va_put (D := (dC, dI)) (ci := 10) (v := .int (nI j17)) (ty := .int) (C := RX10) (T := TX10) (N := 14) hx hb hts hi_X10 tyX10 tyX10_ok nmX10 hown hK hP hD hS 0 rfl rfl 3 (by decide) (hts (.fieldLink RX10 20 "LeftQuills" "seed" "I") (wmx 8 rfl)) (fun _ h9 => h9) rfl (by decide +kernel) rfl rfl (Nat.le_of_ble_eq_true rfl) dX10_goBack_53 (fun H locs hP hD hS => ?_)
        have hPD : pdW (dC, dI) vwCl A [(h0, .inr (10, [.ref x0, .int (nI tl), .int fa, .int (nI j17), .ref x4, .ref x5, .ref x6, .ref x7, .ref x8, .ref x9, .ref x10, .ref x11, .ref x12, .ref x13])), (x8, .inr (4, f_x8)), (i0, .inl (cQ, 2, .inr (.inr (.inr (.inr fi0))))), (i1, .inl (cI, 2, .inl fi1)), (i2, .inl (cZ, 2, .inl fi2)), (dv, .inr (1, [.int miv, .int cuv, .ref v2, .ref v3, .ref v4, .ref v5, .ref v6, .ref x4])), (v2, .inl (cI, 8, .inl fv2)), (v3, .inl (cI, 8, .inl fv3)), (v4, .inl (cI, 8, .inl fv4)), (v5, .inl (cI, 4, .inl fv5)), (v6, .inl (cI, 4, .inl fv6)), (x7, .inr (3, [.ref hq, .int (nI o), .int (nI n)])), (x6, .inr (1, [.int i14, .int i15, .ref b2, .ref b3, .ref b4, .ref b5, .ref b6, .ref x4])), (b2, .inl (cI, 8, .inl f9)), (b3, .inl (cI, 8, .inl f10)), (b4, .inl (cI, 8, .inl f11)), (b5, .inl (cI, 4, .inl f12)), (b6, .inl (cI, 4, .inl f13)), (dt, .inr (1, [.int mit, .int cut, .ref t2, .ref t3, .ref t4, .ref t5, .ref t6, .ref x4])), (t2, .inl (cI, 8, .inl ft2)), (t3, .inl (cI, 8, .inl ft3)), (t4, .inl (cI, 8, .inl ft4)), (t5, .inl (cI, 4, .inl ft5)), (t6, .inl (cI, 4, .inl ft6))] H := ⟨hP, hD⟩
        have hP := hPD.1
        have hD := hPD.2
        clear hPD
        refine lv_aload_n hx hb dX10_goBack_56 rfl (lv_at hl 0 rfl) ?_
        refine va_get (D := (dC, dI)) (ci := 10) (v := .ref x7) (C := RX10) (T := TX10) (N := 14) hx hb hts hi_X10 hown hK hP 0 rfl rfl 7 (by decide) (hts (.fieldLink RX10 49 "LeftQuills" "history" "LLeftQuills$History;") (wmx 9 rfl)) (fun _ h9 => h9) rfl dX10_goBack_57 ?_
        have hc9 := va_cut (W' := [(x7, .inr (3, [.ref hq, .int (nI o), .int (nI n)]))]) hP hD hS hA [11] (by decide) rfl
        have hPc := hc9.1
        have hDc := hc9.2.1
        have hFc := hc9.2.2
        clear hc9
        refine va_callv (va_runV (As := []) (rest := []) ⟨hx, hb, hml, hown, hts⟩ (c_X3_forget l dC dI cI cZ cQ x7 hq o n H.size ) (cwV 0 hts gX10_goBack_X3_forget rfl rfl rfl hd_X3_forget_RX3 ⟨Nat.le_of_ble_eq_true rfl, Nat.le_of_ble_eq_true rfl⟩) (pv_D (va_recv hK hP (ci := 3) (q0 := 11) rfl rfl) hK hPc hDc) rfl rfl hl.1 rfl (lv_room (Nat.le_of_ble_eq_true rfl)) dX10_goBack_60 ⟨Nat.le_of_ble_eq_true rfl, Nat.le_of_ble_eq_true rfl⟩) hS (fun q _ h => hFc q h) hFc (fun u19 t H1 locs ht hvm hw20 hB hz1 hk1 hS => ?_)
        obtain ⟨k21, hk21, hP1, hD1⟩ := hB
        replace hP1 := va_hp ht hP1
        obtain ⟨hP, hD⟩ := va_join (wr := [(h0, .inr (10, [.ref x0, .int (nI tl), .int fa, .int (nI j17), .ref x4, .ref x5, .ref x6, .ref x7, .ref x8, .ref x9, .ref x10, .ref x11, .ref x12, .ref x13])), (x8, .inr (4, f_x8)), (i0, .inl (cQ, 2, .inr (.inr (.inr (.inr fi0))))), (i1, .inl (cI, 2, .inl fi1)), (i2, .inl (cZ, 2, .inl fi2)), (dv, .inr (1, [.int miv, .int cuv, .ref v2, .ref v3, .ref v4, .ref v5, .ref v6, .ref x4])), (v2, .inl (cI, 8, .inl fv2)), (v3, .inl (cI, 8, .inl fv3)), (v4, .inl (cI, 8, .inl fv4)), (v5, .inl (cI, 4, .inl fv5)), (v6, .inl (cI, 4, .inl fv6)), (x6, .inr (1, [.int i14, .int i15, .ref b2, .ref b3, .ref b4, .ref b5, .ref b6, .ref x4])), (b2, .inl (cI, 8, .inl f9)), (b3, .inl (cI, 8, .inl f10)), (b4, .inl (cI, 8, .inl f11)), (b5, .inl (cI, 4, .inl f12)), (b6, .inl (cI, 4, .inl f13)), (dt, .inr (1, [.int mit, .int cut, .ref t2, .ref t3, .ref t4, .ref t5, .ref t6, .ref x4])), (t2, .inl (cI, 8, .inl ft2)), (t3, .inl (cI, 8, .inl ft3)), (t4, .inl (cI, 8, .inl ft4)), (t5, .inl (cI, 4, .inl ft5)), (t6, .inl (cI, 4, .inl ft6))]) (w1 := [(x7, .inr (3, [.ref hq, .int (nI o), .int (nI k21)]))]) hP hD [11] [0, 1, 2, 3, 4, 5, 6, 7, 8, 9, 10, 12, 13, 14, 15, 16, 17, 18, 19, 20, 21, 22, 23] rfl rfl (by decide +kernel) (by decide +kernel) hk1 hFc hP1 hD1
        clear hP1 hD1
        clear hz1 hk1 hPc hDc hFc
        generalize H1 = H at hP hS ht ⊢
        have hPD : pdW (dC, dI) vwCl A [(h0, .inr (10, [.ref x0, .int (nI tl), .int fa, .int (nI j17), .ref x4, .ref x5, .ref x6, .ref x7, .ref x8, .ref x9, .ref x10, .ref x11, .ref x12, .ref x13])), (x8, .inr (4, f_x8)), (i0, .inl (cQ, 2, .inr (.inr (.inr (.inr fi0))))), (i1, .inl (cI, 2, .inl fi1)), (i2, .inl (cZ, 2, .inl fi2)), (dv, .inr (1, [.int miv, .int cuv, .ref v2, .ref v3, .ref v4, .ref v5, .ref v6, .ref x4])), (v2, .inl (cI, 8, .inl fv2)), (v3, .inl (cI, 8, .inl fv3)), (v4, .inl (cI, 8, .inl fv4)), (v5, .inl (cI, 4, .inl fv5)), (v6, .inl (cI, 4, .inl fv6)), (x6, .inr (1, [.int i14, .int i15, .ref b2, .ref b3, .ref b4, .ref b5, .ref b6, .ref x4])), (b2, .inl (cI, 8, .inl f9)), (b3, .inl (cI, 8, .inl f10)), (b4, .inl (cI, 8, .inl f11)), (b5, .inl (cI, 4, .inl f12)), (b6, .inl (cI, 4, .inl f13)), (dt, .inr (1, [.int mit, .int cut, .ref t2, .ref t3, .ref t4, .ref t5, .ref t6, .ref x4])), (t2, .inl (cI, 8, .inl ft2)), (t3, .inl (cI, 8, .inl ft3)), (t4, .inl (cI, 8, .inl ft4)), (t5, .inl (cI, 4, .inl ft5)), (t6, .inl (cI, 4, .inl ft6)), (x7, .inr (3, [.ref hq, .int (nI o), .int (nI k21)]))] H := ⟨hP, hD⟩
        have hP := hPD.1
        have hD := hPD.2
        clear hPD
        try dsimp only at hw20
        refine lv_iconst (v := 1) hx hb dX10_goBack_63 (by decide) ?_
        have hP9 := hP.sub (ws' := [(h0, .inr (10, [.ref x0, .int (nI tl), .int fa, .int (nI j17), .ref x4, .ref x5, .ref x6, .ref x7, .ref x8, .ref x9, .ref x10, .ref x11, .ref x12, .ref x13])), (x8, .inr (4, f_x8)), (i0, .inl (cQ, 2, .inr (.inr (.inr (.inr fi0))))), (i1, .inl (cI, 2, .inl fi1)), (i2, .inl (cZ, 2, .inl fi2)), (x6, .inr (1, [.int i14, .int i15, .ref b2, .ref b3, .ref b4, .ref b5, .ref b6, .ref x4])), (b2, .inl (cI, 8, .inl f9)), (b3, .inl (cI, 8, .inl f10)), (b4, .inl (cI, 8, .inl f11)), (b5, .inl (cI, 4, .inl f12)), (b6, .inl (cI, 4, .inl f13)), (dt, .inr (1, [.int mit, .int cut, .ref t2, .ref t3, .ref t4, .ref t5, .ref t6, .ref x4])), (t2, .inl (cI, 8, .inl ft2)), (t3, .inl (cI, 8, .inl ft3)), (t4, .inl (cI, 8, .inl ft4)), (t5, .inl (cI, 4, .inl ft5)), (t6, .inl (cI, 4, .inl ft6)), (dv, .inr (1, [.int miv, .int cuv, .ref v2, .ref v3, .ref v4, .ref v5, .ref v6, .ref x4])), (v2, .inl (cI, 8, .inl fv2)), (v3, .inl (cI, 8, .inl fv3)), (v4, .inl (cI, 8, .inl fv4)), (v5, .inl (cI, 4, .inl fv5)), (v6, .inl (cI, 4, .inl fv6)), (x7, .inr (3, [.ref hq, .int (nI o), .int (nI k21)]))]) [0, 1, 2, 3, 4, 11, 12, 13, 14, 15, 16, 17, 18, 19, 20, 21, 22, 5, 6, 7, 8, 9, 10, 23] rfl
        have hD9 := hD.sub (ws' := [(h0, .inr (10, [.ref x0, .int (nI tl), .int fa, .int (nI j17), .ref x4, .ref x5, .ref x6, .ref x7, .ref x8, .ref x9, .ref x10, .ref x11, .ref x12, .ref x13])), (x8, .inr (4, f_x8)), (i0, .inl (cQ, 2, .inr (.inr (.inr (.inr fi0))))), (i1, .inl (cI, 2, .inl fi1)), (i2, .inl (cZ, 2, .inl fi2)), (x6, .inr (1, [.int i14, .int i15, .ref b2, .ref b3, .ref b4, .ref b5, .ref b6, .ref x4])), (b2, .inl (cI, 8, .inl f9)), (b3, .inl (cI, 8, .inl f10)), (b4, .inl (cI, 8, .inl f11)), (b5, .inl (cI, 4, .inl f12)), (b6, .inl (cI, 4, .inl f13)), (dt, .inr (1, [.int mit, .int cut, .ref t2, .ref t3, .ref t4, .ref t5, .ref t6, .ref x4])), (t2, .inl (cI, 8, .inl ft2)), (t3, .inl (cI, 8, .inl ft3)), (t4, .inl (cI, 8, .inl ft4)), (t5, .inl (cI, 4, .inl ft5)), (t6, .inl (cI, 4, .inl ft6)), (dv, .inr (1, [.int miv, .int cuv, .ref v2, .ref v3, .ref v4, .ref v5, .ref v6, .ref x4])), (v2, .inl (cI, 8, .inl fv2)), (v3, .inl (cI, 8, .inl fv3)), (v4, .inl (cI, 8, .inl fv4)), (v5, .inl (cI, 4, .inl fv5)), (v6, .inl (cI, 4, .inl fv6)), (x7, .inr (3, [.ref hq, .int (nI o), .int (nI k21)]))]) [0, 1, 2, 3, 4, 11, 12, 13, 14, 15, 16, 17, 18, 19, 20, 21, 22, 5, 6, 7, 8, 9, 10, 23] (by decide +kernel) rfl
        exact W.iret (v := 1) hx hb hr (fun t ht hW => ⟨⟨1, (fun _ => 0), rfl, (Eq.symm (Eq.trans (if_pos hw3) (if_neg c5))), ⟨f9, f10, f11, f12, f13, i14, i15, j17, k21, by omega, by omega, va_hq ht hP9, hD9⟩⟩, hS.F ht⟩) hS.2.2 dX10_goBack_64
      ·
        refine lv_ldc (v := (-1000000003)) hx hb hown (hts (.constant RX10 220 (-1000000003)) (wmx 4 rfl)) dX10_goBack_24 ?_
        have hP9 := hP.sub (ws' := [(h0, .inr (10, [.ref x0, .int (nI tl), .int fa, .int (nI sd), .ref x4, .ref x5, .ref x6, .ref x7, .ref x8, .ref x9, .ref x10, .ref x11, .ref x12, .ref x13])), (x8, .inr (4, f_x8)), (i0, .inl (cQ, 2, .inr (.inr (.inr (.inr fi0))))), (i1, .inl (cI, 2, .inl fi1)), (i2, .inl (cZ, 2, .inl fi2)), (x6, .inr (1, [.int mib, .int cub, .ref b2, .ref b3, .ref b4, .ref b5, .ref b6, .ref x4])), (b2, .inl (cI, 8, .inl fb2)), (b3, .inl (cI, 8, .inl fb3)), (b4, .inl (cI, 8, .inl fb4)), (b5, .inl (cI, 4, .inl fb5)), (b6, .inl (cI, 4, .inl fb6)), (dt, .inr (1, [.int mit, .int cut, .ref t2, .ref t3, .ref t4, .ref t5, .ref t6, .ref x4])), (t2, .inl (cI, 8, .inl ft2)), (t3, .inl (cI, 8, .inl ft3)), (t4, .inl (cI, 8, .inl ft4)), (t5, .inl (cI, 4, .inl ft5)), (t6, .inl (cI, 4, .inl ft6)), (dv, .inr (1, [.int miv, .int cuv, .ref v2, .ref v3, .ref v4, .ref v5, .ref v6, .ref x4])), (v2, .inl (cI, 8, .inl fv2)), (v3, .inl (cI, 8, .inl fv3)), (v4, .inl (cI, 8, .inl fv4)), (v5, .inl (cI, 4, .inl fv5)), (v6, .inl (cI, 4, .inl fv6)), (x7, .inr (3, [.ref hq, .int (nI o), .int (nI n)]))]) [0, 1, 2, 3, 4, 5, 6, 7, 8, 9, 10, 11, 12, 13, 14, 15, 16, 17, 18, 19, 20, 21, 22, 23] rfl
        have hD9 := hD.sub (ws' := [(h0, .inr (10, [.ref x0, .int (nI tl), .int fa, .int (nI sd), .ref x4, .ref x5, .ref x6, .ref x7, .ref x8, .ref x9, .ref x10, .ref x11, .ref x12, .ref x13])), (x8, .inr (4, f_x8)), (i0, .inl (cQ, 2, .inr (.inr (.inr (.inr fi0))))), (i1, .inl (cI, 2, .inl fi1)), (i2, .inl (cZ, 2, .inl fi2)), (x6, .inr (1, [.int mib, .int cub, .ref b2, .ref b3, .ref b4, .ref b5, .ref b6, .ref x4])), (b2, .inl (cI, 8, .inl fb2)), (b3, .inl (cI, 8, .inl fb3)), (b4, .inl (cI, 8, .inl fb4)), (b5, .inl (cI, 4, .inl fb5)), (b6, .inl (cI, 4, .inl fb6)), (dt, .inr (1, [.int mit, .int cut, .ref t2, .ref t3, .ref t4, .ref t5, .ref t6, .ref x4])), (t2, .inl (cI, 8, .inl ft2)), (t3, .inl (cI, 8, .inl ft3)), (t4, .inl (cI, 8, .inl ft4)), (t5, .inl (cI, 4, .inl ft5)), (t6, .inl (cI, 4, .inl ft6)), (dv, .inr (1, [.int miv, .int cuv, .ref v2, .ref v3, .ref v4, .ref v5, .ref v6, .ref x4])), (v2, .inl (cI, 8, .inl fv2)), (v3, .inl (cI, 8, .inl fv3)), (v4, .inl (cI, 8, .inl fv4)), (v5, .inl (cI, 4, .inl fv5)), (v6, .inl (cI, 4, .inl fv6)), (x7, .inr (3, [.ref hq, .int (nI o), .int (nI n)]))]) [0, 1, 2, 3, 4, 5, 6, 7, 8, 9, 10, 11, 12, 13, 14, 15, 16, 17, 18, 19, 20, 21, 22, 23] (by decide +kernel) rfl
        exact W.iret (v := (-1000000003)) hx hb hr (fun t ht hW => ⟨⟨(-1000000003), (fun _ => 0), rfl, (Eq.symm (Eq.trans (if_pos hw3) (if_pos c5))), ⟨fb2, fb3, fb4, fb5, fb6, mib, cub, sd, n, by omega, by omega, va_hq ht hP9, hD9⟩⟩, hS.F ht⟩) hS.2.2 dX10_goBack_26
    ·
      refine lv_if_ne (tgt := 12) hx hb dX10_goBack_6 (by decide) (fun c22 => ?_) (fun c22 => ?_)
      rotate_left
      · exact absurd c22 (by decide)
      clear c22
      refine lv_aload_n hx hb dX10_goBack_12 rfl (lv_at hl 0 rfl) ?_
      refine va_get (D := (dC, dI)) (ci := 10) (v := .ref x8) (C := RX10) (T := TX10) (N := 14) hx hb hts hi_X10 hown hK hP 0 rfl rfl 8 (by decide) (hts (.fieldLink RX10 56 "LeftQuills" "images" "LLeftQuills$Images;") (wmx 2 rfl)) (fun _ h9 => h9) rfl dX10_goBack_13 ?_
      refine va_get (D := (dC, dI)) (ci := 4) (v := .ref i2) (C := RX4) (T := TX4) (N := 3) hx hb hts hi_X4 hown hK hP 1 rfl rfl 2 (by decide) (hts (.fieldLink RX10 300 "LeftQuills$Images" "kept" "[Z") (wmx 3 rfl)) (fun _ h9 => h9) e_x8_2 dX10_goBack_16 ?_
      refine lv_iload_n hx hb dX10_goBack_19 rfl (lv_at hl 1 rfl) ?_
      refine va_zald hx hb hK hP 4 1 rfl rfl (vp_in_iff.mpr ⟨by decide, by decide⟩) dX10_goBack_20 ?_
      refine W.eq (g2 := F0 m 21 ls [.int (fi2 1)]) (congrArg (fun y9 => F0 m 21 ls (.int (fi2 y9) :: [])) ((show ((1 : Int32)).toNatClampNeg = 1 from by decide))) ?_
      refine lv_if_ne (tgt := 27) hx hb dX10_goBack_21 (by decide) (fun c23 => ?_) (fun c23 => ?_)
      ·
        refine lv_aload_n hx hb dX10_goBack_27 rfl (lv_at hl 0 rfl) ?_
        refine va_get (D := (dC, dI)) (ci := 10) (v := .ref x6) (C := RX10) (T := TX10) (N := 14) hx hb hts hi_X10 hown hK hP 0 rfl rfl 6 (by decide) (hts (.fieldLink RX10 42 "LeftQuills" "desk" "LLeftQuills$Desk;") (wmx 5 rfl)) (fun _ h9 => h9) rfl dX10_goBack_28 ?_
        refine lv_aload_n hx hb dX10_goBack_31 rfl (lv_at hl 0 rfl) ?_
        refine va_get (D := (dC, dI)) (ci := 10) (v := .ref x8) (C := RX10) (T := TX10) (N := 14) hx hb hts hi_X10 hown hK hP 0 rfl rfl 8 (by decide) (hts (.fieldLink RX10 56 "LeftQuills" "images" "LLeftQuills$Images;") (wmx 2 rfl)) (fun _ h9 => h9) rfl dX10_goBack_32 ?_
        refine va_get (D := (dC, dI)) (ci := 4) (v := .ref i0) (C := RX4) (T := TX4) (N := 3) hx hb hts hi_X4 hown hK hP 1 rfl rfl 0 (by decide) (hts (.fieldLink RX10 291 "LeftQuills$Images" "desks" "[LLeftQuills$Desk;") (wmx 6 rfl)) (fun _ h9 => h9) e_x8_0 dX10_goBack_35 ?_
        refine lv_iload_n hx hb dX10_goBack_38 rfl (lv_at hl 1 rfl) ?_
        refine va_aldq hx hb hK hP 2 2 rfl rfl (vp_in_iff.mpr ⟨by decide, by decide⟩) dX10_goBack_39 ?_
        refine W.eq (g2 := F0 m 40 ls [.ref dv, .ref x6]) (by rw [show ((1 : Int32)).toNatClampNeg = 1 from by decide, hf1]; rfl) ?_
        have hc9 := va_cut (W' := [(x6, .inr (1, [.int mib, .int cub, .ref b2, .ref b3, .ref b4, .ref b5, .ref b6, .ref x4])), (b2, .inl (cI, 8, .inl fb2)), (b3, .inl (cI, 8, .inl fb3)), (b4, .inl (cI, 8, .inl fb4)), (b5, .inl (cI, 4, .inl fb5)), (b6, .inl (cI, 4, .inl fb6)), (dv, .inr (1, [.int miv, .int cuv, .ref v2, .ref v3, .ref v4, .ref v5, .ref v6, .ref x4])), (v2, .inl (cI, 8, .inl fv2)), (v3, .inl (cI, 8, .inl fv3)), (v4, .inl (cI, 8, .inl fv4)), (v5, .inl (cI, 4, .inl fv5)), (v6, .inl (cI, 4, .inl fv6))]) hP hD hS hA [5, 6, 7, 8, 9, 10, 17, 18, 19, 20, 21, 22] (by decide) rfl
        have hPc := hc9.1
        have hDc := hc9.2.1
        have hFc := hc9.2.2
        clear hc9
        refine va_callv (va_runV (As := [.ref dv]) (rest := []) ⟨hx, hb, hml, hown, hts⟩ (c_X1_copyFrom l dC dI cI cZ cQ x6 mib cub b2 b3 b4 b5 b6 x4 fb2 fb3 fb4 fb5 fb6 dv miv cuv v2 v3 v4 v5 v6 x4 fv2 fv3 fv4 fv5 fv6 H.size ) (cwV 1 hts gX10_goBack_X1_copyFrom rfl rfl rfl hd_X1_copyFrom_RX1 ⟨Nat.le_of_ble_eq_true rfl, Nat.le_of_ble_eq_true rfl⟩) (pv_D (va_recv hK hP (ci := 1) (q0 := 5) rfl rfl) hK hPc hDc) rfl rfl hl.1 rfl (lv_room (Nat.le_of_ble_eq_true rfl)) dX10_goBack_40 ⟨Nat.le_of_ble_eq_true rfl, Nat.le_of_ble_eq_true rfl⟩) hS (fun q _ h => hFc q h) hFc (fun u25 t H1 locs ht hvm hw26 hB hz1 hk1 hS => ?_)
        obtain ⟨f27, f28, f29, f30, f31, i32, i33, hP1, hD1⟩ := hB
        replace hP1 := va_hp ht hP1
        obtain ⟨hP, hD⟩ := va_join (wr := [(h0, .inr (10, [.ref x0, .int (nI tl), .int fa, .int (nI sd), .ref x4, .ref x5, .ref x6, .ref x7, .ref x8, .ref x9, .ref x10, .ref x11, .ref x12, .ref x13])), (x8, .inr (4, f_x8)), (i0, .inl (cQ, 2, .inr (.inr (.inr (.inr fi0))))), (i1, .inl (cI, 2, .inl fi1)), (i2, .inl (cZ, 2, .inl fi2)), (dt, .inr (1, [.int mit, .int cut, .ref t2, .ref t3, .ref t4, .ref t5, .ref t6, .ref x4])), (t2, .inl (cI, 8, .inl ft2)), (t3, .inl (cI, 8, .inl ft3)), (t4, .inl (cI, 8, .inl ft4)), (t5, .inl (cI, 4, .inl ft5)), (t6, .inl (cI, 4, .inl ft6)), (x7, .inr (3, [.ref hq, .int (nI o), .int (nI n)]))]) (w1 := [(x6, .inr (1, [.int i32, .int i33, .ref b2, .ref b3, .ref b4, .ref b5, .ref b6, .ref x4])), (b2, .inl (cI, 8, .inl f27)), (b3, .inl (cI, 8, .inl f28)), (b4, .inl (cI, 8, .inl f29)), (b5, .inl (cI, 4, .inl f30)), (b6, .inl (cI, 4, .inl f31)), (dv, .inr (1, [.int miv, .int cuv, .ref v2, .ref v3, .ref v4, .ref v5, .ref v6, .ref x4])), (v2, .inl (cI, 8, .inl fv2)), (v3, .inl (cI, 8, .inl fv3)), (v4, .inl (cI, 8, .inl fv4)), (v5, .inl (cI, 4, .inl fv5)), (v6, .inl (cI, 4, .inl fv6))]) hP hD [5, 6, 7, 8, 9, 10, 17, 18, 19, 20, 21, 22] [0, 1, 2, 3, 4, 11, 12, 13, 14, 15, 16, 23] rfl rfl (by decide +kernel) (by decide +kernel) hk1 hFc hP1 hD1
        clear hP1 hD1
        clear hz1 hk1 hPc hDc hFc
        generalize H1 = H at hP hS ht ⊢
        have hPD : pdW (dC, dI) vwCl A [(h0, .inr (10, [.ref x0, .int (nI tl), .int fa, .int (nI sd), .ref x4, .ref x5, .ref x6, .ref x7, .ref x8, .ref x9, .ref x10, .ref x11, .ref x12, .ref x13])), (x8, .inr (4, f_x8)), (i0, .inl (cQ, 2, .inr (.inr (.inr (.inr fi0))))), (i1, .inl (cI, 2, .inl fi1)), (i2, .inl (cZ, 2, .inl fi2)), (dt, .inr (1, [.int mit, .int cut, .ref t2, .ref t3, .ref t4, .ref t5, .ref t6, .ref x4])), (t2, .inl (cI, 8, .inl ft2)), (t3, .inl (cI, 8, .inl ft3)), (t4, .inl (cI, 8, .inl ft4)), (t5, .inl (cI, 4, .inl ft5)), (t6, .inl (cI, 4, .inl ft6)), (x7, .inr (3, [.ref hq, .int (nI o), .int (nI n)])), (x6, .inr (1, [.int i32, .int i33, .ref b2, .ref b3, .ref b4, .ref b5, .ref b6, .ref x4])), (b2, .inl (cI, 8, .inl f27)), (b3, .inl (cI, 8, .inl f28)), (b4, .inl (cI, 8, .inl f29)), (b5, .inl (cI, 4, .inl f30)), (b6, .inl (cI, 4, .inl f31)), (dv, .inr (1, [.int miv, .int cuv, .ref v2, .ref v3, .ref v4, .ref v5, .ref v6, .ref x4])), (v2, .inl (cI, 8, .inl fv2)), (v3, .inl (cI, 8, .inl fv3)), (v4, .inl (cI, 8, .inl fv4)), (v5, .inl (cI, 4, .inl fv5)), (v6, .inl (cI, 4, .inl fv6))] H := ⟨hP, hD⟩
        have hP := hPD.1
        have hD := hPD.2
        clear hPD
        try dsimp only at hw26
        refine lv_aload_n hx hb dX10_goBack_43 rfl (lv_at hl 0 rfl) ?_
        refine lv_aload_n hx hb dX10_goBack_44 rfl (lv_at hl 0 rfl) ?_
        refine va_get (D := (dC, dI)) (ci := 10) (v := .ref x8) (C := RX10) (T := TX10) (N := 14) hx hb hts hi_X10 hown hK hP 0 rfl rfl 8 (by decide) (hts (.fieldLink RX10 56 "LeftQuills" "images" "LLeftQuills$Images;") (wmx 2 rfl)) (fun _ h9 => h9) rfl dX10_goBack_45 ?_
        refine va_get (D := (dC, dI)) (ci := 4) (v := .ref i1) (C := RX4) (T := TX4) (N := 3) hx hb hts hi_X4 hown hK hP 1 rfl rfl 1 (by decide) (hts (.fieldLink RX10 297 "LeftQuills$Images" "seeds" "[I") (wmx 7 rfl)) (fun _ h9 => h9) e_x8_1 dX10_goBack_48 ?_
        refine lv_iload_n hx hb dX10_goBack_51 rfl (lv_at hl 1 rfl) ?_
        refine va_iald hx hb hK hP 3 0 rfl rfl (vp_in_iff.mpr ⟨by decide, by decide⟩) dX10_goBack_52 ?_
        refine W.eq (g2 := F0 m 53 ls [.int (fi1 1), .ref h0]) (congrArg (fun y9 => F0 m 53 ls (.int (fi1 y9) :: [.ref h0])) ((show ((1 : Int32)).toNatClampNeg = 1 from by decide))) ?_
        refine lv_topi (fun z34 ez34 => ?_)
        obtain ⟨j35, hj35, ejj35⟩ := hsi 1 (by decide)
        obtain rfl : z34 = nI j35 := ez34.trans ejj35
        refine va_put (D := (dC, dI)) (ci := 10) (v := .int (nI j35)) (ty := .int) (C := RX10) (T := TX10) (N := 14) hx hb hts hi_X10 tyX10 tyX10_ok nmX10 hown hK hP hD hS 0 rfl rfl 3 (by decide) (hts (.fieldLink RX10 20 "LeftQuills" "seed" "I") (wmx 8 rfl)) (fun _ h9 => h9) rfl (by decide +kernel) rfl rfl (Nat.le_of_ble_eq_true rfl) dX10_goBack_53 (fun H locs hP hD hS => ?_)
        have hPD : pdW (dC, dI) vwCl A [(h0, .inr (10, [.ref x0, .int (nI tl), .int fa, .int (nI j35), .ref x4, .ref x5, .ref x6, .ref x7, .ref x8, .ref x9, .ref x10, .ref x11, .ref x12, .ref x13])), (x8, .inr (4, f_x8)), (i0, .inl (cQ, 2, .inr (.inr (.inr (.inr fi0))))), (i1, .inl (cI, 2, .inl fi1)), (i2, .inl (cZ, 2, .inl fi2)), (dt, .inr (1, [.int mit, .int cut, .ref t2, .ref t3, .ref t4, .ref t5, .ref t6, .ref x4])), (t2, .inl (cI, 8, .inl ft2)), (t3, .inl (cI, 8, .inl ft3)), (t4, .inl (cI, 8, .inl ft4)), (t5, .inl (cI, 4, .inl ft5)), (t6, .inl (cI, 4, .inl ft6)), (x7, .inr (3, [.ref hq, .int (nI o), .int (nI n)])), (x6, .inr (1, [.int i32, .int i33, .ref b2, .ref b3, .ref b4, .ref b5, .ref b6, .ref x4])), (b2, .inl (cI, 8, .inl f27)), (b3, .inl (cI, 8, .inl f28)), (b4, .inl (cI, 8, .inl f29)), (b5, .inl (cI, 4, .inl f30)), (b6, .inl (cI, 4, .inl f31)), (dv, .inr (1, [.int miv, .int cuv, .ref v2, .ref v3, .ref v4, .ref v5, .ref v6, .ref x4])), (v2, .inl (cI, 8, .inl fv2)), (v3, .inl (cI, 8, .inl fv3)), (v4, .inl (cI, 8, .inl fv4)), (v5, .inl (cI, 4, .inl fv5)), (v6, .inl (cI, 4, .inl fv6))] H := ⟨hP, hD⟩
        have hP := hPD.1
        have hD := hPD.2
        clear hPD
        refine lv_aload_n hx hb dX10_goBack_56 rfl (lv_at hl 0 rfl) ?_
        refine va_get (D := (dC, dI)) (ci := 10) (v := .ref x7) (C := RX10) (T := TX10) (N := 14) hx hb hts hi_X10 hown hK hP 0 rfl rfl 7 (by decide) (hts (.fieldLink RX10 49 "LeftQuills" "history" "LLeftQuills$History;") (wmx 9 rfl)) (fun _ h9 => h9) rfl dX10_goBack_57 ?_
        have hc9 := va_cut (W' := [(x7, .inr (3, [.ref hq, .int (nI o), .int (nI n)]))]) hP hD hS hA [11] (by decide) rfl
        have hPc := hc9.1
        have hDc := hc9.2.1
        have hFc := hc9.2.2
        clear hc9
        refine va_callv (va_runV (As := []) (rest := []) ⟨hx, hb, hml, hown, hts⟩ (c_X3_forget l dC dI cI cZ cQ x7 hq o n H.size ) (cwV 0 hts gX10_goBack_X3_forget rfl rfl rfl hd_X3_forget_RX3 ⟨Nat.le_of_ble_eq_true rfl, Nat.le_of_ble_eq_true rfl⟩) (pv_D (va_recv hK hP (ci := 3) (q0 := 11) rfl rfl) hK hPc hDc) rfl rfl hl.1 rfl (lv_room (Nat.le_of_ble_eq_true rfl)) dX10_goBack_60 ⟨Nat.le_of_ble_eq_true rfl, Nat.le_of_ble_eq_true rfl⟩) hS (fun q _ h => hFc q h) hFc (fun u37 t H1 locs ht hvm hw38 hB hz1 hk1 hS => ?_)
        obtain ⟨k39, hk39, hP1, hD1⟩ := hB
        replace hP1 := va_hp ht hP1
        obtain ⟨hP, hD⟩ := va_join (wr := [(h0, .inr (10, [.ref x0, .int (nI tl), .int fa, .int (nI j35), .ref x4, .ref x5, .ref x6, .ref x7, .ref x8, .ref x9, .ref x10, .ref x11, .ref x12, .ref x13])), (x8, .inr (4, f_x8)), (i0, .inl (cQ, 2, .inr (.inr (.inr (.inr fi0))))), (i1, .inl (cI, 2, .inl fi1)), (i2, .inl (cZ, 2, .inl fi2)), (dt, .inr (1, [.int mit, .int cut, .ref t2, .ref t3, .ref t4, .ref t5, .ref t6, .ref x4])), (t2, .inl (cI, 8, .inl ft2)), (t3, .inl (cI, 8, .inl ft3)), (t4, .inl (cI, 8, .inl ft4)), (t5, .inl (cI, 4, .inl ft5)), (t6, .inl (cI, 4, .inl ft6)), (x6, .inr (1, [.int i32, .int i33, .ref b2, .ref b3, .ref b4, .ref b5, .ref b6, .ref x4])), (b2, .inl (cI, 8, .inl f27)), (b3, .inl (cI, 8, .inl f28)), (b4, .inl (cI, 8, .inl f29)), (b5, .inl (cI, 4, .inl f30)), (b6, .inl (cI, 4, .inl f31)), (dv, .inr (1, [.int miv, .int cuv, .ref v2, .ref v3, .ref v4, .ref v5, .ref v6, .ref x4])), (v2, .inl (cI, 8, .inl fv2)), (v3, .inl (cI, 8, .inl fv3)), (v4, .inl (cI, 8, .inl fv4)), (v5, .inl (cI, 4, .inl fv5)), (v6, .inl (cI, 4, .inl fv6))]) (w1 := [(x7, .inr (3, [.ref hq, .int (nI o), .int (nI k39)]))]) hP hD [11] [0, 1, 2, 3, 4, 5, 6, 7, 8, 9, 10, 12, 13, 14, 15, 16, 17, 18, 19, 20, 21, 22, 23] rfl rfl (by decide +kernel) (by decide +kernel) hk1 hFc hP1 hD1
        clear hP1 hD1
        clear hz1 hk1 hPc hDc hFc
        generalize H1 = H at hP hS ht ⊢
        have hPD : pdW (dC, dI) vwCl A [(h0, .inr (10, [.ref x0, .int (nI tl), .int fa, .int (nI j35), .ref x4, .ref x5, .ref x6, .ref x7, .ref x8, .ref x9, .ref x10, .ref x11, .ref x12, .ref x13])), (x8, .inr (4, f_x8)), (i0, .inl (cQ, 2, .inr (.inr (.inr (.inr fi0))))), (i1, .inl (cI, 2, .inl fi1)), (i2, .inl (cZ, 2, .inl fi2)), (dt, .inr (1, [.int mit, .int cut, .ref t2, .ref t3, .ref t4, .ref t5, .ref t6, .ref x4])), (t2, .inl (cI, 8, .inl ft2)), (t3, .inl (cI, 8, .inl ft3)), (t4, .inl (cI, 8, .inl ft4)), (t5, .inl (cI, 4, .inl ft5)), (t6, .inl (cI, 4, .inl ft6)), (x6, .inr (1, [.int i32, .int i33, .ref b2, .ref b3, .ref b4, .ref b5, .ref b6, .ref x4])), (b2, .inl (cI, 8, .inl f27)), (b3, .inl (cI, 8, .inl f28)), (b4, .inl (cI, 8, .inl f29)), (b5, .inl (cI, 4, .inl f30)), (b6, .inl (cI, 4, .inl f31)), (dv, .inr (1, [.int miv, .int cuv, .ref v2, .ref v3, .ref v4, .ref v5, .ref v6, .ref x4])), (v2, .inl (cI, 8, .inl fv2)), (v3, .inl (cI, 8, .inl fv3)), (v4, .inl (cI, 8, .inl fv4)), (v5, .inl (cI, 4, .inl fv5)), (v6, .inl (cI, 4, .inl fv6)), (x7, .inr (3, [.ref hq, .int (nI o), .int (nI k39)]))] H := ⟨hP, hD⟩
        have hP := hPD.1
        have hD := hPD.2
        clear hPD
        try dsimp only at hw38
        refine lv_iconst (v := 1) hx hb dX10_goBack_63 (by decide) ?_
        have hP9 := hP.sub (ws' := [(h0, .inr (10, [.ref x0, .int (nI tl), .int fa, .int (nI j35), .ref x4, .ref x5, .ref x6, .ref x7, .ref x8, .ref x9, .ref x10, .ref x11, .ref x12, .ref x13])), (x8, .inr (4, f_x8)), (i0, .inl (cQ, 2, .inr (.inr (.inr (.inr fi0))))), (i1, .inl (cI, 2, .inl fi1)), (i2, .inl (cZ, 2, .inl fi2)), (x6, .inr (1, [.int i32, .int i33, .ref b2, .ref b3, .ref b4, .ref b5, .ref b6, .ref x4])), (b2, .inl (cI, 8, .inl f27)), (b3, .inl (cI, 8, .inl f28)), (b4, .inl (cI, 8, .inl f29)), (b5, .inl (cI, 4, .inl f30)), (b6, .inl (cI, 4, .inl f31)), (dt, .inr (1, [.int mit, .int cut, .ref t2, .ref t3, .ref t4, .ref t5, .ref t6, .ref x4])), (t2, .inl (cI, 8, .inl ft2)), (t3, .inl (cI, 8, .inl ft3)), (t4, .inl (cI, 8, .inl ft4)), (t5, .inl (cI, 4, .inl ft5)), (t6, .inl (cI, 4, .inl ft6)), (dv, .inr (1, [.int miv, .int cuv, .ref v2, .ref v3, .ref v4, .ref v5, .ref v6, .ref x4])), (v2, .inl (cI, 8, .inl fv2)), (v3, .inl (cI, 8, .inl fv3)), (v4, .inl (cI, 8, .inl fv4)), (v5, .inl (cI, 4, .inl fv5)), (v6, .inl (cI, 4, .inl fv6)), (x7, .inr (3, [.ref hq, .int (nI o), .int (nI k39)]))]) [0, 1, 2, 3, 4, 11, 12, 13, 14, 15, 16, 5, 6, 7, 8, 9, 10, 17, 18, 19, 20, 21, 22, 23] rfl
        have hD9 := hD.sub (ws' := [(h0, .inr (10, [.ref x0, .int (nI tl), .int fa, .int (nI j35), .ref x4, .ref x5, .ref x6, .ref x7, .ref x8, .ref x9, .ref x10, .ref x11, .ref x12, .ref x13])), (x8, .inr (4, f_x8)), (i0, .inl (cQ, 2, .inr (.inr (.inr (.inr fi0))))), (i1, .inl (cI, 2, .inl fi1)), (i2, .inl (cZ, 2, .inl fi2)), (x6, .inr (1, [.int i32, .int i33, .ref b2, .ref b3, .ref b4, .ref b5, .ref b6, .ref x4])), (b2, .inl (cI, 8, .inl f27)), (b3, .inl (cI, 8, .inl f28)), (b4, .inl (cI, 8, .inl f29)), (b5, .inl (cI, 4, .inl f30)), (b6, .inl (cI, 4, .inl f31)), (dt, .inr (1, [.int mit, .int cut, .ref t2, .ref t3, .ref t4, .ref t5, .ref t6, .ref x4])), (t2, .inl (cI, 8, .inl ft2)), (t3, .inl (cI, 8, .inl ft3)), (t4, .inl (cI, 8, .inl ft4)), (t5, .inl (cI, 4, .inl ft5)), (t6, .inl (cI, 4, .inl ft6)), (dv, .inr (1, [.int miv, .int cuv, .ref v2, .ref v3, .ref v4, .ref v5, .ref v6, .ref x4])), (v2, .inl (cI, 8, .inl fv2)), (v3, .inl (cI, 8, .inl fv3)), (v4, .inl (cI, 8, .inl fv4)), (v5, .inl (cI, 4, .inl fv5)), (v6, .inl (cI, 4, .inl fv6)), (x7, .inr (3, [.ref hq, .int (nI o), .int (nI k39)]))]) [0, 1, 2, 3, 4, 11, 12, 13, 14, 15, 16, 5, 6, 7, 8, 9, 10, 17, 18, 19, 20, 21, 22, 23] (by decide +kernel) rfl
        exact W.iret (v := 1) hx hb hr (fun t ht hW => ⟨⟨1, (fun _ => 0), rfl, (Eq.symm (Eq.trans (if_pos hw3) (if_neg c23))), ⟨f27, f28, f29, f30, f31, i32, i33, j35, k39, by omega, by omega, va_hq ht hP9, hD9⟩⟩, hS.F ht⟩) hS.2.2 dX10_goBack_64
      ·
        refine lv_ldc (v := (-1000000003)) hx hb hown (hts (.constant RX10 220 (-1000000003)) (wmx 4 rfl)) dX10_goBack_24 ?_
        have hP9 := hP.sub (ws' := [(h0, .inr (10, [.ref x0, .int (nI tl), .int fa, .int (nI sd), .ref x4, .ref x5, .ref x6, .ref x7, .ref x8, .ref x9, .ref x10, .ref x11, .ref x12, .ref x13])), (x8, .inr (4, f_x8)), (i0, .inl (cQ, 2, .inr (.inr (.inr (.inr fi0))))), (i1, .inl (cI, 2, .inl fi1)), (i2, .inl (cZ, 2, .inl fi2)), (x6, .inr (1, [.int mib, .int cub, .ref b2, .ref b3, .ref b4, .ref b5, .ref b6, .ref x4])), (b2, .inl (cI, 8, .inl fb2)), (b3, .inl (cI, 8, .inl fb3)), (b4, .inl (cI, 8, .inl fb4)), (b5, .inl (cI, 4, .inl fb5)), (b6, .inl (cI, 4, .inl fb6)), (dt, .inr (1, [.int mit, .int cut, .ref t2, .ref t3, .ref t4, .ref t5, .ref t6, .ref x4])), (t2, .inl (cI, 8, .inl ft2)), (t3, .inl (cI, 8, .inl ft3)), (t4, .inl (cI, 8, .inl ft4)), (t5, .inl (cI, 4, .inl ft5)), (t6, .inl (cI, 4, .inl ft6)), (dv, .inr (1, [.int miv, .int cuv, .ref v2, .ref v3, .ref v4, .ref v5, .ref v6, .ref x4])), (v2, .inl (cI, 8, .inl fv2)), (v3, .inl (cI, 8, .inl fv3)), (v4, .inl (cI, 8, .inl fv4)), (v5, .inl (cI, 4, .inl fv5)), (v6, .inl (cI, 4, .inl fv6)), (x7, .inr (3, [.ref hq, .int (nI o), .int (nI n)]))]) [0, 1, 2, 3, 4, 5, 6, 7, 8, 9, 10, 11, 12, 13, 14, 15, 16, 17, 18, 19, 20, 21, 22, 23] rfl
        have hD9 := hD.sub (ws' := [(h0, .inr (10, [.ref x0, .int (nI tl), .int fa, .int (nI sd), .ref x4, .ref x5, .ref x6, .ref x7, .ref x8, .ref x9, .ref x10, .ref x11, .ref x12, .ref x13])), (x8, .inr (4, f_x8)), (i0, .inl (cQ, 2, .inr (.inr (.inr (.inr fi0))))), (i1, .inl (cI, 2, .inl fi1)), (i2, .inl (cZ, 2, .inl fi2)), (x6, .inr (1, [.int mib, .int cub, .ref b2, .ref b3, .ref b4, .ref b5, .ref b6, .ref x4])), (b2, .inl (cI, 8, .inl fb2)), (b3, .inl (cI, 8, .inl fb3)), (b4, .inl (cI, 8, .inl fb4)), (b5, .inl (cI, 4, .inl fb5)), (b6, .inl (cI, 4, .inl fb6)), (dt, .inr (1, [.int mit, .int cut, .ref t2, .ref t3, .ref t4, .ref t5, .ref t6, .ref x4])), (t2, .inl (cI, 8, .inl ft2)), (t3, .inl (cI, 8, .inl ft3)), (t4, .inl (cI, 8, .inl ft4)), (t5, .inl (cI, 4, .inl ft5)), (t6, .inl (cI, 4, .inl ft6)), (dv, .inr (1, [.int miv, .int cuv, .ref v2, .ref v3, .ref v4, .ref v5, .ref v6, .ref x4])), (v2, .inl (cI, 8, .inl fv2)), (v3, .inl (cI, 8, .inl fv3)), (v4, .inl (cI, 8, .inl fv4)), (v5, .inl (cI, 4, .inl fv5)), (v6, .inl (cI, 4, .inl fv6)), (x7, .inr (3, [.ref hq, .int (nI o), .int (nI n)]))]) [0, 1, 2, 3, 4, 5, 6, 7, 8, 9, 10, 11, 12, 13, 14, 15, 16, 17, 18, 19, 20, 21, 22, 23] (by decide +kernel) rfl
        exact W.iret (v := (-1000000003)) hx hb hr (fun t ht hW => ⟨⟨(-1000000003), (fun _ => 0), rfl, (Eq.symm (Eq.trans (if_pos hw3) (if_pos c23))), ⟨fb2, fb3, fb4, fb5, fb6, mib, cub, sd, n, by omega, by omega, va_hq ht hP9, hD9⟩⟩, hS.F ht⟩) hS.2.2 dX10_goBack_26
  ·
    refine lv_if_ne (tgt := 12) hx hb dX10_goBack_6 (by decide) (fun c40 => ?_) (fun c40 => ?_)
    · exact absurd c40 (by decide)
    clear c40
    refine lv_ldc (v := (-1000000001)) hx hb hown (hts (.constant RX10 160 (-1000000001)) (wmx 1 rfl)) dX10_goBack_9 ?_
    have hP9 := hP.sub (ws' := [(h0, .inr (10, [.ref x0, .int (nI tl), .int fa, .int (nI sd), .ref x4, .ref x5, .ref x6, .ref x7, .ref x8, .ref x9, .ref x10, .ref x11, .ref x12, .ref x13])), (x8, .inr (4, f_x8)), (i0, .inl (cQ, 2, .inr (.inr (.inr (.inr fi0))))), (i1, .inl (cI, 2, .inl fi1)), (i2, .inl (cZ, 2, .inl fi2)), (x6, .inr (1, [.int mib, .int cub, .ref b2, .ref b3, .ref b4, .ref b5, .ref b6, .ref x4])), (b2, .inl (cI, 8, .inl fb2)), (b3, .inl (cI, 8, .inl fb3)), (b4, .inl (cI, 8, .inl fb4)), (b5, .inl (cI, 4, .inl fb5)), (b6, .inl (cI, 4, .inl fb6)), (dt, .inr (1, [.int mit, .int cut, .ref t2, .ref t3, .ref t4, .ref t5, .ref t6, .ref x4])), (t2, .inl (cI, 8, .inl ft2)), (t3, .inl (cI, 8, .inl ft3)), (t4, .inl (cI, 8, .inl ft4)), (t5, .inl (cI, 4, .inl ft5)), (t6, .inl (cI, 4, .inl ft6)), (dv, .inr (1, [.int miv, .int cuv, .ref v2, .ref v3, .ref v4, .ref v5, .ref v6, .ref x4])), (v2, .inl (cI, 8, .inl fv2)), (v3, .inl (cI, 8, .inl fv3)), (v4, .inl (cI, 8, .inl fv4)), (v5, .inl (cI, 4, .inl fv5)), (v6, .inl (cI, 4, .inl fv6)), (x7, .inr (3, [.ref hq, .int (nI o), .int (nI n)]))]) [0, 1, 2, 3, 4, 5, 6, 7, 8, 9, 10, 11, 12, 13, 14, 15, 16, 17, 18, 19, 20, 21, 22, 23] rfl
    have hD9 := hD.sub (ws' := [(h0, .inr (10, [.ref x0, .int (nI tl), .int fa, .int (nI sd), .ref x4, .ref x5, .ref x6, .ref x7, .ref x8, .ref x9, .ref x10, .ref x11, .ref x12, .ref x13])), (x8, .inr (4, f_x8)), (i0, .inl (cQ, 2, .inr (.inr (.inr (.inr fi0))))), (i1, .inl (cI, 2, .inl fi1)), (i2, .inl (cZ, 2, .inl fi2)), (x6, .inr (1, [.int mib, .int cub, .ref b2, .ref b3, .ref b4, .ref b5, .ref b6, .ref x4])), (b2, .inl (cI, 8, .inl fb2)), (b3, .inl (cI, 8, .inl fb3)), (b4, .inl (cI, 8, .inl fb4)), (b5, .inl (cI, 4, .inl fb5)), (b6, .inl (cI, 4, .inl fb6)), (dt, .inr (1, [.int mit, .int cut, .ref t2, .ref t3, .ref t4, .ref t5, .ref t6, .ref x4])), (t2, .inl (cI, 8, .inl ft2)), (t3, .inl (cI, 8, .inl ft3)), (t4, .inl (cI, 8, .inl ft4)), (t5, .inl (cI, 4, .inl ft5)), (t6, .inl (cI, 4, .inl ft6)), (dv, .inr (1, [.int miv, .int cuv, .ref v2, .ref v3, .ref v4, .ref v5, .ref v6, .ref x4])), (v2, .inl (cI, 8, .inl fv2)), (v3, .inl (cI, 8, .inl fv3)), (v4, .inl (cI, 8, .inl fv4)), (v5, .inl (cI, 4, .inl fv5)), (v6, .inl (cI, 4, .inl fv6)), (x7, .inr (3, [.ref hq, .int (nI o), .int (nI n)]))]) [0, 1, 2, 3, 4, 5, 6, 7, 8, 9, 10, 11, 12, 13, 14, 15, 16, 17, 18, 19, 20, 21, 22, 23] (by decide +kernel) rfl
    exact W.iret (v := (-1000000001)) hx hb hr (fun t ht hW => ⟨⟨(-1000000001), (fun _ => 0), rfl, ((if_neg hw3).symm), ⟨fb2, fb3, fb4, fb5, fb6, mib, cub, sd, n, by omega, by omega, va_hq ht hP9, hD9⟩⟩, hS.F ht⟩) hS.2.2 dX10_goBack_11
set_option maxHeartbeats 4000000 in
set_option maxRecDepth 100000 in
theorem c_X11_goBackF (l : Launch) (dC : Nat → ClassId) (dI : Nat → Nat → Nat) (cI cZ cQ : ClassId) (h0 : Nat) (n0 : Int32) (n1 : Int32) (nq : Nat) (m3 : Nat) (m4 : Nat) (m5 : Nat) (nh : Nat) (m7 : Nat) (m8 : Nat) (m9 : Nat) (m10 : Nat) (sd : Nat) (m12 : Nat) (tx : Nat) (n14 : Int32) (at9 : Nat) (n16 : Int32) (n17 : Int32) (m18 : Nat) (rq : Nat) (m20 : Nat) (m21 : Nat) (m22 : Nat) (m23 : Nat) (m24 : Nat) (rh : Nat) (m26 : Nat) (m27 : Nat) (m28 : Nat) (un : Nat) (m30 : Nat) (n31 : Int32) (n32 : Int32) (m33 : Nat) (n34 : Int32) (n35 : Int32) (m36 : Nat) (wm : Nat) (m38 : Nat) (m39 : Nat) (m40 : Nat) (bk : Nat) (m42 : Nat) (m43 : Nat) (m44 : Nat) (m45 : Nat) (fm10 : Nat → Int32) (fm44 : Nat → Int32) (fm45 : Nat → Int32) (q0 : Int32) (sz : Nat) (hmi : mIn fm44) (hsd : sd ≤ 2147483647) (hun : un ≤ 20) : Met l yX11_goBack wsX11_goBack ({ frames := 1, cells := 0, slots := 0, locals := 65 }) (va_Pc [.ref h0, .int q0] (fun U => U.heap.size = sz ∧ va_P (dC, dI) vwCl [(h0, .inr (11, (.int n0 :: .int n1 :: .int (nI nq) :: .ref m3 :: .ref m4 :: .ref m5 :: .int (nI nh) :: .ref m7 :: .ref m8 :: .ref m9 :: .ref m10 :: .int (nI sd) :: .ref m12 :: .int (nI tx) :: .int n14 :: .int (nI at9) :: .int n16 :: .int n17 :: .ref m18 :: .int (nI rq) :: .ref m20 :: .ref m21 :: .ref m22 :: .ref m23 :: .ref m24 :: .int (nI rh) :: .ref m26 :: .ref m27 :: .ref m28 :: .int (nI un) :: .ref m30 :: .int n31 :: .int n32 :: .ref m33 :: .int n34 :: .int n35 :: .ref m36 :: .int (nI wm) :: .ref m38 :: .ref m39 :: .ref m40 :: .int (nI bk) :: .ref m42 :: .ref m43 :: .ref m44 :: .ref m45 :: []))), (m10, .inl (cI, 34, .inl fm10)), (m44, .inl (cI, 70, .inl fm44)), (m45, .inl (cZ, 2, .inl fm45))] U.heap ∧ va_K (dC, dI) vwCl (tys0 cI cZ cQ) U ∧ va_D (fun _ => True) [(h0, .inr (11, (.int n0 :: .int n1 :: .int (nI nq) :: .ref m3 :: .ref m4 :: .ref m5 :: .int (nI nh) :: .ref m7 :: .ref m8 :: .ref m9 :: .ref m10 :: .int (nI sd) :: .ref m12 :: .int (nI tx) :: .int n14 :: .int (nI at9) :: .int n16 :: .int n17 :: .ref m18 :: .int (nI rq) :: .ref m20 :: .ref m21 :: .ref m22 :: .ref m23 :: .ref m24 :: .int (nI rh) :: .ref m26 :: .ref m27 :: .ref m28 :: .int (nI un) :: .ref m30 :: .int n31 :: .int n32 :: .ref m33 :: .int n34 :: .int n35 :: .ref m36 :: .int (nI wm) :: .ref m38 :: .ref m39 :: .ref m40 :: .int (nI bk) :: .ref m42 :: .ref m43 :: .ref m44 :: .ref m45 :: []))), (m10, .inl (cI, 34, .inl fm10)), (m44, .inl (cI, 70, .inl fm44)), (m45, .inl (cZ, 2, .inl fm45))])) (va_Qi (fun (r : Int32) (u : Nat → Nat) => r = goR q0 fm45) (fun (_ : Nat → Nat) (t : State) => ∃ (gg0 : Nat → Int32) (kk0 kk1 : Nat), kk0 ≤ 2147483647 ∧ kk1 ≤ 20 ∧ va_P (dC, dI) vwCl [(h0, .inr (11, (.int n0 :: .int n1 :: .int (nI nq) :: .ref m3 :: .ref m4 :: .ref m5 :: .int (nI nh) :: .ref m7 :: .ref m8 :: .ref m9 :: .ref m10 :: .int (nI kk0) :: .ref m12 :: .int (nI tx) :: .int n14 :: .int (nI at9) :: .int n16 :: .int n17 :: .ref m18 :: .int (nI rq) :: .ref m20 :: .ref m21 :: .ref m22 :: .ref m23 :: .ref m24 :: .int (nI rh) :: .ref m26 :: .ref m27 :: .ref m28 :: .int (nI kk1) :: .ref m30 :: .int n31 :: .int n32 :: .ref m33 :: .int n34 :: .int n35 :: .ref m36 :: .int (nI wm) :: .ref m38 :: .ref m39 :: .ref m40 :: .int (nI bk) :: .ref m42 :: .ref m43 :: .ref m44 :: .ref m45 :: []))), (m10, .inl (cI, 34, .inl gg0)), (m44, .inl (cI, 70, .inl fm44)), (m45, .inl (cZ, 2, .inl fm45))] t.heap ∧ va_D (va_A [(h0, .inr (11, (.int n0 :: .int n1 :: .int (nI nq) :: .ref m3 :: .ref m4 :: .ref m5 :: .int (nI nh) :: .ref m7 :: .ref m8 :: .ref m9 :: .ref m10 :: .int (nI sd) :: .ref m12 :: .int (nI tx) :: .int n14 :: .int (nI at9) :: .int n16 :: .int n17 :: .ref m18 :: .int (nI rq) :: .ref m20 :: .ref m21 :: .ref m22 :: .ref m23 :: .ref m24 :: .int (nI rh) :: .ref m26 :: .ref m27 :: .ref m28 :: .int (nI un) :: .ref m30 :: .int n31 :: .int n32 :: .ref m33 :: .int n34 :: .int n35 :: .ref m36 :: .int (nI wm) :: .ref m38 :: .ref m39 :: .ref m40 :: .int (nI bk) :: .ref m42 :: .ref m43 :: .ref m44 :: .ref m45 :: []))), (m10, .inl (cI, 34, .inl fm10)), (m44, .inl (cI, 70, .inl fm44)), (m45, .inl (cZ, 2, .inl fm45))] sz) [(h0, .inr (11, (.int n0 :: .int n1 :: .int (nI nq) :: .ref m3 :: .ref m4 :: .ref m5 :: .int (nI nh) :: .ref m7 :: .ref m8 :: .ref m9 :: .ref m10 :: .int (nI kk0) :: .ref m12 :: .int (nI tx) :: .int n14 :: .int (nI at9) :: .int n16 :: .int n17 :: .ref m18 :: .int (nI rq) :: .ref m20 :: .ref m21 :: .ref m22 :: .ref m23 :: .ref m24 :: .int (nI rh) :: .ref m26 :: .ref m27 :: .ref m28 :: .int (nI kk1) :: .ref m30 :: .int n31 :: .int n32 :: .ref m33 :: .int n34 :: .int n35 :: .ref m36 :: .int (nI wm) :: .ref m38 :: .ref m39 :: .ref m40 :: .int (nI bk) :: .ref m42 :: .ref m43 :: .ref m44 :: .ref m45 :: []))), (m10, .inl (cI, 34, .inl gg0)), (m44, .inl (cI, 70, .inl fm44)), (m45, .inl (cZ, 2, .inl fm45))]) (va_A [(h0, .inr (11, (.int n0 :: .int n1 :: .int (nI nq) :: .ref m3 :: .ref m4 :: .ref m5 :: .int (nI nh) :: .ref m7 :: .ref m8 :: .ref m9 :: .ref m10 :: .int (nI sd) :: .ref m12 :: .int (nI tx) :: .int n14 :: .int (nI at9) :: .int n16 :: .int n17 :: .ref m18 :: .int (nI rq) :: .ref m20 :: .ref m21 :: .ref m22 :: .ref m23 :: .ref m24 :: .int (nI rh) :: .ref m26 :: .ref m27 :: .ref m28 :: .int (nI un) :: .ref m30 :: .int n31 :: .int n32 :: .ref m33 :: .int n34 :: .int n35 :: .ref m36 :: .int (nI wm) :: .ref m38 :: .ref m39 :: .ref m40 :: .int (nI bk) :: .ref m42 :: .ref m43 :: .ref m44 :: .ref m45 :: []))), (m10, .inl (cI, 34, .inl fm10)), (m44, .inl (cI, 70, .inl fm44)), (m45, .inl (cZ, 2, .inl fm45))] sz)) 0 0 (va_A [(h0, .inr (11, (.int n0 :: .int n1 :: .int (nI nq) :: .ref m3 :: .ref m4 :: .ref m5 :: .int (nI nh) :: .ref m7 :: .ref m8 :: .ref m9 :: .ref m10 :: .int (nI sd) :: .ref m12 :: .int (nI tx) :: .int n14 :: .int (nI at9) :: .int n16 :: .int n17 :: .ref m18 :: .int (nI rq) :: .ref m20 :: .ref m21 :: .ref m22 :: .ref m23 :: .ref m24 :: .int (nI rh) :: .ref m26 :: .ref m27 :: .ref m28 :: .int (nI un) :: .ref m30 :: .int n31 :: .int n32 :: .ref m33 :: .int n34 :: .int n35 :: .ref m36 :: .int (nI wm) :: .ref m38 :: .ref m39 :: .ref m40 :: .int (nI bk) :: .ref m42 :: .ref m43 :: .ref m44 :: .ref m45 :: []))), (m10, .inl (cI, 34, .inl fm10)), (m44, .inl (cI, 70, .inl fm44)), (m45, .inl (cZ, 2, .inl fm45))] sz) := by
  refine Met.ofW (cc := cX11_goBack) (maxL := 3) (ret := (some .int)) (by decide) rfl ?_
  intro p e s m args below meth c s₁ B hml hv
  obtain ⟨rfl, hsz, hP, hK, hD0⟩ := hv
  have hx := B.exec
  have hb := B.bytes
  have hr := B.returns
  have hts := atoms_spec (ws := wsX11_goBack) B.pre
  have hown : s.vm.findClass RX11 = some m.cls := findClass_of_methodNamed B.named
  have hlocks := B.notSynchronized
  have hi_X11 : ∀ w ∈ u_ws RX11 TX11 46, w ∈ wsX11_goBack := fun _ h => List.mem_cons_of_mem _ (List.mem_append_right _ (h))
  subst hsz
  have hD := hD0.self (sz := s.heap.size)
  generalize hAe : va_A [(h0, .inr (11, (.int n0 :: .int n1 :: .int (nI nq) :: .ref m3 :: .ref m4 :: .ref m5 :: .int (nI nh) :: .ref m7 :: .ref m8 :: .ref m9 :: .ref m10 :: .int (nI sd) :: .ref m12 :: .int (nI tx) :: .int n14 :: .int (nI at9) :: .int n16 :: .int n17 :: .ref m18 :: .int (nI rq) :: .ref m20 :: .ref m21 :: .ref m22 :: .ref m23 :: .ref m24 :: .int (nI rh) :: .ref m26 :: .ref m27 :: .ref m28 :: .int (nI un) :: .ref m30 :: .int n31 :: .int n32 :: .ref m33 :: .int n34 :: .int n35 :: .ref m36 :: .int (nI wm) :: .ref m38 :: .ref m39 :: .ref m40 :: .int (nI bk) :: .ref m42 :: .ref m43 :: .ref m44 :: .ref m45 :: []))), (m10, .inl (cI, 34, .inl fm10)), (m44, .inl (cI, 70, .inl fm44)), (m45, .inl (cZ, 2, .inl fm45))] s.heap.size = A at hD ⊢
  have hA : ∀ q : Nat, s.heap.size ≤ q → A q := fun q h => by rw [← hAe]; exact Or.inr h
  have hS : va_S A s.heap s.heap [] := va_S.rf
  have hl := lv_entry ([.ref h0, .int q0]) (n := 3) (Nat.le_of_ble_eq_true rfl)
  rw [lg_entry_eq]
  generalize (lg_sl ([.ref h0, .int q0]) ++ List.replicate (3 - (lg_sl ([.ref h0, .int q0])).length) Slot.unset).toArray = ls at hl ⊢
  have hl : lv_has ls 3 [(0, .ref h0), (1, .int q0)] := hl
  refine lv_iload_n hx hb dX11_goBack_0 rfl (lv_at hl 1 rfl) ?_
  refine lv_i2l hx hb dX11_goBack_1 rfl ?_
  refine lv_lconst (v := 0) hx hb dX11_goBack_2 (by decide) ?_
  refine lv_topl (fun z1 ez1 => ?_)
  obtain rfl : z1 = (0 : Int32).toInt64 := ez1.trans (by decide)
  refine lv_lconst (v := 1) hx hb dX11_goBack_3 (by decide) ?_
  refine lv_topl (fun z2 ez2 => ?_)
  obtain rfl : z2 = (1 : Int32).toInt64 := ez2.trans (by decide)
  have hPc := hP.sub (ws' := []) [] rfl
  refine va_calli (va_runS (As := [.long q0.toInt64, .long ((0 : Int32).toInt64), .long ((1 : Int32).toInt64)]) (rest := []) ⟨hx, hb, hml, hown, hts⟩ (c_X11_in l dC dI cI cZ cQ q0 0 1 s.heap.size ) (va_cwS 3 hts gX11_goBack_X11_in rfl rfl rfl (by decide +kernel) ⟨Nat.le_of_ble_eq_true rfl, Nat.le_of_ble_eq_true rfl⟩) (ps_R hK hPc) rfl rfl hl.1 rfl (lv_room (Nat.le_of_ble_eq_true rfl)) dX11_goBack_4 ⟨Nat.le_of_ble_eq_true rfl, Nat.le_of_ble_eq_true rfl⟩) hS (fun q _ h => False.elim h) (fun q h => False.elim h) (fun r3 u4 t H1 locs ht hvm hw5 hB hz1 hk1 hS => ?_)
  have hP := hP.kept (fun k q hk => hk1 q.1 (hP k q hk).lt (fun h => h))
  clear hz1 hk1 hPc
  generalize H1 = H at hP hS ht ⊢
  try dsimp only at hw5
  rcases hw5 with ⟨rfl, hw5⟩ | ⟨rfl, hw5⟩
  ·
    rcases x_01 hw5 with rfl | rfl
    ·
      refine lv_if_ne (tgt := 13) hx hb dX11_goBack_7 (by decide) (fun c6 => ?_) (fun c6 => ?_)
      rotate_left
      · exact absurd c6 (by decide)
      clear c6
      refine lv_aload_n hx hb dX11_goBack_13 rfl (lv_at hl 0 rfl) ?_
      refine va_get (D := (dC, dI)) (ci := 11) (v := .ref m45) (C := RX11) (T := TX11) (N := 46) hx hb hts hi_X11 hown hK hP 0 rfl rfl 45 (by decide) (hts (.fieldLink RX11 92 "LeftQuillsModel" "isKept" "[Z") (wmx 2 rfl)) (fun _ h9 => h9) rfl dX11_goBack_14 ?_
      refine lv_iload_n hx hb dX11_goBack_17 rfl (lv_at hl 1 rfl) ?_
      refine va_zald hx hb hK hP 3 1 rfl rfl (vp_in_iff.mpr ⟨by decide, by decide⟩) dX11_goBack_18 ?_
      refine W.eq (g2 := F0 m 19 ls [.int (fm45 0)]) (congrArg (fun y9 => F0 m 19 ls (.int (fm45 y9) :: [])) ((show ((0 : Int32)).toNatClampNeg = 0 from by decide))) ?_
      refine lv_if_ne (tgt := 25) hx hb dX11_goBack_19 (by decide) (fun c7 => ?_) (fun c7 => ?_)
      ·
        refine lv_iconst (v := 0) hx hb dX11_goBack_25 (by decide) ?_
        refine lv_istore_n (lv' := [(2, .int 0), (0, .ref h0), (1, .int 0)]) hx hb dX11_goBack_26 rfl hl (by decide) rfl (fun ls hl => ?_)
        refine (fun (K : ∀ (d27 : Nat) (k27 : Nat) (f27_m10 : Nat → Int32) (H : Heap) (locs : List Loc) (ls : Array Slot), k27 + d27 = 34 → va_P (dC, dI) vwCl [(h0, .inr (11, (.int n0 :: .int n1 :: .int (nI nq) :: .ref m3 :: .ref m4 :: .ref m5 :: .int (nI nh) :: .ref m7 :: .ref m8 :: .ref m9 :: .ref m10 :: .int (nI sd) :: .ref m12 :: .int (nI tx) :: .int n14 :: .int (nI at9) :: .int n16 :: .int n17 :: .ref m18 :: .int (nI rq) :: .ref m20 :: .ref m21 :: .ref m22 :: .ref m23 :: .ref m24 :: .int (nI rh) :: .ref m26 :: .ref m27 :: .ref m28 :: .int (nI un) :: .ref m30 :: .int n31 :: .int n32 :: .ref m33 :: .int n34 :: .int n35 :: .ref m36 :: .int (nI wm) :: .ref m38 :: .ref m39 :: .ref m40 :: .int (nI bk) :: .ref m42 :: .ref m43 :: .ref m44 :: .ref m45 :: []))), (m10, .inl (cI, 34, .inl f27_m10)), (m44, .inl (cI, 70, .inl fm44)), (m45, .inl (cZ, 2, .inl fm45))] H → va_D A [(h0, .inr (11, (.int n0 :: .int n1 :: .int (nI nq) :: .ref m3 :: .ref m4 :: .ref m5 :: .int (nI nh) :: .ref m7 :: .ref m8 :: .ref m9 :: .ref m10 :: .int (nI sd) :: .ref m12 :: .int (nI tx) :: .int n14 :: .int (nI at9) :: .int n16 :: .int n17 :: .ref m18 :: .int (nI rq) :: .ref m20 :: .ref m21 :: .ref m22 :: .ref m23 :: .ref m24 :: .int (nI rh) :: .ref m26 :: .ref m27 :: .ref m28 :: .int (nI un) :: .ref m30 :: .int n31 :: .int n32 :: .ref m33 :: .int n34 :: .int n35 :: .ref m36 :: .int (nI wm) :: .ref m38 :: .ref m39 :: .ref m40 :: .int (nI bk) :: .ref m42 :: .ref m43 :: .ref m44 :: .ref m45 :: []))), (m10, .inl (cI, 34, .inl f27_m10)), (m44, .inl (cI, 70, .inl fm44)), (m45, .inl (cZ, 2, .inl fm45))] → va_S A s.heap H locs → lv_has ls 3 [(2, .int (nI k27)), (0, .ref h0), (1, .int 0)] → W p l e _ s m _ below meth c H locs _ _ _ (F0 m 27 ls [])) => K 34 0 fm10 _ _ _ (by omega) hP hD hS (lv_sub hl [0, 1, 2] rfl)) ?_
        intro d27
        induction d27 with
        | zero =>
          intro k27 f27_m10 H locs ls hk27 hP hD hS hl
          refine lv_iload_n hx hb dX11_goBack_27 rfl (lv_at hl 0 rfl) ?_
          refine lv_bipush (v := 34) hx hb dX11_goBack_28 (by decide) ?_
          refine lv_icmp_ge (tgt := 56) hx hb dX11_goBack_30 (by decide) (fun c8 => ?_) (fun c8 => ?_)
          ·
            have c8 : 34 ≤ k27 := (nI_leI (a := 34) (b := k27) (by omega) (by omega)).mp c8
            refine lv_aload_n hx hb dX11_goBack_56 rfl (lv_at hl 1 rfl) ?_
            refine lv_aload_n hx hb dX11_goBack_57 rfl (lv_at hl 1 rfl) ?_
            refine va_get (D := (dC, dI)) (ci := 11) (v := .ref m44) (C := RX11) (T := TX11) (N := 46) hx hb hts hi_X11 hown hK hP 0 rfl rfl 44 (by decide) (hts (.fieldLink RX11 89 "LeftQuillsModel" "images" "[I") (wmx 5 rfl)) (fun _ h9 => h9) rfl dX11_goBack_58 ?_
            refine lv_bipush (v := 35) hx hb dX11_goBack_61 (by decide) ?_
            refine lv_iload_n hx hb dX11_goBack_63 rfl (lv_at hl 2 rfl) ?_
            refine lv_imul hx hb dX11_goBack_64 ?_
            refine lv_topi (fun z9 ez9 => ?_)
            obtain rfl : z9 = 0 := ez9.trans (by decide)
            refine lv_bipush (v := 34) hx hb dX11_goBack_65 (by decide) ?_
            refine lv_iadd hx hb dX11_goBack_67 ?_
            refine lv_topi (fun z10 ez10 => ?_)
            obtain rfl : z10 = 34 := ez10.trans (by decide)
            refine va_iald hx hb hK hP 2 0 rfl rfl (vp_in_iff.mpr ⟨by decide, by decide⟩) dX11_goBack_68 ?_
            refine W.eq (g2 := F0 m 69 ls [.int (fm44 34), .ref h0]) (congrArg (fun y9 => F0 m 69 ls (.int (fm44 y9) :: [.ref h0])) ((show ((34 : Int32)).toNatClampNeg = 34 from by decide))) ?_
            refine lv_topi (fun z11 ez11 => ?_)
            obtain ⟨j12, hj12, ejj12⟩ := hmi.1
            obtain rfl : z11 = nI j12 := ez11.trans ejj12
            refine va_put (D := (dC, dI)) (ci := 11) (v := .int (nI j12)) (ty := .int) (C := RX11) (T := TX11) (N := 46) hx hb hts hi_X11 tyX11 tyX11_ok nmX11 hown hK hP hD hS 0 rfl rfl 11 (by decide) (hts (.fieldLink RX11 241 "LeftQuillsModel" "seed" "I") (wmx 6 rfl)) (fun _ h9 => h9) rfl (by decide +kernel) rfl rfl (Nat.le_of_ble_eq_true rfl) dX11_goBack_69 (fun H locs hP hD hS => ?_)
            have hPD : pdW (dC, dI) vwCl A [(h0, .inr (11, (.int n0 :: .int n1 :: .int (nI nq) :: .ref m3 :: .ref m4 :: .ref m5 :: .int (nI nh) :: .ref m7 :: .ref m8 :: .ref m9 :: .ref m10 :: .int (nI j12) :: .ref m12 :: .int (nI tx) :: .int n14 :: .int (nI at9) :: .int n16 :: .int n17 :: .ref m18 :: .int (nI rq) :: .ref m20 :: .ref m21 :: .ref m22 :: .ref m23 :: .ref m24 :: .int (nI rh) :: .ref m26 :: .ref m27 :: .ref m28 :: .int (nI un) :: .ref m30 :: .int n31 :: .int n32 :: .ref m33 :: .int n34 :: .int n35 :: .ref m36 :: .int (nI wm) :: .ref m38 :: .ref m39 :: .ref m40 :: .int (nI bk) :: .ref m42 :: .ref m43 :: .ref m44 :: .ref m45 :: []))), (m10, .inl (cI, 34, .inl f27_m10)), (m44, .inl (cI, 70, .inl fm44)), (m45, .inl (cZ, 2, .inl fm45))] H := ⟨hP, hD⟩
            have hP := hPD.1
            have hD := hPD.2
            clear hPD
            refine lv_aload_n hx hb dX11_goBack_72 rfl (lv_at hl 1 rfl) ?_
            refine lv_iconst (v := 0) hx hb dX11_goBack_73 (by decide) ?_
            refine va_put (D := (dC, dI)) (ci := 11) (v := .int 0) (ty := .int) (C := RX11) (T := TX11) (N := 46) hx hb hts hi_X11 tyX11 tyX11_ok nmX11 hown hK hP hD hS 0 rfl rfl 29 (by decide) (hts (.fieldLink RX11 174 "LeftQuillsModel" "undos" "I") (wmx 7 rfl)) (fun _ h9 => h9) rfl (by decide +kernel) rfl rfl (Nat.le_of_ble_eq_true rfl) dX11_goBack_74 (fun H locs hP hD hS => ?_)
            have hPD : pdW (dC, dI) vwCl A [(h0, .inr (11, (.int n0 :: .int n1 :: .int (nI nq) :: .ref m3 :: .ref m4 :: .ref m5 :: .int (nI nh) :: .ref m7 :: .ref m8 :: .ref m9 :: .ref m10 :: .int (nI j12) :: .ref m12 :: .int (nI tx) :: .int n14 :: .int (nI at9) :: .int n16 :: .int n17 :: .ref m18 :: .int (nI rq) :: .ref m20 :: .ref m21 :: .ref m22 :: .ref m23 :: .ref m24 :: .int (nI rh) :: .ref m26 :: .ref m27 :: .ref m28 :: .int 0 :: .ref m30 :: .int n31 :: .int n32 :: .ref m33 :: .int n34 :: .int n35 :: .ref m36 :: .int (nI wm) :: .ref m38 :: .ref m39 :: .ref m40 :: .int (nI bk) :: .ref m42 :: .ref m43 :: .ref m44 :: .ref m45 :: []))), (m10, .inl (cI, 34, .inl f27_m10)), (m44, .inl (cI, 70, .inl fm44)), (m45, .inl (cZ, 2, .inl fm45))] H := ⟨hP, hD⟩
            have hP := hPD.1
            have hD := hPD.2
            clear hPD
            refine lv_iconst (v := 1) hx hb dX11_goBack_77 (by decide) ?_
            have hP9 := hP.sub (ws' := [(h0, .inr (11, (.int n0 :: .int n1 :: .int (nI nq) :: .ref m3 :: .ref m4 :: .ref m5 :: .int (nI nh) :: .ref m7 :: .ref m8 :: .ref m9 :: .ref m10 :: .int (nI j12) :: .ref m12 :: .int (nI tx) :: .int n14 :: .int (nI at9) :: .int n16 :: .int n17 :: .ref m18 :: .int (nI rq) :: .ref m20 :: .ref m21 :: .ref m22 :: .ref m23 :: .ref m24 :: .int (nI rh) :: .ref m26 :: .ref m27 :: .ref m28 :: .int 0 :: .ref m30 :: .int n31 :: .int n32 :: .ref m33 :: .int n34 :: .int n35 :: .ref m36 :: .int (nI wm) :: .ref m38 :: .ref m39 :: .ref m40 :: .int (nI bk) :: .ref m42 :: .ref m43 :: .ref m44 :: .ref m45 :: []))), (m10, .inl (cI, 34, .inl f27_m10)), (m44, .inl (cI, 70, .inl fm44)), (m45, .inl (cZ, 2, .inl fm45))]) [0, 1, 2, 3] rfl
            have hD9 := hD.sub (ws' := [(h0, .inr (11, (.int n0 :: .int n1 :: .int (nI nq) :: .ref m3 :: .ref m4 :: .ref m5 :: .int (nI nh) :: .ref m7 :: .ref m8 :: .ref m9 :: .ref m10 :: .int (nI j12) :: .ref m12 :: .int (nI tx) :: .int n14 :: .int (nI at9) :: .int n16 :: .int n17 :: .ref m18 :: .int (nI rq) :: .ref m20 :: .ref m21 :: .ref m22 :: .ref m23 :: .ref m24 :: .int (nI rh) :: .ref m26 :: .ref m27 :: .ref m28 :: .int 0 :: .ref m30 :: .int n31 :: .int n32 :: .ref m33 :: .int n34 :: .int n35 :: .ref m36 :: .int (nI wm) :: .ref m38 :: .ref m39 :: .ref m40 :: .int (nI bk) :: .ref m42 :: .ref m43 :: .ref m44 :: .ref m45 :: []))), (m10, .inl (cI, 34, .inl f27_m10)), (m44, .inl (cI, 70, .inl fm44)), (m45, .inl (cZ, 2, .inl fm45))]) [0, 1, 2, 3] (by decide +kernel) rfl
            exact W.iret (v := 1) hx hb hr (fun t ht hW => ⟨⟨1, (fun _ => 0), rfl, (Eq.symm (Eq.trans (if_pos hw5) (if_neg c7))), ⟨f27_m10, j12, 0, by omega, by omega, va_hq ht hP9, hD9⟩⟩, hS.F ht⟩) hS.2.2 dX11_goBack_78
          ·
            have c8 : ¬ 34 ≤ k27 := fun h => c8 ((nI_leI (a := 34) (b := k27) (by omega) (by omega)).mpr h)
            omega
        | succ d27 ih27 =>
          intro k27 f27_m10 H locs ls hk27 hP hD hS hl
          refine lv_iload_n hx hb dX11_goBack_27 rfl (lv_at hl 0 rfl) ?_
          refine lv_bipush (v := 34) hx hb dX11_goBack_28 (by decide) ?_
          refine lv_icmp_ge (tgt := 56) hx hb dX11_goBack_30 (by decide) (fun c13 => ?_) (fun c13 => ?_)
          ·
            have c13 : 34 ≤ k27 := (nI_leI (a := 34) (b := k27) (by omega) (by omega)).mp c13
            omega
          ·
            have c13 : ¬ 34 ≤ k27 := fun h => c13 ((nI_leI (a := 34) (b := k27) (by omega) (by omega)).mpr h)
            refine lv_aload_n hx hb dX11_goBack_33 rfl (lv_at hl 1 rfl) ?_
            refine va_get (D := (dC, dI)) (ci := 11) (v := .ref m10) (C := RX11) (T := TX11) (N := 46) hx hb hts hi_X11 hown hK hP 0 rfl rfl 10 (by decide) (hts (.fieldLink RX11 28 "LeftQuillsModel" "now" "[I") (wmx 4 rfl)) (fun _ h9 => h9) rfl dX11_goBack_34 ?_
            refine lv_iload_n hx hb dX11_goBack_37 rfl (lv_at hl 0 rfl) ?_
            refine lv_aload_n hx hb dX11_goBack_38 rfl (lv_at hl 1 rfl) ?_
            refine va_get (D := (dC, dI)) (ci := 11) (v := .ref m44) (C := RX11) (T := TX11) (N := 46) hx hb hts hi_X11 hown hK hP 0 rfl rfl 44 (by decide) (hts (.fieldLink RX11 89 "LeftQuillsModel" "images" "[I") (wmx 5 rfl)) (fun _ h9 => h9) rfl dX11_goBack_39 ?_
            refine lv_bipush (v := 35) hx hb dX11_goBack_42 (by decide) ?_
            refine lv_iload_n hx hb dX11_goBack_44 rfl (lv_at hl 2 rfl) ?_
            refine lv_imul hx hb dX11_goBack_45 ?_
            refine lv_topi (fun z14 ez14 => ?_)
            obtain rfl : z14 = 0 := ez14.trans (by decide)
            refine lv_iload_n hx hb dX11_goBack_46 rfl (lv_at hl 0 rfl) ?_
            refine lv_iadd hx hb dX11_goBack_47 ?_
            refine lv_topi (fun z15 ez15 => ?_)
            obtain rfl : z15 = nI (0 + k27) := ez15.trans (nI_add 0 k27)
            refine va_iald hx hb hK hP 2 0 rfl rfl (vp_in_nI (n := 0 + k27) (N := 70) (by omega) (by decide)) dX11_goBack_48 ?_
            refine W.eq (g2 := F0 m 49 ls [.int (fm44 (0 + k27)), .int (nI k27), .ref m10]) (congrArg (fun y9 => F0 m 49 ls (.int (fm44 y9) :: [.int (nI k27), .ref m10])) ((nI_clamp (n := 0 + k27) (by omega)))) ?_
            refine va_iast hx hb hK hP hD hS 1 0 rfl rfl (vp_in_nI (n := k27) (N := 34) (by omega) (by decide)) dX11_goBack_49 (fun H locs hP hD hS => ?_)
            generalize hgf16 : upd f27_m10 ((nI k27).toNatClampNeg) (fm44 (0 + k27)) = f16 at hP hD
            have hPD : pdW (dC, dI) vwCl A [(h0, .inr (11, (.int n0 :: .int n1 :: .int (nI nq) :: .ref m3 :: .ref m4 :: .ref m5 :: .int (nI nh) :: .ref m7 :: .ref m8 :: .ref m9 :: .ref m10 :: .int (nI sd) :: .ref m12 :: .int (nI tx) :: .int n14 :: .int (nI at9) :: .int n16 :: .int n17 :: .ref m18 :: .int (nI rq) :: .ref m20 :: .ref m21 :: .ref m22 :: .ref m23 :: .ref m24 :: .int (nI rh) :: .ref m26 :: .ref m27 :: .ref m28 :: .int (nI un) :: .ref m30 :: .int n31 :: .int n32 :: .ref m33 :: .int n34 :: .int n35 :: .ref m36 :: .int (nI wm) :: .ref m38 :: .ref m39 :: .ref m40 :: .int (nI bk) :: .ref m42 :: .ref m43 :: .ref m44 :: .ref m45 :: []))), (m10, .inl (cI, 34, .inl f16)), (m44, .inl (cI, 70, .inl fm44)), (m45, .inl (cZ, 2, .inl fm45))] H := ⟨hP, hD⟩
            have hP := hPD.1
            have hD := hPD.2
            clear hPD
            refine lv_iinc (v := nI (k27 + 1)) (lv' := [(2, .int (nI (k27 + 1))), (0, .ref h0), (1, .int 0)]) hx hb dX11_goBack_50 hl (k := 0) rfl ((rfl : nI k27 + Int32.ofInt 1 = nI k27 + 1).trans (nI_add k27 1)) (by decide) rfl (fun ls hl => ?_)
            refine lv_goto (tgt := 27) hx hb dX11_goBack_53 (by decide) ?_
            exact ih27 (k27 + 1) f16 _ _ _ (by omega) hP hD hS (lv_sub hl [0, 1, 2] rfl)
      ·
        refine lv_ldc (v := (-1000000003)) hx hb hown (hts (.constant RX11 237 (-1000000003)) (wmx 3 rfl)) dX11_goBack_22 ?_
        have hP9 := hP.sub (ws' := [(h0, .inr (11, (.int n0 :: .int n1 :: .int (nI nq) :: .ref m3 :: .ref m4 :: .ref m5 :: .int (nI nh) :: .ref m7 :: .ref m8 :: .ref m9 :: .ref m10 :: .int (nI sd) :: .ref m12 :: .int (nI tx) :: .int n14 :: .int (nI at9) :: .int n16 :: .int n17 :: .ref m18 :: .int (nI rq) :: .ref m20 :: .ref m21 :: .ref m22 :: .ref m23 :: .ref m24 :: .int (nI rh) :: .ref m26 :: .ref m27 :: .ref m28 :: .int (nI un) :: .ref m30 :: .int n31 :: .int n32 :: .ref m33 :: .int n34 :: .int n35 :: .ref m36 :: .int (nI wm) :: .ref m38 :: .ref m39 :: .ref m40 :: .int (nI bk) :: .ref m42 :: .ref m43 :: .ref m44 :: .ref m45 :: []))), (m10, .inl (cI, 34, .inl fm10)), (m44, .inl (cI, 70, .inl fm44)), (m45, .inl (cZ, 2, .inl fm45))]) [0, 1, 2, 3] rfl
        have hD9 := hD.sub (ws' := [(h0, .inr (11, (.int n0 :: .int n1 :: .int (nI nq) :: .ref m3 :: .ref m4 :: .ref m5 :: .int (nI nh) :: .ref m7 :: .ref m8 :: .ref m9 :: .ref m10 :: .int (nI sd) :: .ref m12 :: .int (nI tx) :: .int n14 :: .int (nI at9) :: .int n16 :: .int n17 :: .ref m18 :: .int (nI rq) :: .ref m20 :: .ref m21 :: .ref m22 :: .ref m23 :: .ref m24 :: .int (nI rh) :: .ref m26 :: .ref m27 :: .ref m28 :: .int (nI un) :: .ref m30 :: .int n31 :: .int n32 :: .ref m33 :: .int n34 :: .int n35 :: .ref m36 :: .int (nI wm) :: .ref m38 :: .ref m39 :: .ref m40 :: .int (nI bk) :: .ref m42 :: .ref m43 :: .ref m44 :: .ref m45 :: []))), (m10, .inl (cI, 34, .inl fm10)), (m44, .inl (cI, 70, .inl fm44)), (m45, .inl (cZ, 2, .inl fm45))]) [0, 1, 2, 3] (by decide +kernel) rfl
        exact W.iret (v := (-1000000003)) hx hb hr (fun t ht hW => ⟨⟨(-1000000003), (fun _ => 0), rfl, (Eq.symm (Eq.trans (if_pos hw5) (if_pos c7))), ⟨fm10, sd, un, by omega, by omega, va_hq ht hP9, hD9⟩⟩, hS.F ht⟩) hS.2.2 dX11_goBack_24
    ·
      refine lv_if_ne (tgt := 13) hx hb dX11_goBack_7 (by decide) (fun c17 => ?_) (fun c17 => ?_)
      rotate_left
      · exact absurd c17 (by decide)
      clear c17
      refine lv_aload_n hx hb dX11_goBack_13 rfl (lv_at hl 0 rfl) ?_
      refine va_get (D := (dC, dI)) (ci := 11) (v := .ref m45) (C := RX11) (T := TX11) (N := 46) hx hb hts hi_X11 hown hK hP 0 rfl rfl 45 (by decide) (hts (.fieldLink RX11 92 "LeftQuillsModel" "isKept" "[Z") (wmx 2 rfl)) (fun _ h9 => h9) rfl dX11_goBack_14 ?_
      refine lv_iload_n hx hb dX11_goBack_17 rfl (lv_at hl 1 rfl) ?_
      refine va_zald hx hb hK hP 3 1 rfl rfl (vp_in_iff.mpr ⟨by decide, by decide⟩) dX11_goBack_18 ?_
      refine W.eq (g2 := F0 m 19 ls [.int (fm45 1)]) (congrArg (fun y9 => F0 m 19 ls (.int (fm45 y9) :: [])) ((show ((1 : Int32)).toNatClampNeg = 1 from by decide))) ?_
      refine lv_if_ne (tgt := 25) hx hb dX11_goBack_19 (by decide) (fun c18 => ?_) (fun c18 => ?_)
      ·
        refine lv_iconst (v := 0) hx hb dX11_goBack_25 (by decide) ?_
        refine lv_istore_n (lv' := [(2, .int 0), (0, .ref h0), (1, .int 1)]) hx hb dX11_goBack_26 rfl hl (by decide) rfl (fun ls hl => ?_)
        refine (fun (K : ∀ (d27 : Nat) (k27 : Nat) (f27_m10 : Nat → Int32) (H : Heap) (locs : List Loc) (ls : Array Slot), k27 + d27 = 34 → va_P (dC, dI) vwCl [(h0, .inr (11, (.int n0 :: .int n1 :: .int (nI nq) :: .ref m3 :: .ref m4 :: .ref m5 :: .int (nI nh) :: .ref m7 :: .ref m8 :: .ref m9 :: .ref m10 :: .int (nI sd) :: .ref m12 :: .int (nI tx) :: .int n14 :: .int (nI at9) :: .int n16 :: .int n17 :: .ref m18 :: .int (nI rq) :: .ref m20 :: .ref m21 :: .ref m22 :: .ref m23 :: .ref m24 :: .int (nI rh) :: .ref m26 :: .ref m27 :: .ref m28 :: .int (nI un) :: .ref m30 :: .int n31 :: .int n32 :: .ref m33 :: .int n34 :: .int n35 :: .ref m36 :: .int (nI wm) :: .ref m38 :: .ref m39 :: .ref m40 :: .int (nI bk) :: .ref m42 :: .ref m43 :: .ref m44 :: .ref m45 :: []))), (m10, .inl (cI, 34, .inl f27_m10)), (m44, .inl (cI, 70, .inl fm44)), (m45, .inl (cZ, 2, .inl fm45))] H → va_D A [(h0, .inr (11, (.int n0 :: .int n1 :: .int (nI nq) :: .ref m3 :: .ref m4 :: .ref m5 :: .int (nI nh) :: .ref m7 :: .ref m8 :: .ref m9 :: .ref m10 :: .int (nI sd) :: .ref m12 :: .int (nI tx) :: .int n14 :: .int (nI at9) :: .int n16 :: .int n17 :: .ref m18 :: .int (nI rq) :: .ref m20 :: .ref m21 :: .ref m22 :: .ref m23 :: .ref m24 :: .int (nI rh) :: .ref m26 :: .ref m27 :: .ref m28 :: .int (nI un) :: .ref m30 :: .int n31 :: .int n32 :: .ref m33 :: .int n34 :: .int n35 :: .ref m36 :: .int (nI wm) :: .ref m38 :: .ref m39 :: .ref m40 :: .int (nI bk) :: .ref m42 :: .ref m43 :: .ref m44 :: .ref m45 :: []))), (m10, .inl (cI, 34, .inl f27_m10)), (m44, .inl (cI, 70, .inl fm44)), (m45, .inl (cZ, 2, .inl fm45))] → va_S A s.heap H locs → lv_has ls 3 [(2, .int (nI k27)), (0, .ref h0), (1, .int 1)] → W p l e _ s m _ below meth c H locs _ _ _ (F0 m 27 ls [])) => K 34 0 fm10 _ _ _ (by omega) hP hD hS (lv_sub hl [0, 1, 2] rfl)) ?_
        intro d27
        induction d27 with
        | zero =>
          intro k27 f27_m10 H locs ls hk27 hP hD hS hl
          refine lv_iload_n hx hb dX11_goBack_27 rfl (lv_at hl 0 rfl) ?_
          refine lv_bipush (v := 34) hx hb dX11_goBack_28 (by decide) ?_
          refine lv_icmp_ge (tgt := 56) hx hb dX11_goBack_30 (by decide) (fun c19 => ?_) (fun c19 => ?_)
          ·
            have c19 : 34 ≤ k27 := (nI_leI (a := 34) (b := k27) (by omega) (by omega)).mp c19
            refine lv_aload_n hx hb dX11_goBack_56 rfl (lv_at hl 1 rfl) ?_
            refine lv_aload_n hx hb dX11_goBack_57 rfl (lv_at hl 1 rfl) ?_
            refine va_get (D := (dC, dI)) (ci := 11) (v := .ref m44) (C := RX11) (T := TX11) (N := 46) hx hb hts hi_X11 hown hK hP 0 rfl rfl 44 (by decide) (hts (.fieldLink RX11 89 "LeftQuillsModel" "images" "[I") (wmx 5 rfl)) (fun _ h9 => h9) rfl dX11_goBack_58 ?_
            refine lv_bipush (v := 35) hx hb dX11_goBack_61 (by decide) ?_
            refine lv_iload_n hx hb dX11_goBack_63 rfl (lv_at hl 2 rfl) ?_
            refine lv_imul hx hb dX11_goBack_64 ?_
            refine lv_topi (fun z20 ez20 => ?_)
            obtain rfl : z20 = 35 := ez20.trans (by decide)
            refine lv_bipush (v := 34) hx hb dX11_goBack_65 (by decide) ?_
            refine lv_iadd hx hb dX11_goBack_67 ?_
            refine lv_topi (fun z21 ez21 => ?_)
            obtain rfl : z21 = 69 := ez21.trans (by decide)
            refine va_iald hx hb hK hP 2 0 rfl rfl (vp_in_iff.mpr ⟨by decide, by decide⟩) dX11_goBack_68 ?_
            refine W.eq (g2 := F0 m 69 ls [.int (fm44 69), .ref h0]) (congrArg (fun y9 => F0 m 69 ls (.int (fm44 y9) :: [.ref h0])) ((show ((69 : Int32)).toNatClampNeg = 69 from by decide))) ?_
            refine lv_topi (fun z22 ez22 => ?_)
            obtain ⟨j23, hj23, ejj23⟩ := hmi.2
            obtain rfl : z22 = nI j23 := ez22.trans ejj23
            refine va_put (D := (dC, dI)) (ci := 11) (v := .int (nI j23)) (ty := .int) (C := RX11) (T := TX11) (N := 46) hx hb hts hi_X11 tyX11 tyX11_ok nmX11 hown hK hP hD hS 0 rfl rfl 11 (by decide) (hts (.fieldLink RX11 241 "LeftQuillsModel" "seed" "I") (wmx 6 rfl)) (fun _ h9 => h9) rfl (by decide +kernel) rfl rfl (Nat.le_of_ble_eq_true rfl) dX11_goBack_69 (fun H locs hP hD hS => ?_)
            have hPD : pdW (dC, dI) vwCl A [(h0, .inr (11, (.int n0 :: .int n1 :: .int (nI nq) :: .ref m3 :: .ref m4 :: .ref m5 :: .int (nI nh) :: .ref m7 :: .ref m8 :: .ref m9 :: .ref m10 :: .int (nI j23) :: .ref m12 :: .int (nI tx) :: .int n14 :: .int (nI at9) :: .int n16 :: .int n17 :: .ref m18 :: .int (nI rq) :: .ref m20 :: .ref m21 :: .ref m22 :: .ref m23 :: .ref m24 :: .int (nI rh) :: .ref m26 :: .ref m27 :: .ref m28 :: .int (nI un) :: .ref m30 :: .int n31 :: .int n32 :: .ref m33 :: .int n34 :: .int n35 :: .ref m36 :: .int (nI wm) :: .ref m38 :: .ref m39 :: .ref m40 :: .int (nI bk) :: .ref m42 :: .ref m43 :: .ref m44 :: .ref m45 :: []))), (m10, .inl (cI, 34, .inl f27_m10)), (m44, .inl (cI, 70, .inl fm44)), (m45, .inl (cZ, 2, .inl fm45))] H := ⟨hP, hD⟩
            have hP := hPD.1
            have hD := hPD.2
            clear hPD
            refine lv_aload_n hx hb dX11_goBack_72 rfl (lv_at hl 1 rfl) ?_
            refine lv_iconst (v := 0) hx hb dX11_goBack_73 (by decide) ?_
            refine va_put (D := (dC, dI)) (ci := 11) (v := .int 0) (ty := .int) (C := RX11) (T := TX11) (N := 46) hx hb hts hi_X11 tyX11 tyX11_ok nmX11 hown hK hP hD hS 0 rfl rfl 29 (by decide) (hts (.fieldLink RX11 174 "LeftQuillsModel" "undos" "I") (wmx 7 rfl)) (fun _ h9 => h9) rfl (by decide +kernel) rfl rfl (Nat.le_of_ble_eq_true rfl) dX11_goBack_74 (fun H locs hP hD hS => ?_)
            have hPD : pdW (dC, dI) vwCl A [(h0, .inr (11, (.int n0 :: .int n1 :: .int (nI nq) :: .ref m3 :: .ref m4 :: .ref m5 :: .int (nI nh) :: .ref m7 :: .ref m8 :: .ref m9 :: .ref m10 :: .int (nI j23) :: .ref m12 :: .int (nI tx) :: .int n14 :: .int (nI at9) :: .int n16 :: .int n17 :: .ref m18 :: .int (nI rq) :: .ref m20 :: .ref m21 :: .ref m22 :: .ref m23 :: .ref m24 :: .int (nI rh) :: .ref m26 :: .ref m27 :: .ref m28 :: .int 0 :: .ref m30 :: .int n31 :: .int n32 :: .ref m33 :: .int n34 :: .int n35 :: .ref m36 :: .int (nI wm) :: .ref m38 :: .ref m39 :: .ref m40 :: .int (nI bk) :: .ref m42 :: .ref m43 :: .ref m44 :: .ref m45 :: []))), (m10, .inl (cI, 34, .inl f27_m10)), (m44, .inl (cI, 70, .inl fm44)), (m45, .inl (cZ, 2, .inl fm45))] H := ⟨hP, hD⟩
            have hP := hPD.1
            have hD := hPD.2
            clear hPD
            refine lv_iconst (v := 1) hx hb dX11_goBack_77 (by decide) ?_
            have hP9 := hP.sub (ws' := [(h0, .inr (11, (.int n0 :: .int n1 :: .int (nI nq) :: .ref m3 :: .ref m4 :: .ref m5 :: .int (nI nh) :: .ref m7 :: .ref m8 :: .ref m9 :: .ref m10 :: .int (nI j23) :: .ref m12 :: .int (nI tx) :: .int n14 :: .int (nI at9) :: .int n16 :: .int n17 :: .ref m18 :: .int (nI rq) :: .ref m20 :: .ref m21 :: .ref m22 :: .ref m23 :: .ref m24 :: .int (nI rh) :: .ref m26 :: .ref m27 :: .ref m28 :: .int 0 :: .ref m30 :: .int n31 :: .int n32 :: .ref m33 :: .int n34 :: .int n35 :: .ref m36 :: .int (nI wm) :: .ref m38 :: .ref m39 :: .ref m40 :: .int (nI bk) :: .ref m42 :: .ref m43 :: .ref m44 :: .ref m45 :: []))), (m10, .inl (cI, 34, .inl f27_m10)), (m44, .inl (cI, 70, .inl fm44)), (m45, .inl (cZ, 2, .inl fm45))]) [0, 1, 2, 3] rfl
            have hD9 := hD.sub (ws' := [(h0, .inr (11, (.int n0 :: .int n1 :: .int (nI nq) :: .ref m3 :: .ref m4 :: .ref m5 :: .int (nI nh) :: .ref m7 :: .ref m8 :: .ref m9 :: .ref m10 :: .int (nI j23) :: .ref m12 :: .int (nI tx) :: .int n14 :: .int (nI at9) :: .int n16 :: .int n17 :: .ref m18 :: .int (nI rq) :: .ref m20 :: .ref m21 :: .ref m22 :: .ref m23 :: .ref m24 :: .int (nI rh) :: .ref m26 :: .ref m27 :: .ref m28 :: .int 0 :: .ref m30 :: .int n31 :: .int n32 :: .ref m33 :: .int n34 :: .int n35 :: .ref m36 :: .int (nI wm) :: .ref m38 :: .ref m39 :: .ref m40 :: .int (nI bk) :: .ref m42 :: .ref m43 :: .ref m44 :: .ref m45 :: []))), (m10, .inl (cI, 34, .inl f27_m10)), (m44, .inl (cI, 70, .inl fm44)), (m45, .inl (cZ, 2, .inl fm45))]) [0, 1, 2, 3] (by decide +kernel) rfl
            exact W.iret (v := 1) hx hb hr (fun t ht hW => ⟨⟨1, (fun _ => 0), rfl, (Eq.symm (Eq.trans (if_pos hw5) (if_neg c18))), ⟨f27_m10, j23, 0, by omega, by omega, va_hq ht hP9, hD9⟩⟩, hS.F ht⟩) hS.2.2 dX11_goBack_78
          ·
            have c19 : ¬ 34 ≤ k27 := fun h => c19 ((nI_leI (a := 34) (b := k27) (by omega) (by omega)).mpr h)
            omega
        | succ d27 ih27 =>
          intro k27 f27_m10 H locs ls hk27 hP hD hS hl
          refine lv_iload_n hx hb dX11_goBack_27 rfl (lv_at hl 0 rfl) ?_
          refine lv_bipush (v := 34) hx hb dX11_goBack_28 (by decide) ?_
          refine lv_icmp_ge (tgt := 56) hx hb dX11_goBack_30 (by decide) (fun c24 => ?_) (fun c24 => ?_)
          ·
            have c24 : 34 ≤ k27 := (nI_leI (a := 34) (b := k27) (by omega) (by omega)).mp c24
            omega
          ·
            have c24 : ¬ 34 ≤ k27 := fun h => c24 ((nI_leI (a := 34) (b := k27) (by omega) (by omega)).mpr h)
            refine lv_aload_n hx hb dX11_goBack_33 rfl (lv_at hl 1 rfl) ?_
            refine va_get (D := (dC, dI)) (ci := 11) (v := .ref m10) (C := RX11) (T := TX11) (N := 46) hx hb hts hi_X11 hown hK hP 0 rfl rfl 10 (by decide) (hts (.fieldLink RX11 28 "LeftQuillsModel" "now" "[I") (wmx 4 rfl)) (fun _ h9 => h9) rfl dX11_goBack_34 ?_
            refine lv_iload_n hx hb dX11_goBack_37 rfl (lv_at hl 0 rfl) ?_
            refine lv_aload_n hx hb dX11_goBack_38 rfl (lv_at hl 1 rfl) ?_
            refine va_get (D := (dC, dI)) (ci := 11) (v := .ref m44) (C := RX11) (T := TX11) (N := 46) hx hb hts hi_X11 hown hK hP 0 rfl rfl 44 (by decide) (hts (.fieldLink RX11 89 "LeftQuillsModel" "images" "[I") (wmx 5 rfl)) (fun _ h9 => h9) rfl dX11_goBack_39 ?_
            refine lv_bipush (v := 35) hx hb dX11_goBack_42 (by decide) ?_
            refine lv_iload_n hx hb dX11_goBack_44 rfl (lv_at hl 2 rfl) ?_
            refine lv_imul hx hb dX11_goBack_45 ?_
            refine lv_topi (fun z25 ez25 => ?_)
            obtain rfl : z25 = 35 := ez25.trans (by decide)
            refine lv_iload_n hx hb dX11_goBack_46 rfl (lv_at hl 0 rfl) ?_
            refine lv_iadd hx hb dX11_goBack_47 ?_
            refine lv_topi (fun z26 ez26 => ?_)
            obtain rfl : z26 = nI (35 + k27) := ez26.trans (nI_add 35 k27)
            refine va_iald hx hb hK hP 2 0 rfl rfl (vp_in_nI (n := 35 + k27) (N := 70) (by omega) (by decide)) dX11_goBack_48 ?_
            refine W.eq (g2 := F0 m 49 ls [.int (fm44 (35 + k27)), .int (nI k27), .ref m10]) (congrArg (fun y9 => F0 m 49 ls (.int (fm44 y9) :: [.int (nI k27), .ref m10])) ((nI_clamp (n := 35 + k27) (by omega)))) ?_
            refine va_iast hx hb hK hP hD hS 1 0 rfl rfl (vp_in_nI (n := k27) (N := 34) (by omega) (by decide)) dX11_goBack_49 (fun H locs hP hD hS => ?_)
            generalize hgf27 : upd f27_m10 ((nI k27).toNatClampNeg) (fm44 (35 + k27)) = f27 at hP hD
            have hPD : pdW (dC, dI) vwCl A [(h0, .inr (11, (.int n0 :: .int n1 :: .int (nI nq) :: .ref m3 :: .ref m4 :: .ref m5 :: .int (nI nh) :: .ref m7 :: .ref m8 :: .ref m9 :: .ref m10 :: .int (nI sd) :: .ref m12 :: .int (nI tx) :: .int n14 :: .int (nI at9) :: .int n16 :: .int n17 :: .ref m18 :: .int (nI rq) :: .ref m20 :: .ref m21 :: .ref m22 :: .ref m23 :: .ref m24 :: .int (nI rh) :: .ref m26 :: .ref m27 :: .ref m28 :: .int (nI un) :: .ref m30 :: .int n31 :: .int n32 :: .ref m33 :: .int n34 :: .int n35 :: .ref m36 :: .int (nI wm) :: .ref m38 :: .ref m39 :: .ref m40 :: .int (nI bk) :: .ref m42 :: .ref m43 :: .ref m44 :: .ref m45 :: []))), (m10, .inl (cI, 34, .inl f27)), (m44, .inl (cI, 70, .inl fm44)), (m45, .inl (cZ, 2, .inl fm45))] H := ⟨hP, hD⟩
            have hP := hPD.1
            have hD := hPD.2
            clear hPD
            refine lv_iinc (v := nI (k27 + 1)) (lv' := [(2, .int (nI (k27 + 1))), (0, .ref h0), (1, .int 1)]) hx hb dX11_goBack_50 hl (k := 0) rfl ((rfl : nI k27 + Int32.ofInt 1 = nI k27 + 1).trans (nI_add k27 1)) (by decide) rfl (fun ls hl => ?_)
            refine lv_goto (tgt := 27) hx hb dX11_goBack_53 (by decide) ?_
            exact ih27 (k27 + 1) f27 _ _ _ (by omega) hP hD hS (lv_sub hl [0, 1, 2] rfl)
      ·
        refine lv_ldc (v := (-1000000003)) hx hb hown (hts (.constant RX11 237 (-1000000003)) (wmx 3 rfl)) dX11_goBack_22 ?_
        have hP9 := hP.sub (ws' := [(h0, .inr (11, (.int n0 :: .int n1 :: .int (nI nq) :: .ref m3 :: .ref m4 :: .ref m5 :: .int (nI nh) :: .ref m7 :: .ref m8 :: .ref m9 :: .ref m10 :: .int (nI sd) :: .ref m12 :: .int (nI tx) :: .int n14 :: .int (nI at9) :: .int n16 :: .int n17 :: .ref m18 :: .int (nI rq) :: .ref m20 :: .ref m21 :: .ref m22 :: .ref m23 :: .ref m24 :: .int (nI rh) :: .ref m26 :: .ref m27 :: .ref m28 :: .int (nI un) :: .ref m30 :: .int n31 :: .int n32 :: .ref m33 :: .int n34 :: .int n35 :: .ref m36 :: .int (nI wm) :: .ref m38 :: .ref m39 :: .ref m40 :: .int (nI bk) :: .ref m42 :: .ref m43 :: .ref m44 :: .ref m45 :: []))), (m10, .inl (cI, 34, .inl fm10)), (m44, .inl (cI, 70, .inl fm44)), (m45, .inl (cZ, 2, .inl fm45))]) [0, 1, 2, 3] rfl
        have hD9 := hD.sub (ws' := [(h0, .inr (11, (.int n0 :: .int n1 :: .int (nI nq) :: .ref m3 :: .ref m4 :: .ref m5 :: .int (nI nh) :: .ref m7 :: .ref m8 :: .ref m9 :: .ref m10 :: .int (nI sd) :: .ref m12 :: .int (nI tx) :: .int n14 :: .int (nI at9) :: .int n16 :: .int n17 :: .ref m18 :: .int (nI rq) :: .ref m20 :: .ref m21 :: .ref m22 :: .ref m23 :: .ref m24 :: .int (nI rh) :: .ref m26 :: .ref m27 :: .ref m28 :: .int (nI un) :: .ref m30 :: .int n31 :: .int n32 :: .ref m33 :: .int n34 :: .int n35 :: .ref m36 :: .int (nI wm) :: .ref m38 :: .ref m39 :: .ref m40 :: .int (nI bk) :: .ref m42 :: .ref m43 :: .ref m44 :: .ref m45 :: []))), (m10, .inl (cI, 34, .inl fm10)), (m44, .inl (cI, 70, .inl fm44)), (m45, .inl (cZ, 2, .inl fm45))]) [0, 1, 2, 3] (by decide +kernel) rfl
        exact W.iret (v := (-1000000003)) hx hb hr (fun t ht hW => ⟨⟨(-1000000003), (fun _ => 0), rfl, (Eq.symm (Eq.trans (if_pos hw5) (if_pos c18))), ⟨fm10, sd, un, by omega, by omega, va_hq ht hP9, hD9⟩⟩, hS.F ht⟩) hS.2.2 dX11_goBack_24
  ·
    refine lv_if_ne (tgt := 13) hx hb dX11_goBack_7 (by decide) (fun c28 => ?_) (fun c28 => ?_)
    · exact absurd c28 (by decide)
    clear c28
    refine lv_ldc (v := (-1000000001)) hx hb hown (hts (.constant RX11 188 (-1000000001)) (wmx 1 rfl)) dX11_goBack_10 ?_
    have hP9 := hP.sub (ws' := [(h0, .inr (11, (.int n0 :: .int n1 :: .int (nI nq) :: .ref m3 :: .ref m4 :: .ref m5 :: .int (nI nh) :: .ref m7 :: .ref m8 :: .ref m9 :: .ref m10 :: .int (nI sd) :: .ref m12 :: .int (nI tx) :: .int n14 :: .int (nI at9) :: .int n16 :: .int n17 :: .ref m18 :: .int (nI rq) :: .ref m20 :: .ref m21 :: .ref m22 :: .ref m23 :: .ref m24 :: .int (nI rh) :: .ref m26 :: .ref m27 :: .ref m28 :: .int (nI un) :: .ref m30 :: .int n31 :: .int n32 :: .ref m33 :: .int n34 :: .int n35 :: .ref m36 :: .int (nI wm) :: .ref m38 :: .ref m39 :: .ref m40 :: .int (nI bk) :: .ref m42 :: .ref m43 :: .ref m44 :: .ref m45 :: []))), (m10, .inl (cI, 34, .inl fm10)), (m44, .inl (cI, 70, .inl fm44)), (m45, .inl (cZ, 2, .inl fm45))]) [0, 1, 2, 3] rfl
    have hD9 := hD.sub (ws' := [(h0, .inr (11, (.int n0 :: .int n1 :: .int (nI nq) :: .ref m3 :: .ref m4 :: .ref m5 :: .int (nI nh) :: .ref m7 :: .ref m8 :: .ref m9 :: .ref m10 :: .int (nI sd) :: .ref m12 :: .int (nI tx) :: .int n14 :: .int (nI at9) :: .int n16 :: .int n17 :: .ref m18 :: .int (nI rq) :: .ref m20 :: .ref m21 :: .ref m22 :: .ref m23 :: .ref m24 :: .int (nI rh) :: .ref m26 :: .ref m27 :: .ref m28 :: .int (nI un) :: .ref m30 :: .int n31 :: .int n32 :: .ref m33 :: .int n34 :: .int n35 :: .ref m36 :: .int (nI wm) :: .ref m38 :: .ref m39 :: .ref m40 :: .int (nI bk) :: .ref m42 :: .ref m43 :: .ref m44 :: .ref m45 :: []))), (m10, .inl (cI, 34, .inl fm10)), (m44, .inl (cI, 70, .inl fm44)), (m45, .inl (cZ, 2, .inl fm45))]) [0, 1, 2, 3] (by decide +kernel) rfl
    exact W.iret (v := (-1000000001)) hx hb hr (fun t ht hW => ⟨⟨(-1000000001), (fun _ => 0), rfl, ((if_neg hw5).symm), ⟨fm10, sd, un, by omega, by omega, va_hq ht hP9, hD9⟩⟩, hS.F ht⟩) hS.2.2 dX11_goBack_12
