set_option maxHeartbeats 4000000 in
set_option maxRecDepth 100000 in
theorem c_X9_turnsDoD (l : Launch) (dC : Nat → ClassId) (dI : Nat → Nat → Nat) (cI cZ cQ : ClassId) (h0 : Nat) (ts : Nat) (f_h0 : List Value) (fts : Nat → Int32) (n : Nat) (a0 : Int32) (a1 : Int32) (sz : Nat) (e_h0_2 : fAt f_h0 2 = some (.ref ts)) (hn1 : 1 ≤ n) (hn : n ≤ 9) : Met l yX9_turnsDo wsX9_turnsDo ({ frames := 2, cells := 0, slots := 0, locals := 61 }) (va_Pc [.ref h0, .int (nI n), .int a0, .int a1] (fun U => U.heap.size = sz ∧ va_P (dC, dI) vwCl [(h0, .inr (9, f_h0)), (ts, .inl (cI, 9, .inl fts))] U.heap ∧ va_K (dC, dI) vwCl (tys0 cI cZ cQ) U ∧ va_D (fun _ => True) [(h0, .inr (9, f_h0)), (ts, .inl (cI, 9, .inl fts))] ∧ xN U)) (va_Qi (fun (r : Int32) (u : Nat → Nat) => (r = 1 ∧ toP n a0 a1) ∨ (r = 0 ∧ ¬ toP n a0 a1)) (fun (_ : Nat → Nat) (t : State) => ∃ (gg0 : Nat → Int32) , va_P (dC, dI) vwCl [(h0, .inr (9, f_h0)), (ts, .inl (cI, 9, .inl gg0))] t.heap ∧ va_D (va_A [(h0, .inr (9, f_h0)), (ts, .inl (cI, 9, .inl fts))] sz) [(h0, .inr (9, f_h0)), (ts, .inl (cI, 9, .inl gg0))]) (va_A [(h0, .inr (9, f_h0)), (ts, .inl (cI, 9, .inl fts))] sz)) 0 0 (va_A [(h0, .inr (9, f_h0)), (ts, .inl (cI, 9, .inl fts))] sz) := by
  refine Met.ofW (cc := cX9_turnsDo) (maxL := 7) (ret := (some .boolean)) (by decide) rfl ?_
  intro p e s m args below meth c s₁ B hml hv
  obtain ⟨rfl, hsz, hP, hK, hD0, hN⟩ := hv
  have hx := B.exec
  have hb := B.bytes
  have hr := B.returns
  have hts := atoms_spec (ws := wsX9_turnsDo) B.pre
  have hown : s.vm.findClass RX9 = some m.cls := findClass_of_methodNamed B.named
  have hlocks := B.notSynchronized
  have hi_X9 : ∀ w ∈ u_ws RX9 TX9 3, w ∈ wsX9_turnsDo := fun _ h => List.mem_cons_of_mem _ (List.mem_append_right _ (h))
  subst hsz
  have hD := hD0.self (sz := s.heap.size)
  generalize hAe : va_A [(h0, .inr (9, f_h0)), (ts, .inl (cI, 9, .inl fts))] s.heap.size = A at hD ⊢
  have hA : ∀ q : Nat, s.heap.size ≤ q → A q := fun q h => by rw [← hAe]; exact Or.inr h
  have hS : va_S A s.heap s.heap [] := va_S.rf
  have hl := lv_entry ([.ref h0, .int (nI n), .int a0, .int a1]) (n := 7) (Nat.le_of_ble_eq_true rfl)
  rw [lg_entry_eq]
  generalize (lg_sl ([.ref h0, .int (nI n), .int a0, .int a1]) ++ List.replicate (7 - (lg_sl ([.ref h0, .int (nI n), .int a0, .int a1])).length) Slot.unset).toArray = ls at hl ⊢
  have hl : lv_has ls 7 [(0, .ref h0), (1, .int (nI n)), (2, .int a0), (3, .int a1)] := hl
  refine lv_iload_n hx hb dX9_turnsDo_0 rfl (lv_at hl 1 rfl) ?_
  refine lv_iconst (v := 1) hx hb dX9_turnsDo_1 (by decide) ?_
  refine lv_icmp_lt (tgt := 11) hx hb dX9_turnsDo_2 (by decide) (fun c1 => ?_) (fun c1 => ?_)
  ·
    have c1 : n < 1 := (nI_ltI (a := n) (b := 1) (by omega) (by omega)).mp c1
    omega
  ·
    have c1 : ¬ n < 1 := fun h => c1 ((nI_ltI (a := n) (b := 1) (by omega) (by omega)).mpr h)
    refine lv_iload_n hx hb dX9_turnsDo_5 rfl (lv_at hl 1 rfl) ?_
    refine lv_bipush (v := 9) hx hb dX9_turnsDo_6 (by decide) ?_
    refine lv_icmp_le (tgt := 13) hx hb dX9_turnsDo_8 (by decide) (fun c2 => ?_) (fun c2 => ?_)
    ·
      have c2 : n ≤ 9 := (nI_leI (a := n) (b := 9) (by omega) (by omega)).mp c2
      refine lv_iconst (v := 0) hx hb dX9_turnsDo_13 (by decide) ?_
      refine lv_istore (lv' := [(4, .int 0), (0, .ref h0), (1, .int (nI n)), (2, .int a0), (3, .int a1)]) hx hb dX9_turnsDo_14 hl (by decide) rfl (fun ls hl => ?_)
      refine (fun (K : ∀ (d16 : Nat) (k16 : Nat) (f16_ts : Nat → Int32) (H : Heap) (locs : List Loc) (ls : Array Slot), k16 + d16 = n → (∀ j, j < k16 → f16_ts j = tsF n a0 a1 0 j) → va_P (dC, dI) vwCl [(h0, .inr (9, f_h0)), (ts, .inl (cI, 9, .inl f16_ts))] H → va_D A [(h0, .inr (9, f_h0)), (ts, .inl (cI, 9, .inl f16_ts))] → va_S A s.heap H locs → lv_has ls 7 [(4, .int (nI k16)), (0, .ref h0), (1, .int (nI n)), (2, .int a0), (3, .int a1)] → W p l e _ s m _ below meth c H locs _ _ _ (F0 m 16 ls [])) => K n 0 fts _ _ _ (by omega) (fun i hi => absurd hi (by omega)) hP hD hS (lv_sub hl [0, 1, 2, 3, 4] rfl)) ?_
      intro d16
      induction d16 with
      | zero =>
        intro k16 f16_ts H locs ls hk16 hv16_0 hP hD hS hl
        refine lv_iload hx hb dX9_turnsDo_16 (lv_at hl 0 rfl) ?_
        refine lv_iload_n hx hb dX9_turnsDo_18 rfl (lv_at hl 2 rfl) ?_
        refine lv_icmp_ge (tgt := 36) hx hb dX9_turnsDo_19 (by decide) (fun c3 => ?_) (fun c3 => ?_)
        ·
          have c3 : n ≤ k16 := (nI_leI (a := n) (b := k16) (by omega) (by omega)).mp c3
          refine lv_iconst (v := 0) hx hb dX9_turnsDo_36 (by decide) ?_
          refine lv_istore (lv' := [(4, .int 0), (0, .ref h0), (1, .int (nI n)), (2, .int a0), (3, .int a1)]) hx hb dX9_turnsDo_37 hl (by decide) rfl (fun ls hl => ?_)
          refine (fun (K : ∀ (d39 : Nat) (k39 : Nat) (f39_ts : Nat → Int32) (H : Heap) (locs : List Loc) (ls : Array Slot), k39 + d39 = 20 → (∀ j, j < n → f39_ts j = tsF n a0 a1 k39 j) → (∀ p, p < k39 → tsF n a0 a1 (p + 1) (p % n) ≤ 50) → va_P (dC, dI) vwCl [(h0, .inr (9, f_h0)), (ts, .inl (cI, 9, .inl f39_ts))] H → va_D A [(h0, .inr (9, f_h0)), (ts, .inl (cI, 9, .inl f39_ts))] → va_S A s.heap H locs → lv_has ls 7 [(4, .int (nI k39)), (0, .ref h0), (1, .int (nI n)), (2, .int a0), (3, .int a1)] → W p l e _ s m _ below meth c H locs _ _ _ (F0 m 39 ls [])) => K 20 0 f16_ts _ _ _ (by omega) (fun j hj => hv16_0 j (by omega)) (fun i hi => absurd hi (by omega)) hP hD hS (lv_sub hl [0, 1, 2, 3, 4] rfl)) ?_
          intro d39
          induction d39 with
          | zero =>
            intro k39 f39_ts H locs ls hk39 hv39_0 hv39_1 hP hD hS hl
            refine lv_iload hx hb dX9_turnsDo_39 (lv_at hl 0 rfl) ?_
            refine lv_bipush (v := 20) hx hb dX9_turnsDo_41 (by decide) ?_
            refine lv_icmp_ge (tgt := 126) hx hb dX9_turnsDo_43 (by decide) (fun c4 => ?_) (fun c4 => ?_)
            ·
              have c4 : 20 ≤ k39 := (nI_leI (a := 20) (b := k39) (by omega) (by omega)).mp c4
              refine lv_iconst (v := 1) hx hb dX9_turnsDo_126 (by decide) ?_
              have hP9 := hP.sub (ws' := [(h0, .inr (9, f_h0)), (ts, .inl (cI, 9, .inl f39_ts))]) [0, 1] rfl
              have hD9 := hD.sub (ws' := [(h0, .inr (9, f_h0)), (ts, .inl (cI, 9, .inl f39_ts))]) [0, 1] (by decide +kernel) rfl
              exact W.zret (v := 1) hx hb hr (rfl) (fun t ht hW => ⟨⟨1, (fun _ => 0), rfl, (Or.inl ⟨rfl, fun p hp => hv39_1 p (by omega)⟩), ⟨f39_ts, by rw [ht]; exact hP9, hD9⟩⟩, hS.F ht⟩) hS.2.2 dX9_turnsDo_127
            ·
              have c4 : ¬ 20 ≤ k39 := fun h => c4 ((nI_leI (a := 20) (b := k39) (by omega) (by omega)).mpr h)
              omega
          | succ d39 ih39 =>
            intro k39 f39_ts H locs ls hk39 hv39_0 hv39_1 hP hD hS hl
            refine lv_iload hx hb dX9_turnsDo_39 (lv_at hl 0 rfl) ?_
            refine lv_bipush (v := 20) hx hb dX9_turnsDo_41 (by decide) ?_
            refine lv_icmp_ge (tgt := 126) hx hb dX9_turnsDo_43 (by decide) (fun c5 => ?_) (fun c5 => ?_)
            ·
              have c5 : 20 ≤ k39 := (nI_leI (a := 20) (b := k39) (by omega) (by omega)).mp c5
              omega
            ·
              have c5 : ¬ 20 ≤ k39 := fun h => c5 ((nI_leI (a := 20) (b := k39) (by omega) (by omega)).mpr h)
              refine lv_iload hx hb dX9_turnsDo_46 (lv_at hl 0 rfl) ?_
              refine lv_iload_n hx hb dX9_turnsDo_48 rfl (lv_at hl 2 rfl) ?_
              refine lv_irem hx hb dX9_turnsDo_49 (nI_ne0 (n := n) (by omega) (by omega)) ?_
              refine lv_topi (fun z6 ez6 => ?_)
              obtain ⟨w7, hw7, ew7⟩ : ∃ y : Nat, y < n ∧ y = k39 % n := ⟨_, Nat.mod_lt _ (by omega), rfl⟩
              obtain rfl : z6 = nI w7 := by rw [ew7]; exact ez6.trans (pk_rem (a := k39) (d := n) (by omega) (by omega) (by omega))
              refine lv_istore (lv' := [(5, .int (nI w7)), (4, .int (nI k39)), (0, .ref h0), (1, .int (nI n)), (2, .int a0), (3, .int a1)]) hx hb dX9_turnsDo_50 hl (by decide) rfl (fun ls hl => ?_)
              refine lv_iconst (v := 0) hx hb dX9_turnsDo_52 (by decide) ?_
              refine lv_istore (lv' := [(6, .int 0), (5, .int (nI w7)), (4, .int (nI k39)), (0, .ref h0), (1, .int (nI n)), (2, .int a0), (3, .int a1)]) hx hb dX9_turnsDo_53 hl (by decide) rfl (fun ls hl => ?_)
              refine (fun (K : ∀ (d55 : Nat) (k55 : Nat) (f55_ts : Nat → Int32) (H : Heap) (locs : List Loc) (ls : Array Slot), k55 + d55 = n → (∀ j, j < k55 → f55_ts j = tsF n a0 a1 (k39 + 1) j) → (∀ j, k55 ≤ j → j < n → f55_ts j = tsF n a0 a1 k39 j) → va_P (dC, dI) vwCl [(h0, .inr (9, f_h0)), (ts, .inl (cI, 9, .inl f55_ts))] H → va_D A [(h0, .inr (9, f_h0)), (ts, .inl (cI, 9, .inl f55_ts))] → va_S A s.heap H locs → lv_has ls 7 [(6, .int (nI k55)), (5, .int (nI w7)), (4, .int (nI k39)), (0, .ref h0), (1, .int (nI n)), (2, .int a0), (3, .int a1)] → W p l e _ s m _ below meth c H locs _ _ _ (F0 m 55 ls [])) => K n 0 f39_ts _ _ _ (by omega) (fun i hi => absurd hi (by omega)) (fun j _ hj => hv39_0 j hj) hP hD hS (lv_sub hl [0, 1, 2, 3, 4, 5, 6] rfl)) ?_
              intro d55
              induction d55 with
              | zero =>
                intro k55 f55_ts H locs ls hk55 hv55_0 hv55_1 hP hD hS hl
                refine lv_iload hx hb dX9_turnsDo_55 (lv_at hl 0 rfl) ?_
                refine lv_iload_n hx hb dX9_turnsDo_57 rfl (lv_at hl 4 rfl) ?_
                refine lv_icmp_ge (tgt := 106) hx hb dX9_turnsDo_58 (by decide) (fun c8 => ?_) (fun c8 => ?_)
                ·
                  have c8 : n ≤ k55 := (nI_leI (a := n) (b := k55) (by omega) (by omega)).mp c8
                  refine lv_aload_n hx hb dX9_turnsDo_106 rfl (lv_at hl 3 rfl) ?_
                  refine va_get (D := (dC, dI)) (ci := 9) (v := .ref ts) (C := RX9) (T := TX9) (N := 3) hx hb hts hi_X9 hown hK hP 0 rfl rfl 2 (by decide) (hts (.fieldLink RX9 11 "LeftQuills$Trials" "turnSoftness" "[I") (wmx 1 rfl)) (fun _ h9 => h9) e_h0_2 dX9_turnsDo_107 ?_
                  refine lv_iload hx hb dX9_turnsDo_110 (lv_at hl 1 rfl) ?_
                  refine va_iald hx hb hK hP 1 0 rfl rfl (vp_in_nI (n := w7) (N := 9) (by omega) (by decide)) dX9_turnsDo_112 ?_
                  refine W.eq (g2 := F0 m 113 ls [.int (f55_ts w7)]) (congrArg (fun y9 => F0 m 113 ls (.int (f55_ts y9) :: [])) ((nI_clamp (n := w7) (by omega)))) ?_
                  refine lv_bipush (v := 50) hx hb dX9_turnsDo_113 (by decide) ?_
                  refine lv_icmp_le (tgt := 120) hx hb dX9_turnsDo_115 (by decide) (fun c9 => ?_) (fun c9 => ?_)
                  ·
                    refine lv_iinc (v := nI (k39 + 1)) (lv' := [(4, .int (nI (k39 + 1))), (6, .int (nI k55)), (5, .int (nI w7)), (0, .ref h0), (1, .int (nI n)), (2, .int a0), (3, .int a1)]) hx hb dX9_turnsDo_120 hl (k := 2) rfl ((rfl : nI k39 + Int32.ofInt 1 = nI k39 + 1).trans (nI_add k39 1)) (by decide) rfl (fun ls hl => ?_)
                    refine lv_goto (tgt := 39) hx hb dX9_turnsDo_123 (by decide) ?_
                    exact ih39 (k39 + 1) f55_ts _ _ _ (by omega) (fun j hj => hv55_0 j (by omega)) (to_s hv39_1 (by rw [← ew7, ← hv55_0 w7 (by omega)]; exact c9)) hP hD hS (lv_sub hl [0, 3, 4, 5, 6] rfl)
                  ·
                    refine lv_iconst (v := 0) hx hb dX9_turnsDo_118 (by decide) ?_
                    have hP9 := hP.sub (ws' := [(h0, .inr (9, f_h0)), (ts, .inl (cI, 9, .inl f55_ts))]) [0, 1] rfl
                    have hD9 := hD.sub (ws' := [(h0, .inr (9, f_h0)), (ts, .inl (cI, 9, .inl f55_ts))]) [0, 1] (by decide +kernel) rfl
                    exact W.zret (v := 0) hx hb hr (rfl) (fun t ht hW => ⟨⟨0, (fun _ => 0), rfl, (Or.inr ⟨rfl, fun h9 => absurd (h9 k39 (by omega)) (by rw [← ew7, ← hv55_0 w7 (by omega)]; exact c9)⟩), ⟨f55_ts, by rw [ht]; exact hP9, hD9⟩⟩, hS.F ht⟩) hS.2.2 dX9_turnsDo_119
                ·
                  have c8 : ¬ n ≤ k55 := fun h => c8 ((nI_leI (a := n) (b := k55) (by omega) (by omega)).mpr h)
                  omega
              | succ d55 ih55 =>
                intro k55 f55_ts H locs ls hk55 hv55_0 hv55_1 hP hD hS hl
                refine lv_iload hx hb dX9_turnsDo_55 (lv_at hl 0 rfl) ?_
                refine lv_iload_n hx hb dX9_turnsDo_57 rfl (lv_at hl 4 rfl) ?_
                refine lv_icmp_ge (tgt := 106) hx hb dX9_turnsDo_58 (by decide) (fun c10 => ?_) (fun c10 => ?_)
                ·
                  have c10 : n ≤ k55 := (nI_leI (a := n) (b := k55) (by omega) (by omega)).mp c10
                  omega
                ·
                  have c10 : ¬ n ≤ k55 := fun h => c10 ((nI_leI (a := n) (b := k55) (by omega) (by omega)).mpr h)
                  refine lv_aload_n hx hb dX9_turnsDo_61 rfl (lv_at hl 3 rfl) ?_
                  refine va_get (D := (dC, dI)) (ci := 9) (v := .ref ts) (C := RX9) (T := TX9) (N := 3) hx hb hts hi_X9 hown hK hP 0 rfl rfl 2 (by decide) (hts (.fieldLink RX9 11 "LeftQuills$Trials" "turnSoftness" "[I") (wmx 1 rfl)) (fun _ h9 => h9) e_h0_2 dX9_turnsDo_62 ?_
                  refine lv_iload hx hb dX9_turnsDo_65 (lv_at hl 0 rfl) ?_
                  refine lv_iload hx hb dX9_turnsDo_67 (lv_at hl 0 rfl) ?_
                  refine lv_iload hx hb dX9_turnsDo_69 (lv_at hl 1 rfl) ?_
                  refine lv_icmp_ne (tgt := 88) hx hb dX9_turnsDo_71 (by decide) (fun c11 => ?_) (fun c11 => ?_)
                  ·
                    have c11 : ¬ k55 = w7 := fun h => c11 ((nI_eq (a := k55) (b := w7) (by omega) (by omega)).mpr h)
                    refine lv_aload_n hx hb dX9_turnsDo_88 rfl (lv_at hl 3 rfl) ?_
                    refine va_get (D := (dC, dI)) (ci := 9) (v := .ref ts) (C := RX9) (T := TX9) (N := 3) hx hb hts hi_X9 hown hK hP 0 rfl rfl 2 (by decide) (hts (.fieldLink RX9 11 "LeftQuills$Trials" "turnSoftness" "[I") (wmx 1 rfl)) (fun _ h9 => h9) e_h0_2 dX9_turnsDo_89 ?_
                    refine lv_iload hx hb dX9_turnsDo_92 (lv_at hl 0 rfl) ?_
                    refine va_iald hx hb hK hP 1 0 rfl rfl (vp_in_nI (n := k55) (N := 9) (by omega) (by decide)) dX9_turnsDo_94 ?_
                    refine W.eq (g2 := F0 m 95 ls [.int (f55_ts k55), .int (nI k55), .ref ts]) (congrArg (fun y9 => F0 m 95 ls (.int (f55_ts y9) :: [.int (nI k55), .ref ts])) ((nI_clamp (n := k55) (by omega)))) ?_
                    refine lv_iconst (v := 1) hx hb dX9_turnsDo_95 (by decide) ?_
                    have hPc := hP.sub (ws' := []) [] rfl
                    refine va_calli (va_runSN (As := [.int (f55_ts k55), .int 1]) (rest := [.int (nI k55), .ref ts]) ⟨hx, hb, hml, hown, hts⟩ (c_X10_driedD l dC dI cI cZ cQ (f55_ts k55) 1 H.size ) ⟨va_cnB 2 hts gX9_turnsDo_X10_driedSoftness_n63 rfl rfl rfl (hN.n_X9_63) (hts (.initialized RX10) (wmx 3 rfl)) (by decide +kernel) ⟨Nat.le_of_ble_eq_true rfl, Nat.le_of_ble_eq_true rfl⟩, hts (.static yX10_driedSoftness) (by decide +kernel), trivial⟩ ⟨fun a U g mk q => by obtain ⟨q0, q1, qP, qK⟩ := q; exact ⟨q0, q1, qP, va_K.moved (u := U) (U := U.calling g mk a) (Vm.Alike.refl U.vm) qK⟩, fun U hU hW => ⟨rfl, by rw [hU], by rw [hU]; exact hPc, va_K.moved hW.alike hK⟩⟩ rfl rfl hl.1 rfl (lv_room (Nat.le_of_ble_eq_true rfl)) dX9_turnsDo_96 ⟨Nat.le_of_ble_eq_true rfl, Nat.le_of_ble_eq_true rfl⟩) hS (fun q _ h => False.elim h) (fun q h => False.elim h) (fun r12 u13 t H1 locs ht hvm hw14 hB hz1 hk1 hS => ?_)
                    have hP := hP.kept (fun k q hk => hk1 q.1 (hP k q hk).lt (fun h => h))
                    clear hz1 hk1 hPc
                    generalize H1 = H at hP hS ht ⊢
                    try dsimp only at hw14
                    subst hw14
                    refine va_iast hx hb hK hP hD hS 1 0 rfl rfl (vp_in_nI (n := k55) (N := 9) (by omega) (by decide)) dX9_turnsDo_99 (fun H locs hP hD hS => ?_)
                    have hcl := (nI_clamp (n := k55) (by omega))
                    rw [hcl] at hP hD
                    clear hcl
                    have hP : va_P (dC, dI) vwCl [(h0, .inr (9, f_h0)), (ts, .inl (cI, 9, .inl (upd f55_ts k55 (dsF (f55_ts k55) 1))))] H := hP
                    have hD : va_D A [(h0, .inr (9, f_h0)), (ts, .inl (cI, 9, .inl (upd f55_ts k55 (dsF (f55_ts k55) 1))))] := hD
                    refine lv_iinc (v := nI (k55 + 1)) (lv' := [(6, .int (nI (k55 + 1))), (5, .int (nI w7)), (4, .int (nI k39)), (0, .ref h0), (1, .int (nI n)), (2, .int a0), (3, .int a1)]) hx hb dX9_turnsDo_100 hl (k := 0) rfl ((rfl : nI k55 + Int32.ofInt 1 = nI k55 + 1).trans (nI_add k55 1)) (by decide) rfl (fun ls hl => ?_)
                    refine lv_goto (tgt := 55) hx hb dX9_turnsDo_103 (by decide) ?_
                    exact ih55 (k55 + 1) (upd f55_ts k55 (dsF (f55_ts k55) 1)) _ _ _ (by omega) (upd_all hv55_0 (ts_n hv55_1 (by omega) c11 ew7)) (ts_up2 hv55_1) hP hD hS (lv_sub hl [0, 1, 2, 3, 4, 5, 6] rfl)
                  ·
                    have c11 : k55 = w7 := (nI_eq (a := k55) (b := w7) (by omega) (by omega)).mp c11
                    refine lv_aload_n hx hb dX9_turnsDo_74 rfl (lv_at hl 3 rfl) ?_
                    refine va_get (D := (dC, dI)) (ci := 9) (v := .ref ts) (C := RX9) (T := TX9) (N := 3) hx hb hts hi_X9 hown hK hP 0 rfl rfl 2 (by decide) (hts (.fieldLink RX9 11 "LeftQuills$Trials" "turnSoftness" "[I") (wmx 1 rfl)) (fun _ h9 => h9) e_h0_2 dX9_turnsDo_75 ?_
                    refine lv_iload hx hb dX9_turnsDo_78 (lv_at hl 0 rfl) ?_
                    refine va_iald hx hb hK hP 1 0 rfl rfl (vp_in_nI (n := k55) (N := 9) (by omega) (by decide)) dX9_turnsDo_80 ?_
                    refine W.eq (g2 := F0 m 81 ls [.int (f55_ts k55), .int (nI k55), .ref ts]) (congrArg (fun y9 => F0 m 81 ls (.int (f55_ts y9) :: [.int (nI k55), .ref ts])) ((nI_clamp (n := k55) (by omega)))) ?_
                    refine lv_iload_n hx hb dX9_turnsDo_81 rfl (lv_at hl 6 rfl) ?_
                    have hPc := hP.sub (ws' := []) [] rfl
                    refine va_calli (va_runSN (As := [.int (f55_ts k55), .int a1]) (rest := [.int (nI k55), .ref ts]) ⟨hx, hb, hml, hown, hts⟩ (c_X10_softerByD l dC dI cI cZ cQ (f55_ts k55) a1 H.size ) ⟨va_cnB 2 hts gX9_turnsDo_X10_softerBy_n45 rfl rfl rfl (hN.n_X9_45) (hts (.initialized RX10) (wmx 3 rfl)) (by decide +kernel) ⟨Nat.le_of_ble_eq_true rfl, Nat.le_of_ble_eq_true rfl⟩, hts (.static yX10_softerBy) (by decide +kernel), trivial⟩ ⟨fun a U g mk q => by obtain ⟨q0, q1, qP, qK⟩ := q; exact ⟨q0, q1, qP, va_K.moved (u := U) (U := U.calling g mk a) (Vm.Alike.refl U.vm) qK⟩, fun U hU hW => ⟨rfl, by rw [hU], by rw [hU]; exact hPc, va_K.moved hW.alike hK⟩⟩ rfl rfl hl.1 rfl (lv_room (Nat.le_of_ble_eq_true rfl)) dX9_turnsDo_82 ⟨Nat.le_of_ble_eq_true rfl, Nat.le_of_ble_eq_true rfl⟩) hS (fun q _ h => False.elim h) (fun q h => False.elim h) (fun r16 u17 t H1 locs ht hvm hw18 hB hz1 hk1 hS => ?_)
                    have hP := hP.kept (fun k q hk => hk1 q.1 (hP k q hk).lt (fun h => h))
                    clear hz1 hk1 hPc
                    generalize H1 = H at hP hS ht ⊢
                    try dsimp only at hw18
                    subst hw18
                    refine lv_goto (tgt := 99) hx hb dX9_turnsDo_85 (by decide) ?_
                    refine va_iast hx hb hK hP hD hS 1 0 rfl rfl (vp_in_nI (n := k55) (N := 9) (by omega) (by decide)) dX9_turnsDo_99 (fun H locs hP hD hS => ?_)
                    have hcl := (nI_clamp (n := k55) (by omega))
                    rw [hcl] at hP hD
                    clear hcl
                    have hP : va_P (dC, dI) vwCl [(h0, .inr (9, f_h0)), (ts, .inl (cI, 9, .inl (upd f55_ts k55 (sbF (f55_ts k55) a1))))] H := hP
                    have hD : va_D A [(h0, .inr (9, f_h0)), (ts, .inl (cI, 9, .inl (upd f55_ts k55 (sbF (f55_ts k55) a1))))] := hD
                    refine lv_iinc (v := nI (k55 + 1)) (lv' := [(6, .int (nI (k55 + 1))), (5, .int (nI w7)), (4, .int (nI k39)), (0, .ref h0), (1, .int (nI n)), (2, .int a0), (3, .int a1)]) hx hb dX9_turnsDo_100 hl (k := 0) rfl ((rfl : nI k55 + Int32.ofInt 1 = nI k55 + 1).trans (nI_add k55 1)) (by decide) rfl (fun ls hl => ?_)
                    refine lv_goto (tgt := 55) hx hb dX9_turnsDo_103 (by decide) ?_
                    exact ih55 (k55 + 1) (upd f55_ts k55 (sbF (f55_ts k55) a1)) _ _ _ (by omega) (upd_all hv55_0 (ts_y hv55_1 (by omega) c11 ew7)) (ts_up2 hv55_1) hP hD hS (lv_sub hl [0, 1, 2, 3, 4, 5, 6] rfl)
        ·
          have c3 : ¬ n ≤ k16 := fun h => c3 ((nI_leI (a := n) (b := k16) (by omega) (by omega)).mpr h)
          omega
      | succ d16 ih16 =>
        intro k16 f16_ts H locs ls hk16 hv16_0 hP hD hS hl
        refine lv_iload hx hb dX9_turnsDo_16 (lv_at hl 0 rfl) ?_
        refine lv_iload_n hx hb dX9_turnsDo_18 rfl (lv_at hl 2 rfl) ?_
        refine lv_icmp_ge (tgt := 36) hx hb dX9_turnsDo_19 (by decide) (fun c20 => ?_) (fun c20 => ?_)
        ·
          have c20 : n ≤ k16 := (nI_leI (a := n) (b := k16) (by omega) (by omega)).mp c20
          omega
        ·
          have c20 : ¬ n ≤ k16 := fun h => c20 ((nI_leI (a := n) (b := k16) (by omega) (by omega)).mpr h)
          refine lv_aload_n hx hb dX9_turnsDo_22 rfl (lv_at hl 1 rfl) ?_
          refine va_get (D := (dC, dI)) (ci := 9) (v := .ref ts) (C := RX9) (T := TX9) (N := 3) hx hb hts hi_X9 hown hK hP 0 rfl rfl 2 (by decide) (hts (.fieldLink RX9 11 "LeftQuills$Trials" "turnSoftness" "[I") (wmx 1 rfl)) (fun _ h9 => h9) e_h0_2 dX9_turnsDo_23 ?_
          refine lv_iload hx hb dX9_turnsDo_26 (lv_at hl 0 rfl) ?_
          refine lv_iload_n hx hb dX9_turnsDo_28 rfl (lv_at hl 3 rfl) ?_
          refine va_iast hx hb hK hP hD hS 1 0 rfl rfl (vp_in_nI (n := k16) (N := 9) (by omega) (by decide)) dX9_turnsDo_29 (fun H locs hP hD hS => ?_)
          have hcl := (nI_clamp (n := k16) (by omega))
          rw [hcl] at hP hD
          clear hcl
          have hP : va_P (dC, dI) vwCl [(h0, .inr (9, f_h0)), (ts, .inl (cI, 9, .inl (upd f16_ts k16 a0)))] H := hP
          have hD : va_D A [(h0, .inr (9, f_h0)), (ts, .inl (cI, 9, .inl (upd f16_ts k16 a0)))] := hD
          refine lv_iinc (v := nI (k16 + 1)) (lv' := [(4, .int (nI (k16 + 1))), (0, .ref h0), (1, .int (nI n)), (2, .int a0), (3, .int a1)]) hx hb dX9_turnsDo_30 hl (k := 0) rfl ((rfl : nI k16 + Int32.ofInt 1 = nI k16 + 1).trans (nI_add k16 1)) (by decide) rfl (fun ls hl => ?_)
          refine lv_goto (tgt := 16) hx hb dX9_turnsDo_33 (by decide) ?_
          exact ih16 (k16 + 1) (upd f16_ts k16 a0) _ _ _ (by omega) (upd_all hv16_0 rfl) hP hD hS (lv_sub hl [0, 1, 2, 3, 4] rfl)
    ·
      have c2 : ¬ n ≤ 9 := fun h => c2 ((nI_leI (a := n) (b := 9) (by omega) (by omega)).mpr h)
      omega
set_option maxHeartbeats 4000000 in
set_option maxRecDepth 100000 in
theorem c_X9_fewestD (l : Launch) (dC : Nat → ClassId) (dI : Nat → Nat → Nat) (cI cZ cQ : ClassId) (h0 : Nat) (ho : Nat) (hd : Nat) (ts : Nat) (f_h0 : List Value) (fts : Nat → Int32) (o5 : Nat) (o6 : Nat) (o7 : Nat) (o10 : Nat) (o11 : Nat) (o12 : Nat) (f_ho : List Value) (a3 : Nat) (a4 : Nat) (f_hd : List Value) (fa3 : Nat → Int32) (fa4 : Nat → Int32) (fo5 : Nat → Int32) (fo6 : Nat → Int32) (fo7 : Nat → Int32) (fo10 : Nat → Int32) (fo11 : Nat → Int32) (fo12 : Nat → Int32) (j : Nat) (k : Nat) (sz : Nat) (e_h0_0 : fAt f_h0 0 = some (.ref ho)) (e_h0_1 : fAt f_h0 1 = some (.ref hd)) (e_h0_2 : fAt f_h0 2 = some (.ref ts)) (e_ho_5 : fAt f_ho 5 = some (.ref o5)) (e_ho_6 : fAt f_ho 6 = some (.ref o6)) (e_ho_7 : fAt f_ho 7 = some (.ref o7)) (e_ho_10 : fAt f_ho 10 = some (.ref o10)) (e_ho_11 : fAt f_ho 11 = some (.ref o11)) (e_ho_12 : fAt f_ho 12 = some (.ref o12)) (e_hd_3 : fAt f_hd 3 = some (.ref a3)) (e_hd_4 : fAt f_hd 4 = some (.ref a4)) (hj : j < 8) (hk : k < 4) : Met l yX9_fewestByTurns wsX9_fewestByTurns ({ frames := 3, cells := 0, slots := 0, locals := 87 }) (va_Pc [.ref h0, .int (nI j), .int (nI k)] (fun U => U.heap.size = sz ∧ va_P (dC, dI) vwCl [(h0, .inr (9, f_h0)), (ts, .inl (cI, 9, .inl fts)), (ho, .inr (5, f_ho)), (hd, .inr (1, f_hd)), (a3, .inl (cI, 8, .inl fa3)), (a4, .inl (cI, 8, .inl fa4)), (o5, .inl (cI, 8, .inl fo5)), (o6, .inl (cI, 8, .inl fo6)), (o7, .inl (cI, 8, .inl fo7)), (o10, .inl (cI, 4, .inl fo10)), (o11, .inl (cI, 4, .inl fo11)), (o12, .inl (cI, 4, .inl fo12))] U.heap ∧ va_K (dC, dI) vwCl (tys0 cI cZ cQ) U ∧ va_D (fun _ => True) [(h0, .inr (9, f_h0)), (ts, .inl (cI, 9, .inl fts)), (ho, .inr (5, f_ho)), (hd, .inr (1, f_hd)), (a3, .inl (cI, 8, .inl fa3)), (a4, .inl (cI, 8, .inl fa4)), (o5, .inl (cI, 8, .inl fo5)), (o6, .inl (cI, 8, .inl fo6)), (o7, .inl (cI, 8, .inl fo7)), (o10, .inl (cI, 4, .inl fo10)), (o11, .inl (cI, 4, .inl fo11)), (o12, .inl (cI, 4, .inl fo12))] ∧ xN U)) (va_Qi (fun (r : Int32) (u : Nat → Nat) => fmP (fun m => lcB (fa3 j) (fo12 k) = true ∧ toP m (fa4 j) (wrF (fo5 j) (fo6 j) (fo7 j) (fo10 k) (fo11 k))) r) (fun (_ : Nat → Nat) (t : State) => ∃ (gg0 : Nat → Int32) , va_P (dC, dI) vwCl [(h0, .inr (9, f_h0)), (ts, .inl (cI, 9, .inl gg0)), (ho, .inr (5, f_ho)), (hd, .inr (1, f_hd)), (a3, .inl (cI, 8, .inl fa3)), (a4, .inl (cI, 8, .inl fa4)), (o5, .inl (cI, 8, .inl fo5)), (o6, .inl (cI, 8, .inl fo6)), (o7, .inl (cI, 8, .inl fo7)), (o10, .inl (cI, 4, .inl fo10)), (o11, .inl (cI, 4, .inl fo11)), (o12, .inl (cI, 4, .inl fo12))] t.heap ∧ va_D (va_A [(h0, .inr (9, f_h0)), (ts, .inl (cI, 9, .inl fts)), (ho, .inr (5, f_ho)), (hd, .inr (1, f_hd)), (a3, .inl (cI, 8, .inl fa3)), (a4, .inl (cI, 8, .inl fa4)), (o5, .inl (cI, 8, .inl fo5)), (o6, .inl (cI, 8, .inl fo6)), (o7, .inl (cI, 8, .inl fo7)), (o10, .inl (cI, 4, .inl fo10)), (o11, .inl (cI, 4, .inl fo11)), (o12, .inl (cI, 4, .inl fo12))] sz) [(h0, .inr (9, f_h0)), (ts, .inl (cI, 9, .inl gg0)), (ho, .inr (5, f_ho)), (hd, .inr (1, f_hd)), (a3, .inl (cI, 8, .inl fa3)), (a4, .inl (cI, 8, .inl fa4)), (o5, .inl (cI, 8, .inl fo5)), (o6, .inl (cI, 8, .inl fo6)), (o7, .inl (cI, 8, .inl fo7)), (o10, .inl (cI, 4, .inl fo10)), (o11, .inl (cI, 4, .inl fo11)), (o12, .inl (cI, 4, .inl fo12))]) (va_A [(h0, .inr (9, f_h0)), (ts, .inl (cI, 9, .inl fts)), (ho, .inr (5, f_ho)), (hd, .inr (1, f_hd)), (a3, .inl (cI, 8, .inl fa3)), (a4, .inl (cI, 8, .inl fa4)), (o5, .inl (cI, 8, .inl fo5)), (o6, .inl (cI, 8, .inl fo6)), (o7, .inl (cI, 8, .inl fo7)), (o10, .inl (cI, 4, .inl fo10)), (o11, .inl (cI, 4, .inl fo11)), (o12, .inl (cI, 4, .inl fo12))] sz)) 0 0 (va_A [(h0, .inr (9, f_h0)), (ts, .inl (cI, 9, .inl fts)), (ho, .inr (5, f_ho)), (hd, .inr (1, f_hd)), (a3, .inl (cI, 8, .inl fa3)), (a4, .inl (cI, 8, .inl fa4)), (o5, .inl (cI, 8, .inl fo5)), (o6, .inl (cI, 8, .inl fo6)), (o7, .inl (cI, 8, .inl fo7)), (o10, .inl (cI, 4, .inl fo10)), (o11, .inl (cI, 4, .inl fo11)), (o12, .inl (cI, 4, .inl fo12))] sz) := by
  refine Met.ofW (cc := cX9_fewestByTurns) (maxL := 4) (ret := (some .int)) (by decide) rfl ?_
  intro p e s m args below meth c s₁ B hml hv
  obtain ⟨rfl, hsz, hP, hK, hD0, hN⟩ := hv
  have hx := B.exec
  have hb := B.bytes
  have hr := B.returns
  have hts := atoms_spec (ws := wsX9_fewestByTurns) B.pre
  have hown : s.vm.findClass RX9 = some m.cls := findClass_of_methodNamed B.named
  have hlocks := B.notSynchronized
  have hi_X1 : ∀ w ∈ u_ws RX1 TX1 8, w ∈ wsX9_fewestByTurns := fun _ h => List.mem_cons_of_mem _ (List.mem_append_left _ (List.mem_append_right _ (h)))
  have hi_X9 : ∀ w ∈ u_ws RX9 TX9 3, w ∈ wsX9_fewestByTurns := fun _ h => List.mem_cons_of_mem _ (List.mem_append_left _ (List.mem_append_left _ (List.mem_append_right _ (h))))
  subst hsz
  have hD := hD0.self (sz := s.heap.size)
  generalize hAe : va_A [(h0, .inr (9, f_h0)), (ts, .inl (cI, 9, .inl fts)), (ho, .inr (5, f_ho)), (hd, .inr (1, f_hd)), (a3, .inl (cI, 8, .inl fa3)), (a4, .inl (cI, 8, .inl fa4)), (o5, .inl (cI, 8, .inl fo5)), (o6, .inl (cI, 8, .inl fo6)), (o7, .inl (cI, 8, .inl fo7)), (o10, .inl (cI, 4, .inl fo10)), (o11, .inl (cI, 4, .inl fo11)), (o12, .inl (cI, 4, .inl fo12))] s.heap.size = A at hD ⊢
  have hA : ∀ q : Nat, s.heap.size ≤ q → A q := fun q h => by rw [← hAe]; exact Or.inr h
  have hS : va_S A s.heap s.heap [] := va_S.rf
  have hl := lv_entry ([.ref h0, .int (nI j), .int (nI k)]) (n := 4) (Nat.le_of_ble_eq_true rfl)
  rw [lg_entry_eq]
  generalize (lg_sl ([.ref h0, .int (nI j), .int (nI k)]) ++ List.replicate (4 - (lg_sl ([.ref h0, .int (nI j), .int (nI k)])).length) Slot.unset).toArray = ls at hl ⊢
  have hl : lv_has ls 4 [(0, .ref h0), (1, .int (nI j)), (2, .int (nI k))] := hl
  refine lv_aload_n hx hb dX9_fewestByTurns_0 rfl (lv_at hl 0 rfl) ?_
  refine va_get (D := (dC, dI)) (ci := 9) (v := .ref ho) (C := RX9) (T := TX9) (N := 3) hx hb hts hi_X9 hown hK hP 0 rfl rfl 0 (by decide) (hts (.fieldLink RX9 15 "LeftQuills$Trials" "office" "LLeftQuills$Office;") (wmx 1 rfl)) (fun _ h9 => h9) e_h0_0 dX9_fewestByTurns_1 ?_
  refine lv_iload_n hx hb dX9_fewestByTurns_4 rfl (lv_at hl 2 rfl) ?_
  refine lv_aload_n hx hb dX9_fewestByTurns_5 rfl (lv_at hl 0 rfl) ?_
  refine va_get (D := (dC, dI)) (ci := 9) (v := .ref hd) (C := RX9) (T := TX9) (N := 3) hx hb hts hi_X9 hown hK hP 0 rfl rfl 1 (by decide) (hts (.fieldLink RX9 19 "LeftQuills$Trials" "desk" "LLeftQuills$Desk;") (wmx 2 rfl)) (fun _ h9 => h9) e_h0_1 dX9_fewestByTurns_6 ?_
  refine va_get (D := (dC, dI)) (ci := 1) (v := .ref a3) (C := RX1) (T := TX1) (N := 8) hx hb hts hi_X1 hown hK hP 3 rfl rfl 3 (by decide) (hts (.fieldLink RX9 32 "LeftQuills$Desk" "nib" "[I") (wmx 3 rfl)) (fun _ h9 => h9) e_hd_3 dX9_fewestByTurns_9 ?_
  refine lv_iload_n hx hb dX9_fewestByTurns_12 rfl (lv_at hl 1 rfl) ?_
  refine va_iald hx hb hK hP 4 0 rfl rfl (vp_in_nI (n := j) (N := 8) (by omega) (by decide)) dX9_fewestByTurns_13 ?_
  refine W.eq (g2 := F0 m 14 ls [.int (fa3 j), .int (nI k), .ref ho]) (congrArg (fun y9 => F0 m 14 ls (.int (fa3 y9) :: [.int (nI k), .ref ho])) ((nI_clamp (n := j) (by omega)))) ?_
  have hPc := hP.sub (ws' := [(ho, .inr (5, f_ho)), (o12, .inl (cI, 4, .inl fo12))]) [2, 11] rfl
  refine va_calli (va_runV (As := [.int (nI k), .int (fa3 j)]) (rest := []) ⟨hx, hb, hml, hown, hts⟩ (c_X5_likesNibD l dC dI cI cZ cQ ho o12 f_ho fo12 k (fa3 j) s.heap.size e_ho_12 (by omega)) (cwV 2 hts gX9_fewestByTurns_X5_likesNib rfl rfl rfl (by decide +kernel) ⟨Nat.le_of_ble_eq_true rfl, Nat.le_of_ble_eq_true rfl⟩) ⟨fun a U g mk q => by obtain ⟨q0, q1, qP, qK⟩ := q; exact ⟨q0, q1, qP, va_K.moved (u := U) (U := U.calling g mk a) (Vm.Alike.refl U.vm) qK⟩, va_recv hK hP (ci := 5) (q0 := 2) rfl rfl, fun U hU hW => ⟨rfl, by rw [hU], by rw [hU]; exact hPc, va_K.moved hW.alike hK⟩⟩ rfl rfl hl.1 rfl (lv_room (Nat.le_of_ble_eq_true rfl)) dX9_fewestByTurns_14 ⟨Nat.le_of_ble_eq_true rfl, Nat.le_of_ble_eq_true rfl⟩) hS (fun q _ h => False.elim h) (fun q h => False.elim h) (fun r1 u2 t H1 locs ht hvm hw3 hB hz1 hk1 hS => ?_)
  have hP := hP.kept (fun k q hk => hk1 q.1 (hP k q hk).lt (fun h => h))
  clear hz1 hk1 hPc
  generalize H1 = H at hP hS ht ⊢
  try dsimp only at hw3
  rcases hw3 with ⟨rfl, hw3⟩ | ⟨rfl, hw3⟩
  ·
    refine lv_if_ne (tgt := 22) hx hb dX9_fewestByTurns_17 (by decide) (fun c4 => ?_) (fun c4 => ?_)
    rotate_left
    · exact absurd c4 (by decide)
    clear c4
    refine lv_iconst (v := 1) hx hb dX9_fewestByTurns_22 (by decide) ?_
    refine lv_istore_n (lv' := [(3, .int 1), (0, .ref h0), (1, .int (nI j)), (2, .int (nI k))]) hx hb dX9_fewestByTurns_23 rfl hl (by decide) rfl (fun ls hl => ?_)
    refine (fun (K : ∀ (d24 : Nat) (k24 : Nat) (f24_ts : Nat → Int32) (H : Heap) (locs : List Loc) (ls : Array Slot), k24 + d24 = 10 → 1 ≤ k24 → (∀ m, 1 ≤ m → m < k24 → ¬ (fun m => lcB (fa3 j) (fo12 k) = true ∧ toP m (fa4 j) (wrF (fo5 j) (fo6 j) (fo7 j) (fo10 k) (fo11 k))) m) → va_P (dC, dI) vwCl [(h0, .inr (9, f_h0)), (ts, .inl (cI, 9, .inl f24_ts)), (ho, .inr (5, f_ho)), (hd, .inr (1, f_hd)), (a3, .inl (cI, 8, .inl fa3)), (a4, .inl (cI, 8, .inl fa4)), (o5, .inl (cI, 8, .inl fo5)), (o6, .inl (cI, 8, .inl fo6)), (o7, .inl (cI, 8, .inl fo7)), (o10, .inl (cI, 4, .inl fo10)), (o11, .inl (cI, 4, .inl fo11)), (o12, .inl (cI, 4, .inl fo12))] H → va_D A [(h0, .inr (9, f_h0)), (ts, .inl (cI, 9, .inl f24_ts)), (ho, .inr (5, f_ho)), (hd, .inr (1, f_hd)), (a3, .inl (cI, 8, .inl fa3)), (a4, .inl (cI, 8, .inl fa4)), (o5, .inl (cI, 8, .inl fo5)), (o6, .inl (cI, 8, .inl fo6)), (o7, .inl (cI, 8, .inl fo7)), (o10, .inl (cI, 4, .inl fo10)), (o11, .inl (cI, 4, .inl fo11)), (o12, .inl (cI, 4, .inl fo12))] → va_S A s.heap H locs → lv_has ls 4 [(3, .int (nI k24)), (0, .ref h0), (1, .int (nI j)), (2, .int (nI k))] → W p l e _ s m _ below meth c H locs _ _ _ (F0 m 24 ls [])) => K (10 - 1) 1 fts _ _ _ (by omega) (by omega) (fun m h1 h2 => absurd h2 (by omega)) hP hD hS (lv_sub hl [0, 1, 2, 3] rfl)) ?_
    intro d24
    induction d24 with
    | zero =>
      intro k24 f24_ts H locs ls hk24 hlo24 hv24_0 hP hD hS hl
      refine lv_iload_n hx hb dX9_fewestByTurns_24 rfl (lv_at hl 0 rfl) ?_
      refine lv_bipush (v := 9) hx hb dX9_fewestByTurns_25 (by decide) ?_
      refine lv_icmp_gt (tgt := 64) hx hb dX9_fewestByTurns_27 (by decide) (fun c5 => ?_) (fun c5 => ?_)
      ·
        have c5 : 9 < k24 := (nI_ltI (a := 9) (b := k24) (by omega) (by omega)).mp c5
        refine lv_iconst (v := (-1)) hx hb dX9_fewestByTurns_64 (by decide) ?_
        have hP9 := hP.sub (ws' := [(h0, .inr (9, f_h0)), (ts, .inl (cI, 9, .inl f24_ts)), (ho, .inr (5, f_ho)), (hd, .inr (1, f_hd)), (a3, .inl (cI, 8, .inl fa3)), (a4, .inl (cI, 8, .inl fa4)), (o5, .inl (cI, 8, .inl fo5)), (o6, .inl (cI, 8, .inl fo6)), (o7, .inl (cI, 8, .inl fo7)), (o10, .inl (cI, 4, .inl fo10)), (o11, .inl (cI, 4, .inl fo11)), (o12, .inl (cI, 4, .inl fo12))]) [0, 1, 2, 3, 4, 5, 6, 7, 8, 9, 10, 11] rfl
        have hD9 := hD.sub (ws' := [(h0, .inr (9, f_h0)), (ts, .inl (cI, 9, .inl f24_ts)), (ho, .inr (5, f_ho)), (hd, .inr (1, f_hd)), (a3, .inl (cI, 8, .inl fa3)), (a4, .inl (cI, 8, .inl fa4)), (o5, .inl (cI, 8, .inl fo5)), (o6, .inl (cI, 8, .inl fo6)), (o7, .inl (cI, 8, .inl fo7)), (o10, .inl (cI, 4, .inl fo10)), (o11, .inl (cI, 4, .inl fo11)), (o12, .inl (cI, 4, .inl fo12))]) [0, 1, 2, 3, 4, 5, 6, 7, 8, 9, 10, 11] (by decide +kernel) rfl
        exact W.iret (v := (-1)) hx hb hr (fun t ht hW => ⟨⟨(-1), (fun _ => 0), rfl, (Or.inl ⟨rfl, fun m h1 h2 => hv24_0 m h1 (by omega)⟩), ⟨f24_ts, by rw [ht]; exact hP9, hD9⟩⟩, hS.F ht⟩) hS.2.2 dX9_fewestByTurns_65
      ·
        have c5 : ¬ 9 < k24 := fun h => c5 ((nI_ltI (a := 9) (b := k24) (by omega) (by omega)).mpr h)
        omega
    | succ d24 ih24 =>
      intro k24 f24_ts H locs ls hk24 hlo24 hv24_0 hP hD hS hl
      refine lv_iload_n hx hb dX9_fewestByTurns_24 rfl (lv_at hl 0 rfl) ?_
      refine lv_bipush (v := 9) hx hb dX9_fewestByTurns_25 (by decide) ?_
      refine lv_icmp_gt (tgt := 64) hx hb dX9_fewestByTurns_27 (by decide) (fun c6 => ?_) (fun c6 => ?_)
      ·
        have c6 : 9 < k24 := (nI_ltI (a := 9) (b := k24) (by omega) (by omega)).mp c6
        omega
      ·
        have c6 : ¬ 9 < k24 := fun h => c6 ((nI_ltI (a := 9) (b := k24) (by omega) (by omega)).mpr h)
        refine lv_aload_n hx hb dX9_fewestByTurns_30 rfl (lv_at hl 1 rfl) ?_
        refine lv_iload_n hx hb dX9_fewestByTurns_31 rfl (lv_at hl 0 rfl) ?_
        refine lv_aload_n hx hb dX9_fewestByTurns_32 rfl (lv_at hl 1 rfl) ?_
        refine va_get (D := (dC, dI)) (ci := 9) (v := .ref hd) (C := RX9) (T := TX9) (N := 3) hx hb hts hi_X9 hown hK hP 0 rfl rfl 1 (by decide) (hts (.fieldLink RX9 19 "LeftQuills$Trials" "desk" "LLeftQuills$Desk;") (wmx 2 rfl)) (fun _ h9 => h9) e_h0_1 dX9_fewestByTurns_33 ?_
        refine va_get (D := (dC, dI)) (ci := 1) (v := .ref a4) (C := RX1) (T := TX1) (N := 8) hx hb hts hi_X1 hown hK hP 3 rfl rfl 4 (by decide) (hts (.fieldLink RX9 23 "LeftQuills$Desk" "softness" "[I") (wmx 4 rfl)) (fun _ h9 => h9) e_hd_4 dX9_fewestByTurns_36 ?_
        refine lv_iload_n hx hb dX9_fewestByTurns_39 rfl (lv_at hl 2 rfl) ?_
        refine va_iald hx hb hK hP 5 0 rfl rfl (vp_in_nI (n := j) (N := 8) (by omega) (by decide)) dX9_fewestByTurns_40 ?_
        refine W.eq (g2 := F0 m 41 ls [.int (fa4 j), .int (nI k24), .ref h0]) (congrArg (fun y9 => F0 m 41 ls (.int (fa4 y9) :: [.int (nI k24), .ref h0])) ((nI_clamp (n := j) (by omega)))) ?_
        refine lv_aload_n hx hb dX9_fewestByTurns_41 rfl (lv_at hl 1 rfl) ?_
        refine va_get (D := (dC, dI)) (ci := 9) (v := .ref ho) (C := RX9) (T := TX9) (N := 3) hx hb hts hi_X9 hown hK hP 0 rfl rfl 0 (by decide) (hts (.fieldLink RX9 15 "LeftQuills$Trials" "office" "LLeftQuills$Office;") (wmx 1 rfl)) (fun _ h9 => h9) e_h0_0 dX9_fewestByTurns_42 ?_
        refine lv_iload_n hx hb dX9_fewestByTurns_45 rfl (lv_at hl 2 rfl) ?_
        refine lv_iload_n hx hb dX9_fewestByTurns_46 rfl (lv_at hl 3 rfl) ?_
        have hPc := hP.sub (ws' := [(ho, .inr (5, f_ho)), (o5, .inl (cI, 8, .inl fo5)), (o6, .inl (cI, 8, .inl fo6)), (o7, .inl (cI, 8, .inl fo7)), (o10, .inl (cI, 4, .inl fo10)), (o11, .inl (cI, 4, .inl fo11))]) [2, 6, 7, 8, 9, 10] rfl
        refine va_calli (va_runV (As := [.int (nI j), .int (nI k)]) (rest := [.int (fa4 j), .int (nI k24), .ref h0]) ⟨hx, hb, hml, hown, hts⟩ (c_X5_wearD l dC dI cI cZ cQ ho o5 o6 o7 o10 o11 f_ho fo5 fo6 fo7 fo10 fo11 j k H.size e_ho_5 e_ho_6 e_ho_7 e_ho_10 e_ho_11 (by omega) (by omega)) (cwV 2 hts gX9_fewestByTurns_X5_wear rfl rfl rfl (by decide +kernel) ⟨Nat.le_of_ble_eq_true rfl, Nat.le_of_ble_eq_true rfl⟩) ⟨fun a U g mk q => by obtain ⟨q0, q1, qP, qK⟩ := q; exact ⟨q0, q1, qP, va_K.moved (u := U) (U := U.calling g mk a) (Vm.Alike.refl U.vm) qK⟩, va_recv hK hP (ci := 5) (q0 := 2) rfl rfl, fun U hU hW => ⟨rfl, by rw [hU], by rw [hU]; exact hPc, va_K.moved hW.alike hK⟩⟩ rfl rfl hl.1 rfl (lv_room (Nat.le_of_ble_eq_true rfl)) dX9_fewestByTurns_47 ⟨Nat.le_of_ble_eq_true rfl, Nat.le_of_ble_eq_true rfl⟩) hS (fun q _ h => False.elim h) (fun q h => False.elim h) (fun r7 u8 t H1 locs ht hvm hw9 hB hz1 hk1 hS => ?_)
        have hP := hP.kept (fun k q hk => hk1 q.1 (hP k q hk).lt (fun h => h))
        clear hz1 hk1 hPc
        generalize H1 = H at hP hS ht ⊢
        try dsimp only at hw9
        subst hw9
        have hPc := hP.sub (ws' := [(h0, .inr (9, f_h0)), (ts, .inl (cI, 9, .inl f24_ts))]) [0, 1] rfl
        have hDc := hD.sub (ws' := [(h0, .inr (9, f_h0)), (ts, .inl (cI, 9, .inl f24_ts))]) [0, 1] (by decide) rfl
        have hFc := va_free (wc := [(h0, .inr (9, f_h0)), (ts, .inl (cI, 9, .inl f24_ts))]) hD hS hA [0, 1] rfl
        refine va_calli (va_runV (As := [.int (nI k24), .int (fa4 j), .int (wrF (fo5 j) (fo6 j) (fo7 j) (fo10 k) (fo11 k))]) (rest := []) ⟨hx, hb, hml, hown, hts⟩ (c_X9_turnsDoD l dC dI cI cZ cQ h0 ts f_h0 f24_ts k24 (fa4 j) (wrF (fo5 j) (fo6 j) (fo7 j) (fo10 k) (fo11 k)) H.size e_h0_2 (by omega) (by omega)) (cwV 3 hts gX9_fewestByTurns_X9_turnsDo rfl rfl rfl (by decide +kernel) ⟨Nat.le_of_ble_eq_true rfl, Nat.le_of_ble_eq_true rfl⟩) ⟨fun a U g mk q => by obtain ⟨q0, q1, qP, qK, qD, qN⟩ := q; exact ⟨q0, q1, qP, va_K.moved (u := U) (U := U.calling g mk a) (Vm.Alike.refl U.vm) qK, qD, qN.calling⟩, va_recv hK hP (ci := 9) (q0 := 0) rfl rfl, fun U hU hW => ⟨rfl, by rw [hU], by rw [hU]; exact hPc, va_K.moved hW.alike hK, hDc.weaken (fun _ _ _ _ => trivial), hN.warm hW⟩⟩ rfl rfl hl.1 rfl (lv_room (Nat.le_of_ble_eq_true rfl)) dX9_fewestByTurns_50 ⟨Nat.le_of_ble_eq_true rfl, Nat.le_of_ble_eq_true rfl⟩) hS (fun q _ h => hFc q h) hFc (fun r10 u11 t H1 locs ht hvm hw12 hB hz1 hk1 hS => ?_)
        obtain ⟨f13, hP1, hD1⟩ := hB
        rw [ht] at hP1
        obtain ⟨hP, hD⟩ := va_join (wr := [(ho, .inr (5, f_ho)), (hd, .inr (1, f_hd)), (a3, .inl (cI, 8, .inl fa3)), (a4, .inl (cI, 8, .inl fa4)), (o5, .inl (cI, 8, .inl fo5)), (o6, .inl (cI, 8, .inl fo6)), (o7, .inl (cI, 8, .inl fo7)), (o10, .inl (cI, 4, .inl fo10)), (o11, .inl (cI, 4, .inl fo11)), (o12, .inl (cI, 4, .inl fo12))]) (w1 := [(h0, .inr (9, f_h0)), (ts, .inl (cI, 9, .inl f13))]) hP hD [0, 1] [2, 3, 4, 5, 6, 7, 8, 9, 10, 11] rfl rfl (by decide +kernel) (by decide +kernel) hk1 hFc hP1 hD1
        clear hP1 hD1
        clear hz1 hk1 hPc hDc hFc
        generalize H1 = H at hP hS ht ⊢
        have hP : va_P (dC, dI) vwCl [(ho, .inr (5, f_ho)), (hd, .inr (1, f_hd)), (a3, .inl (cI, 8, .inl fa3)), (a4, .inl (cI, 8, .inl fa4)), (o5, .inl (cI, 8, .inl fo5)), (o6, .inl (cI, 8, .inl fo6)), (o7, .inl (cI, 8, .inl fo7)), (o10, .inl (cI, 4, .inl fo10)), (o11, .inl (cI, 4, .inl fo11)), (o12, .inl (cI, 4, .inl fo12)), (h0, .inr (9, f_h0)), (ts, .inl (cI, 9, .inl f13))] H := hP
        have hD : va_D A [(ho, .inr (5, f_ho)), (hd, .inr (1, f_hd)), (a3, .inl (cI, 8, .inl fa3)), (a4, .inl (cI, 8, .inl fa4)), (o5, .inl (cI, 8, .inl fo5)), (o6, .inl (cI, 8, .inl fo6)), (o7, .inl (cI, 8, .inl fo7)), (o10, .inl (cI, 4, .inl fo10)), (o11, .inl (cI, 4, .inl fo11)), (o12, .inl (cI, 4, .inl fo12)), (h0, .inr (9, f_h0)), (ts, .inl (cI, 9, .inl f13))] := hD
        try dsimp only at hw12
        rcases hw12 with ⟨rfl, hw12⟩ | ⟨rfl, hw12⟩
        ·
          refine lv_if_eq (tgt := 58) hx hb dX9_fewestByTurns_53 (by decide) (fun c14 => ?_) (fun c14 => ?_)
          · exact absurd c14 (by decide)
          clear c14
          refine lv_iload_n hx hb dX9_fewestByTurns_56 rfl (lv_at hl 0 rfl) ?_
          have hP9 := hP.sub (ws' := [(h0, .inr (9, f_h0)), (ts, .inl (cI, 9, .inl f13)), (ho, .inr (5, f_ho)), (hd, .inr (1, f_hd)), (a3, .inl (cI, 8, .inl fa3)), (a4, .inl (cI, 8, .inl fa4)), (o5, .inl (cI, 8, .inl fo5)), (o6, .inl (cI, 8, .inl fo6)), (o7, .inl (cI, 8, .inl fo7)), (o10, .inl (cI, 4, .inl fo10)), (o11, .inl (cI, 4, .inl fo11)), (o12, .inl (cI, 4, .inl fo12))]) [10, 11, 0, 1, 2, 3, 4, 5, 6, 7, 8, 9] rfl
          have hD9 := hD.sub (ws' := [(h0, .inr (9, f_h0)), (ts, .inl (cI, 9, .inl f13)), (ho, .inr (5, f_ho)), (hd, .inr (1, f_hd)), (a3, .inl (cI, 8, .inl fa3)), (a4, .inl (cI, 8, .inl fa4)), (o5, .inl (cI, 8, .inl fo5)), (o6, .inl (cI, 8, .inl fo6)), (o7, .inl (cI, 8, .inl fo7)), (o10, .inl (cI, 4, .inl fo10)), (o11, .inl (cI, 4, .inl fo11)), (o12, .inl (cI, 4, .inl fo12))]) [10, 11, 0, 1, 2, 3, 4, 5, 6, 7, 8, 9] (by decide +kernel) rfl
          exact W.iret (v := nI k24) hx hb hr (fun t ht hW => ⟨⟨nI k24, (fun _ => 0), rfl, (Or.inr ⟨_, by omega, by omega, rfl, ⟨hw3, hw12⟩, fun i h1 h2 => hv24_0 i h1 (by omega)⟩), ⟨f13, by rw [ht]; exact hP9, hD9⟩⟩, hS.F ht⟩) hS.2.2 dX9_fewestByTurns_57
        ·
          refine lv_if_eq (tgt := 58) hx hb dX9_fewestByTurns_53 (by decide) (fun c15 => ?_) (fun c15 => ?_)
          rotate_left
          · exact absurd c15 (by decide)
          clear c15
          refine lv_iinc (v := nI (k24 + 1)) (lv' := [(3, .int (nI (k24 + 1))), (0, .ref h0), (1, .int (nI j)), (2, .int (nI k))]) hx hb dX9_fewestByTurns_58 hl (k := 0) rfl ((rfl : nI k24 + Int32.ofInt 1 = nI k24 + 1).trans (nI_add k24 1)) (by decide) rfl (fun ls hl => ?_)
          refine lv_goto (tgt := 24) hx hb dX9_fewestByTurns_61 (by decide) ?_
          exact ih24 (k24 + 1) f13 _ _ _ (by omega) (by omega) (fm_s hv24_0 (fun h9 => hw12 h9.2)) (hP.sub [10, 11, 0, 1, 2, 3, 4, 5, 6, 7, 8, 9] rfl) (hD.sub [10, 11, 0, 1, 2, 3, 4, 5, 6, 7, 8, 9] (by decide +kernel) rfl) hS (lv_sub hl [0, 1, 2, 3] rfl)
  ·
    refine lv_if_ne (tgt := 22) hx hb dX9_fewestByTurns_17 (by decide) (fun c16 => ?_) (fun c16 => ?_)
    · exact absurd c16 (by decide)
    clear c16
    refine lv_iconst (v := (-1)) hx hb dX9_fewestByTurns_20 (by decide) ?_
    have hP9 := hP.sub (ws' := [(h0, .inr (9, f_h0)), (ts, .inl (cI, 9, .inl fts)), (ho, .inr (5, f_ho)), (hd, .inr (1, f_hd)), (a3, .inl (cI, 8, .inl fa3)), (a4, .inl (cI, 8, .inl fa4)), (o5, .inl (cI, 8, .inl fo5)), (o6, .inl (cI, 8, .inl fo6)), (o7, .inl (cI, 8, .inl fo7)), (o10, .inl (cI, 4, .inl fo10)), (o11, .inl (cI, 4, .inl fo11)), (o12, .inl (cI, 4, .inl fo12))]) [0, 1, 2, 3, 4, 5, 6, 7, 8, 9, 10, 11] rfl
    have hD9 := hD.sub (ws' := [(h0, .inr (9, f_h0)), (ts, .inl (cI, 9, .inl fts)), (ho, .inr (5, f_ho)), (hd, .inr (1, f_hd)), (a3, .inl (cI, 8, .inl fa3)), (a4, .inl (cI, 8, .inl fa4)), (o5, .inl (cI, 8, .inl fo5)), (o6, .inl (cI, 8, .inl fo6)), (o7, .inl (cI, 8, .inl fo7)), (o10, .inl (cI, 4, .inl fo10)), (o11, .inl (cI, 4, .inl fo11)), (o12, .inl (cI, 4, .inl fo12))]) [0, 1, 2, 3, 4, 5, 6, 7, 8, 9, 10, 11] (by decide +kernel) rfl
    exact W.iret (v := (-1)) hx hb hr (fun t ht hW => ⟨⟨(-1), (fun _ => 0), rfl, (Or.inl ⟨rfl, fun m _ _ h9 => hw3 h9.1⟩), ⟨fts, by rw [ht]; exact hP9, hD9⟩⟩, hS.F ht⟩) hS.2.2 dX9_fewestByTurns_21
set_option maxHeartbeats 4000000 in
set_option maxRecDepth 100000 in
theorem c_X10_byTurnsD (l : Launch) (dC : Nat → ClassId) (dI : Nat → Nat → Nat) (cI cZ cQ : ClassId) (h0 : Nat) (x4 : Nat) (x9 : Nat) (f_h0 : List Value) (o5 : Nat) (o6 : Nat) (o7 : Nat) (o10 : Nat) (o11 : Nat) (o12 : Nat) (nq : Nat) (nh : Nat) (f_x4 : List Value) (x6 : Nat) (ts : Nat) (f_x9 : List Value) (fts : Nat → Int32) (a3 : Nat) (a4 : Nat) (f_x6 : List Value) (fa3 : Nat → Int32) (fa4 : Nat → Int32) (fo5 : Nat → Int32) (fo6 : Nat → Int32) (fo7 : Nat → Int32) (fo10 : Nat → Int32) (fo11 : Nat → Int32) (fo12 : Nat → Int32) (q0 : Int32) (q1 : Int32) (sz : Nat) (e_h0_4 : fAt f_h0 4 = some (.ref x4)) (e_h0_9 : fAt f_h0 9 = some (.ref x9)) (e_x4_5 : fAt f_x4 5 = some (.ref o5)) (e_x4_6 : fAt f_x4 6 = some (.ref o6)) (e_x4_7 : fAt f_x4 7 = some (.ref o7)) (e_x4_10 : fAt f_x4 10 = some (.ref o10)) (e_x4_11 : fAt f_x4 11 = some (.ref o11)) (e_x4_12 : fAt f_x4 12 = some (.ref o12)) (e_x4_3 : fAt f_x4 3 = some (.int (nI nq))) (e_x4_4 : fAt f_x4 4 = some (.int (nI nh))) (e_x9_0 : fAt f_x9 0 = some (.ref x4)) (e_x9_1 : fAt f_x9 1 = some (.ref x6)) (e_x9_2 : fAt f_x9 2 = some (.ref ts)) (e_x6_3 : fAt f_x6 3 = some (.ref a3)) (e_x6_4 : fAt f_x6 4 = some (.ref a4)) (hnq : nq ≤ 8) (hnh : nh ≤ 4) : Met l yX10_byTurns wsX10_byTurns ({ frames := 4, cells := 0, slots := 0, locals := 110 }) (va_Pc [.ref h0, .int q0, .int q1] (fun U => U.heap.size = sz ∧ va_P (dC, dI) vwCl [(h0, .inr (10, f_h0)), (x4, .inr (5, f_x4)), (x9, .inr (9, f_x9)), (ts, .inl (cI, 9, .inl fts)), (x6, .inr (1, f_x6)), (a3, .inl (cI, 8, .inl fa3)), (a4, .inl (cI, 8, .inl fa4)), (o5, .inl (cI, 8, .inl fo5)), (o6, .inl (cI, 8, .inl fo6)), (o7, .inl (cI, 8, .inl fo7)), (o10, .inl (cI, 4, .inl fo10)), (o11, .inl (cI, 4, .inl fo11)), (o12, .inl (cI, 4, .inl fo12))] U.heap ∧ va_K (dC, dI) vwCl (tys0 cI cZ cQ) U ∧ va_D (fun _ => True) [(h0, .inr (10, f_h0)), (x4, .inr (5, f_x4)), (x9, .inr (9, f_x9)), (ts, .inl (cI, 9, .inl fts)), (x6, .inr (1, f_x6)), (a3, .inl (cI, 8, .inl fa3)), (a4, .inl (cI, 8, .inl fa4)), (o5, .inl (cI, 8, .inl fo5)), (o6, .inl (cI, 8, .inl fo6)), (o7, .inl (cI, 8, .inl fo7)), (o10, .inl (cI, 4, .inl fo10)), (o11, .inl (cI, 4, .inl fo11)), (o12, .inl (cI, 4, .inl fo12))] ∧ xN U)) (va_Qi (fun (r : Int32) (u : Nat → Nat) => buP nq nh q0 q1 (fun j k m => lcB (fa3 j) (fo12 k) = true ∧ toP m (fa4 j) (wrF (fo5 j) (fo6 j) (fo7 j) (fo10 k) (fo11 k))) r) (fun (_ : Nat → Nat) (t : State) => ∃ (gg0 : Nat → Int32) , va_P (dC, dI) vwCl [(h0, .inr (10, f_h0)), (x4, .inr (5, f_x4)), (x9, .inr (9, f_x9)), (ts, .inl (cI, 9, .inl gg0)), (x6, .inr (1, f_x6)), (a3, .inl (cI, 8, .inl fa3)), (a4, .inl (cI, 8, .inl fa4)), (o5, .inl (cI, 8, .inl fo5)), (o6, .inl (cI, 8, .inl fo6)), (o7, .inl (cI, 8, .inl fo7)), (o10, .inl (cI, 4, .inl fo10)), (o11, .inl (cI, 4, .inl fo11)), (o12, .inl (cI, 4, .inl fo12))] t.heap ∧ va_D (va_A [(h0, .inr (10, f_h0)), (x4, .inr (5, f_x4)), (x9, .inr (9, f_x9)), (ts, .inl (cI, 9, .inl fts)), (x6, .inr (1, f_x6)), (a3, .inl (cI, 8, .inl fa3)), (a4, .inl (cI, 8, .inl fa4)), (o5, .inl (cI, 8, .inl fo5)), (o6, .inl (cI, 8, .inl fo6)), (o7, .inl (cI, 8, .inl fo7)), (o10, .inl (cI, 4, .inl fo10)), (o11, .inl (cI, 4, .inl fo11)), (o12, .inl (cI, 4, .inl fo12))] sz) [(h0, .inr (10, f_h0)), (x4, .inr (5, f_x4)), (x9, .inr (9, f_x9)), (ts, .inl (cI, 9, .inl gg0)), (x6, .inr (1, f_x6)), (a3, .inl (cI, 8, .inl fa3)), (a4, .inl (cI, 8, .inl fa4)), (o5, .inl (cI, 8, .inl fo5)), (o6, .inl (cI, 8, .inl fo6)), (o7, .inl (cI, 8, .inl fo7)), (o10, .inl (cI, 4, .inl fo10)), (o11, .inl (cI, 4, .inl fo11)), (o12, .inl (cI, 4, .inl fo12))]) (va_A [(h0, .inr (10, f_h0)), (x4, .inr (5, f_x4)), (x9, .inr (9, f_x9)), (ts, .inl (cI, 9, .inl fts)), (x6, .inr (1, f_x6)), (a3, .inl (cI, 8, .inl fa3)), (a4, .inl (cI, 8, .inl fa4)), (o5, .inl (cI, 8, .inl fo5)), (o6, .inl (cI, 8, .inl fo6)), (o7, .inl (cI, 8, .inl fo7)), (o10, .inl (cI, 4, .inl fo10)), (o11, .inl (cI, 4, .inl fo11)), (o12, .inl (cI, 4, .inl fo12))] sz)) 0 0 (va_A [(h0, .inr (10, f_h0)), (x4, .inr (5, f_x4)), (x9, .inr (9, f_x9)), (ts, .inl (cI, 9, .inl fts)), (x6, .inr (1, f_x6)), (a3, .inl (cI, 8, .inl fa3)), (a4, .inl (cI, 8, .inl fa4)), (o5, .inl (cI, 8, .inl fo5)), (o6, .inl (cI, 8, .inl fo6)), (o7, .inl (cI, 8, .inl fo7)), (o10, .inl (cI, 4, .inl fo10)), (o11, .inl (cI, 4, .inl fo11)), (o12, .inl (cI, 4, .inl fo12))] sz) := by
  refine Met.ofW (cc := cX10_byTurns) (maxL := 3) (ret := (some .int)) (by decide) rfl ?_
  intro p e s m args below meth c s₁ B hml hv
  obtain ⟨rfl, hsz, hP, hK, hD0, hN⟩ := hv
  have hx := B.exec
  have hb := B.bytes
  have hr := B.returns
  have hts := atoms_spec (ws := wsX10_byTurns) B.pre
  have hown : s.vm.findClass RX10 = some m.cls := findClass_of_methodNamed B.named
  have hlocks := B.notSynchronized
  have hi_X10 : ∀ w ∈ u_ws RX10 TX10 14, w ∈ wsX10_byTurns := fun _ h => List.mem_cons_of_mem _ (List.mem_append_left _ (List.mem_append_left _ (List.mem_append_left _ (List.mem_append_right _ (h)))))
  subst hsz
  have hD := hD0.self (sz := s.heap.size)
  generalize hAe : va_A [(h0, .inr (10, f_h0)), (x4, .inr (5, f_x4)), (x9, .inr (9, f_x9)), (ts, .inl (cI, 9, .inl fts)), (x6, .inr (1, f_x6)), (a3, .inl (cI, 8, .inl fa3)), (a4, .inl (cI, 8, .inl fa4)), (o5, .inl (cI, 8, .inl fo5)), (o6, .inl (cI, 8, .inl fo6)), (o7, .inl (cI, 8, .inl fo7)), (o10, .inl (cI, 4, .inl fo10)), (o11, .inl (cI, 4, .inl fo11)), (o12, .inl (cI, 4, .inl fo12))] s.heap.size = A at hD ⊢
  have hA : ∀ q : Nat, s.heap.size ≤ q → A q := fun q h => by rw [← hAe]; exact Or.inr h
  have hS : va_S A s.heap s.heap [] := va_S.rf
  have hl := lv_entry ([.ref h0, .int q0, .int q1]) (n := 3) (Nat.le_of_ble_eq_true rfl)
  rw [lg_entry_eq]
  generalize (lg_sl ([.ref h0, .int q0, .int q1]) ++ List.replicate (3 - (lg_sl ([.ref h0, .int q0, .int q1])).length) Slot.unset).toArray = ls at hl ⊢
  have hl : lv_has ls 3 [(0, .ref h0), (1, .int q0), (2, .int q1)] := hl
  refine lv_aload_n hx hb dX10_byTurns_0 rfl (lv_at hl 0 rfl) ?_
  refine lv_iload_n hx hb dX10_byTurns_1 rfl (lv_at hl 1 rfl) ?_
  have hPc := hP.sub (ws' := [(h0, .inr (10, f_h0)), (x4, .inr (5, f_x4))]) [0, 1] rfl
  refine va_calli (va_runV (As := [.int q0]) (rest := []) ⟨hx, hb, hml, hown, hts⟩ (c_X10_isQuill l dC dI cI cZ cQ h0 x4 f_h0 (nI nq) f_x4 q0 s.heap.size e_h0_4 e_x4_3) (cwV 1 hts gX10_byTurns_X10_isQuill rfl rfl rfl (by decide +kernel) ⟨Nat.le_of_ble_eq_true rfl, Nat.le_of_ble_eq_true rfl⟩) ⟨fun a U g mk q => by obtain ⟨q0, q1, qP, qK⟩ := q; exact ⟨q0, q1, qP, va_K.moved (u := U) (U := U.calling g mk a) (Vm.Alike.refl U.vm) qK⟩, va_recv hK hP (ci := 10) (q0 := 0) rfl rfl, fun U hU hW => ⟨rfl, by rw [hU], by rw [hU]; exact hPc, va_K.moved hW.alike hK⟩⟩ rfl rfl hl.1 rfl (lv_room (Nat.le_of_ble_eq_true rfl)) dX10_byTurns_2 ⟨Nat.le_of_ble_eq_true rfl, Nat.le_of_ble_eq_true rfl⟩) hS (fun q _ h => False.elim h) (fun q h => False.elim h) (fun r1 u2 t H1 locs ht hvm hw3 hB hz1 hk1 hS => ?_)
  have hP := hP.kept (fun k q hk => hk1 q.1 (hP k q hk).lt (fun h => h))
  clear hz1 hk1 hPc
  generalize H1 = H at hP hS ht ⊢
  try dsimp only at hw3
  rcases hw3 with ⟨rfl, hw3⟩ | ⟨rfl, hw3⟩
  ·
    obtain ⟨j4, hj4, rfl⟩ := x_ix hw3 (by omega)
    refine lv_if_eq (tgt := 16) hx hb dX10_byTurns_5 (by decide) (fun c5 => ?_) (fun c5 => ?_)
    · exact absurd c5 (by decide)
    clear c5
    refine lv_aload_n hx hb dX10_byTurns_8 rfl (lv_at hl 0 rfl) ?_
    refine lv_iload_n hx hb dX10_byTurns_9 rfl (lv_at hl 2 rfl) ?_
    have hPc := hP.sub (ws' := [(h0, .inr (10, f_h0)), (x4, .inr (5, f_x4))]) [0, 1] rfl
    refine va_calli (va_runV (As := [.int q1]) (rest := []) ⟨hx, hb, hml, hown, hts⟩ (c_X10_isHand l dC dI cI cZ cQ h0 x4 f_h0 (nI nh) f_x4 q1 H.size e_h0_4 e_x4_4) (cwV 1 hts gX10_byTurns_X10_isHand rfl rfl rfl (by decide +kernel) ⟨Nat.le_of_ble_eq_true rfl, Nat.le_of_ble_eq_true rfl⟩) ⟨fun a U g mk q => by obtain ⟨q0, q1, qP, qK⟩ := q; exact ⟨q0, q1, qP, va_K.moved (u := U) (U := U.calling g mk a) (Vm.Alike.refl U.vm) qK⟩, va_recv hK hP (ci := 10) (q0 := 0) rfl rfl, fun U hU hW => ⟨rfl, by rw [hU], by rw [hU]; exact hPc, va_K.moved hW.alike hK⟩⟩ rfl rfl hl.1 rfl (lv_room (Nat.le_of_ble_eq_true rfl)) dX10_byTurns_10 ⟨Nat.le_of_ble_eq_true rfl, Nat.le_of_ble_eq_true rfl⟩) hS (fun q _ h => False.elim h) (fun q h => False.elim h) (fun r6 u7 t H1 locs ht hvm hw8 hB hz1 hk1 hS => ?_)
    have hP := hP.kept (fun k q hk => hk1 q.1 (hP k q hk).lt (fun h => h))
    clear hz1 hk1 hPc
    generalize H1 = H at hP hS ht ⊢
    try dsimp only at hw8
    rcases hw8 with ⟨rfl, hw8⟩ | ⟨rfl, hw8⟩
    ·
      obtain ⟨j9, hj9, rfl⟩ := x_ix hw8 (by omega)
      refine lv_if_ne (tgt := 19) hx hb dX10_byTurns_13 (by decide) (fun c10 => ?_) (fun c10 => ?_)
      rotate_left
      · exact absurd c10 (by decide)
      clear c10
      refine lv_aload_n hx hb dX10_byTurns_19 rfl (lv_at hl 0 rfl) ?_
      refine va_get (D := (dC, dI)) (ci := 10) (v := .ref x9) (C := RX10) (T := TX10) (N := 14) hx hb hts hi_X10 hown hK hP 0 rfl rfl 9 (by decide) (hts (.fieldLink RX10 65 "LeftQuills" "trials" "LLeftQuills$Trials;") (wmx 2 rfl)) (fun _ h9 => h9) e_h0_9 dX10_byTurns_20 ?_
      refine lv_iload_n hx hb dX10_byTurns_23 rfl (lv_at hl 1 rfl) ?_
      refine lv_iload_n hx hb dX10_byTurns_24 rfl (lv_at hl 2 rfl) ?_
      have hPc := hP.sub (ws' := [(x9, .inr (9, f_x9)), (ts, .inl (cI, 9, .inl fts)), (x4, .inr (5, f_x4)), (x6, .inr (1, f_x6)), (a3, .inl (cI, 8, .inl fa3)), (a4, .inl (cI, 8, .inl fa4)), (o5, .inl (cI, 8, .inl fo5)), (o6, .inl (cI, 8, .inl fo6)), (o7, .inl (cI, 8, .inl fo7)), (o10, .inl (cI, 4, .inl fo10)), (o11, .inl (cI, 4, .inl fo11)), (o12, .inl (cI, 4, .inl fo12))]) [2, 3, 1, 4, 5, 6, 7, 8, 9, 10, 11, 12] rfl
      have hDc := hD.sub (ws' := [(x9, .inr (9, f_x9)), (ts, .inl (cI, 9, .inl fts)), (x4, .inr (5, f_x4)), (x6, .inr (1, f_x6)), (a3, .inl (cI, 8, .inl fa3)), (a4, .inl (cI, 8, .inl fa4)), (o5, .inl (cI, 8, .inl fo5)), (o6, .inl (cI, 8, .inl fo6)), (o7, .inl (cI, 8, .inl fo7)), (o10, .inl (cI, 4, .inl fo10)), (o11, .inl (cI, 4, .inl fo11)), (o12, .inl (cI, 4, .inl fo12))]) [2, 3, 1, 4, 5, 6, 7, 8, 9, 10, 11, 12] (by decide) rfl
      have hFc := va_free (wc := [(x9, .inr (9, f_x9)), (ts, .inl (cI, 9, .inl fts)), (x4, .inr (5, f_x4)), (x6, .inr (1, f_x6)), (a3, .inl (cI, 8, .inl fa3)), (a4, .inl (cI, 8, .inl fa4)), (o5, .inl (cI, 8, .inl fo5)), (o6, .inl (cI, 8, .inl fo6)), (o7, .inl (cI, 8, .inl fo7)), (o10, .inl (cI, 4, .inl fo10)), (o11, .inl (cI, 4, .inl fo11)), (o12, .inl (cI, 4, .inl fo12))]) hD hS hA [2, 3, 1, 4, 5, 6, 7, 8, 9, 10, 11, 12] rfl
      refine va_calli (va_runV (As := [.int (nI j4), .int (nI j9)]) (rest := []) ⟨hx, hb, hml, hown, hts⟩ (c_X9_fewestD l dC dI cI cZ cQ x9 x4 x6 ts f_x9 fts o5 o6 o7 o10 o11 o12 f_x4 a3 a4 f_x6 fa3 fa4 fo5 fo6 fo7 fo10 fo11 fo12 j4 j9 H.size e_x9_0 e_x9_1 e_x9_2 e_x4_5 e_x4_6 e_x4_7 e_x4_10 e_x4_11 e_x4_12 e_x6_3 e_x6_4 (by omega) (by omega)) (cwV 2 hts gX10_byTurns_X9_fewestByTurns rfl rfl rfl (by decide +kernel) ⟨Nat.le_of_ble_eq_true rfl, Nat.le_of_ble_eq_true rfl⟩) ⟨fun a U g mk q => by obtain ⟨q0, q1, qP, qK, qD, qN⟩ := q; exact ⟨q0, q1, qP, va_K.moved (u := U) (U := U.calling g mk a) (Vm.Alike.refl U.vm) qK, qD, qN.calling⟩, va_recv hK hP (ci := 9) (q0 := 2) rfl rfl, fun U hU hW => ⟨rfl, by rw [hU], by rw [hU]; exact hPc, va_K.moved hW.alike hK, hDc.weaken (fun _ _ _ _ => trivial), hN.warm hW⟩⟩ rfl rfl hl.1 rfl (lv_room (Nat.le_of_ble_eq_true rfl)) dX10_byTurns_25 ⟨Nat.le_of_ble_eq_true rfl, Nat.le_of_ble_eq_true rfl⟩) hS (fun q _ h => hFc q h) hFc (fun r11 u12 t H1 locs ht hvm hw13 hB hz1 hk1 hS => ?_)
      obtain ⟨f14, hP1, hD1⟩ := hB
      rw [ht] at hP1
      obtain ⟨hP, hD⟩ := va_join (wr := [(h0, .inr (10, f_h0))]) (w1 := [(x9, .inr (9, f_x9)), (ts, .inl (cI, 9, .inl f14)), (x4, .inr (5, f_x4)), (x6, .inr (1, f_x6)), (a3, .inl (cI, 8, .inl fa3)), (a4, .inl (cI, 8, .inl fa4)), (o5, .inl (cI, 8, .inl fo5)), (o6, .inl (cI, 8, .inl fo6)), (o7, .inl (cI, 8, .inl fo7)), (o10, .inl (cI, 4, .inl fo10)), (o11, .inl (cI, 4, .inl fo11)), (o12, .inl (cI, 4, .inl fo12))]) hP hD [2, 3, 1, 4, 5, 6, 7, 8, 9, 10, 11, 12] [0] rfl rfl (by decide +kernel) (by decide +kernel) hk1 hFc hP1 hD1
      clear hP1 hD1
      clear hz1 hk1 hPc hDc hFc
      generalize H1 = H at hP hS ht ⊢
      have hP : va_P (dC, dI) vwCl [(h0, .inr (10, f_h0)), (x9, .inr (9, f_x9)), (ts, .inl (cI, 9, .inl f14)), (x4, .inr (5, f_x4)), (x6, .inr (1, f_x6)), (a3, .inl (cI, 8, .inl fa3)), (a4, .inl (cI, 8, .inl fa4)), (o5, .inl (cI, 8, .inl fo5)), (o6, .inl (cI, 8, .inl fo6)), (o7, .inl (cI, 8, .inl fo7)), (o10, .inl (cI, 4, .inl fo10)), (o11, .inl (cI, 4, .inl fo11)), (o12, .inl (cI, 4, .inl fo12))] H := hP
      have hD : va_D A [(h0, .inr (10, f_h0)), (x9, .inr (9, f_x9)), (ts, .inl (cI, 9, .inl f14)), (x4, .inr (5, f_x4)), (x6, .inr (1, f_x6)), (a3, .inl (cI, 8, .inl fa3)), (a4, .inl (cI, 8, .inl fa4)), (o5, .inl (cI, 8, .inl fo5)), (o6, .inl (cI, 8, .inl fo6)), (o7, .inl (cI, 8, .inl fo7)), (o10, .inl (cI, 4, .inl fo10)), (o11, .inl (cI, 4, .inl fo11)), (o12, .inl (cI, 4, .inl fo12))] := hD
      try dsimp only at hw13
      have hP9 := hP.sub (ws' := [(h0, .inr (10, f_h0)), (x4, .inr (5, f_x4)), (x9, .inr (9, f_x9)), (ts, .inl (cI, 9, .inl f14)), (x6, .inr (1, f_x6)), (a3, .inl (cI, 8, .inl fa3)), (a4, .inl (cI, 8, .inl fa4)), (o5, .inl (cI, 8, .inl fo5)), (o6, .inl (cI, 8, .inl fo6)), (o7, .inl (cI, 8, .inl fo7)), (o10, .inl (cI, 4, .inl fo10)), (o11, .inl (cI, 4, .inl fo11)), (o12, .inl (cI, 4, .inl fo12))]) [0, 3, 1, 2, 4, 5, 6, 7, 8, 9, 10, 11, 12] rfl
      have hD9 := hD.sub (ws' := [(h0, .inr (10, f_h0)), (x4, .inr (5, f_x4)), (x9, .inr (9, f_x9)), (ts, .inl (cI, 9, .inl f14)), (x6, .inr (1, f_x6)), (a3, .inl (cI, 8, .inl fa3)), (a4, .inl (cI, 8, .inl fa4)), (o5, .inl (cI, 8, .inl fo5)), (o6, .inl (cI, 8, .inl fo6)), (o7, .inl (cI, 8, .inl fo7)), (o10, .inl (cI, 4, .inl fo10)), (o11, .inl (cI, 4, .inl fo11)), (o12, .inl (cI, 4, .inl fo12))]) [0, 3, 1, 2, 4, 5, 6, 7, 8, 9, 10, 11, 12] (by decide +kernel) rfl
      exact W.iret (v := r11) hx hb hr (fun t ht hW => ⟨⟨r11, (fun _ => 0), rfl, (bu_y hw3 hw8 (by omega) (by omega) hw13), ⟨f14, by rw [ht]; exact hP9, hD9⟩⟩, hS.F ht⟩) hS.2.2 dX10_byTurns_28
    ·
      refine lv_if_ne (tgt := 19) hx hb dX10_byTurns_13 (by decide) (fun c15 => ?_) (fun c15 => ?_)
      · exact absurd c15 (by decide)
      clear c15
      refine lv_ldc (v := (-1000000001)) hx hb hown (hts (.constant RX10 160 (-1000000001)) (wmx 1 rfl)) dX10_byTurns_16 ?_
      have hP9 := hP.sub (ws' := [(h0, .inr (10, f_h0)), (x4, .inr (5, f_x4)), (x9, .inr (9, f_x9)), (ts, .inl (cI, 9, .inl fts)), (x6, .inr (1, f_x6)), (a3, .inl (cI, 8, .inl fa3)), (a4, .inl (cI, 8, .inl fa4)), (o5, .inl (cI, 8, .inl fo5)), (o6, .inl (cI, 8, .inl fo6)), (o7, .inl (cI, 8, .inl fo7)), (o10, .inl (cI, 4, .inl fo10)), (o11, .inl (cI, 4, .inl fo11)), (o12, .inl (cI, 4, .inl fo12))]) [0, 1, 2, 3, 4, 5, 6, 7, 8, 9, 10, 11, 12] rfl
      have hD9 := hD.sub (ws' := [(h0, .inr (10, f_h0)), (x4, .inr (5, f_x4)), (x9, .inr (9, f_x9)), (ts, .inl (cI, 9, .inl fts)), (x6, .inr (1, f_x6)), (a3, .inl (cI, 8, .inl fa3)), (a4, .inl (cI, 8, .inl fa4)), (o5, .inl (cI, 8, .inl fo5)), (o6, .inl (cI, 8, .inl fo6)), (o7, .inl (cI, 8, .inl fo7)), (o10, .inl (cI, 4, .inl fo10)), (o11, .inl (cI, 4, .inl fo11)), (o12, .inl (cI, 4, .inl fo12))]) [0, 1, 2, 3, 4, 5, 6, 7, 8, 9, 10, 11, 12] (by decide +kernel) rfl
      exact W.iret (v := (-1000000001)) hx hb hr (fun t ht hW => ⟨⟨(-1000000001), (fun _ => 0), rfl, (Or.inl ⟨fun h9 => hw8 h9.2, rfl⟩), ⟨fts, by rw [ht]; exact hP9, hD9⟩⟩, hS.F ht⟩) hS.2.2 dX10_byTurns_18
  ·
    refine lv_if_eq (tgt := 16) hx hb dX10_byTurns_5 (by decide) (fun c16 => ?_) (fun c16 => ?_)
    rotate_left
    · exact absurd c16 (by decide)
    clear c16
    refine lv_ldc (v := (-1000000001)) hx hb hown (hts (.constant RX10 160 (-1000000001)) (wmx 1 rfl)) dX10_byTurns_16 ?_
    have hP9 := hP.sub (ws' := [(h0, .inr (10, f_h0)), (x4, .inr (5, f_x4)), (x9, .inr (9, f_x9)), (ts, .inl (cI, 9, .inl fts)), (x6, .inr (1, f_x6)), (a3, .inl (cI, 8, .inl fa3)), (a4, .inl (cI, 8, .inl fa4)), (o5, .inl (cI, 8, .inl fo5)), (o6, .inl (cI, 8, .inl fo6)), (o7, .inl (cI, 8, .inl fo7)), (o10, .inl (cI, 4, .inl fo10)), (o11, .inl (cI, 4, .inl fo11)), (o12, .inl (cI, 4, .inl fo12))]) [0, 1, 2, 3, 4, 5, 6, 7, 8, 9, 10, 11, 12] rfl
    have hD9 := hD.sub (ws' := [(h0, .inr (10, f_h0)), (x4, .inr (5, f_x4)), (x9, .inr (9, f_x9)), (ts, .inl (cI, 9, .inl fts)), (x6, .inr (1, f_x6)), (a3, .inl (cI, 8, .inl fa3)), (a4, .inl (cI, 8, .inl fa4)), (o5, .inl (cI, 8, .inl fo5)), (o6, .inl (cI, 8, .inl fo6)), (o7, .inl (cI, 8, .inl fo7)), (o10, .inl (cI, 4, .inl fo10)), (o11, .inl (cI, 4, .inl fo11)), (o12, .inl (cI, 4, .inl fo12))]) [0, 1, 2, 3, 4, 5, 6, 7, 8, 9, 10, 11, 12] (by decide +kernel) rfl
    exact W.iret (v := (-1000000001)) hx hb hr (fun t ht hW => ⟨⟨(-1000000001), (fun _ => 0), rfl, (Or.inl ⟨fun h9 => hw3 h9.1, rfl⟩), ⟨fts, by rw [ht]; exact hP9, hD9⟩⟩, hS.F ht⟩) hS.2.2 dX10_byTurns_18
set_option maxHeartbeats 4000000 in
set_option maxRecDepth 100000 in
theorem c_X11_doTurnsD (l : Launch) (dC : Nat → ClassId) (dI : Nat → Nat → Nat) (cI cZ cQ : ClassId) (h0 : Nat) (m3 : Nat) (m4 : Nat) (m5 : Nat) (m7 : Nat) (m8 : Nat) (m9 : Nat) (m10 : Nat) (m36 : Nat) (f_h0 : List Value) (fm3 : Nat → Int32) (fm4 : Nat → Int32) (fm5 : Nat → Int32) (fm7 : Nat → Int32) (fm8 : Nat → Int32) (fm9 : Nat → Int32) (fm10 : Nat → Int32) (fm36 : Nat → Int32) (j : Nat) (k : Nat) (mo : Nat) (nq : Nat) (sz : Nat) (e_h0_3 : fAt f_h0 3 = some (.ref m3)) (e_h0_4 : fAt f_h0 4 = some (.ref m4)) (e_h0_5 : fAt f_h0 5 = some (.ref m5)) (e_h0_7 : fAt f_h0 7 = some (.ref m7)) (e_h0_8 : fAt f_h0 8 = some (.ref m8)) (e_h0_9 : fAt f_h0 9 = some (.ref m9)) (e_h0_10 : fAt f_h0 10 = some (.ref m10)) (e_h0_36 : fAt f_h0 36 = some (.ref m36)) (hnq : nq ≤ 8) (hci : cIn fm5 nq) (hj : j < nq) (hk : k < 4) (hmo : mo ≤ 9) (hm1 : 1 ≤ mo) : Met l yX11_doTurns wsX11_doTurns ({ frames := 3, cells := 0, slots := 0, locals := 109 }) (va_Pc [.ref h0, .int (nI j), .int (nI k), .int (nI mo)] (fun U => U.heap.size = sz ∧ va_P (dC, dI) vwCl [(h0, .inr (11, f_h0)), (m3, .inl (cI, 8, .inl fm3)), (m4, .inl (cI, 8, .inl fm4)), (m5, .inl (cI, 8, .inl fm5)), (m7, .inl (cI, 4, .inl fm7)), (m8, .inl (cI, 4, .inl fm8)), (m9, .inl (cI, 4, .inl fm9)), (m10, .inl (cI, 34, .inl fm10)), (m36, .inl (cI, 9, .inl fm36))] U.heap ∧ va_K (dC, dI) vwCl (tys0 cI cZ cQ) U ∧ va_D (fun _ => True) [(h0, .inr (11, f_h0)), (m3, .inl (cI, 8, .inl fm3)), (m4, .inl (cI, 8, .inl fm4)), (m5, .inl (cI, 8, .inl fm5)), (m7, .inl (cI, 4, .inl fm7)), (m8, .inl (cI, 4, .inl fm8)), (m9, .inl (cI, 4, .inl fm9)), (m10, .inl (cI, 34, .inl fm10)), (m36, .inl (cI, 9, .inl fm36))])) (va_Qi (fun (r : Int32) (u : Nat → Nat) => (r = 1 ∧ (lmB (fm10 (8 + j)) (fm9 k) = true ∧ toP mo (fm10 (16 + j)) (wrF (fm3 j) (fm4 j) (fm5 j) (fm7 k) (fm8 k)))) ∨ (r = 0 ∧ ¬ (lmB (fm10 (8 + j)) (fm9 k) = true ∧ toP mo (fm10 (16 + j)) (wrF (fm3 j) (fm4 j) (fm5 j) (fm7 k) (fm8 k))))) (fun (_ : Nat → Nat) (t : State) => ∃ (gg0 : Nat → Int32) , va_P (dC, dI) vwCl [(h0, .inr (11, f_h0)), (m3, .inl (cI, 8, .inl fm3)), (m4, .inl (cI, 8, .inl fm4)), (m5, .inl (cI, 8, .inl fm5)), (m7, .inl (cI, 4, .inl fm7)), (m8, .inl (cI, 4, .inl fm8)), (m9, .inl (cI, 4, .inl fm9)), (m10, .inl (cI, 34, .inl fm10)), (m36, .inl (cI, 9, .inl gg0))] t.heap ∧ va_D (va_A [(h0, .inr (11, f_h0)), (m3, .inl (cI, 8, .inl fm3)), (m4, .inl (cI, 8, .inl fm4)), (m5, .inl (cI, 8, .inl fm5)), (m7, .inl (cI, 4, .inl fm7)), (m8, .inl (cI, 4, .inl fm8)), (m9, .inl (cI, 4, .inl fm9)), (m10, .inl (cI, 34, .inl fm10)), (m36, .inl (cI, 9, .inl fm36))] sz) [(h0, .inr (11, f_h0)), (m3, .inl (cI, 8, .inl fm3)), (m4, .inl (cI, 8, .inl fm4)), (m5, .inl (cI, 8, .inl fm5)), (m7, .inl (cI, 4, .inl fm7)), (m8, .inl (cI, 4, .inl fm8)), (m9, .inl (cI, 4, .inl fm9)), (m10, .inl (cI, 34, .inl fm10)), (m36, .inl (cI, 9, .inl gg0))]) (va_A [(h0, .inr (11, f_h0)), (m3, .inl (cI, 8, .inl fm3)), (m4, .inl (cI, 8, .inl fm4)), (m5, .inl (cI, 8, .inl fm5)), (m7, .inl (cI, 4, .inl fm7)), (m8, .inl (cI, 4, .inl fm8)), (m9, .inl (cI, 4, .inl fm9)), (m10, .inl (cI, 34, .inl fm10)), (m36, .inl (cI, 9, .inl fm36))] sz)) 0 0 (va_A [(h0, .inr (11, f_h0)), (m3, .inl (cI, 8, .inl fm3)), (m4, .inl (cI, 8, .inl fm4)), (m5, .inl (cI, 8, .inl fm5)), (m7, .inl (cI, 4, .inl fm7)), (m8, .inl (cI, 4, .inl fm8)), (m9, .inl (cI, 4, .inl fm9)), (m10, .inl (cI, 34, .inl fm10)), (m36, .inl (cI, 9, .inl fm36))] sz) := by
  refine Met.ofW (cc := cX11_doTurns) (maxL := 7) (ret := (some .boolean)) (by decide) rfl ?_
  intro p e s m args below meth c s₁ B hml hv
  obtain ⟨rfl, hsz, hP, hK, hD0⟩ := hv
  have hx := B.exec
  have hb := B.bytes
  have hr := B.returns
  have hts := atoms_spec (ws := wsX11_doTurns) B.pre
  have hown : s.vm.findClass RX11 = some m.cls := findClass_of_methodNamed B.named
  have hlocks := B.notSynchronized
  have hi_X11 : ∀ w ∈ u_ws RX11 TX11 46, w ∈ wsX11_doTurns := fun _ h => List.mem_cons_of_mem _ (List.mem_append_right _ (h))
  subst hsz
  have hD := hD0.self (sz := s.heap.size)
  generalize hAe : va_A [(h0, .inr (11, f_h0)), (m3, .inl (cI, 8, .inl fm3)), (m4, .inl (cI, 8, .inl fm4)), (m5, .inl (cI, 8, .inl fm5)), (m7, .inl (cI, 4, .inl fm7)), (m8, .inl (cI, 4, .inl fm8)), (m9, .inl (cI, 4, .inl fm9)), (m10, .inl (cI, 34, .inl fm10)), (m36, .inl (cI, 9, .inl fm36))] s.heap.size = A at hD ⊢
  have hA : ∀ q : Nat, s.heap.size ≤ q → A q := fun q h => by rw [← hAe]; exact Or.inr h
  have hS : va_S A s.heap s.heap [] := va_S.rf
  have hl := lv_entry ([.ref h0, .int (nI j), .int (nI k), .int (nI mo)]) (n := 7) (Nat.le_of_ble_eq_true rfl)
  rw [lg_entry_eq]
  generalize (lg_sl ([.ref h0, .int (nI j), .int (nI k), .int (nI mo)]) ++ List.replicate (7 - (lg_sl ([.ref h0, .int (nI j), .int (nI k), .int (nI mo)])).length) Slot.unset).toArray = ls at hl ⊢
  have hl : lv_has ls 7 [(0, .ref h0), (1, .int (nI j)), (2, .int (nI k)), (3, .int (nI mo))] := hl
  refine lv_iconst (v := 0) hx hb dX11_doTurns_0 (by decide) ?_
  refine lv_istore (lv' := [(4, .int 0), (0, .ref h0), (1, .int (nI j)), (2, .int (nI k)), (3, .int (nI mo))]) hx hb dX11_doTurns_1 hl (by decide) rfl (fun ls hl => ?_)
  refine (fun (K : ∀ (d3 : Nat) (k3 : Nat) (f3_m36 : Nat → Int32) (H : Heap) (locs : List Loc) (ls : Array Slot), k3 + d3 = mo → (∀ i, i < k3 → f3_m36 i = tsF mo (fm10 (16 + j)) (wrF (fm3 j) (fm4 j) (fm5 j) (fm7 k) (fm8 k)) 0 i) → va_P (dC, dI) vwCl [(h0, .inr (11, f_h0)), (m3, .inl (cI, 8, .inl fm3)), (m4, .inl (cI, 8, .inl fm4)), (m5, .inl (cI, 8, .inl fm5)), (m7, .inl (cI, 4, .inl fm7)), (m8, .inl (cI, 4, .inl fm8)), (m9, .inl (cI, 4, .inl fm9)), (m10, .inl (cI, 34, .inl fm10)), (m36, .inl (cI, 9, .inl f3_m36))] H → va_D A [(h0, .inr (11, f_h0)), (m3, .inl (cI, 8, .inl fm3)), (m4, .inl (cI, 8, .inl fm4)), (m5, .inl (cI, 8, .inl fm5)), (m7, .inl (cI, 4, .inl fm7)), (m8, .inl (cI, 4, .inl fm8)), (m9, .inl (cI, 4, .inl fm9)), (m10, .inl (cI, 34, .inl fm10)), (m36, .inl (cI, 9, .inl f3_m36))] → va_S A s.heap H locs → lv_has ls 7 [(4, .int (nI k3)), (0, .ref h0), (1, .int (nI j)), (2, .int (nI k)), (3, .int (nI mo))] → W p l e _ s m _ below meth c H locs _ _ _ (F0 m 3 ls [])) => K mo 0 fm36 _ _ _ (by omega) (fun i hi => absurd hi (by omega)) hP hD hS (lv_sub hl [0, 1, 2, 3, 4] rfl)) ?_
  intro d3
  induction d3 with
  | zero =>
    intro k3 f3_m36 H locs ls hk3 hv3_0 hP hD hS hl
    refine lv_iload hx hb dX11_doTurns_3 (lv_at hl 0 rfl) ?_
    refine lv_iload_n hx hb dX11_doTurns_5 rfl (lv_at hl 4 rfl) ?_
    refine lv_icmp_ge (tgt := 31) hx hb dX11_doTurns_6 (by decide) (fun c1 => ?_) (fun c1 => ?_)
    ·
      have c1 : mo ≤ k3 := (nI_leI (a := mo) (b := k3) (by omega) (by omega)).mp c1
      refine lv_aload_n hx hb dX11_doTurns_31 rfl (lv_at hl 1 rfl) ?_
      refine lv_aload_n hx hb dX11_doTurns_32 rfl (lv_at hl 1 rfl) ?_
      refine va_get (D := (dC, dI)) (ci := 11) (v := .ref m10) (C := RX11) (T := TX11) (N := 46) hx hb hts hi_X11 hown hK hP 0 rfl rfl 10 (by decide) (hts (.fieldLink RX11 28 "LeftQuillsModel" "now" "[I") (wmx 2 rfl)) (fun _ h9 => h9) e_h0_10 dX11_doTurns_33 ?_
      refine lv_bipush (v := 8) hx hb dX11_doTurns_36 (by decide) ?_
      refine lv_iload_n hx hb dX11_doTurns_38 rfl (lv_at hl 2 rfl) ?_
      refine lv_iadd hx hb dX11_doTurns_39 ?_
      refine lv_topi (fun z2 ez2 => ?_)
      obtain rfl : z2 = nI (8 + j) := ez2.trans (nI_add 8 j)
      refine va_iald hx hb hK hP 7 0 rfl rfl (vp_in_nI (n := 8 + j) (N := 34) (by omega) (by decide)) dX11_doTurns_40 ?_
      refine W.eq (g2 := F0 m 41 ls [.int (fm10 (8 + j)), .ref h0]) (congrArg (fun y9 => F0 m 41 ls (.int (fm10 y9) :: [.ref h0])) ((nI_clamp (n := 8 + j) (by omega)))) ?_
      refine lv_iload_n hx hb dX11_doTurns_41 rfl (lv_at hl 3 rfl) ?_
      have hPc := hP.sub (ws' := [(h0, .inr (11, f_h0)), (m9, .inl (cI, 4, .inl fm9))]) [0, 6] rfl
      refine va_calli (va_runV (As := [.int (fm10 (8 + j)), .int (nI k)]) (rest := []) ⟨hx, hb, hml, hown, hts⟩ (c_X11_suitsD l dC dI cI cZ cQ h0 m9 f_h0 fm9 (fm10 (8 + j)) k H.size e_h0_9 (by omega)) (cwV 2 hts gX11_doTurns_X11_suits rfl rfl rfl (by decide +kernel) ⟨Nat.le_of_ble_eq_true rfl, Nat.le_of_ble_eq_true rfl⟩) ⟨fun a U g mk q => by obtain ⟨q0, q1, qP, qK⟩ := q; exact ⟨q0, q1, qP, va_K.moved (u := U) (U := U.calling g mk a) (Vm.Alike.refl U.vm) qK⟩, va_recv hK hP (ci := 11) (q0 := 0) rfl rfl, fun U hU hW => ⟨rfl, by rw [hU], by rw [hU]; exact hPc, va_K.moved hW.alike hK⟩⟩ rfl rfl hl.1 rfl (lv_room (Nat.le_of_ble_eq_true rfl)) dX11_doTurns_42 ⟨Nat.le_of_ble_eq_true rfl, Nat.le_of_ble_eq_true rfl⟩) hS (fun q _ h => False.elim h) (fun q h => False.elim h) (fun r3 u4 t H1 locs ht hvm hw5 hB hz1 hk1 hS => ?_)
      have hP := hP.kept (fun k q hk => hk1 q.1 (hP k q hk).lt (fun h => h))
      clear hz1 hk1 hPc
      generalize H1 = H at hP hS ht ⊢
      try dsimp only at hw5
      rcases hw5 with ⟨rfl, hw5⟩ | ⟨rfl, hw5⟩
      ·
        refine lv_istore (lv' := [(4, .int 1), (0, .ref h0), (1, .int (nI j)), (2, .int (nI k)), (3, .int (nI mo))]) hx hb dX11_doTurns_45 hl (by decide) rfl (fun ls hl => ?_)
        refine lv_iconst (v := 0) hx hb dX11_doTurns_47 (by decide) ?_
        refine lv_istore (lv' := [(5, .int 0), (4, .int 1), (0, .ref h0), (1, .int (nI j)), (2, .int (nI k)), (3, .int (nI mo))]) hx hb dX11_doTurns_48 hl (by decide) rfl (fun ls hl => ?_)
        refine (fun (K : ∀ (d50 : Nat) (k50 : Nat) (a50_4 : Nat) (f50_m36 : Nat → Int32) (H : Heap) (locs : List Loc) (ls : Array Slot), k50 + d50 = 20 → a50_4 ≤ 1 → (∀ i, i < mo → f50_m36 i = tsF mo (fm10 (16 + j)) (wrF (fm3 j) (fm4 j) (fm5 j) (fm7 k) (fm8 k)) k50 i) → (Hid (a50_4 = 1 ↔ (lmB (fm10 (8 + j)) (fm9 k) = true ∧ ∀ p, p < k50 → tsF mo (fm10 (16 + j)) (wrF (fm3 j) (fm4 j) (fm5 j) (fm7 k) (fm8 k)) (p + 1) (p % mo) ≤ 50))) → va_P (dC, dI) vwCl [(h0, .inr (11, f_h0)), (m3, .inl (cI, 8, .inl fm3)), (m4, .inl (cI, 8, .inl fm4)), (m5, .inl (cI, 8, .inl fm5)), (m7, .inl (cI, 4, .inl fm7)), (m8, .inl (cI, 4, .inl fm8)), (m9, .inl (cI, 4, .inl fm9)), (m10, .inl (cI, 34, .inl fm10)), (m36, .inl (cI, 9, .inl f50_m36))] H → va_D A [(h0, .inr (11, f_h0)), (m3, .inl (cI, 8, .inl fm3)), (m4, .inl (cI, 8, .inl fm4)), (m5, .inl (cI, 8, .inl fm5)), (m7, .inl (cI, 4, .inl fm7)), (m8, .inl (cI, 4, .inl fm8)), (m9, .inl (cI, 4, .inl fm9)), (m10, .inl (cI, 34, .inl fm10)), (m36, .inl (cI, 9, .inl f50_m36))] → va_S A s.heap H locs → lv_has ls 7 [(5, .int (nI k50)), (4, .int (nI a50_4)), (0, .ref h0), (1, .int (nI j)), (2, .int (nI k)), (3, .int (nI mo))] → W p l e _ s m _ below meth c H locs _ _ _ (F0 m 50 ls [])) => K 20 0 1 f3_m36 _ _ _ (by omega) (by omega) (fun i hi => hv3_0 i (by omega)) (Hid.mk ⟨fun _ => ⟨hw5, fun p hp => absurd hp (by omega)⟩, fun _ => rfl⟩) hP hD hS (lv_sub hl [0, 1, 2, 3, 4, 5] rfl)) ?_
        intro d50
        induction d50 with
        | zero =>
          intro k50 a50_4 f50_m36 H locs ls hk50 hn50_4 hv50_0 hv50_1 hP hD hS hl
          refine lv_iload hx hb dX11_doTurns_50 (lv_at hl 0 rfl) ?_
          refine lv_bipush (v := 20) hx hb dX11_doTurns_52 (by decide) ?_
          refine lv_icmp_ge (tgt := 147) hx hb dX11_doTurns_54 (by decide) (fun c6 => ?_) (fun c6 => ?_)
          ·
            have c6 : 20 ≤ k50 := (nI_leI (a := 20) (b := k50) (by omega) (by omega)).mp c6
            refine lv_iload hx hb dX11_doTurns_147 (lv_at hl 1 rfl) ?_
            have hP9 := hP.sub (ws' := [(h0, .inr (11, f_h0)), (m3, .inl (cI, 8, .inl fm3)), (m4, .inl (cI, 8, .inl fm4)), (m5, .inl (cI, 8, .inl fm5)), (m7, .inl (cI, 4, .inl fm7)), (m8, .inl (cI, 4, .inl fm8)), (m9, .inl (cI, 4, .inl fm9)), (m10, .inl (cI, 34, .inl fm10)), (m36, .inl (cI, 9, .inl f50_m36))]) [0, 1, 2, 3, 4, 5, 6, 7, 8] rfl
            have hD9 := hD.sub (ws' := [(h0, .inr (11, f_h0)), (m3, .inl (cI, 8, .inl fm3)), (m4, .inl (cI, 8, .inl fm4)), (m5, .inl (cI, 8, .inl fm5)), (m7, .inl (cI, 4, .inl fm7)), (m8, .inl (cI, 4, .inl fm8)), (m9, .inl (cI, 4, .inl fm9)), (m10, .inl (cI, 34, .inl fm10)), (m36, .inl (cI, 9, .inl f50_m36))]) [0, 1, 2, 3, 4, 5, 6, 7, 8] (by decide +kernel) rfl
            exact W.zret (v := nI a50_4) hx hb hr ((x_fitsZ (n := a50_4) (by omega)).1) (fun t ht hW => ⟨⟨nI a50_4, (fun _ => 0), rfl, (tb_ret hv50_1 (show k50 = 20 from by omega) (by omega)), ⟨f50_m36, by rw [ht]; exact hP9, hD9⟩⟩, hS.F ht⟩) hS.2.2 dX11_doTurns_149
          ·
            have c6 : ¬ 20 ≤ k50 := fun h => c6 ((nI_leI (a := 20) (b := k50) (by omega) (by omega)).mpr h)
            omega
        | succ d50 ih50 =>
          intro k50 a50_4 f50_m36 H locs ls hk50 hn50_4 hv50_0 hv50_1 hP hD hS hl
          refine lv_iload hx hb dX11_doTurns_50 (lv_at hl 0 rfl) ?_
          refine lv_bipush (v := 20) hx hb dX11_doTurns_52 (by decide) ?_
          refine lv_icmp_ge (tgt := 147) hx hb dX11_doTurns_54 (by decide) (fun c7 => ?_) (fun c7 => ?_)
          ·
            have c7 : 20 ≤ k50 := (nI_leI (a := 20) (b := k50) (by omega) (by omega)).mp c7
            omega
          ·
            have c7 : ¬ 20 ≤ k50 := fun h => c7 ((nI_leI (a := 20) (b := k50) (by omega) (by omega)).mpr h)
            refine lv_iconst (v := 0) hx hb dX11_doTurns_57 (by decide) ?_
            refine lv_istore (lv' := [(6, .int 0), (5, .int (nI k50)), (4, .int (nI a50_4)), (0, .ref h0), (1, .int (nI j)), (2, .int (nI k)), (3, .int (nI mo))]) hx hb dX11_doTurns_58 hl (by decide) rfl (fun ls hl => ?_)
            refine (fun (K : ∀ (d60 : Nat) (k60 : Nat) (f60_m36 : Nat → Int32) (H : Heap) (locs : List Loc) (ls : Array Slot), k60 + d60 = mo → (∀ i, i < k60 → f60_m36 i = tsF mo (fm10 (16 + j)) (wrF (fm3 j) (fm4 j) (fm5 j) (fm7 k) (fm8 k)) (k50 + 1) i) → (∀ i, k60 ≤ i → i < mo → f60_m36 i = tsF mo (fm10 (16 + j)) (wrF (fm3 j) (fm4 j) (fm5 j) (fm7 k) (fm8 k)) k50 i) → va_P (dC, dI) vwCl [(h0, .inr (11, f_h0)), (m3, .inl (cI, 8, .inl fm3)), (m4, .inl (cI, 8, .inl fm4)), (m5, .inl (cI, 8, .inl fm5)), (m7, .inl (cI, 4, .inl fm7)), (m8, .inl (cI, 4, .inl fm8)), (m9, .inl (cI, 4, .inl fm9)), (m10, .inl (cI, 34, .inl fm10)), (m36, .inl (cI, 9, .inl f60_m36))] H → va_D A [(h0, .inr (11, f_h0)), (m3, .inl (cI, 8, .inl fm3)), (m4, .inl (cI, 8, .inl fm4)), (m5, .inl (cI, 8, .inl fm5)), (m7, .inl (cI, 4, .inl fm7)), (m8, .inl (cI, 4, .inl fm8)), (m9, .inl (cI, 4, .inl fm9)), (m10, .inl (cI, 34, .inl fm10)), (m36, .inl (cI, 9, .inl f60_m36))] → va_S A s.heap H locs → lv_has ls 7 [(6, .int (nI k60)), (5, .int (nI k50)), (4, .int (nI a50_4)), (0, .ref h0), (1, .int (nI j)), (2, .int (nI k)), (3, .int (nI mo))] → W p l e _ s m _ below meth c H locs _ _ _ (F0 m 60 ls [])) => K mo 0 f50_m36 _ _ _ (by omega) (fun i hi => absurd hi (by omega)) (fun i _ hi => hv50_0 i hi) hP hD hS (lv_sub hl [0, 1, 2, 3, 4, 5, 6] rfl)) ?_
            intro d60
            induction d60 with
            | zero =>
              intro k60 f60_m36 H locs ls hk60 hv60_0 hv60_1 hP hD hS hl
              refine lv_iload hx hb dX11_doTurns_60 (lv_at hl 0 rfl) ?_
              refine lv_iload_n hx hb dX11_doTurns_62 rfl (lv_at hl 6 rfl) ?_
              refine lv_icmp_ge (tgt := 115) hx hb dX11_doTurns_63 (by decide) (fun c8 => ?_) (fun c8 => ?_)
              ·
                have c8 : mo ≤ k60 := (nI_leI (a := mo) (b := k60) (by omega) (by omega)).mp c8
                refine lv_iload hx hb dX11_doTurns_115 (lv_at hl 2 rfl) ?_
                refine lv_if_eq (tgt := 138) hx hb dX11_doTurns_117 (by decide) (fun c9 => ?_) (fun c9 => ?_)
                ·
                  have c9 : a50_4 = 0 := (nI_eq (a := a50_4) (b := 0) (by omega) (by omega)).mp c9
                  refine lv_iconst (v := 0) hx hb dX11_doTurns_138 (by decide) ?_
                  refine lv_istore (lv' := [(4, .int 0), (6, .int (nI k60)), (5, .int (nI k50)), (0, .ref h0), (1, .int (nI j)), (2, .int (nI k)), (3, .int (nI mo))]) hx hb dX11_doTurns_139 hl (by decide) rfl (fun ls hl => ?_)
                  refine lv_iinc (v := nI (k50 + 1)) (lv' := [(5, .int (nI (k50 + 1))), (4, .int 0), (6, .int (nI k60)), (0, .ref h0), (1, .int (nI j)), (2, .int (nI k)), (3, .int (nI mo))]) hx hb dX11_doTurns_141 hl (k := 2) rfl ((rfl : nI k50 + Int32.ofInt 1 = nI k50 + 1).trans (nI_add k50 1)) (by decide) rfl (fun ls hl => ?_)
                  refine lv_goto (tgt := 50) hx hb dX11_doTurns_144 (by decide) ?_
                  exact ih50 (k50 + 1) 0 f60_m36 _ _ _ (by omega) (by omega) (fun i hi => hv60_0 i (by omega)) (tb_n hv50_1 (by omega)) hP hD hS (lv_sub hl [0, 1, 3, 4, 5, 6] rfl)
                ·
                  have c9 : ¬ a50_4 = 0 := fun h => c9 ((nI_eq (a := a50_4) (b := 0) (by omega) (by omega)).mpr h)
                  refine lv_aload_n hx hb dX11_doTurns_120 rfl (lv_at hl 3 rfl) ?_
                  refine va_get (D := (dC, dI)) (ci := 11) (v := .ref m36) (C := RX11) (T := TX11) (N := 46) hx hb hts hi_X11 hown hK hP 0 rfl rfl 36 (by decide) (hts (.fieldLink RX11 71 "LeftQuillsModel" "softs" "[I") (wmx 1 rfl)) (fun _ h9 => h9) e_h0_36 dX11_doTurns_121 ?_
                  refine lv_iload hx hb dX11_doTurns_124 (lv_at hl 1 rfl) ?_
                  refine lv_iload_n hx hb dX11_doTurns_126 rfl (lv_at hl 6 rfl) ?_
                  refine lv_irem hx hb dX11_doTurns_127 (nI_ne0 (n := mo) (by omega) (by omega)) ?_
                  refine lv_topi (fun z10 ez10 => ?_)
                  obtain ⟨w11, hw11, ew11⟩ : ∃ y : Nat, y < mo ∧ y = k50 % mo := ⟨_, Nat.mod_lt _ (by omega), rfl⟩
                  obtain rfl : z10 = nI w11 := by rw [ew11]; exact ez10.trans (pk_rem (a := k50) (d := mo) (by omega) (by omega) (by omega))
                  refine va_iald hx hb hK hP 8 0 rfl rfl (vp_in_nI (n := w11) (N := 9) (by omega) (by decide)) dX11_doTurns_128 ?_
                  refine W.eq (g2 := F0 m 129 ls [.int (f60_m36 w11)]) (congrArg (fun y9 => F0 m 129 ls (.int (f60_m36 y9) :: [])) ((nI_clamp (n := w11) (by omega)))) ?_
                  refine lv_bipush (v := 50) hx hb dX11_doTurns_129 (by decide) ?_
                  refine lv_icmp_gt (tgt := 138) hx hb dX11_doTurns_131 (by decide) (fun c12 => ?_) (fun c12 => ?_)
                  ·
                    refine lv_iconst (v := 0) hx hb dX11_doTurns_138 (by decide) ?_
                    refine lv_istore (lv' := [(4, .int 0), (6, .int (nI k60)), (5, .int (nI k50)), (0, .ref h0), (1, .int (nI j)), (2, .int (nI k)), (3, .int (nI mo))]) hx hb dX11_doTurns_139 hl (by decide) rfl (fun ls hl => ?_)
                    refine lv_iinc (v := nI (k50 + 1)) (lv' := [(5, .int (nI (k50 + 1))), (4, .int 0), (6, .int (nI k60)), (0, .ref h0), (1, .int (nI j)), (2, .int (nI k)), (3, .int (nI mo))]) hx hb dX11_doTurns_141 hl (k := 2) rfl ((rfl : nI k50 + Int32.ofInt 1 = nI k50 + 1).trans (nI_add k50 1)) (by decide) rfl (fun ls hl => ?_)
                    refine lv_goto (tgt := 50) hx hb dX11_doTurns_144 (by decide) ?_
                    exact ih50 (k50 + 1) 0 f60_m36 _ _ _ (by omega) (by omega) (fun i hi => hv60_0 i (by omega)) (tb_x hv50_1 (by rw [← ew11, ← hv60_0 w11 (by omega)]; exact fa_ltn c12)) hP hD hS (lv_sub hl [0, 1, 3, 4, 5, 6] rfl)
                  ·
                    refine lv_iconst (v := 1) hx hb dX11_doTurns_134 (by decide) ?_
                    refine lv_goto (tgt := 139) hx hb dX11_doTurns_135 (by decide) ?_
                    refine lv_istore (lv' := [(4, .int 1), (6, .int (nI k60)), (5, .int (nI k50)), (0, .ref h0), (1, .int (nI j)), (2, .int (nI k)), (3, .int (nI mo))]) hx hb dX11_doTurns_139 hl (by decide) rfl (fun ls hl => ?_)
                    refine lv_iinc (v := nI (k50 + 1)) (lv' := [(5, .int (nI (k50 + 1))), (4, .int 1), (6, .int (nI k60)), (0, .ref h0), (1, .int (nI j)), (2, .int (nI k)), (3, .int (nI mo))]) hx hb dX11_doTurns_141 hl (k := 2) rfl ((rfl : nI k50 + Int32.ofInt 1 = nI k50 + 1).trans (nI_add k50 1)) (by decide) rfl (fun ls hl => ?_)
                    refine lv_goto (tgt := 50) hx hb dX11_doTurns_144 (by decide) ?_
                    exact ih50 (k50 + 1) 1 f60_m36 _ _ _ (by omega) (by omega) (fun i hi => hv60_0 i (by omega)) (tb_y hv50_1 (by omega) (by rw [← ew11, ← hv60_0 w11 (by omega)]; exact fa_nlt c12)) hP hD hS (lv_sub hl [0, 1, 3, 4, 5, 6] rfl)
              ·
                have c8 : ¬ mo ≤ k60 := fun h => c8 ((nI_leI (a := mo) (b := k60) (by omega) (by omega)).mpr h)
                omega
            | succ d60 ih60 =>
              intro k60 f60_m36 H locs ls hk60 hv60_0 hv60_1 hP hD hS hl
              refine lv_iload hx hb dX11_doTurns_60 (lv_at hl 0 rfl) ?_
              refine lv_iload_n hx hb dX11_doTurns_62 rfl (lv_at hl 6 rfl) ?_
              refine lv_icmp_ge (tgt := 115) hx hb dX11_doTurns_63 (by decide) (fun c13 => ?_) (fun c13 => ?_)
              ·
                have c13 : mo ≤ k60 := (nI_leI (a := mo) (b := k60) (by omega) (by omega)).mp c13
                omega
              ·
                have c13 : ¬ mo ≤ k60 := fun h => c13 ((nI_leI (a := mo) (b := k60) (by omega) (by omega)).mpr h)
                refine lv_aload_n hx hb dX11_doTurns_66 rfl (lv_at hl 3 rfl) ?_
                refine va_get (D := (dC, dI)) (ci := 11) (v := .ref m36) (C := RX11) (T := TX11) (N := 46) hx hb hts hi_X11 hown hK hP 0 rfl rfl 36 (by decide) (hts (.fieldLink RX11 71 "LeftQuillsModel" "softs" "[I") (wmx 1 rfl)) (fun _ h9 => h9) e_h0_36 dX11_doTurns_67 ?_
                refine lv_iload hx hb dX11_doTurns_70 (lv_at hl 0 rfl) ?_
                refine lv_iload hx hb dX11_doTurns_72 (lv_at hl 0 rfl) ?_
                refine lv_iload hx hb dX11_doTurns_74 (lv_at hl 1 rfl) ?_
                refine lv_iload_n hx hb dX11_doTurns_76 rfl (lv_at hl 6 rfl) ?_
                refine lv_irem hx hb dX11_doTurns_77 (nI_ne0 (n := mo) (by omega) (by omega)) ?_
                refine lv_topi (fun z14 ez14 => ?_)
                obtain ⟨w15, hw15, ew15⟩ : ∃ y : Nat, y < mo ∧ y = k50 % mo := ⟨_, Nat.mod_lt _ (by omega), rfl⟩
                obtain rfl : z14 = nI w15 := by rw [ew15]; exact ez14.trans (pk_rem (a := k50) (d := mo) (by omega) (by omega) (by omega))
                refine lv_icmp_ne (tgt := 97) hx hb dX11_doTurns_78 (by decide) (fun c16 => ?_) (fun c16 => ?_)
                ·
                  have c16 : ¬ k60 = w15 := fun h => c16 ((nI_eq (a := k60) (b := w15) (by omega) (by omega)).mpr h)
                  refine lv_aload_n hx hb dX11_doTurns_97 rfl (lv_at hl 3 rfl) ?_
                  refine va_get (D := (dC, dI)) (ci := 11) (v := .ref m36) (C := RX11) (T := TX11) (N := 46) hx hb hts hi_X11 hown hK hP 0 rfl rfl 36 (by decide) (hts (.fieldLink RX11 71 "LeftQuillsModel" "softs" "[I") (wmx 1 rfl)) (fun _ h9 => h9) e_h0_36 dX11_doTurns_98 ?_
                  refine lv_iload hx hb dX11_doTurns_101 (lv_at hl 0 rfl) ?_
                  refine va_iald hx hb hK hP 8 0 rfl rfl (vp_in_nI (n := k60) (N := 9) (by omega) (by decide)) dX11_doTurns_103 ?_
                  refine W.eq (g2 := F0 m 104 ls [.int (f60_m36 k60), .int (nI k60), .ref m36]) (congrArg (fun y9 => F0 m 104 ls (.int (f60_m36 y9) :: [.int (nI k60), .ref m36])) ((nI_clamp (n := k60) (by omega)))) ?_
                  refine lv_iconst (v := 1) hx hb dX11_doTurns_104 (by decide) ?_
                  have hPc := hP.sub (ws' := []) [] rfl
                  refine va_calli (va_runS (As := [.int (f60_m36 k60), .int 1]) (rest := [.int (nI k60), .ref m36]) ⟨hx, hb, hml, hown, hts⟩ (c_X11_driedByD l dC dI cI cZ cQ (f60_m36 k60) 1 H.size ) (va_cwS 2 hts gX11_doTurns_X11_driedBy rfl rfl rfl (by decide +kernel) ⟨Nat.le_of_ble_eq_true rfl, Nat.le_of_ble_eq_true rfl⟩) ⟨fun a U g mk q => by obtain ⟨q0, q1, qP, qK⟩ := q; exact ⟨q0, q1, qP, va_K.moved (u := U) (U := U.calling g mk a) (Vm.Alike.refl U.vm) qK⟩, fun U hU hW => ⟨rfl, by rw [hU], by rw [hU]; exact hPc, va_K.moved hW.alike hK⟩⟩ rfl rfl hl.1 rfl (lv_room (Nat.le_of_ble_eq_true rfl)) dX11_doTurns_105 ⟨Nat.le_of_ble_eq_true rfl, Nat.le_of_ble_eq_true rfl⟩) hS (fun q _ h => False.elim h) (fun q h => False.elim h) (fun r17 u18 t H1 locs ht hvm hw19 hB hz1 hk1 hS => ?_)
                  have hP := hP.kept (fun k q hk => hk1 q.1 (hP k q hk).lt (fun h => h))
                  clear hz1 hk1 hPc
                  generalize H1 = H at hP hS ht ⊢
                  try dsimp only at hw19
                  subst hw19
                  refine va_iast hx hb hK hP hD hS 8 0 rfl rfl (vp_in_nI (n := k60) (N := 9) (by omega) (by decide)) dX11_doTurns_108 (fun H locs hP hD hS => ?_)
                  have hcl := (nI_clamp (n := k60) (by omega))
                  rw [hcl] at hP hD
                  clear hcl
                  have hP : va_P (dC, dI) vwCl [(h0, .inr (11, f_h0)), (m3, .inl (cI, 8, .inl fm3)), (m4, .inl (cI, 8, .inl fm4)), (m5, .inl (cI, 8, .inl fm5)), (m7, .inl (cI, 4, .inl fm7)), (m8, .inl (cI, 4, .inl fm8)), (m9, .inl (cI, 4, .inl fm9)), (m10, .inl (cI, 34, .inl fm10)), (m36, .inl (cI, 9, .inl (upd f60_m36 k60 (dsF (f60_m36 k60) 1))))] H := hP
                  have hD : va_D A [(h0, .inr (11, f_h0)), (m3, .inl (cI, 8, .inl fm3)), (m4, .inl (cI, 8, .inl fm4)), (m5, .inl (cI, 8, .inl fm5)), (m7, .inl (cI, 4, .inl fm7)), (m8, .inl (cI, 4, .inl fm8)), (m9, .inl (cI, 4, .inl fm9)), (m10, .inl (cI, 34, .inl fm10)), (m36, .inl (cI, 9, .inl (upd f60_m36 k60 (dsF (f60_m36 k60) 1))))] := hD
                  refine lv_iinc (v := nI (k60 + 1)) (lv' := [(6, .int (nI (k60 + 1))), (5, .int (nI k50)), (4, .int (nI a50_4)), (0, .ref h0), (1, .int (nI j)), (2, .int (nI k)), (3, .int (nI mo))]) hx hb dX11_doTurns_109 hl (k := 0) rfl ((rfl : nI k60 + Int32.ofInt 1 = nI k60 + 1).trans (nI_add k60 1)) (by decide) rfl (fun ls hl => ?_)
                  refine lv_goto (tgt := 60) hx hb dX11_doTurns_112 (by decide) ?_
                  exact ih60 (k60 + 1) (upd f60_m36 k60 (dsF (f60_m36 k60) 1)) _ _ _ (by omega) (upd_all hv60_0 (ts_n hv60_1 (by omega) c16 ew15)) (ts_up2 hv60_1) hP hD hS (lv_sub hl [0, 1, 2, 3, 4, 5, 6] rfl)
                ·
                  have c16 : k60 = w15 := (nI_eq (a := k60) (b := w15) (by omega) (by omega)).mp c16
                  refine lv_aload_n hx hb dX11_doTurns_81 rfl (lv_at hl 3 rfl) ?_
                  refine lv_aload_n hx hb dX11_doTurns_82 rfl (lv_at hl 3 rfl) ?_
                  refine va_get (D := (dC, dI)) (ci := 11) (v := .ref m36) (C := RX11) (T := TX11) (N := 46) hx hb hts hi_X11 hown hK hP 0 rfl rfl 36 (by decide) (hts (.fieldLink RX11 71 "LeftQuillsModel" "softs" "[I") (wmx 1 rfl)) (fun _ h9 => h9) e_h0_36 dX11_doTurns_83 ?_
                  refine lv_iload hx hb dX11_doTurns_86 (lv_at hl 0 rfl) ?_
                  refine va_iald hx hb hK hP 8 0 rfl rfl (vp_in_nI (n := k60) (N := 9) (by omega) (by decide)) dX11_doTurns_88 ?_
                  refine W.eq (g2 := F0 m 89 ls [.int (f60_m36 k60), .ref h0, .int (nI k60), .ref m36]) (congrArg (fun y9 => F0 m 89 ls (.int (f60_m36 y9) :: [.ref h0, .int (nI k60), .ref m36])) ((nI_clamp (n := k60) (by omega)))) ?_
                  refine lv_iload_n hx hb dX11_doTurns_89 rfl (lv_at hl 4 rfl) ?_
                  refine lv_iload_n hx hb dX11_doTurns_90 rfl (lv_at hl 5 rfl) ?_
                  have hPc := hP.sub (ws' := [(h0, .inr (11, f_h0)), (m3, .inl (cI, 8, .inl fm3)), (m4, .inl (cI, 8, .inl fm4)), (m5, .inl (cI, 8, .inl fm5)), (m7, .inl (cI, 4, .inl fm7)), (m8, .inl (cI, 4, .inl fm8))]) [0, 1, 2, 3, 4, 5] rfl
                  refine va_calli (va_runV (As := [.int (f60_m36 k60), .int (nI j), .int (nI k)]) (rest := [.int (nI k60), .ref m36]) ⟨hx, hb, hml, hown, hts⟩ (c_X11_softBehindD l dC dI cI cZ cQ h0 m3 m4 m5 m7 m8 f_h0 fm3 fm4 fm5 fm7 fm8 (f60_m36 k60) j k nq H.size e_h0_3 e_h0_4 e_h0_5 e_h0_7 e_h0_8 (by omega) (by first | assumption | decide) (by omega) (by omega)) (cwV 3 hts gX11_doTurns_X11_softBehind rfl rfl rfl (by decide +kernel) ⟨Nat.le_of_ble_eq_true rfl, Nat.le_of_ble_eq_true rfl⟩) ⟨fun a U g mk q => by obtain ⟨q0, q1, qP, qK⟩ := q; exact ⟨q0, q1, qP, va_K.moved (u := U) (U := U.calling g mk a) (Vm.Alike.refl U.vm) qK⟩, va_recv hK hP (ci := 11) (q0 := 0) rfl rfl, fun U hU hW => ⟨rfl, by rw [hU], by rw [hU]; exact hPc, va_K.moved hW.alike hK⟩⟩ rfl rfl hl.1 rfl (lv_room (Nat.le_of_ble_eq_true rfl)) dX11_doTurns_91 ⟨Nat.le_of_ble_eq_true rfl, Nat.le_of_ble_eq_true rfl⟩) hS (fun q _ h => False.elim h) (fun q h => False.elim h) (fun r21 u22 t H1 locs ht hvm hw23 hB hz1 hk1 hS => ?_)
                  have hP := hP.kept (fun k q hk => hk1 q.1 (hP k q hk).lt (fun h => h))
                  clear hz1 hk1 hPc
                  generalize H1 = H at hP hS ht ⊢
                  try dsimp only at hw23
                  subst hw23
                  refine lv_goto (tgt := 108) hx hb dX11_doTurns_94 (by decide) ?_
                  refine va_iast hx hb hK hP hD hS 8 0 rfl rfl (vp_in_nI (n := k60) (N := 9) (by omega) (by decide)) dX11_doTurns_108 (fun H locs hP hD hS => ?_)
                  have hcl := (nI_clamp (n := k60) (by omega))
                  rw [hcl] at hP hD
                  clear hcl
                  have hP : va_P (dC, dI) vwCl [(h0, .inr (11, f_h0)), (m3, .inl (cI, 8, .inl fm3)), (m4, .inl (cI, 8, .inl fm4)), (m5, .inl (cI, 8, .inl fm5)), (m7, .inl (cI, 4, .inl fm7)), (m8, .inl (cI, 4, .inl fm8)), (m9, .inl (cI, 4, .inl fm9)), (m10, .inl (cI, 34, .inl fm10)), (m36, .inl (cI, 9, .inl (upd f60_m36 k60 (sbF (f60_m36 k60) (wrF (fm3 j) (fm4 j) (fm5 j) (fm7 k) (fm8 k))))))] H := hP
                  have hD : va_D A [(h0, .inr (11, f_h0)), (m3, .inl (cI, 8, .inl fm3)), (m4, .inl (cI, 8, .inl fm4)), (m5, .inl (cI, 8, .inl fm5)), (m7, .inl (cI, 4, .inl fm7)), (m8, .inl (cI, 4, .inl fm8)), (m9, .inl (cI, 4, .inl fm9)), (m10, .inl (cI, 34, .inl fm10)), (m36, .inl (cI, 9, .inl (upd f60_m36 k60 (sbF (f60_m36 k60) (wrF (fm3 j) (fm4 j) (fm5 j) (fm7 k) (fm8 k))))))] := hD
                  refine lv_iinc (v := nI (k60 + 1)) (lv' := [(6, .int (nI (k60 + 1))), (5, .int (nI k50)), (4, .int (nI a50_4)), (0, .ref h0), (1, .int (nI j)), (2, .int (nI k)), (3, .int (nI mo))]) hx hb dX11_doTurns_109 hl (k := 0) rfl ((rfl : nI k60 + Int32.ofInt 1 = nI k60 + 1).trans (nI_add k60 1)) (by decide) rfl (fun ls hl => ?_)
                  refine lv_goto (tgt := 60) hx hb dX11_doTurns_112 (by decide) ?_
                  exact ih60 (k60 + 1) (upd f60_m36 k60 (sbF (f60_m36 k60) (wrF (fm3 j) (fm4 j) (fm5 j) (fm7 k) (fm8 k)))) _ _ _ (by omega) (upd_all hv60_0 (ts_y hv60_1 (by omega) c16 ew15)) (ts_up2 hv60_1) hP hD hS (lv_sub hl [0, 1, 2, 3, 4, 5, 6] rfl)
      ·
        refine lv_istore (lv' := [(4, .int 0), (0, .ref h0), (1, .int (nI j)), (2, .int (nI k)), (3, .int (nI mo))]) hx hb dX11_doTurns_45 hl (by decide) rfl (fun ls hl => ?_)
        refine lv_iconst (v := 0) hx hb dX11_doTurns_47 (by decide) ?_
        refine lv_istore (lv' := [(5, .int 0), (4, .int 0), (0, .ref h0), (1, .int (nI j)), (2, .int (nI k)), (3, .int (nI mo))]) hx hb dX11_doTurns_48 hl (by decide) rfl (fun ls hl => ?_)
        refine (fun (K : ∀ (d50 : Nat) (k50 : Nat) (a50_4 : Nat) (f50_m36 : Nat → Int32) (H : Heap) (locs : List Loc) (ls : Array Slot), k50 + d50 = 20 → a50_4 ≤ 1 → (∀ i, i < mo → f50_m36 i = tsF mo (fm10 (16 + j)) (wrF (fm3 j) (fm4 j) (fm5 j) (fm7 k) (fm8 k)) k50 i) → (Hid (a50_4 = 1 ↔ (lmB (fm10 (8 + j)) (fm9 k) = true ∧ ∀ p, p < k50 → tsF mo (fm10 (16 + j)) (wrF (fm3 j) (fm4 j) (fm5 j) (fm7 k) (fm8 k)) (p + 1) (p % mo) ≤ 50))) → va_P (dC, dI) vwCl [(h0, .inr (11, f_h0)), (m3, .inl (cI, 8, .inl fm3)), (m4, .inl (cI, 8, .inl fm4)), (m5, .inl (cI, 8, .inl fm5)), (m7, .inl (cI, 4, .inl fm7)), (m8, .inl (cI, 4, .inl fm8)), (m9, .inl (cI, 4, .inl fm9)), (m10, .inl (cI, 34, .inl fm10)), (m36, .inl (cI, 9, .inl f50_m36))] H → va_D A [(h0, .inr (11, f_h0)), (m3, .inl (cI, 8, .inl fm3)), (m4, .inl (cI, 8, .inl fm4)), (m5, .inl (cI, 8, .inl fm5)), (m7, .inl (cI, 4, .inl fm7)), (m8, .inl (cI, 4, .inl fm8)), (m9, .inl (cI, 4, .inl fm9)), (m10, .inl (cI, 34, .inl fm10)), (m36, .inl (cI, 9, .inl f50_m36))] → va_S A s.heap H locs → lv_has ls 7 [(5, .int (nI k50)), (4, .int (nI a50_4)), (0, .ref h0), (1, .int (nI j)), (2, .int (nI k)), (3, .int (nI mo))] → W p l e _ s m _ below meth c H locs _ _ _ (F0 m 50 ls [])) => K 20 0 0 f3_m36 _ _ _ (by omega) (by omega) (fun i hi => hv3_0 i (by omega)) (Hid.mk ⟨fun h9 => absurd h9 (by decide), fun h9 => absurd h9.1 hw5⟩) hP hD hS (lv_sub hl [0, 1, 2, 3, 4, 5] rfl)) ?_
        intro d50
        induction d50 with
        | zero =>
          intro k50 a50_4 f50_m36 H locs ls hk50 hn50_4 hv50_0 hv50_1 hP hD hS hl
          refine lv_iload hx hb dX11_doTurns_50 (lv_at hl 0 rfl) ?_
          refine lv_bipush (v := 20) hx hb dX11_doTurns_52 (by decide) ?_
          refine lv_icmp_ge (tgt := 147) hx hb dX11_doTurns_54 (by decide) (fun c25 => ?_) (fun c25 => ?_)
          ·
            have c25 : 20 ≤ k50 := (nI_leI (a := 20) (b := k50) (by omega) (by omega)).mp c25
            refine lv_iload hx hb dX11_doTurns_147 (lv_at hl 1 rfl) ?_
            have hP9 := hP.sub (ws' := [(h0, .inr (11, f_h0)), (m3, .inl (cI, 8, .inl fm3)), (m4, .inl (cI, 8, .inl fm4)), (m5, .inl (cI, 8, .inl fm5)), (m7, .inl (cI, 4, .inl fm7)), (m8, .inl (cI, 4, .inl fm8)), (m9, .inl (cI, 4, .inl fm9)), (m10, .inl (cI, 34, .inl fm10)), (m36, .inl (cI, 9, .inl f50_m36))]) [0, 1, 2, 3, 4, 5, 6, 7, 8] rfl
            have hD9 := hD.sub (ws' := [(h0, .inr (11, f_h0)), (m3, .inl (cI, 8, .inl fm3)), (m4, .inl (cI, 8, .inl fm4)), (m5, .inl (cI, 8, .inl fm5)), (m7, .inl (cI, 4, .inl fm7)), (m8, .inl (cI, 4, .inl fm8)), (m9, .inl (cI, 4, .inl fm9)), (m10, .inl (cI, 34, .inl fm10)), (m36, .inl (cI, 9, .inl f50_m36))]) [0, 1, 2, 3, 4, 5, 6, 7, 8] (by decide +kernel) rfl
            exact W.zret (v := nI a50_4) hx hb hr ((x_fitsZ (n := a50_4) (by omega)).1) (fun t ht hW => ⟨⟨nI a50_4, (fun _ => 0), rfl, (tb_ret hv50_1 (show k50 = 20 from by omega) (by omega)), ⟨f50_m36, by rw [ht]; exact hP9, hD9⟩⟩, hS.F ht⟩) hS.2.2 dX11_doTurns_149
          ·
            have c25 : ¬ 20 ≤ k50 := fun h => c25 ((nI_leI (a := 20) (b := k50) (by omega) (by omega)).mpr h)
            omega
        | succ d50 ih50 =>
          intro k50 a50_4 f50_m36 H locs ls hk50 hn50_4 hv50_0 hv50_1 hP hD hS hl
          refine lv_iload hx hb dX11_doTurns_50 (lv_at hl 0 rfl) ?_
          refine lv_bipush (v := 20) hx hb dX11_doTurns_52 (by decide) ?_
          refine lv_icmp_ge (tgt := 147) hx hb dX11_doTurns_54 (by decide) (fun c26 => ?_) (fun c26 => ?_)
          ·
            have c26 : 20 ≤ k50 := (nI_leI (a := 20) (b := k50) (by omega) (by omega)).mp c26
            omega
          ·
            have c26 : ¬ 20 ≤ k50 := fun h => c26 ((nI_leI (a := 20) (b := k50) (by omega) (by omega)).mpr h)
            refine lv_iconst (v := 0) hx hb dX11_doTurns_57 (by decide) ?_
            refine lv_istore (lv' := [(6, .int 0), (5, .int (nI k50)), (4, .int (nI a50_4)), (0, .ref h0), (1, .int (nI j)), (2, .int (nI k)), (3, .int (nI mo))]) hx hb dX11_doTurns_58 hl (by decide) rfl (fun ls hl => ?_)
            refine (fun (K : ∀ (d60 : Nat) (k60 : Nat) (f60_m36 : Nat → Int32) (H : Heap) (locs : List Loc) (ls : Array Slot), k60 + d60 = mo → (∀ i, i < k60 → f60_m36 i = tsF mo (fm10 (16 + j)) (wrF (fm3 j) (fm4 j) (fm5 j) (fm7 k) (fm8 k)) (k50 + 1) i) → (∀ i, k60 ≤ i → i < mo → f60_m36 i = tsF mo (fm10 (16 + j)) (wrF (fm3 j) (fm4 j) (fm5 j) (fm7 k) (fm8 k)) k50 i) → va_P (dC, dI) vwCl [(h0, .inr (11, f_h0)), (m3, .inl (cI, 8, .inl fm3)), (m4, .inl (cI, 8, .inl fm4)), (m5, .inl (cI, 8, .inl fm5)), (m7, .inl (cI, 4, .inl fm7)), (m8, .inl (cI, 4, .inl fm8)), (m9, .inl (cI, 4, .inl fm9)), (m10, .inl (cI, 34, .inl fm10)), (m36, .inl (cI, 9, .inl f60_m36))] H → va_D A [(h0, .inr (11, f_h0)), (m3, .inl (cI, 8, .inl fm3)), (m4, .inl (cI, 8, .inl fm4)), (m5, .inl (cI, 8, .inl fm5)), (m7, .inl (cI, 4, .inl fm7)), (m8, .inl (cI, 4, .inl fm8)), (m9, .inl (cI, 4, .inl fm9)), (m10, .inl (cI, 34, .inl fm10)), (m36, .inl (cI, 9, .inl f60_m36))] → va_S A s.heap H locs → lv_has ls 7 [(6, .int (nI k60)), (5, .int (nI k50)), (4, .int (nI a50_4)), (0, .ref h0), (1, .int (nI j)), (2, .int (nI k)), (3, .int (nI mo))] → W p l e _ s m _ below meth c H locs _ _ _ (F0 m 60 ls [])) => K mo 0 f50_m36 _ _ _ (by omega) (fun i hi => absurd hi (by omega)) (fun i _ hi => hv50_0 i hi) hP hD hS (lv_sub hl [0, 1, 2, 3, 4, 5, 6] rfl)) ?_
            intro d60
            induction d60 with
            | zero =>
              intro k60 f60_m36 H locs ls hk60 hv60_0 hv60_1 hP hD hS hl
              refine lv_iload hx hb dX11_doTurns_60 (lv_at hl 0 rfl) ?_
              refine lv_iload_n hx hb dX11_doTurns_62 rfl (lv_at hl 6 rfl) ?_
              refine lv_icmp_ge (tgt := 115) hx hb dX11_doTurns_63 (by decide) (fun c27 => ?_) (fun c27 => ?_)
              ·
                have c27 : mo ≤ k60 := (nI_leI (a := mo) (b := k60) (by omega) (by omega)).mp c27
                refine lv_iload hx hb dX11_doTurns_115 (lv_at hl 2 rfl) ?_
                refine lv_if_eq (tgt := 138) hx hb dX11_doTurns_117 (by decide) (fun c28 => ?_) (fun c28 => ?_)
                ·
                  have c28 : a50_4 = 0 := (nI_eq (a := a50_4) (b := 0) (by omega) (by omega)).mp c28
                  refine lv_iconst (v := 0) hx hb dX11_doTurns_138 (by decide) ?_
                  refine lv_istore (lv' := [(4, .int 0), (6, .int (nI k60)), (5, .int (nI k50)), (0, .ref h0), (1, .int (nI j)), (2, .int (nI k)), (3, .int (nI mo))]) hx hb dX11_doTurns_139 hl (by decide) rfl (fun ls hl => ?_)
                  refine lv_iinc (v := nI (k50 + 1)) (lv' := [(5, .int (nI (k50 + 1))), (4, .int 0), (6, .int (nI k60)), (0, .ref h0), (1, .int (nI j)), (2, .int (nI k)), (3, .int (nI mo))]) hx hb dX11_doTurns_141 hl (k := 2) rfl ((rfl : nI k50 + Int32.ofInt 1 = nI k50 + 1).trans (nI_add k50 1)) (by decide) rfl (fun ls hl => ?_)
                  refine lv_goto (tgt := 50) hx hb dX11_doTurns_144 (by decide) ?_
                  exact ih50 (k50 + 1) 0 f60_m36 _ _ _ (by omega) (by omega) (fun i hi => hv60_0 i (by omega)) (tb_n hv50_1 (by omega)) hP hD hS (lv_sub hl [0, 1, 3, 4, 5, 6] rfl)
                ·
                  have c28 : ¬ a50_4 = 0 := fun h => c28 ((nI_eq (a := a50_4) (b := 0) (by omega) (by omega)).mpr h)
                  refine lv_aload_n hx hb dX11_doTurns_120 rfl (lv_at hl 3 rfl) ?_
                  refine va_get (D := (dC, dI)) (ci := 11) (v := .ref m36) (C := RX11) (T := TX11) (N := 46) hx hb hts hi_X11 hown hK hP 0 rfl rfl 36 (by decide) (hts (.fieldLink RX11 71 "LeftQuillsModel" "softs" "[I") (wmx 1 rfl)) (fun _ h9 => h9) e_h0_36 dX11_doTurns_121 ?_
                  refine lv_iload hx hb dX11_doTurns_124 (lv_at hl 1 rfl) ?_
                  refine lv_iload_n hx hb dX11_doTurns_126 rfl (lv_at hl 6 rfl) ?_
                  refine lv_irem hx hb dX11_doTurns_127 (nI_ne0 (n := mo) (by omega) (by omega)) ?_
                  refine lv_topi (fun z29 ez29 => ?_)
                  obtain ⟨w30, hw30, ew30⟩ : ∃ y : Nat, y < mo ∧ y = k50 % mo := ⟨_, Nat.mod_lt _ (by omega), rfl⟩
                  obtain rfl : z29 = nI w30 := by rw [ew30]; exact ez29.trans (pk_rem (a := k50) (d := mo) (by omega) (by omega) (by omega))
                  refine va_iald hx hb hK hP 8 0 rfl rfl (vp_in_nI (n := w30) (N := 9) (by omega) (by decide)) dX11_doTurns_128 ?_
                  refine W.eq (g2 := F0 m 129 ls [.int (f60_m36 w30)]) (congrArg (fun y9 => F0 m 129 ls (.int (f60_m36 y9) :: [])) ((nI_clamp (n := w30) (by omega)))) ?_
                  refine lv_bipush (v := 50) hx hb dX11_doTurns_129 (by decide) ?_
                  refine lv_icmp_gt (tgt := 138) hx hb dX11_doTurns_131 (by decide) (fun c31 => ?_) (fun c31 => ?_)
                  ·
                    refine lv_iconst (v := 0) hx hb dX11_doTurns_138 (by decide) ?_
                    refine lv_istore (lv' := [(4, .int 0), (6, .int (nI k60)), (5, .int (nI k50)), (0, .ref h0), (1, .int (nI j)), (2, .int (nI k)), (3, .int (nI mo))]) hx hb dX11_doTurns_139 hl (by decide) rfl (fun ls hl => ?_)
                    refine lv_iinc (v := nI (k50 + 1)) (lv' := [(5, .int (nI (k50 + 1))), (4, .int 0), (6, .int (nI k60)), (0, .ref h0), (1, .int (nI j)), (2, .int (nI k)), (3, .int (nI mo))]) hx hb dX11_doTurns_141 hl (k := 2) rfl ((rfl : nI k50 + Int32.ofInt 1 = nI k50 + 1).trans (nI_add k50 1)) (by decide) rfl (fun ls hl => ?_)
                    refine lv_goto (tgt := 50) hx hb dX11_doTurns_144 (by decide) ?_
                    exact ih50 (k50 + 1) 0 f60_m36 _ _ _ (by omega) (by omega) (fun i hi => hv60_0 i (by omega)) (tb_x hv50_1 (by rw [← ew30, ← hv60_0 w30 (by omega)]; exact fa_ltn c31)) hP hD hS (lv_sub hl [0, 1, 3, 4, 5, 6] rfl)
                  ·
                    refine lv_iconst (v := 1) hx hb dX11_doTurns_134 (by decide) ?_
                    refine lv_goto (tgt := 139) hx hb dX11_doTurns_135 (by decide) ?_
                    refine lv_istore (lv' := [(4, .int 1), (6, .int (nI k60)), (5, .int (nI k50)), (0, .ref h0), (1, .int (nI j)), (2, .int (nI k)), (3, .int (nI mo))]) hx hb dX11_doTurns_139 hl (by decide) rfl (fun ls hl => ?_)
                    refine lv_iinc (v := nI (k50 + 1)) (lv' := [(5, .int (nI (k50 + 1))), (4, .int 1), (6, .int (nI k60)), (0, .ref h0), (1, .int (nI j)), (2, .int (nI k)), (3, .int (nI mo))]) hx hb dX11_doTurns_141 hl (k := 2) rfl ((rfl : nI k50 + Int32.ofInt 1 = nI k50 + 1).trans (nI_add k50 1)) (by decide) rfl (fun ls hl => ?_)
                    refine lv_goto (tgt := 50) hx hb dX11_doTurns_144 (by decide) ?_
                    exact ih50 (k50 + 1) 1 f60_m36 _ _ _ (by omega) (by omega) (fun i hi => hv60_0 i (by omega)) (tb_y hv50_1 (by omega) (by rw [← ew30, ← hv60_0 w30 (by omega)]; exact fa_nlt c31)) hP hD hS (lv_sub hl [0, 1, 3, 4, 5, 6] rfl)
              ·
                have c27 : ¬ mo ≤ k60 := fun h => c27 ((nI_leI (a := mo) (b := k60) (by omega) (by omega)).mpr h)
                omega
            | succ d60 ih60 =>
              intro k60 f60_m36 H locs ls hk60 hv60_0 hv60_1 hP hD hS hl
              refine lv_iload hx hb dX11_doTurns_60 (lv_at hl 0 rfl) ?_
              refine lv_iload_n hx hb dX11_doTurns_62 rfl (lv_at hl 6 rfl) ?_
              refine lv_icmp_ge (tgt := 115) hx hb dX11_doTurns_63 (by decide) (fun c32 => ?_) (fun c32 => ?_)
              ·
                have c32 : mo ≤ k60 := (nI_leI (a := mo) (b := k60) (by omega) (by omega)).mp c32
                omega
              ·
                have c32 : ¬ mo ≤ k60 := fun h => c32 ((nI_leI (a := mo) (b := k60) (by omega) (by omega)).mpr h)
                refine lv_aload_n hx hb dX11_doTurns_66 rfl (lv_at hl 3 rfl) ?_
                refine va_get (D := (dC, dI)) (ci := 11) (v := .ref m36) (C := RX11) (T := TX11) (N := 46) hx hb hts hi_X11 hown hK hP 0 rfl rfl 36 (by decide) (hts (.fieldLink RX11 71 "LeftQuillsModel" "softs" "[I") (wmx 1 rfl)) (fun _ h9 => h9) e_h0_36 dX11_doTurns_67 ?_
                refine lv_iload hx hb dX11_doTurns_70 (lv_at hl 0 rfl) ?_
                refine lv_iload hx hb dX11_doTurns_72 (lv_at hl 0 rfl) ?_
                refine lv_iload hx hb dX11_doTurns_74 (lv_at hl 1 rfl) ?_
                refine lv_iload_n hx hb dX11_doTurns_76 rfl (lv_at hl 6 rfl) ?_
                refine lv_irem hx hb dX11_doTurns_77 (nI_ne0 (n := mo) (by omega) (by omega)) ?_
                refine lv_topi (fun z33 ez33 => ?_)
                obtain ⟨w34, hw34, ew34⟩ : ∃ y : Nat, y < mo ∧ y = k50 % mo := ⟨_, Nat.mod_lt _ (by omega), rfl⟩
                obtain rfl : z33 = nI w34 := by rw [ew34]; exact ez33.trans (pk_rem (a := k50) (d := mo) (by omega) (by omega) (by omega))
                refine lv_icmp_ne (tgt := 97) hx hb dX11_doTurns_78 (by decide) (fun c35 => ?_) (fun c35 => ?_)
                ·
                  have c35 : ¬ k60 = w34 := fun h => c35 ((nI_eq (a := k60) (b := w34) (by omega) (by omega)).mpr h)
                  refine lv_aload_n hx hb dX11_doTurns_97 rfl (lv_at hl 3 rfl) ?_
                  refine va_get (D := (dC, dI)) (ci := 11) (v := .ref m36) (C := RX11) (T := TX11) (N := 46) hx hb hts hi_X11 hown hK hP 0 rfl rfl 36 (by decide) (hts (.fieldLink RX11 71 "LeftQuillsModel" "softs" "[I") (wmx 1 rfl)) (fun _ h9 => h9) e_h0_36 dX11_doTurns_98 ?_
                  refine lv_iload hx hb dX11_doTurns_101 (lv_at hl 0 rfl) ?_
                  refine va_iald hx hb hK hP 8 0 rfl rfl (vp_in_nI (n := k60) (N := 9) (by omega) (by decide)) dX11_doTurns_103 ?_
                  refine W.eq (g2 := F0 m 104 ls [.int (f60_m36 k60), .int (nI k60), .ref m36]) (congrArg (fun y9 => F0 m 104 ls (.int (f60_m36 y9) :: [.int (nI k60), .ref m36])) ((nI_clamp (n := k60) (by omega)))) ?_
                  refine lv_iconst (v := 1) hx hb dX11_doTurns_104 (by decide) ?_
                  have hPc := hP.sub (ws' := []) [] rfl
                  refine va_calli (va_runS (As := [.int (f60_m36 k60), .int 1]) (rest := [.int (nI k60), .ref m36]) ⟨hx, hb, hml, hown, hts⟩ (c_X11_driedByD l dC dI cI cZ cQ (f60_m36 k60) 1 H.size ) (va_cwS 2 hts gX11_doTurns_X11_driedBy rfl rfl rfl (by decide +kernel) ⟨Nat.le_of_ble_eq_true rfl, Nat.le_of_ble_eq_true rfl⟩) ⟨fun a U g mk q => by obtain ⟨q0, q1, qP, qK⟩ := q; exact ⟨q0, q1, qP, va_K.moved (u := U) (U := U.calling g mk a) (Vm.Alike.refl U.vm) qK⟩, fun U hU hW => ⟨rfl, by rw [hU], by rw [hU]; exact hPc, va_K.moved hW.alike hK⟩⟩ rfl rfl hl.1 rfl (lv_room (Nat.le_of_ble_eq_true rfl)) dX11_doTurns_105 ⟨Nat.le_of_ble_eq_true rfl, Nat.le_of_ble_eq_true rfl⟩) hS (fun q _ h => False.elim h) (fun q h => False.elim h) (fun r36 u37 t H1 locs ht hvm hw38 hB hz1 hk1 hS => ?_)
                  have hP := hP.kept (fun k q hk => hk1 q.1 (hP k q hk).lt (fun h => h))
                  clear hz1 hk1 hPc
                  generalize H1 = H at hP hS ht ⊢
                  try dsimp only at hw38
                  subst hw38
                  refine va_iast hx hb hK hP hD hS 8 0 rfl rfl (vp_in_nI (n := k60) (N := 9) (by omega) (by decide)) dX11_doTurns_108 (fun H locs hP hD hS => ?_)
                  have hcl := (nI_clamp (n := k60) (by omega))
                  rw [hcl] at hP hD
                  clear hcl
                  have hP : va_P (dC, dI) vwCl [(h0, .inr (11, f_h0)), (m3, .inl (cI, 8, .inl fm3)), (m4, .inl (cI, 8, .inl fm4)), (m5, .inl (cI, 8, .inl fm5)), (m7, .inl (cI, 4, .inl fm7)), (m8, .inl (cI, 4, .inl fm8)), (m9, .inl (cI, 4, .inl fm9)), (m10, .inl (cI, 34, .inl fm10)), (m36, .inl (cI, 9, .inl (upd f60_m36 k60 (dsF (f60_m36 k60) 1))))] H := hP
                  have hD : va_D A [(h0, .inr (11, f_h0)), (m3, .inl (cI, 8, .inl fm3)), (m4, .inl (cI, 8, .inl fm4)), (m5, .inl (cI, 8, .inl fm5)), (m7, .inl (cI, 4, .inl fm7)), (m8, .inl (cI, 4, .inl fm8)), (m9, .inl (cI, 4, .inl fm9)), (m10, .inl (cI, 34, .inl fm10)), (m36, .inl (cI, 9, .inl (upd f60_m36 k60 (dsF (f60_m36 k60) 1))))] := hD
                  refine lv_iinc (v := nI (k60 + 1)) (lv' := [(6, .int (nI (k60 + 1))), (5, .int (nI k50)), (4, .int (nI a50_4)), (0, .ref h0), (1, .int (nI j)), (2, .int (nI k)), (3, .int (nI mo))]) hx hb dX11_doTurns_109 hl (k := 0) rfl ((rfl : nI k60 + Int32.ofInt 1 = nI k60 + 1).trans (nI_add k60 1)) (by decide) rfl (fun ls hl => ?_)
                  refine lv_goto (tgt := 60) hx hb dX11_doTurns_112 (by decide) ?_
                  exact ih60 (k60 + 1) (upd f60_m36 k60 (dsF (f60_m36 k60) 1)) _ _ _ (by omega) (upd_all hv60_0 (ts_n hv60_1 (by omega) c35 ew34)) (ts_up2 hv60_1) hP hD hS (lv_sub hl [0, 1, 2, 3, 4, 5, 6] rfl)
                ·
                  have c35 : k60 = w34 := (nI_eq (a := k60) (b := w34) (by omega) (by omega)).mp c35
                  refine lv_aload_n hx hb dX11_doTurns_81 rfl (lv_at hl 3 rfl) ?_
                  refine lv_aload_n hx hb dX11_doTurns_82 rfl (lv_at hl 3 rfl) ?_
                  refine va_get (D := (dC, dI)) (ci := 11) (v := .ref m36) (C := RX11) (T := TX11) (N := 46) hx hb hts hi_X11 hown hK hP 0 rfl rfl 36 (by decide) (hts (.fieldLink RX11 71 "LeftQuillsModel" "softs" "[I") (wmx 1 rfl)) (fun _ h9 => h9) e_h0_36 dX11_doTurns_83 ?_
                  refine lv_iload hx hb dX11_doTurns_86 (lv_at hl 0 rfl) ?_
                  refine va_iald hx hb hK hP 8 0 rfl rfl (vp_in_nI (n := k60) (N := 9) (by omega) (by decide)) dX11_doTurns_88 ?_
                  refine W.eq (g2 := F0 m 89 ls [.int (f60_m36 k60), .ref h0, .int (nI k60), .ref m36]) (congrArg (fun y9 => F0 m 89 ls (.int (f60_m36 y9) :: [.ref h0, .int (nI k60), .ref m36])) ((nI_clamp (n := k60) (by omega)))) ?_
                  refine lv_iload_n hx hb dX11_doTurns_89 rfl (lv_at hl 4 rfl) ?_
                  refine lv_iload_n hx hb dX11_doTurns_90 rfl (lv_at hl 5 rfl) ?_
                  have hPc := hP.sub (ws' := [(h0, .inr (11, f_h0)), (m3, .inl (cI, 8, .inl fm3)), (m4, .inl (cI, 8, .inl fm4)), (m5, .inl (cI, 8, .inl fm5)), (m7, .inl (cI, 4, .inl fm7)), (m8, .inl (cI, 4, .inl fm8))]) [0, 1, 2, 3, 4, 5] rfl
                  refine va_calli (va_runV (As := [.int (f60_m36 k60), .int (nI j), .int (nI k)]) (rest := [.int (nI k60), .ref m36]) ⟨hx, hb, hml, hown, hts⟩ (c_X11_softBehindD l dC dI cI cZ cQ h0 m3 m4 m5 m7 m8 f_h0 fm3 fm4 fm5 fm7 fm8 (f60_m36 k60) j k nq H.size e_h0_3 e_h0_4 e_h0_5 e_h0_7 e_h0_8 (by omega) (by first | assumption | decide) (by omega) (by omega)) (cwV 3 hts gX11_doTurns_X11_softBehind rfl rfl rfl (by decide +kernel) ⟨Nat.le_of_ble_eq_true rfl, Nat.le_of_ble_eq_true rfl⟩) ⟨fun a U g mk q => by obtain ⟨q0, q1, qP, qK⟩ := q; exact ⟨q0, q1, qP, va_K.moved (u := U) (U := U.calling g mk a) (Vm.Alike.refl U.vm) qK⟩, va_recv hK hP (ci := 11) (q0 := 0) rfl rfl, fun U hU hW => ⟨rfl, by rw [hU], by rw [hU]; exact hPc, va_K.moved hW.alike hK⟩⟩ rfl rfl hl.1 rfl (lv_room (Nat.le_of_ble_eq_true rfl)) dX11_doTurns_91 ⟨Nat.le_of_ble_eq_true rfl, Nat.le_of_ble_eq_true rfl⟩) hS (fun q _ h => False.elim h) (fun q h => False.elim h) (fun r40 u41 t H1 locs ht hvm hw42 hB hz1 hk1 hS => ?_)
                  have hP := hP.kept (fun k q hk => hk1 q.1 (hP k q hk).lt (fun h => h))
                  clear hz1 hk1 hPc
                  generalize H1 = H at hP hS ht ⊢
                  try dsimp only at hw42
                  subst hw42
                  refine lv_goto (tgt := 108) hx hb dX11_doTurns_94 (by decide) ?_
                  refine va_iast hx hb hK hP hD hS 8 0 rfl rfl (vp_in_nI (n := k60) (N := 9) (by omega) (by decide)) dX11_doTurns_108 (fun H locs hP hD hS => ?_)
                  have hcl := (nI_clamp (n := k60) (by omega))
                  rw [hcl] at hP hD
                  clear hcl
                  have hP : va_P (dC, dI) vwCl [(h0, .inr (11, f_h0)), (m3, .inl (cI, 8, .inl fm3)), (m4, .inl (cI, 8, .inl fm4)), (m5, .inl (cI, 8, .inl fm5)), (m7, .inl (cI, 4, .inl fm7)), (m8, .inl (cI, 4, .inl fm8)), (m9, .inl (cI, 4, .inl fm9)), (m10, .inl (cI, 34, .inl fm10)), (m36, .inl (cI, 9, .inl (upd f60_m36 k60 (sbF (f60_m36 k60) (wrF (fm3 j) (fm4 j) (fm5 j) (fm7 k) (fm8 k))))))] H := hP
                  have hD : va_D A [(h0, .inr (11, f_h0)), (m3, .inl (cI, 8, .inl fm3)), (m4, .inl (cI, 8, .inl fm4)), (m5, .inl (cI, 8, .inl fm5)), (m7, .inl (cI, 4, .inl fm7)), (m8, .inl (cI, 4, .inl fm8)), (m9, .inl (cI, 4, .inl fm9)), (m10, .inl (cI, 34, .inl fm10)), (m36, .inl (cI, 9, .inl (upd f60_m36 k60 (sbF (f60_m36 k60) (wrF (fm3 j) (fm4 j) (fm5 j) (fm7 k) (fm8 k))))))] := hD
                  refine lv_iinc (v := nI (k60 + 1)) (lv' := [(6, .int (nI (k60 + 1))), (5, .int (nI k50)), (4, .int (nI a50_4)), (0, .ref h0), (1, .int (nI j)), (2, .int (nI k)), (3, .int (nI mo))]) hx hb dX11_doTurns_109 hl (k := 0) rfl ((rfl : nI k60 + Int32.ofInt 1 = nI k60 + 1).trans (nI_add k60 1)) (by decide) rfl (fun ls hl => ?_)
                  refine lv_goto (tgt := 60) hx hb dX11_doTurns_112 (by decide) ?_
                  exact ih60 (k60 + 1) (upd f60_m36 k60 (sbF (f60_m36 k60) (wrF (fm3 j) (fm4 j) (fm5 j) (fm7 k) (fm8 k)))) _ _ _ (by omega) (upd_all hv60_0 (ts_y hv60_1 (by omega) c35 ew34)) (ts_up2 hv60_1) hP hD hS (lv_sub hl [0, 1, 2, 3, 4, 5, 6] rfl)
    ·
      have c1 : ¬ mo ≤ k3 := fun h => c1 ((nI_leI (a := mo) (b := k3) (by omega) (by omega)).mpr h)
      omega
  | succ d3 ih3 =>
    intro k3 f3_m36 H locs ls hk3 hv3_0 hP hD hS hl
    refine lv_iload hx hb dX11_doTurns_3 (lv_at hl 0 rfl) ?_
    refine lv_iload_n hx hb dX11_doTurns_5 rfl (lv_at hl 4 rfl) ?_
    refine lv_icmp_ge (tgt := 31) hx hb dX11_doTurns_6 (by decide) (fun c44 => ?_) (fun c44 => ?_)
    ·
      have c44 : mo ≤ k3 := (nI_leI (a := mo) (b := k3) (by omega) (by omega)).mp c44
      omega
    ·
      have c44 : ¬ mo ≤ k3 := fun h => c44 ((nI_leI (a := mo) (b := k3) (by omega) (by omega)).mpr h)
      refine lv_aload_n hx hb dX11_doTurns_9 rfl (lv_at hl 1 rfl) ?_
      refine va_get (D := (dC, dI)) (ci := 11) (v := .ref m36) (C := RX11) (T := TX11) (N := 46) hx hb hts hi_X11 hown hK hP 0 rfl rfl 36 (by decide) (hts (.fieldLink RX11 71 "LeftQuillsModel" "softs" "[I") (wmx 1 rfl)) (fun _ h9 => h9) e_h0_36 dX11_doTurns_10 ?_
      refine lv_iload hx hb dX11_doTurns_13 (lv_at hl 0 rfl) ?_
      refine lv_aload_n hx hb dX11_doTurns_15 rfl (lv_at hl 1 rfl) ?_
      refine va_get (D := (dC, dI)) (ci := 11) (v := .ref m10) (C := RX11) (T := TX11) (N := 46) hx hb hts hi_X11 hown hK hP 0 rfl rfl 10 (by decide) (hts (.fieldLink RX11 28 "LeftQuillsModel" "now" "[I") (wmx 2 rfl)) (fun _ h9 => h9) e_h0_10 dX11_doTurns_16 ?_
      refine lv_bipush (v := 16) hx hb dX11_doTurns_19 (by decide) ?_
      refine lv_iload_n hx hb dX11_doTurns_21 rfl (lv_at hl 2 rfl) ?_
      refine lv_iadd hx hb dX11_doTurns_22 ?_
      refine lv_topi (fun z45 ez45 => ?_)
      obtain rfl : z45 = nI (16 + j) := ez45.trans (nI_add 16 j)
      refine va_iald hx hb hK hP 7 0 rfl rfl (vp_in_nI (n := 16 + j) (N := 34) (by omega) (by decide)) dX11_doTurns_23 ?_
      refine W.eq (g2 := F0 m 24 ls [.int (fm10 (16 + j)), .int (nI k3), .ref m36]) (congrArg (fun y9 => F0 m 24 ls (.int (fm10 y9) :: [.int (nI k3), .ref m36])) ((nI_clamp (n := 16 + j) (by omega)))) ?_
      refine va_iast hx hb hK hP hD hS 8 0 rfl rfl (vp_in_nI (n := k3) (N := 9) (by omega) (by decide)) dX11_doTurns_24 (fun H locs hP hD hS => ?_)
      have hcl := (nI_clamp (n := k3) (by omega))
      rw [hcl] at hP hD
      clear hcl
      have hP : va_P (dC, dI) vwCl [(h0, .inr (11, f_h0)), (m3, .inl (cI, 8, .inl fm3)), (m4, .inl (cI, 8, .inl fm4)), (m5, .inl (cI, 8, .inl fm5)), (m7, .inl (cI, 4, .inl fm7)), (m8, .inl (cI, 4, .inl fm8)), (m9, .inl (cI, 4, .inl fm9)), (m10, .inl (cI, 34, .inl fm10)), (m36, .inl (cI, 9, .inl (upd f3_m36 k3 (fm10 (16 + j)))))] H := hP
      have hD : va_D A [(h0, .inr (11, f_h0)), (m3, .inl (cI, 8, .inl fm3)), (m4, .inl (cI, 8, .inl fm4)), (m5, .inl (cI, 8, .inl fm5)), (m7, .inl (cI, 4, .inl fm7)), (m8, .inl (cI, 4, .inl fm8)), (m9, .inl (cI, 4, .inl fm9)), (m10, .inl (cI, 34, .inl fm10)), (m36, .inl (cI, 9, .inl (upd f3_m36 k3 (fm10 (16 + j)))))] := hD
      refine lv_iinc (v := nI (k3 + 1)) (lv' := [(4, .int (nI (k3 + 1))), (0, .ref h0), (1, .int (nI j)), (2, .int (nI k)), (3, .int (nI mo))]) hx hb dX11_doTurns_25 hl (k := 0) rfl ((rfl : nI k3 + Int32.ofInt 1 = nI k3 + 1).trans (nI_add k3 1)) (by decide) rfl (fun ls hl => ?_)
      refine lv_goto (tgt := 3) hx hb dX11_doTurns_28 (by decide) ?_
      exact ih3 (k3 + 1) (upd f3_m36 k3 (fm10 (16 + j))) _ _ _ (by omega) (upd_all hv3_0 rfl) hP hD hS (lv_sub hl [0, 1, 2, 3, 4] rfl)
set_option maxHeartbeats 4000000 in
set_option maxRecDepth 100000 in
theorem c_X11_byTurnsD (l : Launch) (dC : Nat → ClassId) (dI : Nat → Nat → Nat) (cI cZ cQ : ClassId) (h0 : Nat) (nq : Nat) (nh : Nat) (m3 : Nat) (m4 : Nat) (m5 : Nat) (m7 : Nat) (m8 : Nat) (m9 : Nat) (m10 : Nat) (m36 : Nat) (f_h0 : List Value) (fm3 : Nat → Int32) (fm4 : Nat → Int32) (fm5 : Nat → Int32) (fm7 : Nat → Int32) (fm8 : Nat → Int32) (fm9 : Nat → Int32) (fm10 : Nat → Int32) (fm36 : Nat → Int32) (q0 : Int32) (q1 : Int32) (sz : Nat) (e_h0_2 : fAt f_h0 2 = some (.int (nI nq))) (e_h0_6 : fAt f_h0 6 = some (.int (nI nh))) (e_h0_3 : fAt f_h0 3 = some (.ref m3)) (e_h0_4 : fAt f_h0 4 = some (.ref m4)) (e_h0_5 : fAt f_h0 5 = some (.ref m5)) (e_h0_7 : fAt f_h0 7 = some (.ref m7)) (e_h0_8 : fAt f_h0 8 = some (.ref m8)) (e_h0_9 : fAt f_h0 9 = some (.ref m9)) (e_h0_10 : fAt f_h0 10 = some (.ref m10)) (e_h0_36 : fAt f_h0 36 = some (.ref m36)) (hnq : nq ≤ 8) (hci : cIn fm5 nq) (hnh : nh ≤ 4) : Met l yX11_byTurns wsX11_byTurns ({ frames := 4, cells := 0, slots := 0, locals := 135 }) (va_Pc [.ref h0, .int q0, .int q1] (fun U => U.heap.size = sz ∧ va_P (dC, dI) vwCl [(h0, .inr (11, f_h0)), (m3, .inl (cI, 8, .inl fm3)), (m4, .inl (cI, 8, .inl fm4)), (m5, .inl (cI, 8, .inl fm5)), (m7, .inl (cI, 4, .inl fm7)), (m8, .inl (cI, 4, .inl fm8)), (m9, .inl (cI, 4, .inl fm9)), (m10, .inl (cI, 34, .inl fm10)), (m36, .inl (cI, 9, .inl fm36))] U.heap ∧ va_K (dC, dI) vwCl (tys0 cI cZ cQ) U ∧ va_D (fun _ => True) [(h0, .inr (11, f_h0)), (m3, .inl (cI, 8, .inl fm3)), (m4, .inl (cI, 8, .inl fm4)), (m5, .inl (cI, 8, .inl fm5)), (m7, .inl (cI, 4, .inl fm7)), (m8, .inl (cI, 4, .inl fm8)), (m9, .inl (cI, 4, .inl fm9)), (m10, .inl (cI, 34, .inl fm10)), (m36, .inl (cI, 9, .inl fm36))])) (va_Qi (fun (r : Int32) (u : Nat → Nat) => buP nq nh q0 q1 (fun j k m => lmB (fm10 (8 + j)) (fm9 k) = true ∧ toP m (fm10 (16 + j)) (wrF (fm3 j) (fm4 j) (fm5 j) (fm7 k) (fm8 k))) r) (fun (_ : Nat → Nat) (t : State) => ∃ (gg0 : Nat → Int32) , va_P (dC, dI) vwCl [(h0, .inr (11, f_h0)), (m3, .inl (cI, 8, .inl fm3)), (m4, .inl (cI, 8, .inl fm4)), (m5, .inl (cI, 8, .inl fm5)), (m7, .inl (cI, 4, .inl fm7)), (m8, .inl (cI, 4, .inl fm8)), (m9, .inl (cI, 4, .inl fm9)), (m10, .inl (cI, 34, .inl fm10)), (m36, .inl (cI, 9, .inl gg0))] t.heap ∧ va_D (va_A [(h0, .inr (11, f_h0)), (m3, .inl (cI, 8, .inl fm3)), (m4, .inl (cI, 8, .inl fm4)), (m5, .inl (cI, 8, .inl fm5)), (m7, .inl (cI, 4, .inl fm7)), (m8, .inl (cI, 4, .inl fm8)), (m9, .inl (cI, 4, .inl fm9)), (m10, .inl (cI, 34, .inl fm10)), (m36, .inl (cI, 9, .inl fm36))] sz) [(h0, .inr (11, f_h0)), (m3, .inl (cI, 8, .inl fm3)), (m4, .inl (cI, 8, .inl fm4)), (m5, .inl (cI, 8, .inl fm5)), (m7, .inl (cI, 4, .inl fm7)), (m8, .inl (cI, 4, .inl fm8)), (m9, .inl (cI, 4, .inl fm9)), (m10, .inl (cI, 34, .inl fm10)), (m36, .inl (cI, 9, .inl gg0))]) (va_A [(h0, .inr (11, f_h0)), (m3, .inl (cI, 8, .inl fm3)), (m4, .inl (cI, 8, .inl fm4)), (m5, .inl (cI, 8, .inl fm5)), (m7, .inl (cI, 4, .inl fm7)), (m8, .inl (cI, 4, .inl fm8)), (m9, .inl (cI, 4, .inl fm9)), (m10, .inl (cI, 34, .inl fm10)), (m36, .inl (cI, 9, .inl fm36))] sz)) 0 0 (va_A [(h0, .inr (11, f_h0)), (m3, .inl (cI, 8, .inl fm3)), (m4, .inl (cI, 8, .inl fm4)), (m5, .inl (cI, 8, .inl fm5)), (m7, .inl (cI, 4, .inl fm7)), (m8, .inl (cI, 4, .inl fm8)), (m9, .inl (cI, 4, .inl fm9)), (m10, .inl (cI, 34, .inl fm10)), (m36, .inl (cI, 9, .inl fm36))] sz) := by
  refine Met.ofW (cc := cX11_byTurns) (maxL := 4) (ret := (some .int)) (by decide) rfl ?_
  intro p e s m args below meth c s₁ B hml hv
  obtain ⟨rfl, hsz, hP, hK, hD0⟩ := hv
  have hx := B.exec
  have hb := B.bytes
  have hr := B.returns
  have hts := atoms_spec (ws := wsX11_byTurns) B.pre
  have hown : s.vm.findClass RX11 = some m.cls := findClass_of_methodNamed B.named
  have hlocks := B.notSynchronized
  subst hsz
  have hD := hD0.self (sz := s.heap.size)
  generalize hAe : va_A [(h0, .inr (11, f_h0)), (m3, .inl (cI, 8, .inl fm3)), (m4, .inl (cI, 8, .inl fm4)), (m5, .inl (cI, 8, .inl fm5)), (m7, .inl (cI, 4, .inl fm7)), (m8, .inl (cI, 4, .inl fm8)), (m9, .inl (cI, 4, .inl fm9)), (m10, .inl (cI, 34, .inl fm10)), (m36, .inl (cI, 9, .inl fm36))] s.heap.size = A at hD ⊢
  have hA : ∀ q : Nat, s.heap.size ≤ q → A q := fun q h => by rw [← hAe]; exact Or.inr h
  have hS : va_S A s.heap s.heap [] := va_S.rf
  have hl := lv_entry ([.ref h0, .int q0, .int q1]) (n := 4) (Nat.le_of_ble_eq_true rfl)
  rw [lg_entry_eq]
  generalize (lg_sl ([.ref h0, .int q0, .int q1]) ++ List.replicate (4 - (lg_sl ([.ref h0, .int q0, .int q1])).length) Slot.unset).toArray = ls at hl ⊢
  have hl : lv_has ls 4 [(0, .ref h0), (1, .int q0), (2, .int q1)] := hl
  refine lv_aload_n hx hb dX11_byTurns_0 rfl (lv_at hl 0 rfl) ?_
  refine lv_iload_n hx hb dX11_byTurns_1 rfl (lv_at hl 1 rfl) ?_
  have hPc := hP.sub (ws' := [(h0, .inr (11, f_h0))]) [0] rfl
  refine va_calli (va_runV (As := [.int q0]) (rest := []) ⟨hx, hb, hml, hown, hts⟩ (c_X11_isQuill l dC dI cI cZ cQ h0 (nI nq) f_h0 q0 s.heap.size e_h0_2 (nI_pos' (n := nq) (by omega))) (cwV 1 hts gX11_byTurns_X11_isQuill rfl rfl rfl (by decide +kernel) ⟨Nat.le_of_ble_eq_true rfl, Nat.le_of_ble_eq_true rfl⟩) ⟨fun a U g mk q => by obtain ⟨q0, q1, qP, qK⟩ := q; exact ⟨q0, q1, qP, va_K.moved (u := U) (U := U.calling g mk a) (Vm.Alike.refl U.vm) qK⟩, va_recv hK hP (ci := 11) (q0 := 0) rfl rfl, fun U hU hW => ⟨rfl, by rw [hU], by rw [hU]; exact hPc, va_K.moved hW.alike hK⟩⟩ rfl rfl hl.1 rfl (lv_room (Nat.le_of_ble_eq_true rfl)) dX11_byTurns_2 ⟨Nat.le_of_ble_eq_true rfl, Nat.le_of_ble_eq_true rfl⟩) hS (fun q _ h => False.elim h) (fun q h => False.elim h) (fun r1 u2 t H1 locs ht hvm hw3 hB hz1 hk1 hS => ?_)
  have hP := hP.kept (fun k q hk => hk1 q.1 (hP k q hk).lt (fun h => h))
  clear hz1 hk1 hPc
  generalize H1 = H at hP hS ht ⊢
  try dsimp only at hw3
  rcases hw3 with ⟨rfl, hw3⟩ | ⟨rfl, hw3⟩
  ·
    obtain ⟨j4, hj4, rfl⟩ := x_ix hw3 (by omega)
    refine lv_if_eq (tgt := 16) hx hb dX11_byTurns_5 (by decide) (fun c5 => ?_) (fun c5 => ?_)
    · exact absurd c5 (by decide)
    clear c5
    refine lv_aload_n hx hb dX11_byTurns_8 rfl (lv_at hl 0 rfl) ?_
    refine lv_iload_n hx hb dX11_byTurns_9 rfl (lv_at hl 2 rfl) ?_
    have hPc := hP.sub (ws' := [(h0, .inr (11, f_h0))]) [0] rfl
    refine va_calli (va_runV (As := [.int q1]) (rest := []) ⟨hx, hb, hml, hown, hts⟩ (c_X11_isHand l dC dI cI cZ cQ h0 (nI nh) f_h0 q1 H.size e_h0_6 (nI_pos' (n := nh) (by omega))) (cwV 1 hts gX11_byTurns_X11_isHand rfl rfl rfl (by decide +kernel) ⟨Nat.le_of_ble_eq_true rfl, Nat.le_of_ble_eq_true rfl⟩) ⟨fun a U g mk q => by obtain ⟨q0, q1, qP, qK⟩ := q; exact ⟨q0, q1, qP, va_K.moved (u := U) (U := U.calling g mk a) (Vm.Alike.refl U.vm) qK⟩, va_recv hK hP (ci := 11) (q0 := 0) rfl rfl, fun U hU hW => ⟨rfl, by rw [hU], by rw [hU]; exact hPc, va_K.moved hW.alike hK⟩⟩ rfl rfl hl.1 rfl (lv_room (Nat.le_of_ble_eq_true rfl)) dX11_byTurns_10 ⟨Nat.le_of_ble_eq_true rfl, Nat.le_of_ble_eq_true rfl⟩) hS (fun q _ h => False.elim h) (fun q h => False.elim h) (fun r6 u7 t H1 locs ht hvm hw8 hB hz1 hk1 hS => ?_)
    have hP := hP.kept (fun k q hk => hk1 q.1 (hP k q hk).lt (fun h => h))
    clear hz1 hk1 hPc
    generalize H1 = H at hP hS ht ⊢
    try dsimp only at hw8
    rcases hw8 with ⟨rfl, hw8⟩ | ⟨rfl, hw8⟩
    ·
      obtain ⟨j9, hj9, rfl⟩ := x_ix hw8 (by omega)
      refine lv_if_ne (tgt := 19) hx hb dX11_byTurns_13 (by decide) (fun c10 => ?_) (fun c10 => ?_)
      rotate_left
      · exact absurd c10 (by decide)
      clear c10
      refine lv_iconst (v := 1) hx hb dX11_byTurns_19 (by decide) ?_
      refine lv_istore_n (lv' := [(3, .int 1), (0, .ref h0), (1, .int (nI j4)), (2, .int (nI j9))]) hx hb dX11_byTurns_20 rfl hl (by decide) rfl (fun ls hl => ?_)
      refine (fun (K : ∀ (d21 : Nat) (k21 : Nat) (f21_m36 : Nat → Int32) (H : Heap) (locs : List Loc) (ls : Array Slot), k21 + d21 = 10 → 1 ≤ k21 → (∀ m, 1 ≤ m → m < k21 → ¬ (fun j k m => lmB (fm10 (8 + j)) (fm9 k) = true ∧ toP m (fm10 (16 + j)) (wrF (fm3 j) (fm4 j) (fm5 j) (fm7 k) (fm8 k))) j4 j9 m) → va_P (dC, dI) vwCl [(h0, .inr (11, f_h0)), (m3, .inl (cI, 8, .inl fm3)), (m4, .inl (cI, 8, .inl fm4)), (m5, .inl (cI, 8, .inl fm5)), (m7, .inl (cI, 4, .inl fm7)), (m8, .inl (cI, 4, .inl fm8)), (m9, .inl (cI, 4, .inl fm9)), (m10, .inl (cI, 34, .inl fm10)), (m36, .inl (cI, 9, .inl f21_m36))] H → va_D A [(h0, .inr (11, f_h0)), (m3, .inl (cI, 8, .inl fm3)), (m4, .inl (cI, 8, .inl fm4)), (m5, .inl (cI, 8, .inl fm5)), (m7, .inl (cI, 4, .inl fm7)), (m8, .inl (cI, 4, .inl fm8)), (m9, .inl (cI, 4, .inl fm9)), (m10, .inl (cI, 34, .inl fm10)), (m36, .inl (cI, 9, .inl f21_m36))] → va_S A s.heap H locs → lv_has ls 4 [(3, .int (nI k21)), (0, .ref h0), (1, .int (nI j4)), (2, .int (nI j9))] → W p l e _ s m _ below meth c H locs _ _ _ (F0 m 21 ls [])) => K (10 - 1) 1 fm36 _ _ _ (by omega) (by omega) (fun m h1 h2 => absurd h2 (by omega)) hP hD hS (lv_sub hl [0, 1, 2, 3] rfl)) ?_
      intro d21
      induction d21 with
      | zero =>
        intro k21 f21_m36 H locs ls hk21 hlo21 hv21_0 hP hD hS hl
        refine lv_iload_n hx hb dX11_byTurns_21 rfl (lv_at hl 0 rfl) ?_
        refine lv_bipush (v := 9) hx hb dX11_byTurns_22 (by decide) ?_
        refine lv_icmp_gt (tgt := 45) hx hb dX11_byTurns_24 (by decide) (fun c11 => ?_) (fun c11 => ?_)
        ·
          have c11 : 9 < k21 := (nI_ltI (a := 9) (b := k21) (by omega) (by omega)).mp c11
          refine lv_iconst (v := (-1)) hx hb dX11_byTurns_45 (by decide) ?_
          have hP9 := hP.sub (ws' := [(h0, .inr (11, f_h0)), (m3, .inl (cI, 8, .inl fm3)), (m4, .inl (cI, 8, .inl fm4)), (m5, .inl (cI, 8, .inl fm5)), (m7, .inl (cI, 4, .inl fm7)), (m8, .inl (cI, 4, .inl fm8)), (m9, .inl (cI, 4, .inl fm9)), (m10, .inl (cI, 34, .inl fm10)), (m36, .inl (cI, 9, .inl f21_m36))]) [0, 1, 2, 3, 4, 5, 6, 7, 8] rfl
          have hD9 := hD.sub (ws' := [(h0, .inr (11, f_h0)), (m3, .inl (cI, 8, .inl fm3)), (m4, .inl (cI, 8, .inl fm4)), (m5, .inl (cI, 8, .inl fm5)), (m7, .inl (cI, 4, .inl fm7)), (m8, .inl (cI, 4, .inl fm8)), (m9, .inl (cI, 4, .inl fm9)), (m10, .inl (cI, 34, .inl fm10)), (m36, .inl (cI, 9, .inl f21_m36))]) [0, 1, 2, 3, 4, 5, 6, 7, 8] (by decide +kernel) rfl
          exact W.iret (v := (-1)) hx hb hr (fun t ht hW => ⟨⟨(-1), (fun _ => 0), rfl, (bu_y hw3 hw8 (by omega) (by omega) (Or.inl ⟨rfl, fun m h1 h2 => hv21_0 m h1 (by omega)⟩)), ⟨f21_m36, by rw [ht]; exact hP9, hD9⟩⟩, hS.F ht⟩) hS.2.2 dX11_byTurns_46
        ·
          have c11 : ¬ 9 < k21 := fun h => c11 ((nI_ltI (a := 9) (b := k21) (by omega) (by omega)).mpr h)
          omega
      | succ d21 ih21 =>
        intro k21 f21_m36 H locs ls hk21 hlo21 hv21_0 hP hD hS hl
        refine lv_iload_n hx hb dX11_byTurns_21 rfl (lv_at hl 0 rfl) ?_
        refine lv_bipush (v := 9) hx hb dX11_byTurns_22 (by decide) ?_
        refine lv_icmp_gt (tgt := 45) hx hb dX11_byTurns_24 (by decide) (fun c12 => ?_) (fun c12 => ?_)
        ·
          have c12 : 9 < k21 := (nI_ltI (a := 9) (b := k21) (by omega) (by omega)).mp c12
          omega
        ·
          have c12 : ¬ 9 < k21 := fun h => c12 ((nI_ltI (a := 9) (b := k21) (by omega) (by omega)).mpr h)
          refine lv_aload_n hx hb dX11_byTurns_27 rfl (lv_at hl 1 rfl) ?_
          refine lv_iload_n hx hb dX11_byTurns_28 rfl (lv_at hl 2 rfl) ?_
          refine lv_iload_n hx hb dX11_byTurns_29 rfl (lv_at hl 3 rfl) ?_
          refine lv_iload_n hx hb dX11_byTurns_30 rfl (lv_at hl 0 rfl) ?_
          have hPc := hP.sub (ws' := [(h0, .inr (11, f_h0)), (m3, .inl (cI, 8, .inl fm3)), (m4, .inl (cI, 8, .inl fm4)), (m5, .inl (cI, 8, .inl fm5)), (m7, .inl (cI, 4, .inl fm7)), (m8, .inl (cI, 4, .inl fm8)), (m9, .inl (cI, 4, .inl fm9)), (m10, .inl (cI, 34, .inl fm10)), (m36, .inl (cI, 9, .inl f21_m36))]) [0, 1, 2, 3, 4, 5, 6, 7, 8] rfl
          have hDc := hD.sub (ws' := [(h0, .inr (11, f_h0)), (m3, .inl (cI, 8, .inl fm3)), (m4, .inl (cI, 8, .inl fm4)), (m5, .inl (cI, 8, .inl fm5)), (m7, .inl (cI, 4, .inl fm7)), (m8, .inl (cI, 4, .inl fm8)), (m9, .inl (cI, 4, .inl fm9)), (m10, .inl (cI, 34, .inl fm10)), (m36, .inl (cI, 9, .inl f21_m36))]) [0, 1, 2, 3, 4, 5, 6, 7, 8] (by decide) rfl
          have hFc := va_free (wc := [(h0, .inr (11, f_h0)), (m3, .inl (cI, 8, .inl fm3)), (m4, .inl (cI, 8, .inl fm4)), (m5, .inl (cI, 8, .inl fm5)), (m7, .inl (cI, 4, .inl fm7)), (m8, .inl (cI, 4, .inl fm8)), (m9, .inl (cI, 4, .inl fm9)), (m10, .inl (cI, 34, .inl fm10)), (m36, .inl (cI, 9, .inl f21_m36))]) hD hS hA [0, 1, 2, 3, 4, 5, 6, 7, 8] rfl
          refine va_calli (va_runV (As := [.int (nI j4), .int (nI j9), .int (nI k21)]) (rest := []) ⟨hx, hb, hml, hown, hts⟩ (c_X11_doTurnsD l dC dI cI cZ cQ h0 m3 m4 m5 m7 m8 m9 m10 m36 f_h0 fm3 fm4 fm5 fm7 fm8 fm9 fm10 f21_m36 j4 j9 k21 nq H.size e_h0_3 e_h0_4 e_h0_5 e_h0_7 e_h0_8 e_h0_9 e_h0_10 e_h0_36 (by omega) (by first | assumption | decide) (by omega) (by omega) (by omega) (by omega)) (cwV 3 hts gX11_byTurns_X11_doTurns rfl rfl rfl (by decide +kernel) ⟨Nat.le_of_ble_eq_true rfl, Nat.le_of_ble_eq_true rfl⟩) ⟨fun a U g mk q => by obtain ⟨q0, q1, qP, qK, qD⟩ := q; exact ⟨q0, q1, qP, va_K.moved (u := U) (U := U.calling g mk a) (Vm.Alike.refl U.vm) qK, qD⟩, va_recv hK hP (ci := 11) (q0 := 0) rfl rfl, fun U hU hW => ⟨rfl, by rw [hU], by rw [hU]; exact hPc, va_K.moved hW.alike hK, hDc.weaken (fun _ _ _ _ => trivial)⟩⟩ rfl rfl hl.1 rfl (lv_room (Nat.le_of_ble_eq_true rfl)) dX11_byTurns_31 ⟨Nat.le_of_ble_eq_true rfl, Nat.le_of_ble_eq_true rfl⟩) hS (fun q _ h => hFc q h) hFc (fun r13 u14 t H1 locs ht hvm hw15 hB hz1 hk1 hS => ?_)
          obtain ⟨f16, hP1, hD1⟩ := hB
          rw [ht] at hP1
          obtain ⟨hP, hD⟩ := va_join (wr := []) (w1 := [(h0, .inr (11, f_h0)), (m3, .inl (cI, 8, .inl fm3)), (m4, .inl (cI, 8, .inl fm4)), (m5, .inl (cI, 8, .inl fm5)), (m7, .inl (cI, 4, .inl fm7)), (m8, .inl (cI, 4, .inl fm8)), (m9, .inl (cI, 4, .inl fm9)), (m10, .inl (cI, 34, .inl fm10)), (m36, .inl (cI, 9, .inl f16))]) hP hD [0, 1, 2, 3, 4, 5, 6, 7, 8] [] rfl rfl (by decide +kernel) (by decide +kernel) hk1 hFc hP1 hD1
          clear hP1 hD1
          clear hz1 hk1 hPc hDc hFc
          generalize H1 = H at hP hS ht ⊢
          have hP : va_P (dC, dI) vwCl [(h0, .inr (11, f_h0)), (m3, .inl (cI, 8, .inl fm3)), (m4, .inl (cI, 8, .inl fm4)), (m5, .inl (cI, 8, .inl fm5)), (m7, .inl (cI, 4, .inl fm7)), (m8, .inl (cI, 4, .inl fm8)), (m9, .inl (cI, 4, .inl fm9)), (m10, .inl (cI, 34, .inl fm10)), (m36, .inl (cI, 9, .inl f16))] H := hP
          have hD : va_D A [(h0, .inr (11, f_h0)), (m3, .inl (cI, 8, .inl fm3)), (m4, .inl (cI, 8, .inl fm4)), (m5, .inl (cI, 8, .inl fm5)), (m7, .inl (cI, 4, .inl fm7)), (m8, .inl (cI, 4, .inl fm8)), (m9, .inl (cI, 4, .inl fm9)), (m10, .inl (cI, 34, .inl fm10)), (m36, .inl (cI, 9, .inl f16))] := hD
          try dsimp only at hw15
          rcases hw15 with ⟨rfl, hw15⟩ | ⟨rfl, hw15⟩
          ·
            refine lv_if_eq (tgt := 39) hx hb dX11_byTurns_34 (by decide) (fun c17 => ?_) (fun c17 => ?_)
            · exact absurd c17 (by decide)
            clear c17
            refine lv_iload_n hx hb dX11_byTurns_37 rfl (lv_at hl 0 rfl) ?_
            have hP9 := hP.sub (ws' := [(h0, .inr (11, f_h0)), (m3, .inl (cI, 8, .inl fm3)), (m4, .inl (cI, 8, .inl fm4)), (m5, .inl (cI, 8, .inl fm5)), (m7, .inl (cI, 4, .inl fm7)), (m8, .inl (cI, 4, .inl fm8)), (m9, .inl (cI, 4, .inl fm9)), (m10, .inl (cI, 34, .inl fm10)), (m36, .inl (cI, 9, .inl f16))]) [0, 1, 2, 3, 4, 5, 6, 7, 8] rfl
            have hD9 := hD.sub (ws' := [(h0, .inr (11, f_h0)), (m3, .inl (cI, 8, .inl fm3)), (m4, .inl (cI, 8, .inl fm4)), (m5, .inl (cI, 8, .inl fm5)), (m7, .inl (cI, 4, .inl fm7)), (m8, .inl (cI, 4, .inl fm8)), (m9, .inl (cI, 4, .inl fm9)), (m10, .inl (cI, 34, .inl fm10)), (m36, .inl (cI, 9, .inl f16))]) [0, 1, 2, 3, 4, 5, 6, 7, 8] (by decide +kernel) rfl
            exact W.iret (v := nI k21) hx hb hr (fun t ht hW => ⟨⟨nI k21, (fun _ => 0), rfl, (bu_y hw3 hw8 (by omega) (by omega) (Or.inr ⟨_, by omega, by omega, rfl, hw15, fun i h1 h2 => hv21_0 i h1 (by omega)⟩)), ⟨f16, by rw [ht]; exact hP9, hD9⟩⟩, hS.F ht⟩) hS.2.2 dX11_byTurns_38
          ·
            refine lv_if_eq (tgt := 39) hx hb dX11_byTurns_34 (by decide) (fun c18 => ?_) (fun c18 => ?_)
            rotate_left
            · exact absurd c18 (by decide)
            clear c18
            refine lv_iinc (v := nI (k21 + 1)) (lv' := [(3, .int (nI (k21 + 1))), (0, .ref h0), (1, .int (nI j4)), (2, .int (nI j9))]) hx hb dX11_byTurns_39 hl (k := 0) rfl ((rfl : nI k21 + Int32.ofInt 1 = nI k21 + 1).trans (nI_add k21 1)) (by decide) rfl (fun ls hl => ?_)
            refine lv_goto (tgt := 21) hx hb dX11_byTurns_42 (by decide) ?_
            exact ih21 (k21 + 1) f16 _ _ _ (by omega) (by omega) (fm_s hv21_0 hw15) hP hD hS (lv_sub hl [0, 1, 2, 3] rfl)
    ·
      refine lv_if_ne (tgt := 19) hx hb dX11_byTurns_13 (by decide) (fun c19 => ?_) (fun c19 => ?_)
      · exact absurd c19 (by decide)
      clear c19
      refine lv_ldc (v := (-1000000001)) hx hb hown (hts (.constant RX11 188 (-1000000001)) (wmx 1 rfl)) dX11_byTurns_16 ?_
      have hP9 := hP.sub (ws' := [(h0, .inr (11, f_h0)), (m3, .inl (cI, 8, .inl fm3)), (m4, .inl (cI, 8, .inl fm4)), (m5, .inl (cI, 8, .inl fm5)), (m7, .inl (cI, 4, .inl fm7)), (m8, .inl (cI, 4, .inl fm8)), (m9, .inl (cI, 4, .inl fm9)), (m10, .inl (cI, 34, .inl fm10)), (m36, .inl (cI, 9, .inl fm36))]) [0, 1, 2, 3, 4, 5, 6, 7, 8] rfl
      have hD9 := hD.sub (ws' := [(h0, .inr (11, f_h0)), (m3, .inl (cI, 8, .inl fm3)), (m4, .inl (cI, 8, .inl fm4)), (m5, .inl (cI, 8, .inl fm5)), (m7, .inl (cI, 4, .inl fm7)), (m8, .inl (cI, 4, .inl fm8)), (m9, .inl (cI, 4, .inl fm9)), (m10, .inl (cI, 34, .inl fm10)), (m36, .inl (cI, 9, .inl fm36))]) [0, 1, 2, 3, 4, 5, 6, 7, 8] (by decide +kernel) rfl
      exact W.iret (v := (-1000000001)) hx hb hr (fun t ht hW => ⟨⟨(-1000000001), (fun _ => 0), rfl, (Or.inl ⟨fun h9 => hw8 h9.2, rfl⟩), ⟨fm36, by rw [ht]; exact hP9, hD9⟩⟩, hS.F ht⟩) hS.2.2 dX11_byTurns_18
  ·
    refine lv_if_eq (tgt := 16) hx hb dX11_byTurns_5 (by decide) (fun c20 => ?_) (fun c20 => ?_)
    rotate_left
    · exact absurd c20 (by decide)
    clear c20
    refine lv_ldc (v := (-1000000001)) hx hb hown (hts (.constant RX11 188 (-1000000001)) (wmx 1 rfl)) dX11_byTurns_16 ?_
    have hP9 := hP.sub (ws' := [(h0, .inr (11, f_h0)), (m3, .inl (cI, 8, .inl fm3)), (m4, .inl (cI, 8, .inl fm4)), (m5, .inl (cI, 8, .inl fm5)), (m7, .inl (cI, 4, .inl fm7)), (m8, .inl (cI, 4, .inl fm8)), (m9, .inl (cI, 4, .inl fm9)), (m10, .inl (cI, 34, .inl fm10)), (m36, .inl (cI, 9, .inl fm36))]) [0, 1, 2, 3, 4, 5, 6, 7, 8] rfl
    have hD9 := hD.sub (ws' := [(h0, .inr (11, f_h0)), (m3, .inl (cI, 8, .inl fm3)), (m4, .inl (cI, 8, .inl fm4)), (m5, .inl (cI, 8, .inl fm5)), (m7, .inl (cI, 4, .inl fm7)), (m8, .inl (cI, 4, .inl fm8)), (m9, .inl (cI, 4, .inl fm9)), (m10, .inl (cI, 34, .inl fm10)), (m36, .inl (cI, 9, .inl fm36))]) [0, 1, 2, 3, 4, 5, 6, 7, 8] (by decide +kernel) rfl
    exact W.iret (v := (-1000000001)) hx hb hr (fun t ht hW => ⟨⟨(-1000000001), (fun _ => 0), rfl, (Or.inl ⟨fun h9 => hw3 h9.1, rfl⟩), ⟨fm36, by rw [ht]; exact hP9, hD9⟩⟩, hS.F ht⟩) hS.2.2 dX11_byTurns_18
