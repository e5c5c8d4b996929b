set_option maxHeartbeats 8000000 in
set_option maxRecDepth 100000 in
theorem law_c9 {p : Program} {e : Env} {s : State} {m : MethodId} {below : List Frame} {meth : Method} {c : Code} (l : Launch) {b L : Nat} {xs : Nat → Int32} (C0 : lw_At p s m meth c b L xs) (hL : L ≤ 256) {dC : Nat → ClassId} {dI : Nat → Nat → Nat} {cI cZ cQ : ClassId} (hK : va_K (dC, dI) vwCl (tys0 cI cZ cQ) s) (hN : xN s) (hXS : xS (fun q : Nat => s.heap.size ≤ q) s s.heap) {h0 h1 : Nat} {u w : Nat → Nat} {fq fi0 : Nat → Option Nat} (hfq : ∀ j, j < 20 → fq j = some (da u j 0)) (hf0 : fi0 0 = some (u 59)) (hf1 : fi0 1 = some (u 60)) (i : Nat) (hi : i + 4 ≤ L) (ih : ∀ (v : Nat → Nat → Int32) (sc : Nat → Int32) (nn : Nat → Nat) (cd : Nat → dskC) (H : Heap) (locs : List Loc) (ls : Array Slot), lawI v sc nn cd → va_P (dC, dI) vwCl (lawW cI cZ cQ h0 h1 u w fq fi0 v sc nn ++ (hisW cI (u 1) (da u) cd)) H → va_D (fun q : Nat => s.heap.size ≤ q) (lawW cI cZ cQ h0 h1 u w fq fi0 v sc nn ++ (hisW cI (u 1) (da u) cd)) → va_S (fun q : Nat => s.heap.size ≤ q) s.heap H locs → lv_has ls 4 [(3, .int (nI (i + 4))), (2, .ref h1), (1, .ref h0), (0, .ref b)] → W p l e room_1 s m #[Value.ref b] below meth c H locs 217 2950 (lw_Z below #[Value.ref b] s) (F0 m 18 ls [])) : ∀ (v : Nat → Nat → Int32) (sc : Nat → Int32) (nn : Nat → Nat) (cd : Nat → dskC) (H : Heap) (locs : List Loc) (ls : Array Slot), lawI v sc nn cd → va_P (dC, dI) vwCl (lawW cI cZ cQ h0 h1 u w fq fi0 v sc nn ++ (hisW cI (u 1) (da u) cd)) H → va_D (fun q : Nat => s.heap.size ≤ q) (lawW cI cZ cQ h0 h1 u w fq fi0 v sc nn ++ (hisW cI (u 1) (da u) cd)) → va_S (fun q : Nat => s.heap.size ≤ q) s.heap H locs → lv_has ls 4 [(3, .int (nI i)), (2, .ref h1), (1, .ref h0), (0, .ref b)] → W p l e room_1 s m #[Value.ref b] below meth c H locs 217 2950 (lw_Z below #[Value.ref b] s) (F0 m 405 ls []) := by
  intro v sc nn cd H locs ls hI hP hD hS hl
  obtain ⟨hn0, hn1, hn2, hn3, hn4, hn5, hn6, hn7, hn8, hn9, hn10, hn11, hn12, hn13, hn14, hn15, hn16, hn17, hn18, hn19, hn20, hn21, hn22, hn23, hn24, hn25, hqe, hqb, hsi, hci, hqw, hpw, hqk, hmi, heq, htx, hfe, hqq, hee, hbb, hkp, hBL, hMM, hST, hHH, hSD, hRW, hDK, hCU, hHR, hIM⟩ := hI
  obtain ⟨hx, hb, hr, hml, hown, hts0, hX, hbl, hlocks, hgv⟩ := id C0
  have hts : ∀ w ∈ wsL_law, w.before #[Value.ref b] s = true := fun w h => hts0 w (wsL_law_in w h)
  have hown : s.vm.findClass RL = some m.cls := hown
  have hA : ∀ q : Nat, s.heap.size ≤ q → (fun q : Nat => s.heap.size ≤ q) q := fun _ h => h
  have hbA : ¬ (fun q : Nat => s.heap.size ≤ q) b := Nat.not_le.mpr hbl
  obtain ⟨j, hj20, hjq⟩ : ∃ j : Nat, j < 20 ∧ j = (nn 10 + nn 11) % 20 := ⟨_, Nat.mod_lt _ (by decide), rfl⟩
  have hdj : fq ((nn 10 + nn 11) % 20) = some (da u j 0) := by rw [← hjq]; exact hfq j hj20
  have hp0 := (his_perm (cI := cI) (o := (u 1)) (a := da u) (c := cd) hj20).append_left (lawW cI cZ cQ h0 h1 u w fq fi0 v sc nn)
  have hP := xP_perm hp0 hP
  have hD := xD_perm hp0 hD
  clear hp0
  rw [← List.append_assoc] at hP hD
  refine lv_aload_n hx hb dL_law_405 rfl (lv_at hl 2 rfl) ?_
  refine lv_aload_n hx hb dL_law_406 rfl (lv_at hl 3 rfl) ?_
  refine lv_iload_n hx hb dL_law_407 rfl (lv_at hl 0 rfl) ?_
  refine lv_iconst (v := 1) hx hb dL_law_408 (by decide) ?_
  refine lv_iadd hx hb dL_law_409 ?_
  refine lv_topi (fun z1 ez1 => ?_)
  obtain rfl : z1 = nI (i + 1) := ez1.trans (nI_add i 1)
  refine va_sld hx hb hX hbl hbA hS (vp_in_nI (n := i + 1) (N := L) (by omega) (by omega)) dL_law_410 ?_
  have hC : List.map (fun i => lAt ((lawW cI cZ cQ h0 h1 u w fq fi0 v sc nn ++ dskW cI (u 1) (da u j) (cd j))) i) [0, 2, 23, 24, 25, 26, 27, 28, 29, 30, 97, 98, 99, 100, 101, 102] = List.map some [(h0, .inr (10, [.ref (u 0), .int (nI (nn 0)), .int (sc 0), .int (nI (nn 1)), .ref (u 1), .ref (u 2), .ref (u 3), .ref (u 4), .ref (u 5), .ref (u 6), .ref (u 7), .ref (u 8), .ref (u 9), .ref (u 10)])), ((u 1), .inr (5, [.int (nI (nn 2)), .int (sc 1), .int (sc 2), .int (nI (nn 3)), .int (nI (nn 4)), .ref (u 11), .ref (u 12), .ref (u 13), .ref (u 14), .ref (u 15), .ref (u 16), .ref (u 17), .ref (u 18)])), ((u 3), .inr (1, [.int (sc 7), .int (sc 8), .ref (u 30), .ref (u 31), .ref (u 32), .ref (u 33), .ref (u 34), .ref (u 1)])), ((u 30), .inl (cI, 8, .inl (v 19))), ((u 31), .inl (cI, 8, .inl (v 20))), ((u 32), .inl (cI, 8, .inl (v 21))), ((u 33), .inl (cI, 4, .inl (v 22))), ((u 34), .inl (cI, 4, .inl (v 23))), ((u 4), .inr (3, [.ref (u 35), .int (nI (nn 10)), .int (nI (nn 11))])), ((u 35), .inl (cQ, 20, .inr (.inr (.inr (.inr fq))))), ((da u j 0), .inr (1, [.int ((cd j).1), .int ((cd j).2.1), .ref (da u j 1), .ref (da u j 2), .ref (da u j 3), .ref (da u j 4), .ref (da u j 5), .ref (u 1)])), ((da u j 1), .inl (cI, 8, .inl ((cd j).2.2 0))), ((da u j 2), .inl (cI, 8, .inl ((cd j).2.2 1))), ((da u j 3), .inl (cI, 8, .inl ((cd j).2.2 2))), ((da u j 4), .inl (cI, 4, .inl ((cd j).2.2 3))), ((da u j 5), .inl (cI, 4, .inl ((cd j).2.2 4)))] := rfl
  have hPc := vx_sub hP [0, 2, 23, 24, 25, 26, 27, 28, 29, 30, 97, 98, 99, 100, 101, 102] hC
  have hDc := vx_D hD [0, 2, 23, 24, 25, 26, 27, 28, 29, 30, 97, 98, 99, 100, 101, 102] (by decide +kernel) hC
  have hFc := vx_free hD hS hA [0, 2, 23, 24, 25, 26, 27, 28, 29, 30, 97, 98, 99, 100, 101, 102] hC
  refine va_calli (va_runV (As := [.int (xs (nI (i + 1)).toNatClampNeg)]) (rest := []) ⟨hx, hb, hml, hown, hts⟩ (c_X10_broadenD l dC dI cI cZ cQ h0 (u 1) (u 3) (u 4) ([.ref (u 0), .int (nI (nn 0)), .int (sc 0), .int (nI (nn 1)), .ref (u 1), .ref (u 2), .ref (u 3), .ref (u 4), .ref (u 5), .ref (u 6), .ref (u 7), .ref (u 8), .ref (u 9), .ref (u 10)]) (u 11) (u 12) (u 13) (u 16) (u 17) (u 18) (nI (nn 2)) (sc 1) (sc 2) (nn 3) (nn 4) ([.int (nI (nn 2)), .int (sc 1), .int (sc 2), .int (nI (nn 3)), .int (nI (nn 4)), .ref (u 11), .ref (u 12), .ref (u 13), .ref (u 14), .ref (u 15), .ref (u 16), .ref (u 17), .ref (u 18)]) (sc 7) (sc 8) (u 30) (u 31) (u 32) (u 33) (u 34) (v 19) (v 20) (v 21) (v 22) (v 23) (u 35) (nn 10) (nn 11) fq (da u j 0) ((cd j).1) ((cd j).2.1) (da u j 1) (da u j 2) (da u j 3) (da u j 4) (da u j 5) (u 1) ((cd j).2.2 0) ((cd j).2.2 1) ((cd j).2.2 2) ((cd j).2.2 3) ((cd j).2.2 4) (xs (nI (i + 1)).toNatClampNeg) H.size rfl rfl rfl rfl rfl rfl rfl rfl rfl rfl rfl rfl rfl rfl (by omega) (by omega) (by omega) (by omega) (by first | assumption | decide)) (cwV 1 hts gL_law_X10_broaden rfl rfl rfl hd_X10_broaden_RX10 ⟨Nat.le_of_ble_eq_true rfl, Nat.le_of_ble_eq_true rfl⟩) (pv_D (va_recv hK hPc (ci := 10) (q0 := 0) rfl rfl) hK hPc hDc) rfl rfl hl.1 rfl (lv_room (Nat.le_of_ble_eq_true rfl)) dL_law_411 ⟨Nat.le_of_ble_eq_true rfl, Nat.le_of_ble_eq_true rfl⟩) hS (fun q _ h => hFc q h) hFc (fun r2 u3 t H1 locs ht hvm hw4 hB hz1 hk1 hS => ?_)
  refine ob_x hB fun f5 hy91 => ob_x hy91 fun f6 hy92 => ob_x hy92 fun f7 hy93 => ob_x hy93 fun f8 hy94 => ob_x hy94 fun f9 hy95 => ob_x hy95 fun f10 hy96 => ob_x hy96 fun i11 hy97 => ob_x hy97 fun i14 hy98 => ob_x hy98 fun i15 hy99 => ob_x hy99 fun k12 hy910 => ob_x hy910 fun k13 hy911 => ob_a hy911 fun hk12 hy912 => ob_a hy912 fun hk13 hy913 => ob_a hy913 fun he16 hy914 => ob_a hy914 fun he17 hy915 => ob_a hy915 fun he18 hy916 => ob_a hy916 fun he19 hy917 => ob_a hy917 fun hP1 hD1 => ?_
  clear hy91 hy92 hy93 hy94 hy95 hy96 hy97 hy98 hy99 hy910 hy911 hy912 hy913 hy914 hy915 hy916 hy917 hB
  replace hP1 := va_hp ht hP1
  obtain ⟨hP, hD⟩ := vx_mix hP hD [0, 2, 23, 24, 25, 26, 27, 28, 29, 30, 97, 98, 99, 100, 101, 102] hC hk1 hP1 rfl
  generalize hX1 : wmix _ _ _ _ = X1 at hP hD
  clear hP1 hD1 hC
  clear hz1 hk1 hPc hDc hFc
  generalize H1 = H at hP hS ht ⊢
  try dsimp only at hw4
  refine lv_pop hx hb dL_law_414 rfl ?_
  refine lv_aload_n hx hb dL_law_415 rfl (lv_at hl 1 rfl) ?_
  refine lv_aload_n hx hb dL_law_416 rfl (lv_at hl 3 rfl) ?_
  refine lv_iload_n hx hb dL_law_417 rfl (lv_at hl 0 rfl) ?_
  refine lv_iconst (v := 1) hx hb dL_law_418 (by decide) ?_
  refine lv_iadd hx hb dL_law_419 ?_
  refine lv_topi (fun z20 ez20 => ?_)
  obtain rfl : z20 = nI (i + 1) := ez20.trans (nI_add i 1)
  refine va_sld hx hb hX hbl hbA hS (vp_in_nI (n := i + 1) (N := L) (by omega) (by omega)) dL_law_420 ?_
  have hC : List.map (fun i => lAt X1 i) [69, 76, 87] = List.map some [(h1, .inr (11, (.int (sc 17) :: .int (sc 18) :: .int (nI (nn 16)) :: .ref (w 0) :: .ref (w 1) :: .ref (w 2) :: .int (nI (nn 17)) :: .ref (w 3) :: .ref (w 4) :: .ref (w 5) :: .ref (w 6) :: .int (nI (nn 18)) :: .ref (w 7) :: .int (nI (nn 19)) :: .int (sc 19) :: .int (nI (nn 20)) :: .int (sc 20) :: .int (sc 21) :: .ref (w 8) :: .int (nI (nn 21)) :: .ref (w 9) :: .ref (w 10) :: .ref (w 11) :: .ref (w 12) :: .ref (w 13) :: .int (nI (nn 22)) :: .ref (w 14) :: .ref (w 15) :: .ref (w 16) :: .int (nI (nn 23)) :: .ref (w 17) :: .int (sc 22) :: .int (sc 23) :: .ref (w 18) :: .int (sc 24) :: .int (sc 25) :: .ref (w 19) :: .int (nI (nn 24)) :: .ref (w 20) :: .ref (w 21) :: .ref (w 22) :: .int (nI (nn 25)) :: .ref (w 23) :: .ref (w 24) :: .ref (w 25) :: .ref (w 26) :: []))), ((w 6), .inl (cI, 34, .inl (v 58))), ((w 17), .inl (cI, 680, .inl (v 69)))] := by rw [← hX1]; exact wmix_map (by decide) rfl
  have hPc := vx_sub hP [69, 76, 87] hC
  have hDc := vx_D hD [69, 76, 87] (by decide) hC
  have hFc := vx_free hD hS hA [69, 76, 87] hC
  refine va_calli (va_runV (As := [.int (xs (nI (i + 1)).toNatClampNeg)]) (rest := []) ⟨hx, hb, hml, hown, hts⟩ (c_X11_broadenD l dC dI cI cZ cQ h1 (sc 17) (sc 18) (nn 16) (w 0) (w 1) (w 2) (nn 17) (w 3) (w 4) (w 5) (w 6) (nn 18) (w 7) (nn 19) (sc 19) (nn 20) (sc 20) (sc 21) (w 8) (nn 21) (w 9) (w 10) (w 11) (w 12) (w 13) (nn 22) (w 14) (w 15) (w 16) (nn 23) (w 17) (sc 22) (sc 23) (w 18) (sc 24) (sc 25) (w 19) (nn 24) (w 20) (w 21) (w 22) (nn 25) (w 23) (w 24) (w 25) (w 26) (v 58) (v 69) (xs (nI (i + 1)).toNatClampNeg) H.size (by omega) (by omega)) (cwV 1 hts gL_law_X11_broaden rfl rfl rfl hd_X11_broaden_RX11 ⟨Nat.le_of_ble_eq_true rfl, Nat.le_of_ble_eq_true rfl⟩) (pv_D (va_recv hK hPc (ci := 11) (q0 := 0) rfl rfl) hK hPc hDc) rfl rfl hl.1 rfl (lv_room (Nat.le_of_ble_eq_true rfl)) dL_law_421 ⟨Nat.le_of_ble_eq_true rfl, Nat.le_of_ble_eq_true rfl⟩) hS (fun q _ h => hFc q h) hFc (fun r21 u22 t H1 locs ht hvm hw23 hB hz1 hk1 hS => ?_)
  obtain ⟨f24, f25, k26, hk26, he27, he28, he29, hP1, hD1⟩ := hB
  replace hP1 := va_hp ht hP1
  obtain ⟨hP, hD⟩ := vx_mix hP hD [69, 76, 87] hC hk1 hP1 rfl
  generalize hX2 : wmix _ _ _ _ = X2 at hP hD
  clear hP1 hD1 hC
  clear hz1 hk1 hPc hDc hFc
  generalize H1 = H at hP hS ht ⊢
  try dsimp only at hw23
  have hLq := L_broaden (x := (i14, i15, va_up (va_up (va_up (va_up (va_up ((cd j).2.2) 0 f6) 1 f7) 2 f8) 3 f9) 4 f10)) he16 he17 he18 he19 he27 he28 he29 hqq hn3 hn4 hDK hCU hHR hn10 hn11 hjq
  refine lv_pop hx hb dL_law_424 rfl ?_
  refine lv_goto (tgt := 928) hx hb dL_law_425 (by decide) ?_
  refine lv_iinc (v := nI (i + 4)) (lv' := [(3, .int (nI (i + 4))), (2, .ref h1), (1, .ref h0), (0, .ref b)]) hx hb dL_law_928 hl (k := 0) rfl ((rfl : nI i + Int32.ofInt 4 = nI i + 4).trans (nI_add i 4)) (by decide) rfl (fun ls hl => ?_)
  refine lv_goto (tgt := 18) hx hb dL_law_931 (by decide) ?_
  have hE : X2 = (lawW cI cZ cQ h0 h1 u w fq fi0 (va_up (va_up (va_up v 20 f5) 58 f24) 69 f25) (va_up sc 8 i11) (va_up (va_up (va_up nn 10 k12) 11 k13) 23 k26) ++ dskW cI (u 1) (da u j) (i14, i15, va_up (va_up (va_up (va_up (va_up ((cd j).2.2) 0 f6) 1 f7) 2 f8) 3 f9) 4 f10)) := by rw [← hX2, ← hX1]; rfl
  rw [hE, List.append_assoc] at hP hD
  have hp1 := (his_back (cI := cI) (o := (u 1)) (a := da u) (c := cd) (X := (i14, i15, va_up (va_up (va_up (va_up (va_up ((cd j).2.2) 0 f6) 1 f7) 2 f8) 3 f9) 4 f10)) hj20).append_left (lawW cI cZ cQ h0 h1 u w fq fi0 (va_up (va_up (va_up v 20 f5) 58 f24) 69 f25) (va_up sc 8 i11) (va_up (va_up (va_up nn 10 k12) 11 k13) 23 k26))
  have hP := xP_perm hp1 hP
  have hD := xD_perm hp1 hD
  exact ih (va_up (va_up (va_up v 20 f5) 58 f24) 69 f25) (va_up sc 8 i11) (va_up (va_up (va_up nn 10 k12) 11 k13) 23 k26) (va_up cd j (i14, i15, va_up (va_up (va_up (va_up (va_up ((cd j).2.2) 0 f6) 1 f7) 2 f8) 3 f9) 4 f10)) H locs ls ⟨hn0, hn1, hn2, hn3, hn4, hn5, hn6, hn7, hn8, hn9, (show k12 ≤ 19 by omega), (show k13 ≤ 20 by omega), hn12, hn13, hn14, hn15, hn16, hn17, hn18, hn19, hn20, hn21, hn22, (show k26 ≤ 20 by omega), hn24, hn25, hqe, hqb, hsi, hci, hqw, hpw, hqk, hmi, heq, htx, hfe, hqq, hee, hbb, hkp, hBL, hMM, hST, hHH, hSD, hRW, (show dR ((nn 3)) ((nn 4)) (dk ((sc 7)) (i11) ((v 19)) (f5) ((v 21)) ((v 22)) ((v 23))) (f24) from hLq.2.1), (show k13 = k26 from hLq.2.2.1), (show hR ((nn 3)) ((nn 4)) (k12) (k13) (va_up cd j (i14, i15, va_up (va_up (va_up (va_up (va_up ((cd j).2.2) 0 f6) 1 f7) 2 f8) 3 f9) 4 f10)) (f25) from hLq.2.2.2), hIM⟩ hP hD hS (lv_sub hl [0, 1, 2, 3] rfl)
set_option maxHeartbeats 8000000 in
set_option maxRecDepth 100000 in
theorem law_c10 {p : Program} {e : Env} {s : State} {m : MethodId} {below : List Frame} {meth : Method} {c : Code} (l : Launch) {b L : Nat} {xs : Nat → Int32} (C0 : lw_At p s m meth c b L xs) (hL : L ≤ 256) {dC : Nat → ClassId} {dI : Nat → Nat → Nat} {cI cZ cQ : ClassId} (hK : va_K (dC, dI) vwCl (tys0 cI cZ cQ) s) (hN : xN s) (hXS : xS (fun q : Nat => s.heap.size ≤ q) s s.heap) {h0 h1 : Nat} {u w : Nat → Nat} {fq fi0 : Nat → Option Nat} (hfq : ∀ j, j < 20 → fq j = some (da u j 0)) (hf0 : fi0 0 = some (u 59)) (hf1 : fi0 1 = some (u 60)) (i : Nat) (hi : i + 4 ≤ L) (ih : ∀ (v : Nat → Nat → Int32) (sc : Nat → Int32) (nn : Nat → Nat) (cd : Nat → dskC) (H : Heap) (locs : List Loc) (ls : Array Slot), lawI v sc nn cd → va_P (dC, dI) vwCl (lawW cI cZ cQ h0 h1 u w fq fi0 v sc nn ++ (hisW cI (u 1) (da u) cd)) H → va_D (fun q : Nat => s.heap.size ≤ q) (lawW cI cZ cQ h0 h1 u w fq fi0 v sc nn ++ (hisW cI (u 1) (da u) cd)) → va_S (fun q : Nat => s.heap.size ≤ q) s.heap H locs → lv_has ls 4 [(3, .int (nI (i + 4))), (2, .ref h1), (1, .ref h0), (0, .ref b)] → W p l e room_1 s m #[Value.ref b] below meth c H locs 217 2950 (lw_Z below #[Value.ref b] s) (F0 m 18 ls [])) : ∀ (v : Nat → Nat → Int32) (sc : Nat → Int32) (nn : Nat → Nat) (cd : Nat → dskC) (H : Heap) (locs : List Loc) (ls : Array Slot), lawI v sc nn cd → va_P (dC, dI) vwCl (lawW cI cZ cQ h0 h1 u w fq fi0 v sc nn ++ (hisW cI (u 1) (da u) cd)) H → va_D (fun q : Nat => s.heap.size ≤ q) (lawW cI cZ cQ h0 h1 u w fq fi0 v sc nn ++ (hisW cI (u 1) (da u) cd)) → va_S (fun q : Nat => s.heap.size ≤ q) s.heap H locs → lv_has ls 4 [(3, .int (nI i)), (2, .ref h1), (1, .ref h0), (0, .ref b)] → W p l e room_1 s m #[Value.ref b] below meth c H locs 217 2950 (lw_Z below #[Value.ref b] s) (F0 m 428 ls []) := by
  intro v sc nn cd H locs ls hI hP hD hS hl
  obtain ⟨hn0, hn1, hn2, hn3, hn4, hn5, hn6, hn7, hn8, hn9, hn10, hn11, hn12, hn13, hn14, hn15, hn16, hn17, hn18, hn19, hn20, hn21, hn22, hn23, hn24, hn25, hqe, hqb, hsi, hci, hqw, hpw, hqk, hmi, heq, htx, hfe, hqq, hee, hbb, hkp, hBL, hMM, hST, hHH, hSD, hRW, hDK, hCU, hHR, hIM⟩ := hI
  obtain ⟨hx, hb, hr, hml, hown, hts0, hX, hbl, hlocks, hgv⟩ := id C0
  have hts : ∀ w ∈ wsL_law, w.before #[Value.ref b] s = true := fun w h => hts0 w (wsL_law_in w h)
  have hown : s.vm.findClass RL = some m.cls := hown
  have hA : ∀ q : Nat, s.heap.size ≤ q → (fun q : Nat => s.heap.size ≤ q) q := fun _ h => h
  have hbA : ¬ (fun q : Nat => s.heap.size ≤ q) b := Nat.not_le.mpr hbl
  obtain ⟨j, hj20, hjq⟩ : ∃ j : Nat, j < 20 ∧ j = (nn 10 + nn 11) % 20 := ⟨_, Nat.mod_lt _ (by decide), rfl⟩
  have hdj : fq ((nn 10 + nn 11) % 20) = some (da u j 0) := by rw [← hjq]; exact hfq j hj20
  have hp0 := (his_perm (cI := cI) (o := (u 1)) (a := da u) (c := cd) hj20).append_left (lawW cI cZ cQ h0 h1 u w fq fi0 v sc nn)
  have hP := xP_perm hp0 hP
  have hD := xD_perm hp0 hD
  clear hp0
  rw [← List.append_assoc] at hP hD
  refine lv_aload_n hx hb dL_law_428 rfl (lv_at hl 2 rfl) ?_
  have hC : List.map (fun i => lAt ((lawW cI cZ cQ h0 h1 u w fq fi0 v sc nn ++ dskW cI (u 1) (da u j) (cd j))) i) [0, 2, 23, 24, 25, 26, 27, 28, 29, 30, 97, 98, 99, 100, 101, 102] = List.map some [(h0, .inr (10, [.ref (u 0), .int (nI (nn 0)), .int (sc 0), .int (nI (nn 1)), .ref (u 1), .ref (u 2), .ref (u 3), .ref (u 4), .ref (u 5), .ref (u 6), .ref (u 7), .ref (u 8), .ref (u 9), .ref (u 10)])), ((u 1), .inr (5, [.int (nI (nn 2)), .int (sc 1), .int (sc 2), .int (nI (nn 3)), .int (nI (nn 4)), .ref (u 11), .ref (u 12), .ref (u 13), .ref (u 14), .ref (u 15), .ref (u 16), .ref (u 17), .ref (u 18)])), ((u 3), .inr (1, [.int (sc 7), .int (sc 8), .ref (u 30), .ref (u 31), .ref (u 32), .ref (u 33), .ref (u 34), .ref (u 1)])), ((u 30), .inl (cI, 8, .inl (v 19))), ((u 31), .inl (cI, 8, .inl (v 20))), ((u 32), .inl (cI, 8, .inl (v 21))), ((u 33), .inl (cI, 4, .inl (v 22))), ((u 34), .inl (cI, 4, .inl (v 23))), ((u 4), .inr (3, [.ref (u 35), .int (nI (nn 10)), .int (nI (nn 11))])), ((u 35), .inl (cQ, 20, .inr (.inr (.inr (.inr fq))))), ((da u j 0), .inr (1, [.int ((cd j).1), .int ((cd j).2.1), .ref (da u j 1), .ref (da u j 2), .ref (da u j 3), .ref (da u j 4), .ref (da u j 5), .ref (u 1)])), ((da u j 1), .inl (cI, 8, .inl ((cd j).2.2 0))), ((da u j 2), .inl (cI, 8, .inl ((cd j).2.2 1))), ((da u j 3), .inl (cI, 8, .inl ((cd j).2.2 2))), ((da u j 4), .inl (cI, 4, .inl ((cd j).2.2 3))), ((da u j 5), .inl (cI, 4, .inl ((cd j).2.2 4)))] := rfl
  have hPc := vx_sub hP [0, 2, 23, 24, 25, 26, 27, 28, 29, 30, 97, 98, 99, 100, 101, 102] hC
  have hDc := vx_D hD [0, 2, 23, 24, 25, 26, 27, 28, 29, 30, 97, 98, 99, 100, 101, 102] (by decide +kernel) hC
  have hFc := vx_free hD hS hA [0, 2, 23, 24, 25, 26, 27, 28, 29, 30, 97, 98, 99, 100, 101, 102] hC
  refine va_calli (va_runV (As := []) (rest := []) ⟨hx, hb, hml, hown, hts⟩ (c_X10_whetD l dC dI cI cZ cQ h0 (u 1) (u 3) (u 4) ([.ref (u 0), .int (nI (nn 0)), .int (sc 0), .int (nI (nn 1)), .ref (u 1), .ref (u 2), .ref (u 3), .ref (u 4), .ref (u 5), .ref (u 6), .ref (u 7), .ref (u 8), .ref (u 9), .ref (u 10)]) (u 11) (u 12) (u 13) (u 16) (u 17) (u 18) (nI (nn 2)) (sc 1) (sc 2) (nn 3) (nn 4) ([.int (nI (nn 2)), .int (sc 1), .int (sc 2), .int (nI (nn 3)), .int (nI (nn 4)), .ref (u 11), .ref (u 12), .ref (u 13), .ref (u 14), .ref (u 15), .ref (u 16), .ref (u 17), .ref (u 18)]) (sc 7) (sc 8) (u 30) (u 31) (u 32) (u 33) (u 34) (v 19) (v 20) (v 21) (v 22) (v 23) (u 35) (nn 10) (nn 11) fq (da u j 0) ((cd j).1) ((cd j).2.1) (da u j 1) (da u j 2) (da u j 3) (da u j 4) (da u j 5) (u 1) ((cd j).2.2 0) ((cd j).2.2 1) ((cd j).2.2 2) ((cd j).2.2 3) ((cd j).2.2 4) H.size rfl rfl rfl rfl rfl rfl rfl rfl rfl rfl rfl rfl rfl rfl (by omega) (by omega) (by omega) (by omega) (by first | assumption | decide)) (cwV 0 hts gL_law_X10_whet rfl rfl rfl hd_X10_whet_RX10 ⟨Nat.le_of_ble_eq_true rfl, Nat.le_of_ble_eq_true rfl⟩) (pv_D (va_recv hK hPc (ci := 10) (q0 := 0) rfl rfl) hK hPc hDc) rfl rfl hl.1 rfl (lv_room (Nat.le_of_ble_eq_true rfl)) dL_law_429 ⟨Nat.le_of_ble_eq_true rfl, Nat.le_of_ble_eq_true rfl⟩) hS (fun q _ h => hFc q h) hFc (fun r1 u2 t H1 locs ht hvm hw3 hB hz1 hk1 hS => ?_)
  refine ob_x hB fun f4 hy91 => ob_x hy91 fun f5 hy92 => ob_x hy92 fun f6 hy93 => ob_x hy93 fun f7 hy94 => ob_x hy94 fun f8 hy95 => ob_x hy95 fun i9 hy96 => ob_x hy96 fun i10 hy97 => ob_x hy97 fun i13 hy98 => ob_x hy98 fun i14 hy99 => ob_x hy99 fun k11 hy910 => ob_x hy910 fun k12 hy911 => ob_a hy911 fun hk11 hy912 => ob_a hy912 fun hk12 hy913 => ob_a hy913 fun he15 hy914 => ob_a hy914 fun he16 hy915 => ob_a hy915 fun he17 hy916 => ob_a hy916 fun he18 hy917 => ob_a hy917 fun hP1 hD1 => ?_
  clear hy91 hy92 hy93 hy94 hy95 hy96 hy97 hy98 hy99 hy910 hy911 hy912 hy913 hy914 hy915 hy916 hy917 hB
  replace hP1 := va_hp ht hP1
  obtain ⟨hP, hD⟩ := vx_mix hP hD [0, 2, 23, 24, 25, 26, 27, 28, 29, 30, 97, 98, 99, 100, 101, 102] hC hk1 hP1 rfl
  generalize hX1 : wmix _ _ _ _ = X1 at hP hD
  clear hP1 hD1 hC
  clear hz1 hk1 hPc hDc hFc
  generalize H1 = H at hP hS ht ⊢
  try dsimp only at hw3
  refine lv_pop hx hb dL_law_432 rfl ?_
  refine lv_aload_n hx hb dL_law_433 rfl (lv_at hl 1 rfl) ?_
  have hC : List.map (fun i => lAt X1 i) [69, 76, 87] = List.map some [(h1, .inr (11, (.int (sc 17) :: .int (sc 18) :: .int (nI (nn 16)) :: .ref (w 0) :: .ref (w 1) :: .ref (w 2) :: .int (nI (nn 17)) :: .ref (w 3) :: .ref (w 4) :: .ref (w 5) :: .ref (w 6) :: .int (nI (nn 18)) :: .ref (w 7) :: .int (nI (nn 19)) :: .int (sc 19) :: .int (nI (nn 20)) :: .int (sc 20) :: .int (sc 21) :: .ref (w 8) :: .int (nI (nn 21)) :: .ref (w 9) :: .ref (w 10) :: .ref (w 11) :: .ref (w 12) :: .ref (w 13) :: .int (nI (nn 22)) :: .ref (w 14) :: .ref (w 15) :: .ref (w 16) :: .int (nI (nn 23)) :: .ref (w 17) :: .int (sc 22) :: .int (sc 23) :: .ref (w 18) :: .int (sc 24) :: .int (sc 25) :: .ref (w 19) :: .int (nI (nn 24)) :: .ref (w 20) :: .ref (w 21) :: .ref (w 22) :: .int (nI (nn 25)) :: .ref (w 23) :: .ref (w 24) :: .ref (w 25) :: .ref (w 26) :: []))), ((w 6), .inl (cI, 34, .inl (v 58))), ((w 17), .inl (cI, 680, .inl (v 69)))] := by rw [← hX1]; exact wmix_map (by decide) rfl
  have hPc := vx_sub hP [69, 76, 87] hC
  have hDc := vx_D hD [69, 76, 87] (by decide) hC
  have hFc := vx_free hD hS hA [69, 76, 87] hC
  refine va_calli (va_runV (As := []) (rest := []) ⟨hx, hb, hml, hown, hts⟩ (c_X11_whetD l dC dI cI cZ cQ h1 (sc 17) (sc 18) (nn 16) (w 0) (w 1) (w 2) (nn 17) (w 3) (w 4) (w 5) (w 6) (nn 18) (w 7) (nn 19) (sc 19) (nn 20) (sc 20) (sc 21) (w 8) (nn 21) (w 9) (w 10) (w 11) (w 12) (w 13) (nn 22) (w 14) (w 15) (w 16) (nn 23) (w 17) (sc 22) (sc 23) (w 18) (sc 24) (sc 25) (w 19) (nn 24) (w 20) (w 21) (w 22) (nn 25) (w 23) (w 24) (w 25) (w 26) (v 58) (v 69) H.size (by omega)) (cwV 0 hts gL_law_X11_whet rfl rfl rfl hd_X11_whet_RX11 ⟨Nat.le_of_ble_eq_true rfl, Nat.le_of_ble_eq_true rfl⟩) (pv_D (va_recv hK hPc (ci := 11) (q0 := 0) rfl rfl) hK hPc hDc) rfl rfl hl.1 rfl (lv_room (Nat.le_of_ble_eq_true rfl)) dL_law_434 ⟨Nat.le_of_ble_eq_true rfl, Nat.le_of_ble_eq_true rfl⟩) hS (fun q _ h => hFc q h) hFc (fun r19 u20 t H1 locs ht hvm hw21 hB hz1 hk1 hS => ?_)
  obtain ⟨f22, f23, k24, hk24, he25, he26, he27, hP1, hD1⟩ := hB
  replace hP1 := va_hp ht hP1
  obtain ⟨hP, hD⟩ := vx_mix hP hD [69, 76, 87] hC hk1 hP1 rfl
  generalize hX2 : wmix _ _ _ _ = X2 at hP hD
  clear hP1 hD1 hC
  clear hz1 hk1 hPc hDc hFc
  generalize H1 = H at hP hS ht ⊢
  try dsimp only at hw21
  have hLq := L_whet (x := (i13, i14, va_up (va_up (va_up (va_up (va_up ((cd j).2.2) 0 f4) 1 f5) 2 f6) 3 f7) 4 f8)) he15 he16 he17 he18 he25 he26 he27 hST hn3 hn4 hDK hCU hHR hn10 hn11 hjq
  refine lv_pop hx hb dL_law_437 rfl ?_
  refine lv_goto (tgt := 928) hx hb dL_law_438 (by decide) ?_
  refine lv_iinc (v := nI (i + 4)) (lv' := [(3, .int (nI (i + 4))), (2, .ref h1), (1, .ref h0), (0, .ref b)]) hx hb dL_law_928 hl (k := 0) rfl ((rfl : nI i + Int32.ofInt 4 = nI i + 4).trans (nI_add i 4)) (by decide) rfl (fun ls hl => ?_)
  refine lv_goto (tgt := 18) hx hb dL_law_931 (by decide) ?_
  have hE : X2 = (lawW cI cZ cQ h0 h1 u w fq fi0 (va_up (va_up v 58 f22) 69 f23) (va_up (va_up sc 7 i9) 8 i10) (va_up (va_up (va_up nn 10 k11) 11 k12) 23 k24) ++ dskW cI (u 1) (da u j) (i13, i14, va_up (va_up (va_up (va_up (va_up ((cd j).2.2) 0 f4) 1 f5) 2 f6) 3 f7) 4 f8)) := by rw [← hX2, ← hX1]; rfl
  rw [hE, List.append_assoc] at hP hD
  have hp1 := (his_back (cI := cI) (o := (u 1)) (a := da u) (c := cd) (X := (i13, i14, va_up (va_up (va_up (va_up (va_up ((cd j).2.2) 0 f4) 1 f5) 2 f6) 3 f7) 4 f8)) hj20).append_left (lawW cI cZ cQ h0 h1 u w fq fi0 (va_up (va_up v 58 f22) 69 f23) (va_up (va_up sc 7 i9) 8 i10) (va_up (va_up (va_up nn 10 k11) 11 k12) 23 k24))
  have hP := xP_perm hp1 hP
  have hD := xD_perm hp1 hD
  exact ih (va_up (va_up v 58 f22) 69 f23) (va_up (va_up sc 7 i9) 8 i10) (va_up (va_up (va_up nn 10 k11) 11 k12) 23 k24) (va_up cd j (i13, i14, va_up (va_up (va_up (va_up (va_up ((cd j).2.2) 0 f4) 1 f5) 2 f6) 3 f7) 4 f8)) H locs ls ⟨hn0, hn1, hn2, hn3, hn4, hn5, hn6, hn7, hn8, hn9, (show k11 ≤ 19 by omega), (show k12 ≤ 20 by omega), hn12, hn13, hn14, hn15, hn16, hn17, hn18, hn19, hn20, hn21, hn22, (show k24 ≤ 20 by omega), hn24, hn25, hqe, hqb, hsi, hci, hqw, hpw, hqk, hmi, heq, htx, hfe, hqq, hee, hbb, hkp, hBL, hMM, hST, hHH, hSD, hRW, (show dR ((nn 3)) ((nn 4)) (dk (i9) (i10) ((v 19)) ((v 20)) ((v 21)) ((v 22)) ((v 23))) (f22) from hLq.2.1), (show k12 = k24 from hLq.2.2.1), (show hR ((nn 3)) ((nn 4)) (k11) (k12) (va_up cd j (i13, i14, va_up (va_up (va_up (va_up (va_up ((cd j).2.2) 0 f4) 1 f5) 2 f6) 3 f7) 4 f8)) (f23) from hLq.2.2.2), hIM⟩ hP hD hS (lv_sub hl [0, 1, 2, 3] rfl)
