set_option maxHeartbeats 8000000 in
set_option maxRecDepth 100000 in
theorem law_c15 {p : Program} {e : Env} {s : State} {m : MethodId} {below : List Frame} {meth : Method} {c : Code} (l : Launch) {b L : Nat} {xs : Nat → Int32} (C0 : lw_At p s m meth c b L xs) (hL : L ≤ 256) {dC : Nat → ClassId} {dI : Nat → Nat → Nat} {cI cZ cQ : ClassId} (hK : va_K (dC, dI) vwCl (tys0 cI cZ cQ) s) (hN : xN s) (hXS : xS (fun q : Nat => s.heap.size ≤ q) s s.heap) {h0 h1 : Nat} {u w : Nat → Nat} {fq fi0 : Nat → Option Nat} (hfq : ∀ j, j < 20 → fq j = some (da u j 0)) (hf0 : fi0 0 = some (u 59)) (hf1 : fi0 1 = some (u 60)) (i : Nat) (hi : i + 4 ≤ L) (ih : ∀ (v : Nat → Nat → Int32) (sc : Nat → Int32) (nn : Nat → Nat) (cd : Nat → dskC) (H : Heap) (locs : List Loc) (ls : Array Slot), lawI v sc nn cd → va_P (dC, dI) vwCl (lawW cI cZ cQ h0 h1 u w fq fi0 v sc nn ++ (hisW cI (u 1) (da u) cd)) H → va_D (fun q : Nat => s.heap.size ≤ q) (lawW cI cZ cQ h0 h1 u w fq fi0 v sc nn ++ (hisW cI (u 1) (da u) cd)) → va_S (fun q : Nat => s.heap.size ≤ q) s.heap H locs → lv_has ls 4 [(3, .int (nI (i + 4))), (2, .ref h1), (1, .ref h0), (0, .ref b)] → W p l e room_1 s m #[Value.ref b] below meth c H locs 217 2950 (lw_Z below #[Value.ref b] s) (F0 m 18 ls [])) : ∀ (v : Nat → Nat → Int32) (sc : Nat → Int32) (nn : Nat → Nat) (cd : Nat → dskC) (H : Heap) (locs : List Loc) (ls : Array Slot), lawI v sc nn cd → va_P (dC, dI) vwCl (lawW cI cZ cQ h0 h1 u w fq fi0 v sc nn ++ (hisW cI (u 1) (da u) cd)) H → va_D (fun q : Nat => s.heap.size ≤ q) (lawW cI cZ cQ h0 h1 u w fq fi0 v sc nn ++ (hisW cI (u 1) (da u) cd)) → va_S (fun q : Nat => s.heap.size ≤ q) s.heap H locs → lv_has ls 4 [(3, .int (nI i)), (2, .ref h1), (1, .ref h0), (0, .ref b)] → W p l e room_1 s m #[Value.ref b] below meth c H locs 217 2950 (lw_Z below #[Value.ref b] s) (F0 m 543 ls []) := by
  intro v sc nn cd H locs ls hI hP hD hS hl
  obtain ⟨hn0, hn1, hn2, hn3, hn4, hn5, hn6, hn7, hn8, hn9, hn10, hn11, hn12, hn13, hn14, hn15, hn16, hn17, hn18, hn19, hn20, hn21, hn22, hn23, hn24, hn25, hqe, hqb, hsi, hci, hqw, hpw, hqk, hmi, heq, htx, hfe, hqq, hee, hbb, hkp, hBL, hMM, hST, hHH, hSD, hRW, hDK, hCU, hHR, hIM⟩ := hI
  obtain ⟨hx, hb, hr, hml, hown, hts0, hX, hbl, hlocks, hgv⟩ := id C0
  have hts : ∀ w ∈ wsL_law, w.before #[Value.ref b] s = true := fun w h => hts0 w (wsL_law_in w h)
  have hown : s.vm.findClass RL = some m.cls := hown
  have hA : ∀ q : Nat, s.heap.size ≤ q → (fun q : Nat => s.heap.size ≤ q) q := fun _ h => h
  have hbA : ¬ (fun q : Nat => s.heap.size ≤ q) b := Nat.not_le.mpr hbl
  refine lv_aload_n hx hb dL_law_543 rfl (lv_at hl 2 rfl) ?_
  refine lv_aload_n hx hb dL_law_544 rfl (lv_at hl 3 rfl) ?_
  refine lv_iload_n hx hb dL_law_545 rfl (lv_at hl 0 rfl) ?_
  refine lv_iconst (v := 1) hx hb dL_law_546 (by decide) ?_
  refine lv_iadd hx hb dL_law_547 ?_
  refine lv_topi (fun z1 ez1 => ?_)
  obtain rfl : z1 = nI (i + 1) := ez1.trans (nI_add i 1)
  refine va_sld hx hb hX hbl hbA hS (vp_in_nI (n := i + 1) (N := L) (by omega) (by omega)) dL_law_548 ?_
  have hC : List.map (fun i => lAt (lawW cI cZ cQ h0 h1 u w fq fi0 v sc nn) i) [0, 2, 49, 47, 23, 50, 51, 52, 25, 26, 3, 4, 5, 8, 9, 10] = List.map some [(h0, .inr (10, [.ref (u 0), .int (nI (nn 0)), .int (sc 0), .int (nI (nn 1)), .ref (u 1), .ref (u 2), .ref (u 3), .ref (u 4), .ref (u 5), .ref (u 6), .ref (u 7), .ref (u 8), .ref (u 9), .ref (u 10)])), ((u 1), .inr (5, [.int (nI (nn 2)), .int (sc 1), .int (sc 2), .int (nI (nn 3)), .int (nI (nn 4)), .ref (u 11), .ref (u 12), .ref (u 13), .ref (u 14), .ref (u 15), .ref (u 16), .ref (u 17), .ref (u 18)])), ((u 7), .inr (8, [.int (sc 13), .ref (u 72), .ref (u 1), .ref (u 6), .ref (u 73), .ref (u 74)])), ((u 6), .inr (9, [.ref (u 1), .ref (u 3), .ref (u 71)])), ((u 3), .inr (1, [.int (sc 7), .int (sc 8), .ref (u 30), .ref (u 31), .ref (u 32), .ref (u 33), .ref (u 34), .ref (u 1)])), ((u 72), .inl (cI, 4, .inl (v 37))), ((u 73), .inl (cI, 4, .inl (v 38))), ((u 74), .inl (cI, 32, .inl (v 39))), ((u 31), .inl (cI, 8, .inl (v 20))), ((u 32), .inl (cI, 8, .inl (v 21))), ((u 11), .inl (cI, 8, .inl (v 1))), ((u 12), .inl (cI, 8, .inl (v 2))), ((u 13), .inl (cI, 8, .inl (v 3))), ((u 16), .inl (cI, 4, .inl (v 6))), ((u 17), .inl (cI, 4, .inl (v 7))), ((u 18), .inl (cI, 4, .inl (v 8)))] := rfl
  have hPc := vx_sub hP [0, 2, 49, 47, 23, 50, 51, 52, 25, 26, 3, 4, 5, 8, 9, 10] hC
  have hDc := vx_D hD [0, 2, 49, 47, 23, 50, 51, 52, 25, 26, 3, 4, 5, 8, 9, 10] (by decide +kernel) hC
  have hFc := vx_free hD hS hA [0, 2, 49, 47, 23, 50, 51, 52, 25, 26, 3, 4, 5, 8, 9, 10] hC
  refine va_calli (va_runV (As := [.int (xs (nI (i + 1)).toNatClampNeg)]) (rest := []) ⟨hx, hb, hml, hown, hts⟩ (c_X10_toWhom l dC dI cI cZ cQ h0 (u 1) (u 7) ([.ref (u 0), .int (nI (nn 0)), .int (sc 0), .int (nI (nn 1)), .ref (u 1), .ref (u 2), .ref (u 3), .ref (u 4), .ref (u 5), .ref (u 6), .ref (u 7), .ref (u 8), .ref (u 9), .ref (u 10)]) (u 11) (u 12) (u 13) (u 16) (u 17) (u 18) (nn 3) (nn 4) ([.int (nI (nn 2)), .int (sc 1), .int (sc 2), .int (nI (nn 3)), .int (nI (nn 4)), .ref (u 11), .ref (u 12), .ref (u 13), .ref (u 14), .ref (u 15), .ref (u 16), .ref (u 17), .ref (u 18)]) (sc 13) (u 72) (u 6) (u 73) (u 74) (u 3) ([.ref (u 1), .ref (u 3), .ref (u 71)]) (u 31) (u 32) ([.int (sc 7), .int (sc 8), .ref (u 30), .ref (u 31), .ref (u 32), .ref (u 33), .ref (u 34), .ref (u 1)]) (v 37) (v 38) (v 39) (v 20) (v 21) (v 1) (v 2) (v 3) (v 6) (v 7) (v 8) (xs (nI (i + 1)).toNatClampNeg) H.size rfl rfl rfl rfl rfl rfl rfl rfl rfl rfl rfl rfl rfl rfl (by omega) (by omega)) (cwV 1 hts gL_law_X10_toWhom rfl rfl rfl hd_X10_toWhom_RX10 ⟨Nat.le_of_ble_eq_true rfl, Nat.le_of_ble_eq_true rfl⟩) ⟨fun a U g mk q => by obtain ⟨q0, q1, qP, qK, qD, qN⟩ := q; exact ⟨q0, q1, qP, va_K.moved (u := U) (U := U.calling g mk a) (Vm.Alike.refl U.vm) qK, qD, qN.calling⟩, va_recv hK hPc (ci := 10) (q0 := 0) rfl rfl, fun U hU hW => ⟨rfl, by rw [hU], by rw [hU]; exact hPc, va_K.moved hW.alike hK, hDc.weaken (fun _ _ _ _ => trivial), hN.warm hW⟩⟩ rfl rfl hl.1 rfl (lv_room (Nat.le_of_ble_eq_true rfl)) dL_law_549 ⟨Nat.le_of_ble_eq_true rfl, Nat.le_of_ble_eq_true rfl⟩) hS (fun q _ h => hFc q h) hFc (fun r2 u3 t H1 locs ht hvm hw4 hB hz1 hk1 hS => ?_)
  obtain ⟨f5, f6, f7, i8, hP1, hD1⟩ := hB
  replace hP1 := va_hp ht hP1
  obtain ⟨hP, hD⟩ := vx_mix hP hD [0, 2, 49, 47, 23, 50, 51, 52, 25, 26, 3, 4, 5, 8, 9, 10] hC hk1 hP1 rfl
  generalize hX1 : wmix _ _ _ _ = X1 at hP hD
  clear hP1 hD1 hC
  clear hz1 hk1 hPc hDc hFc
  generalize H1 = H at hP hS ht ⊢
  try dsimp only at hw4
  refine lv_pop hx hb dL_law_552 rfl ?_
  refine lv_aload_n hx hb dL_law_553 rfl (lv_at hl 1 rfl) ?_
  refine lv_aload_n hx hb dL_law_554 rfl (lv_at hl 3 rfl) ?_
  refine lv_iload_n hx hb dL_law_555 rfl (lv_at hl 0 rfl) ?_
  refine lv_iconst (v := 1) hx hb dL_law_556 (by decide) ?_
  refine lv_iadd hx hb dL_law_557 ?_
  refine lv_topi (fun z9 ez9 => ?_)
  obtain rfl : z9 = nI (i + 1) := ez9.trans (nI_add i 1)
  refine va_sld hx hb hX hbl hbA hS (vp_in_nI (n := i + 1) (N := L) (by omega) (by omega)) dL_law_558 ?_
  have hC : List.map (fun i => lAt X1 i) [69, 70, 71, 72, 73, 74, 75, 76] = List.map some [(h1, .inr (11, (.int (sc 17) :: .int (sc 18) :: .int (nI (nn 16)) :: .ref (w 0) :: .ref (w 1) :: .ref (w 2) :: .int (nI (nn 17)) :: .ref (w 3) :: .ref (w 4) :: .ref (w 5) :: .ref (w 6) :: .int (nI (nn 18)) :: .ref (w 7) :: .int (nI (nn 19)) :: .int (sc 19) :: .int (nI (nn 20)) :: .int (sc 20) :: .int (sc 21) :: .ref (w 8) :: .int (nI (nn 21)) :: .ref (w 9) :: .ref (w 10) :: .ref (w 11) :: .ref (w 12) :: .ref (w 13) :: .int (nI (nn 22)) :: .ref (w 14) :: .ref (w 15) :: .ref (w 16) :: .int (nI (nn 23)) :: .ref (w 17) :: .int (sc 22) :: .int (sc 23) :: .ref (w 18) :: .int (sc 24) :: .int (sc 25) :: .ref (w 19) :: .int (nI (nn 24)) :: .ref (w 20) :: .ref (w 21) :: .ref (w 22) :: .int (nI (nn 25)) :: .ref (w 23) :: .ref (w 24) :: .ref (w 25) :: .ref (w 26) :: []))), ((w 0), .inl (cI, 8, .inl (v 52))), ((w 1), .inl (cI, 8, .inl (v 53))), ((w 2), .inl (cI, 8, .inl (v 54))), ((w 3), .inl (cI, 4, .inl (v 55))), ((w 4), .inl (cI, 4, .inl (v 56))), ((w 5), .inl (cI, 4, .inl (v 57))), ((w 6), .inl (cI, 34, .inl (v 58)))] := by rw [← hX1]; exact wmix_map (by decide) rfl
  have hPc := vx_sub hP [69, 70, 71, 72, 73, 74, 75, 76] hC
  have hDc := vx_D hD [69, 70, 71, 72, 73, 74, 75, 76] (by decide) hC
  have hFc := vx_free hD hS hA [69, 70, 71, 72, 73, 74, 75, 76] hC
  refine va_calli (va_runV (As := [.int (xs (nI (i + 1)).toNatClampNeg)]) (rest := []) ⟨hx, hb, hml, hown, hts⟩ (c_X11_toWhomA l dC dI cI cZ cQ h1 (sc 17) (sc 18) (nn 16) (w 0) (w 1) (w 2) (nn 17) (w 3) (w 4) (w 5) (w 6) (nn 18) (w 7) (nn 19) (sc 19) (nn 20) (sc 20) (sc 21) (w 8) (nn 21) (w 9) (w 10) (w 11) (w 12) (w 13) (nn 22) (w 14) (w 15) (w 16) (nn 23) (w 17) (sc 22) (sc 23) (w 18) (sc 24) (sc 25) (w 19) (nn 24) (w 20) (w 21) (w 22) (nn 25) (w 23) (w 24) (w 25) (w 26) (v 52) (v 53) (v 54) (v 55) (v 56) (v 57) (v 58) (xs (nI (i + 1)).toNatClampNeg) H.size (by omega) (by first | assumption | decide) (by omega)) (cwV 1 hts gL_law_X11_toWhom rfl rfl rfl hd_X11_toWhom_RX11 ⟨Nat.le_of_ble_eq_true rfl, Nat.le_of_ble_eq_true rfl⟩) (pv_D (va_recv hK hPc (ci := 11) (q0 := 0) rfl rfl) hK hPc hDc) rfl rfl hl.1 rfl (lv_room (Nat.le_of_ble_eq_true rfl)) dL_law_559 ⟨Nat.le_of_ble_eq_true rfl, Nat.le_of_ble_eq_true rfl⟩) hS (fun q _ h => hFc q h) hFc (fun r10 u11 t H1 locs ht hvm hw12 hB hz1 hk1 hS => ?_)
  obtain ⟨i13, i14, he15, hP1, hD1⟩ := hB
  replace hP1 := va_hp ht hP1
  obtain ⟨hP, hD⟩ := vx_mix hP hD [69, 70, 71, 72, 73, 74, 75, 76] hC hk1 hP1 rfl
  generalize hX2 : wmix _ _ _ _ = X2 at hP hD
  clear hP1 hD1 hC
  clear hz1 hk1 hPc hDc hFc
  generalize H1 = H at hP hS ht ⊢
  try dsimp only at hw12
  refine lv_pop hx hb dL_law_562 rfl ?_
  refine lv_goto (tgt := 928) hx hb dL_law_563 (by decide) ?_
  refine lv_iinc (v := nI (i + 4)) (lv' := [(3, .int (nI (i + 4))), (2, .ref h1), (1, .ref h0), (0, .ref b)]) hx hb dL_law_928 hl (k := 0) rfl ((rfl : nI i + Int32.ofInt 4 = nI i + 4).trans (nI_add i 4)) (by decide) rfl (fun ls hl => ?_)
  refine lv_goto (tgt := 18) hx hb dL_law_931 (by decide) ?_
  have hE : X2 = lawW cI cZ cQ h0 h1 u w fq fi0 (va_up (va_up (va_up v 37 f5) 38 f6) 39 f7) (va_up (va_up (va_up sc 13 i8) 22 i13) 23 i14) nn := by rw [← hX2, ← hX1]; rfl
  rw [hE] at hP hD
  exact ih (va_up (va_up (va_up v 37 f5) 38 f6) 39 f7) (va_up (va_up (va_up sc 13 i8) 22 i13) 23 i14) nn cd H locs ls ⟨hn0, hn1, hn2, hn3, hn4, hn5, hn6, hn7, hn8, hn9, hn10, hn11, hn12, hn13, hn14, hn15, hn16, hn17, hn18, hn19, hn20, hn21, hn22, hn23, hn24, hn25, hqe, hqb, hsi, hci, hqw, hpw, hqk, hmi, heq, htx, hfe, hqq, hee, hbb, hkp, hBL, hMM, hST, (show (nn 4) = (nn 17) from (hHH.trans he15)), hSD, hRW, hDK, hCU, hHR, hIM⟩ hP hD hS (lv_sub hl [0, 1, 2, 3] rfl)
set_option maxHeartbeats 8000000 in
set_option maxRecDepth 100000 in
theorem law_c16 {p : Program} {e : Env} {s : State} {m : MethodId} {below : List Frame} {meth : Method} {c : Code} (l : Launch) {b L : Nat} {xs : Nat → Int32} (C0 : lw_At p s m meth c b L xs) (hL : L ≤ 256) {dC : Nat → ClassId} {dI : Nat → Nat → Nat} {cI cZ cQ : ClassId} (hK : va_K (dC, dI) vwCl (tys0 cI cZ cQ) s) (hN : xN s) (hXS : xS (fun q : Nat => s.heap.size ≤ q) s s.heap) {h0 h1 : Nat} {u w : Nat → Nat} {fq fi0 : Nat → Option Nat} (hfq : ∀ j, j < 20 → fq j = some (da u j 0)) (hf0 : fi0 0 = some (u 59)) (hf1 : fi0 1 = some (u 60)) (i : Nat) (hi : i + 4 ≤ L) (ih : ∀ (v : Nat → Nat → Int32) (sc : Nat → Int32) (nn : Nat → Nat) (cd : Nat → dskC) (H : Heap) (locs : List Loc) (ls : Array Slot), lawI v sc nn cd → va_P (dC, dI) vwCl (lawW cI cZ cQ h0 h1 u w fq fi0 v sc nn ++ (hisW cI (u 1) (da u) cd)) H → va_D (fun q : Nat => s.heap.size ≤ q) (lawW cI cZ cQ h0 h1 u w fq fi0 v sc nn ++ (hisW cI (u 1) (da u) cd)) → va_S (fun q : Nat => s.heap.size ≤ q) s.heap H locs → lv_has ls 4 [(3, .int (nI (i + 4))), (2, .ref h1), (1, .ref h0), (0, .ref b)] → W p l e room_1 s m #[Value.ref b] below meth c H locs 217 2950 (lw_Z below #[Value.ref b] s) (F0 m 18 ls [])) : ∀ (v : Nat → Nat → Int32) (sc : Nat → Int32) (nn : Nat → Nat) (cd : Nat → dskC) (H : Heap) (locs : List Loc) (ls : Array Slot), lawI v sc nn cd → va_P (dC, dI) vwCl (lawW cI cZ cQ h0 h1 u w fq fi0 v sc nn ++ (hisW cI (u 1) (da u) cd)) H → va_D (fun q : Nat => s.heap.size ≤ q) (lawW cI cZ cQ h0 h1 u w fq fi0 v sc nn ++ (hisW cI (u 1) (da u) cd)) → va_S (fun q : Nat => s.heap.size ≤ q) s.heap H locs → lv_has ls 4 [(3, .int (nI i)), (2, .ref h1), (1, .ref h0), (0, .ref b)] → W p l e room_1 s m #[Value.ref b] below meth c H locs 217 2950 (lw_Z below #[Value.ref b] s) (F0 m 566 ls []) := by
  intro v sc nn cd H locs ls hI hP hD hS hl
  obtain ⟨hn0, hn1, hn2, hn3, hn4, hn5, hn6, hn7, hn8, hn9, hn10, hn11, hn12, hn13, hn14, hn15, hn16, hn17, hn18, hn19, hn20, hn21, hn22, hn23, hn24, hn25, hqe, hqb, hsi, hci, hqw, hpw, hqk, hmi, heq, htx, hfe, hqq, hee, hbb, hkp, hBL, hMM, hST, hHH, hSD, hRW, hDK, hCU, hHR, hIM⟩ := hI
  obtain ⟨hx, hb, hr, hml, hown, hts0, hX, hbl, hlocks, hgv⟩ := id C0
  have hts : ∀ w ∈ wsL_law, w.before #[Value.ref b] s = true := fun w h => hts0 w (wsL_law_in w h)
  have hown : s.vm.findClass RL = some m.cls := hown
  have hA : ∀ q : Nat, s.heap.size ≤ q → (fun q : Nat => s.heap.size ≤ q) q := fun _ h => h
  have hbA : ¬ (fun q : Nat => s.heap.size ≤ q) b := Nat.not_le.mpr hbl
  refine lv_aload_n hx hb dL_law_566 rfl (lv_at hl 2 rfl) ?_
  refine lv_aload_n hx hb dL_law_567 rfl (lv_at hl 3 rfl) ?_
  refine lv_iload_n hx hb dL_law_568 rfl (lv_at hl 0 rfl) ?_
  refine lv_iconst (v := 1) hx hb dL_law_569 (by decide) ?_
  refine lv_iadd hx hb dL_law_570 ?_
  refine lv_topi (fun z1 ez1 => ?_)
  obtain rfl : z1 = nI (i + 1) := ez1.trans (nI_add i 1)
  refine va_sld hx hb hX hbl hbA hS (vp_in_nI (n := i + 1) (N := L) (by omega) (by omega)) dL_law_571 ?_
  refine lv_aload_n hx hb dL_law_572 rfl (lv_at hl 3 rfl) ?_
  refine lv_iload_n hx hb dL_law_573 rfl (lv_at hl 0 rfl) ?_
  refine lv_iconst (v := 2) hx hb dL_law_574 (by decide) ?_
  refine lv_iadd hx hb dL_law_575 ?_
  refine lv_topi (fun z2 ez2 => ?_)
  obtain rfl : z2 = nI (i + 2) := ez2.trans (nI_add i 2)
  refine va_sld hx hb hX hbl hbA hS (vp_in_nI (n := i + 2) (N := L) (by omega) (by omega)) dL_law_576 ?_
  refine lv_aload_n hx hb dL_law_577 rfl (lv_at hl 3 rfl) ?_
  refine lv_iload_n hx hb dL_law_578 rfl (lv_at hl 0 rfl) ?_
  refine lv_iconst (v := 3) hx hb dL_law_579 (by decide) ?_
  refine lv_iadd hx hb dL_law_580 ?_
  refine lv_topi (fun z3 ez3 => ?_)
  obtain rfl : z3 = nI (i + 3) := ez3.trans (nI_add i 3)
  refine va_sld hx hb hX hbl hbA hS (vp_in_nI (n := i + 3) (N := L) (by omega) (by omega)) dL_law_581 ?_
  have hC : List.map (fun i => lAt (lawW cI cZ cQ h0 h1 u w fq fi0 v sc nn) i) [0, 2, 53, 56, 57, 58, 59, 60, 61, 54, 55, 3, 4, 5, 8, 9, 10, 23, 24, 25, 26, 27, 28] = List.map some [(h0, .inr (10, [.ref (u 0), .int (nI (nn 0)), .int (sc 0), .int (nI (nn 1)), .ref (u 1), .ref (u 2), .ref (u 3), .ref (u 4), .ref (u 5), .ref (u 6), .ref (u 7), .ref (u 8), .ref (u 9), .ref (u 10)])), ((u 1), .inr (5, [.int (nI (nn 2)), .int (sc 1), .int (sc 2), .int (nI (nn 3)), .int (nI (nn 4)), .ref (u 11), .ref (u 12), .ref (u 13), .ref (u 14), .ref (u 15), .ref (u 16), .ref (u 17), .ref (u 18)])), ((u 8), .inr (6, [.int (sc 14), .ref (u 75), .ref (u 76), .ref (u 1), .ref (u 77), .int (nI (nn 12)), .int (nI (nn 13))])), ((u 77), .inr (1, [.int (sc 15), .int (sc 16), .ref (u 78), .ref (u 79), .ref (u 80), .ref (u 81), .ref (u 82), .ref (u 1)])), ((u 78), .inl (cI, 8, .inl (v 42))), ((u 79), .inl (cI, 8, .inl (v 43))), ((u 80), .inl (cI, 8, .inl (v 44))), ((u 81), .inl (cI, 4, .inl (v 45))), ((u 82), .inl (cI, 4, .inl (v 46))), ((u 75), .inl (cI, 4, .inl (v 40))), ((u 76), .inl (cI, 4, .inl (v 41))), ((u 11), .inl (cI, 8, .inl (v 1))), ((u 12), .inl (cI, 8, .inl (v 2))), ((u 13), .inl (cI, 8, .inl (v 3))), ((u 16), .inl (cI, 4, .inl (v 6))), ((u 17), .inl (cI, 4, .inl (v 7))), ((u 18), .inl (cI, 4, .inl (v 8))), ((u 3), .inr (1, [.int (sc 7), .int (sc 8), .ref (u 30), .ref (u 31), .ref (u 32), .ref (u 33), .ref (u 34), .ref (u 1)])), ((u 30), .inl (cI, 8, .inl (v 19))), ((u 31), .inl (cI, 8, .inl (v 20))), ((u 32), .inl (cI, 8, .inl (v 21))), ((u 33), .inl (cI, 4, .inl (v 22))), ((u 34), .inl (cI, 4, .inl (v 23)))] := rfl
  have hPc := vx_sub hP [0, 2, 53, 56, 57, 58, 59, 60, 61, 54, 55, 3, 4, 5, 8, 9, 10, 23, 24, 25, 26, 27, 28] hC
  have hDc := vx_D hD [0, 2, 53, 56, 57, 58, 59, 60, 61, 54, 55, 3, 4, 5, 8, 9, 10, 23, 24, 25, 26, 27, 28] (by decide +kernel) hC
  have hFc := vx_free hD hS hA [0, 2, 53, 56, 57, 58, 59, 60, 61, 54, 55, 3, 4, 5, 8, 9, 10, 23, 24, 25, 26, 27, 28] hC
  refine va_calli (va_runV (As := [.int (xs (nI (i + 1)).toNatClampNeg), .int (xs (nI (i + 2)).toNatClampNeg), .int (xs (nI (i + 3)).toNatClampNeg)]) (rest := []) ⟨hx, hb, hml, hown, hts⟩ (c_X10_fastest l dC dI cI cZ cQ h0 (u 1) (u 3) (u 8) ([.ref (u 0), .int (nI (nn 0)), .int (sc 0), .int (nI (nn 1)), .ref (u 1), .ref (u 2), .ref (u 3), .ref (u 4), .ref (u 5), .ref (u 6), .ref (u 7), .ref (u 8), .ref (u 9), .ref (u 10)]) (u 11) (u 12) (u 13) (u 16) (u 17) (u 18) (sc 1) (sc 2) (nn 3) (nn 4) ([.int (nI (nn 2)), .int (sc 1), .int (sc 2), .int (nI (nn 3)), .int (nI (nn 4)), .ref (u 11), .ref (u 12), .ref (u 13), .ref (u 14), .ref (u 15), .ref (u 16), .ref (u 17), .ref (u 18)]) (sc 14) (u 75) (u 76) (u 77) (nn 12) (nn 13) (sc 15) (sc 16) (u 78) (u 79) (u 80) (u 81) (u 82) (v 42) (v 43) (v 44) (v 45) (v 46) (v 40) (v 41) (v 1) (v 2) (v 3) (v 6) (v 7) (v 8) (sc 7) (sc 8) (u 30) (u 31) (u 32) (u 33) (u 34) (u 1) (v 19) (v 20) (v 21) (v 22) (v 23) (xs (nI (i + 1)).toNatClampNeg) (xs (nI (i + 2)).toNatClampNeg) (xs (nI (i + 3)).toNatClampNeg) H.size rfl rfl rfl rfl rfl rfl rfl rfl rfl rfl rfl rfl rfl (by omega) (by omega) (by omega) (by omega)) (cwV 3 hts gL_law_X10_fastest rfl rfl rfl hd_X10_fastest_RX10 ⟨Nat.le_of_ble_eq_true rfl, Nat.le_of_ble_eq_true rfl⟩) ⟨fun a U g mk q => by obtain ⟨q0, q1, qP, qK, qD, qN⟩ := q; exact ⟨q0, q1, qP, va_K.moved (u := U) (U := U.calling g mk a) (Vm.Alike.refl U.vm) qK, qD, qN.calling⟩, va_recv hK hPc (ci := 10) (q0 := 0) rfl rfl, fun U hU hW => ⟨rfl, by rw [hU], by rw [hU]; exact hPc, va_K.moved hW.alike hK, hDc.weaken (fun _ _ _ _ => trivial), hN.warm hW⟩⟩ rfl rfl hl.1 rfl (lv_room (Nat.le_of_ble_eq_true rfl)) dL_law_582 ⟨Nat.le_of_ble_eq_true rfl, Nat.le_of_ble_eq_true rfl⟩) hS (fun q _ h => hFc q h) hFc (fun r4 u5 t H1 locs ht hvm hw6 hB hz1 hk1 hS => ?_)
  refine ob_x hB fun f7 hy91 => ob_x hy91 fun f8 hy92 => ob_x hy92 fun f9 hy93 => ob_x hy93 fun f10 hy94 => ob_x hy94 fun f11 hy95 => ob_x hy95 fun f12 hy96 => ob_x hy96 fun f13 hy97 => ob_x hy97 fun i14 hy98 => ob_x hy98 fun i17 hy99 => ob_x hy99 fun i18 hy910 => ob_x hy910 fun k15 hy911 => ob_x hy911 fun k16 hy912 => ob_a hy912 fun hk15 hy913 => ob_a hy913 fun hk16 hy914 => ob_a hy914 fun hP1 hD1 => ?_
  clear hy91 hy92 hy93 hy94 hy95 hy96 hy97 hy98 hy99 hy910 hy911 hy912 hy913 hy914 hB
  replace hP1 := va_hp ht hP1
  obtain ⟨hP, hD⟩ := vx_mix hP hD [0, 2, 53, 56, 57, 58, 59, 60, 61, 54, 55, 3, 4, 5, 8, 9, 10, 23, 24, 25, 26, 27, 28] hC hk1 hP1 rfl
  generalize hX1 : wmix _ _ _ _ = X1 at hP hD
  clear hP1 hD1 hC
  clear hz1 hk1 hPc hDc hFc
  generalize H1 = H at hP hS ht ⊢
  try dsimp only at hw6
  refine lv_pop hx hb dL_law_585 rfl ?_
  refine lv_aload_n hx hb dL_law_586 rfl (lv_at hl 1 rfl) ?_
  refine lv_aload_n hx hb dL_law_587 rfl (lv_at hl 3 rfl) ?_
  refine lv_iload_n hx hb dL_law_588 rfl (lv_at hl 0 rfl) ?_
  refine lv_iconst (v := 1) hx hb dL_law_589 (by decide) ?_
  refine lv_iadd hx hb dL_law_590 ?_
  refine lv_topi (fun z19 ez19 => ?_)
  obtain rfl : z19 = nI (i + 1) := ez19.trans (nI_add i 1)
  refine va_sld hx hb hX hbl hbA hS (vp_in_nI (n := i + 1) (N := L) (by omega) (by omega)) dL_law_591 ?_
  refine lv_aload_n hx hb dL_law_592 rfl (lv_at hl 3 rfl) ?_
  refine lv_iload_n hx hb dL_law_593 rfl (lv_at hl 0 rfl) ?_
  refine lv_iconst (v := 2) hx hb dL_law_594 (by decide) ?_
  refine lv_iadd hx hb dL_law_595 ?_
  refine lv_topi (fun z20 ez20 => ?_)
  obtain rfl : z20 = nI (i + 2) := ez20.trans (nI_add i 2)
  refine va_sld hx hb hX hbl hbA hS (vp_in_nI (n := i + 2) (N := L) (by omega) (by omega)) dL_law_596 ?_
  refine lv_aload_n hx hb dL_law_597 rfl (lv_at hl 3 rfl) ?_
  refine lv_iload_n hx hb dL_law_598 rfl (lv_at hl 0 rfl) ?_
  refine lv_iconst (v := 3) hx hb dL_law_599 (by decide) ?_
  refine lv_iadd hx hb dL_law_600 ?_
  refine lv_topi (fun z21 ez21 => ?_)
  obtain rfl : z21 = nI (i + 3) := ez21.trans (nI_add i 3)
  refine va_sld hx hb hX hbl hbA hS (vp_in_nI (n := i + 3) (N := L) (by omega) (by omega)) dL_law_601 ?_
  have hC : List.map (fun i => lAt X1 i) [69, 70, 71, 72, 73, 74, 75, 76, 88] = List.map some [(h1, .inr (11, (.int (sc 17) :: .int (sc 18) :: .int (nI (nn 16)) :: .ref (w 0) :: .ref (w 1) :: .ref (w 2) :: .int (nI (nn 17)) :: .ref (w 3) :: .ref (w 4) :: .ref (w 5) :: .ref (w 6) :: .int (nI (nn 18)) :: .ref (w 7) :: .int (nI (nn 19)) :: .int (sc 19) :: .int (nI (nn 20)) :: .int (sc 20) :: .int (sc 21) :: .ref (w 8) :: .int (nI (nn 21)) :: .ref (w 9) :: .ref (w 10) :: .ref (w 11) :: .ref (w 12) :: .ref (w 13) :: .int (nI (nn 22)) :: .ref (w 14) :: .ref (w 15) :: .ref (w 16) :: .int (nI (nn 23)) :: .ref (w 17) :: .int (sc 22) :: .int (sc 23) :: .ref (w 18) :: .int (sc 24) :: .int (sc 25) :: .ref (w 19) :: .int (nI (nn 24)) :: .ref (w 20) :: .ref (w 21) :: .ref (w 22) :: .int (nI (nn 25)) :: .ref (w 23) :: .ref (w 24) :: .ref (w 25) :: .ref (w 26) :: []))), ((w 0), .inl (cI, 8, .inl (v 52))), ((w 1), .inl (cI, 8, .inl (v 53))), ((w 2), .inl (cI, 8, .inl (v 54))), ((w 3), .inl (cI, 4, .inl (v 55))), ((w 4), .inl (cI, 4, .inl (v 56))), ((w 5), .inl (cI, 4, .inl (v 57))), ((w 6), .inl (cI, 34, .inl (v 58))), ((w 18), .inl (cI, 34, .inl (v 70)))] := by rw [← hX1]; exact wmix_map (by decide) rfl
  have hPc := vx_sub hP [69, 70, 71, 72, 73, 74, 75, 76, 88] hC
  have hDc := vx_D hD [69, 70, 71, 72, 73, 74, 75, 76, 88] (by decide) hC
  have hFc := vx_free hD hS hA [69, 70, 71, 72, 73, 74, 75, 76, 88] hC
  refine va_calli (va_runV (As := [.int (xs (nI (i + 1)).toNatClampNeg), .int (xs (nI (i + 2)).toNatClampNeg), .int (xs (nI (i + 3)).toNatClampNeg)]) (rest := []) ⟨hx, hb, hml, hown, hts⟩ (c_X11_fastestD l dC dI cI cZ cQ h1 (sc 17) (sc 18) (nn 16) (w 0) (w 1) (w 2) (nn 17) (w 3) (w 4) (w 5) (w 6) (nn 18) (w 7) (nn 19) (sc 19) (nn 20) (sc 20) (sc 21) (w 8) (nn 21) (w 9) (w 10) (w 11) (w 12) (w 13) (nn 22) (w 14) (w 15) (w 16) (nn 23) (w 17) (sc 22) (sc 23) (w 18) (sc 24) (sc 25) (w 19) (nn 24) (w 20) (w 21) (w 22) (nn 25) (w 23) (w 24) (w 25) (w 26) (v 52) (v 53) (v 54) (v 55) (v 56) (v 57) (v 58) (v 70) (xs (nI (i + 1)).toNatClampNeg) (xs (nI (i + 2)).toNatClampNeg) (xs (nI (i + 3)).toNatClampNeg) H.size (by omega) (by first | assumption | decide) (by omega)) (cwV 3 hts gL_law_X11_fastest rfl rfl rfl hd_X11_fastest_RX11 ⟨Nat.le_of_ble_eq_true rfl, Nat.le_of_ble_eq_true rfl⟩) (pv_D (va_recv hK hPc (ci := 11) (q0 := 0) rfl rfl) hK hPc hDc) rfl rfl hl.1 rfl (lv_room (Nat.le_of_ble_eq_true rfl)) dL_law_602 ⟨Nat.le_of_ble_eq_true rfl, Nat.le_of_ble_eq_true rfl⟩) hS (fun q _ h => hFc q h) hFc (fun r22 u23 t H1 locs ht hvm hw24 hB hz1 hk1 hS => ?_)
  obtain ⟨f25, f26, i27, i28, he29, hP1, hD1⟩ := hB
  replace hP1 := va_hp ht hP1
  obtain ⟨hP, hD⟩ := vx_mix hP hD [69, 70, 71, 72, 73, 74, 75, 76, 88] hC hk1 hP1 rfl
  generalize hX2 : wmix _ _ _ _ = X2 at hP hD
  clear hP1 hD1 hC
  clear hz1 hk1 hPc hDc hFc
  generalize H1 = H at hP hS ht ⊢
  try dsimp only at hw24
  refine lv_pop hx hb dL_law_605 rfl ?_
  refine lv_goto (tgt := 928) hx hb dL_law_606 (by decide) ?_
  refine lv_iinc (v := nI (i + 4)) (lv' := [(3, .int (nI (i + 4))), (2, .ref h1), (1, .ref h0), (0, .ref b)]) hx hb dL_law_928 hl (k := 0) rfl ((rfl : nI i + Int32.ofInt 4 = nI i + 4).trans (nI_add i 4)) (by decide) rfl (fun ls hl => ?_)
  refine lv_goto (tgt := 18) hx hb dL_law_931 (by decide) ?_
  have hE : X2 = lawW cI cZ cQ h0 h1 u w fq fi0 (va_up (va_up (va_up (va_up (va_up (va_up (va_up (va_up (va_up v 40 f12) 41 f13) 42 f7) 43 f8) 44 f9) 45 f10) 46 f11) 58 f25) 70 f26) (va_up (va_up (va_up (va_up (va_up sc 14 i14) 15 i17) 16 i18) 24 i27) 25 i28) (va_up (va_up nn 12 k15) 13 k16) := by rw [← hX2, ← hX1]; rfl
  rw [hE] at hP hD
  exact ih (va_up (va_up (va_up (va_up (va_up (va_up (va_up (va_up (va_up v 40 f12) 41 f13) 42 f7) 43 f8) 44 f9) 45 f10) 46 f11) 58 f25) 70 f26) (va_up (va_up (va_up (va_up (va_up sc 14 i14) 15 i17) 16 i18) 24 i27) 25 i28) (va_up (va_up nn 12 k15) 13 k16) cd H locs ls ⟨hn0, hn1, hn2, hn3, hn4, hn5, hn6, hn7, hn8, hn9, hn10, hn11, (show k15 ≤ 3 by omega), (show k16 ≤ 4 by omega), hn14, hn15, hn16, hn17, hn18, hn19, hn20, hn21, hn22, hn23, hn24, hn25, hqe, hqb, hsi, hci, hqw, hpw, hqk, hmi, heq, htx, hfe, hqq, hee, hbb, hkp, hBL, hMM, hST, hHH, hSD, hRW, (show dR ((nn 3)) ((nn 4)) (dk ((sc 7)) ((sc 8)) ((v 19)) ((v 20)) ((v 21)) ((v 22)) ((v 23))) (f25) from (dR_congr hDK hn3 hn4 he29)), hCU, hHR, hIM⟩ hP hD hS (lv_sub hl [0, 1, 2, 3] rfl)
set_option maxHeartbeats 8000000 in
set_option maxRecDepth 100000 in
theorem law_c17 {p : Program} {e : Env} {s : State} {m : MethodId} {below : List Frame} {meth : Method} {c : Code} (l : Launch) {b L : Nat} {xs : Nat → Int32} (C0 : lw_At p s m meth c b L xs) (hL : L ≤ 256) {dC : Nat → ClassId} {dI : Nat → Nat → Nat} {cI cZ cQ : ClassId} (hK : va_K (dC, dI) vwCl (tys0 cI cZ cQ) s) (hN : xN s) (hXS : xS (fun q : Nat => s.heap.size ≤ q) s s.heap) {h0 h1 : Nat} {u w : Nat → Nat} {fq fi0 : Nat → Option Nat} (hfq : ∀ j, j < 20 → fq j = some (da u j 0)) (hf0 : fi0 0 = some (u 59)) (hf1 : fi0 1 = some (u 60)) (i : Nat) (hi : i + 4 ≤ L) (ih : ∀ (v : Nat → Nat → Int32) (sc : Nat → Int32) (nn : Nat → Nat) (cd : Nat → dskC) (H : Heap) (locs : List Loc) (ls : Array Slot), lawI v sc nn cd → va_P (dC, dI) vwCl (lawW cI cZ cQ h0 h1 u w fq fi0 v sc nn ++ (hisW cI (u 1) (da u) cd)) H → va_D (fun q : Nat => s.heap.size ≤ q) (lawW cI cZ cQ h0 h1 u w fq fi0 v sc nn ++ (hisW cI (u 1) (da u) cd)) → va_S (fun q : Nat => s.heap.size ≤ q) s.heap H locs → lv_has ls 4 [(3, .int (nI (i + 4))), (2, .ref h1), (1, .ref h0), (0, .ref b)] → W p l e room_1 s m #[Value.ref b] below meth c H locs 217 2950 (lw_Z below #[Value.ref b] s) (F0 m 18 ls [])) : ∀ (v : Nat → Nat → Int32) (sc : Nat → Int32) (nn : Nat → Nat) (cd : Nat → dskC) (H : Heap) (locs : List Loc) (ls : Array Slot), lawI v sc nn cd → va_P (dC, dI) vwCl (lawW cI cZ cQ h0 h1 u w fq fi0 v sc nn ++ (hisW cI (u 1) (da u) cd)) H → va_D (fun q : Nat => s.heap.size ≤ q) (lawW cI cZ cQ h0 h1 u w fq fi0 v sc nn ++ (hisW cI (u 1) (da u) cd)) → va_S (fun q : Nat => s.heap.size ≤ q) s.heap H locs → lv_has ls 4 [(3, .int (nI i)), (2, .ref h1), (1, .ref h0), (0, .ref b)] → W p l e room_1 s m #[Value.ref b] below meth c H locs 217 2950 (lw_Z below #[Value.ref b] s) (F0 m 609 ls []) := by
  intro v sc nn cd H locs ls hI hP hD hS hl
  obtain ⟨hn0, hn1, hn2, hn3, hn4, hn5, hn6, hn7, hn8, hn9, hn10, hn11, hn12, hn13, hn14, hn15, hn16, hn17, hn18, hn19, hn20, hn21, hn22, hn23, hn24, hn25, hqe, hqb, hsi, hci, hqw, hpw, hqk, hmi, heq, htx, hfe, hqq, hee, hbb, hkp, hBL, hMM, hST, hHH, hSD, hRW, hDK, hCU, hHR, hIM⟩ := hI
  obtain ⟨hx, hb, hr, hml, hown, hts0, hX, hbl, hlocks, hgv⟩ := id C0
  have hts : ∀ w ∈ wsL_law, w.before #[Value.ref b] s = true := fun w h => hts0 w (wsL_law_in w h)
  have hown : s.vm.findClass RL = some m.cls := hown
  have hA : ∀ q : Nat, s.heap.size ≤ q → (fun q : Nat => s.heap.size ≤ q) q := fun _ h => h
  have hbA : ¬ (fun q : Nat => s.heap.size ≤ q) b := Nat.not_le.mpr hbl
  refine lv_aload_n hx hb dL_law_609 rfl (lv_at hl 2 rfl) ?_
  refine lv_aload_n hx hb dL_law_610 rfl (lv_at hl 3 rfl) ?_
  refine lv_iload_n hx hb dL_law_611 rfl (lv_at hl 0 rfl) ?_
  refine lv_iconst (v := 1) hx hb dL_law_612 (by decide) ?_
  refine lv_iadd hx hb dL_law_613 ?_
  refine lv_topi (fun z1 ez1 => ?_)
  obtain rfl : z1 = nI (i + 1) := ez1.trans (nI_add i 1)
  refine va_sld hx hb hX hbl hbA hS (vp_in_nI (n := i + 1) (N := L) (by omega) (by omega)) dL_law_614 ?_
  refine lv_aload_n hx hb dL_law_615 rfl (lv_at hl 3 rfl) ?_
  refine lv_iload_n hx hb dL_law_616 rfl (lv_at hl 0 rfl) ?_
  refine lv_iconst (v := 2) hx hb dL_law_617 (by decide) ?_
  refine lv_iadd hx hb dL_law_618 ?_
  refine lv_topi (fun z2 ez2 => ?_)
  obtain rfl : z2 = nI (i + 2) := ez2.trans (nI_add i 2)
  refine va_sld hx hb hX hbl hbA hS (vp_in_nI (n := i + 2) (N := L) (by omega) (by omega)) dL_law_619 ?_
  have hC : List.map (fun i => lAt (lawW cI cZ cQ h0 h1 u w fq fi0 v sc nn) i) [0, 2, 47, 48, 23, 25, 26, 3, 4, 5, 8, 9, 10] = List.map some [(h0, .inr (10, [.ref (u 0), .int (nI (nn 0)), .int (sc 0), .int (nI (nn 1)), .ref (u 1), .ref (u 2), .ref (u 3), .ref (u 4), .ref (u 5), .ref (u 6), .ref (u 7), .ref (u 8), .ref (u 9), .ref (u 10)])), ((u 1), .inr (5, [.int (nI (nn 2)), .int (sc 1), .int (sc 2), .int (nI (nn 3)), .int (nI (nn 4)), .ref (u 11), .ref (u 12), .ref (u 13), .ref (u 14), .ref (u 15), .ref (u 16), .ref (u 17), .ref (u 18)])), ((u 6), .inr (9, [.ref (u 1), .ref (u 3), .ref (u 71)])), ((u 71), .inl (cI, 9, .inl (v 36))), ((u 3), .inr (1, [.int (sc 7), .int (sc 8), .ref (u 30), .ref (u 31), .ref (u 32), .ref (u 33), .ref (u 34), .ref (u 1)])), ((u 31), .inl (cI, 8, .inl (v 20))), ((u 32), .inl (cI, 8, .inl (v 21))), ((u 11), .inl (cI, 8, .inl (v 1))), ((u 12), .inl (cI, 8, .inl (v 2))), ((u 13), .inl (cI, 8, .inl (v 3))), ((u 16), .inl (cI, 4, .inl (v 6))), ((u 17), .inl (cI, 4, .inl (v 7))), ((u 18), .inl (cI, 4, .inl (v 8)))] := rfl
  have hPc := vx_sub hP [0, 2, 47, 48, 23, 25, 26, 3, 4, 5, 8, 9, 10] hC
  have hDc := vx_D hD [0, 2, 47, 48, 23, 25, 26, 3, 4, 5, 8, 9, 10] (by decide +kernel) hC
  have hFc := vx_free hD hS hA [0, 2, 47, 48, 23, 25, 26, 3, 4, 5, 8, 9, 10] hC
  refine va_calli (va_runV (As := [.int (xs (nI (i + 1)).toNatClampNeg), .int (xs (nI (i + 2)).toNatClampNeg)]) (rest := []) ⟨hx, hb, hml, hown, hts⟩ (c_X10_byTurns l dC dI cI cZ cQ h0 (u 1) (u 6) ([.ref (u 0), .int (nI (nn 0)), .int (sc 0), .int (nI (nn 1)), .ref (u 1), .ref (u 2), .ref (u 3), .ref (u 4), .ref (u 5), .ref (u 6), .ref (u 7), .ref (u 8), .ref (u 9), .ref (u 10)]) (u 11) (u 12) (u 13) (u 16) (u 17) (u 18) (nn 3) (nn 4) ([.int (nI (nn 2)), .int (sc 1), .int (sc 2), .int (nI (nn 3)), .int (nI (nn 4)), .ref (u 11), .ref (u 12), .ref (u 13), .ref (u 14), .ref (u 15), .ref (u 16), .ref (u 17), .ref (u 18)]) (u 3) (u 71) ([.ref (u 1), .ref (u 3), .ref (u 71)]) (v 36) (u 31) (u 32) ([.int (sc 7), .int (sc 8), .ref (u 30), .ref (u 31), .ref (u 32), .ref (u 33), .ref (u 34), .ref (u 1)]) (v 20) (v 21) (v 1) (v 2) (v 3) (v 6) (v 7) (v 8) (xs (nI (i + 1)).toNatClampNeg) (xs (nI (i + 2)).toNatClampNeg) H.size rfl rfl rfl rfl rfl rfl rfl rfl rfl rfl rfl rfl rfl rfl rfl (by omega) (by omega)) (cwV 2 hts gL_law_X10_byTurns rfl rfl rfl hd_X10_byTurns_RX10 ⟨Nat.le_of_ble_eq_true rfl, Nat.le_of_ble_eq_true rfl⟩) ⟨fun a U g mk q => by obtain ⟨q0, q1, qP, qK, qD, qN⟩ := q; exact ⟨q0, q1, qP, va_K.moved (u := U) (U := U.calling g mk a) (Vm.Alike.refl U.vm) qK, qD, qN.calling⟩, va_recv hK hPc (ci := 10) (q0 := 0) rfl rfl, fun U hU hW => ⟨rfl, by rw [hU], by rw [hU]; exact hPc, va_K.moved hW.alike hK, hDc.weaken (fun _ _ _ _ => trivial), hN.warm hW⟩⟩ rfl rfl hl.1 rfl (lv_room (Nat.le_of_ble_eq_true rfl)) dL_law_620 ⟨Nat.le_of_ble_eq_true rfl, Nat.le_of_ble_eq_true rfl⟩) hS (fun q _ h => hFc q h) hFc (fun r3 u4 t H1 locs ht hvm hw5 hB hz1 hk1 hS => ?_)
  obtain ⟨f6, hP1, hD1⟩ := hB
  replace hP1 := va_hp ht hP1
  obtain ⟨hP, hD⟩ := vx_mix hP hD [0, 2, 47, 48, 23, 25, 26, 3, 4, 5, 8, 9, 10] hC hk1 hP1 rfl
  generalize hX1 : wmix _ _ _ _ = X1 at hP hD
  clear hP1 hD1 hC
  clear hz1 hk1 hPc hDc hFc
  generalize H1 = H at hP hS ht ⊢
  try dsimp only at hw5
  refine lv_pop hx hb dL_law_623 rfl ?_
  refine lv_aload_n hx hb dL_law_624 rfl (lv_at hl 1 rfl) ?_
  refine lv_aload_n hx hb dL_law_625 rfl (lv_at hl 3 rfl) ?_
  refine lv_iload_n hx hb dL_law_626 rfl (lv_at hl 0 rfl) ?_
  refine lv_iconst (v := 1) hx hb dL_law_627 (by decide) ?_
  refine lv_iadd hx hb dL_law_628 ?_
  refine lv_topi (fun z7 ez7 => ?_)
  obtain rfl : z7 = nI (i + 1) := ez7.trans (nI_add i 1)
  refine va_sld hx hb hX hbl hbA hS (vp_in_nI (n := i + 1) (N := L) (by omega) (by omega)) dL_law_629 ?_
  refine lv_aload_n hx hb dL_law_630 rfl (lv_at hl 3 rfl) ?_
  refine lv_iload_n hx hb dL_law_631 rfl (lv_at hl 0 rfl) ?_
  refine lv_iconst (v := 2) hx hb dL_law_632 (by decide) ?_
  refine lv_iadd hx hb dL_law_633 ?_
  refine lv_topi (fun z8 ez8 => ?_)
  obtain rfl : z8 = nI (i + 2) := ez8.trans (nI_add i 2)
  refine va_sld hx hb hX hbl hbA hS (vp_in_nI (n := i + 2) (N := L) (by omega) (by omega)) dL_law_634 ?_
  have hC : List.map (fun i => lAt X1 i) [69, 70, 71, 72, 73, 74, 75, 76, 89] = List.map some [(h1, .inr (11, (.int (sc 17) :: .int (sc 18) :: .int (nI (nn 16)) :: .ref (w 0) :: .ref (w 1) :: .ref (w 2) :: .int (nI (nn 17)) :: .ref (w 3) :: .ref (w 4) :: .ref (w 5) :: .ref (w 6) :: .int (nI (nn 18)) :: .ref (w 7) :: .int (nI (nn 19)) :: .int (sc 19) :: .int (nI (nn 20)) :: .int (sc 20) :: .int (sc 21) :: .ref (w 8) :: .int (nI (nn 21)) :: .ref (w 9) :: .ref (w 10) :: .ref (w 11) :: .ref (w 12) :: .ref (w 13) :: .int (nI (nn 22)) :: .ref (w 14) :: .ref (w 15) :: .ref (w 16) :: .int (nI (nn 23)) :: .ref (w 17) :: .int (sc 22) :: .int (sc 23) :: .ref (w 18) :: .int (sc 24) :: .int (sc 25) :: .ref (w 19) :: .int (nI (nn 24)) :: .ref (w 20) :: .ref (w 21) :: .ref (w 22) :: .int (nI (nn 25)) :: .ref (w 23) :: .ref (w 24) :: .ref (w 25) :: .ref (w 26) :: []))), ((w 0), .inl (cI, 8, .inl (v 52))), ((w 1), .inl (cI, 8, .inl (v 53))), ((w 2), .inl (cI, 8, .inl (v 54))), ((w 3), .inl (cI, 4, .inl (v 55))), ((w 4), .inl (cI, 4, .inl (v 56))), ((w 5), .inl (cI, 4, .inl (v 57))), ((w 6), .inl (cI, 34, .inl (v 58))), ((w 19), .inl (cI, 9, .inl (v 71)))] := by rw [← hX1]; exact wmix_map (by decide) rfl
  have hPc := vx_sub hP [69, 70, 71, 72, 73, 74, 75, 76, 89] hC
  have hDc := vx_D hD [69, 70, 71, 72, 73, 74, 75, 76, 89] (by decide) hC
  have hFc := vx_free hD hS hA [69, 70, 71, 72, 73, 74, 75, 76, 89] hC
  refine va_calli (va_runV (As := [.int (xs (nI (i + 1)).toNatClampNeg), .int (xs (nI (i + 2)).toNatClampNeg)]) (rest := []) ⟨hx, hb, hml, hown, hts⟩ (c_X11_byTurns l dC dI cI cZ cQ h1 (nn 16) (nn 17) (w 0) (w 1) (w 2) (w 3) (w 4) (w 5) (w 6) (w 19) ((.int (sc 17) :: .int (sc 18) :: .int (nI (nn 16)) :: .ref (w 0) :: .ref (w 1) :: .ref (w 2) :: .int (nI (nn 17)) :: .ref (w 3) :: .ref (w 4) :: .ref (w 5) :: .ref (w 6) :: .int (nI (nn 18)) :: .ref (w 7) :: .int (nI (nn 19)) :: .int (sc 19) :: .int (nI (nn 20)) :: .int (sc 20) :: .int (sc 21) :: .ref (w 8) :: .int (nI (nn 21)) :: .ref (w 9) :: .ref (w 10) :: .ref (w 11) :: .ref (w 12) :: .ref (w 13) :: .int (nI (nn 22)) :: .ref (w 14) :: .ref (w 15) :: .ref (w 16) :: .int (nI (nn 23)) :: .ref (w 17) :: .int (sc 22) :: .int (sc 23) :: .ref (w 18) :: .int (sc 24) :: .int (sc 25) :: .ref (w 19) :: .int (nI (nn 24)) :: .ref (w 20) :: .ref (w 21) :: .ref (w 22) :: .int (nI (nn 25)) :: .ref (w 23) :: .ref (w 24) :: .ref (w 25) :: .ref (w 26) :: [])) (v 52) (v 53) (v 54) (v 55) (v 56) (v 57) (v 58) (v 71) (xs (nI (i + 1)).toNatClampNeg) (xs (nI (i + 2)).toNatClampNeg) H.size rfl rfl rfl rfl rfl rfl rfl rfl rfl rfl (by omega) (by first | assumption | decide) (by omega)) (cwV 2 hts gL_law_X11_byTurns rfl rfl rfl hd_X11_byTurns_RX11 ⟨Nat.le_of_ble_eq_true rfl, Nat.le_of_ble_eq_true rfl⟩) (pv_D (va_recv hK hPc (ci := 11) (q0 := 0) rfl rfl) hK hPc hDc) rfl rfl hl.1 rfl (lv_room (Nat.le_of_ble_eq_true rfl)) dL_law_635 ⟨Nat.le_of_ble_eq_true rfl, Nat.le_of_ble_eq_true rfl⟩) hS (fun q _ h => hFc q h) hFc (fun r9 u10 t H1 locs ht hvm hw11 hB hz1 hk1 hS => ?_)
  obtain ⟨f12, hP1, hD1⟩ := hB
  replace hP1 := va_hp ht hP1
  obtain ⟨hP, hD⟩ := vx_mix hP hD [69, 70, 71, 72, 73, 74, 75, 76, 89] hC hk1 hP1 rfl
  generalize hX2 : wmix _ _ _ _ = X2 at hP hD
  clear hP1 hD1 hC
  clear hz1 hk1 hPc hDc hFc
  generalize H1 = H at hP hS ht ⊢
  try dsimp only at hw11
  refine lv_pop hx hb dL_law_638 rfl ?_
  refine lv_goto (tgt := 928) hx hb dL_law_639 (by decide) ?_
  refine lv_iinc (v := nI (i + 4)) (lv' := [(3, .int (nI (i + 4))), (2, .ref h1), (1, .ref h0), (0, .ref b)]) hx hb dL_law_928 hl (k := 0) rfl ((rfl : nI i + Int32.ofInt 4 = nI i + 4).trans (nI_add i 4)) (by decide) rfl (fun ls hl => ?_)
  refine lv_goto (tgt := 18) hx hb dL_law_931 (by decide) ?_
  have hE : X2 = lawW cI cZ cQ h0 h1 u w fq fi0 (va_up (va_up v 36 f6) 71 f12) sc nn := by rw [← hX2, ← hX1]; rfl
  rw [hE] at hP hD
  exact ih (va_up (va_up v 36 f6) 71 f12) sc nn cd H locs ls ⟨hn0, hn1, hn2, hn3, hn4, hn5, hn6, hn7, hn8, hn9, hn10, hn11, hn12, hn13, hn14, hn15, hn16, hn17, hn18, hn19, hn20, hn21, hn22, hn23, hn24, hn25, hqe, hqb, hsi, hci, hqw, hpw, hqk, hmi, heq, htx, hfe, hqq, hee, hbb, hkp, hBL, hMM, hST, hHH, hSD, hRW, hDK, hCU, hHR, hIM⟩ hP hD hS (lv_sub hl [0, 1, 2, 3] rfl)
set_option maxHeartbeats 8000000 in
set_option maxRecDepth 100000 in
theorem law_c18 {p : Program} {e : Env} {s : State} {m : MethodId} {below : List Frame} {meth : Method} {c : Code} (l : Launch) {b L : Nat} {xs : Nat → Int32} (C0 : lw_At p s m meth c b L xs) (hL : L ≤ 256) {dC : Nat → ClassId} {dI : Nat → Nat → Nat} {cI cZ cQ : ClassId} (hK : va_K (dC, dI) vwCl (tys0 cI cZ cQ) s) (hN : xN s) (hXS : xS (fun q : Nat => s.heap.size ≤ q) s s.heap) {h0 h1 : Nat} {u w : Nat → Nat} {fq fi0 : Nat → Option Nat} (hfq : ∀ j, j < 20 → fq j = some (da u j 0)) (hf0 : fi0 0 = some (u 59)) (hf1 : fi0 1 = some (u 60)) (i : Nat) (hi : i + 4 ≤ L) (ih : ∀ (v : Nat → Nat → Int32) (sc : Nat → Int32) (nn : Nat → Nat) (cd : Nat → dskC) (H : Heap) (locs : List Loc) (ls : Array Slot), lawI v sc nn cd → va_P (dC, dI) vwCl (lawW cI cZ cQ h0 h1 u w fq fi0 v sc nn ++ (hisW cI (u 1) (da u) cd)) H → va_D (fun q : Nat => s.heap.size ≤ q) (lawW cI cZ cQ h0 h1 u w fq fi0 v sc nn ++ (hisW cI (u 1) (da u) cd)) → va_S (fun q : Nat => s.heap.size ≤ q) s.heap H locs → lv_has ls 4 [(3, .int (nI (i + 4))), (2, .ref h1), (1, .ref h0), (0, .ref b)] → W p l e room_1 s m #[Value.ref b] below meth c H locs 217 2950 (lw_Z below #[Value.ref b] s) (F0 m 18 ls [])) : ∀ (v : Nat → Nat → Int32) (sc : Nat → Int32) (nn : Nat → Nat) (cd : Nat → dskC) (H : Heap) (locs : List Loc) (ls : Array Slot), lawI v sc nn cd → va_P (dC, dI) vwCl (lawW cI cZ cQ h0 h1 u w fq fi0 v sc nn ++ (hisW cI (u 1) (da u) cd)) H → va_D (fun q : Nat => s.heap.size ≤ q) (lawW cI cZ cQ h0 h1 u w fq fi0 v sc nn ++ (hisW cI (u 1) (da u) cd)) → va_S (fun q : Nat => s.heap.size ≤ q) s.heap H locs → lv_has ls 4 [(3, .int (nI i)), (2, .ref h1), (1, .ref h0), (0, .ref b)] → W p l e room_1 s m #[Value.ref b] below meth c H locs 217 2950 (lw_Z below #[Value.ref b] s) (F0 m 642 ls []) := by
  intro v sc nn cd H locs ls hI hP hD hS hl
  obtain ⟨hn0, hn1, hn2, hn3, hn4, hn5, hn6, hn7, hn8, hn9, hn10, hn11, hn12, hn13, hn14, hn15, hn16, hn17, hn18, hn19, hn20, hn21, hn22, hn23, hn24, hn25, hqe, hqb, hsi, hci, hqw, hpw, hqk, hmi, heq, htx, hfe, hqq, hee, hbb, hkp, hBL, hMM, hST, hHH, hSD, hRW, hDK, hCU, hHR, hIM⟩ := hI
  obtain ⟨hx, hb, hr, hml, hown, hts0, hX, hbl, hlocks, hgv⟩ := id C0
  have hts : ∀ w ∈ wsL_law, w.before #[Value.ref b] s = true := fun w h => hts0 w (wsL_law_in w h)
  have hown : s.vm.findClass RL = some m.cls := hown
  have hA : ∀ q : Nat, s.heap.size ≤ q → (fun q : Nat => s.heap.size ≤ q) q := fun _ h => h
  have hbA : ¬ (fun q : Nat => s.heap.size ≤ q) b := Nat.not_le.mpr hbl
  refine lv_aload_n hx hb dL_law_642 rfl (lv_at hl 2 rfl) ?_
  have hC : List.map (fun i => lAt (lawW cI cZ cQ h0 h1 u w fq fi0 v sc nn) i) [0, 2, 47, 23, 25, 26, 3, 4, 5, 8, 9, 10] = List.map some [(h0, .inr (10, [.ref (u 0), .int (nI (nn 0)), .int (sc 0), .int (nI (nn 1)), .ref (u 1), .ref (u 2), .ref (u 3), .ref (u 4), .ref (u 5), .ref (u 6), .ref (u 7), .ref (u 8), .ref (u 9), .ref (u 10)])), ((u 1), .inr (5, [.int (nI (nn 2)), .int (sc 1), .int (sc 2), .int (nI (nn 3)), .int (nI (nn 4)), .ref (u 11), .ref (u 12), .ref (u 13), .ref (u 14), .ref (u 15), .ref (u 16), .ref (u 17), .ref (u 18)])), ((u 6), .inr (9, [.ref (u 1), .ref (u 3), .ref (u 71)])), ((u 3), .inr (1, [.int (sc 7), .int (sc 8), .ref (u 30), .ref (u 31), .ref (u 32), .ref (u 33), .ref (u 34), .ref (u 1)])), ((u 31), .inl (cI, 8, .inl (v 20))), ((u 32), .inl (cI, 8, .inl (v 21))), ((u 11), .inl (cI, 8, .inl (v 1))), ((u 12), .inl (cI, 8, .inl (v 2))), ((u 13), .inl (cI, 8, .inl (v 3))), ((u 16), .inl (cI, 4, .inl (v 6))), ((u 17), .inl (cI, 4, .inl (v 7))), ((u 18), .inl (cI, 4, .inl (v 8)))] := rfl
  have hPc := vx_sub hP [0, 2, 47, 23, 25, 26, 3, 4, 5, 8, 9, 10] hC
  refine va_calli (va_runV (As := []) (rest := []) ⟨hx, hb, hml, hown, hts⟩ (c_X10_dearer l dC dI cI cZ cQ h0 (u 1) (u 6) ([.ref (u 0), .int (nI (nn 0)), .int (sc 0), .int (nI (nn 1)), .ref (u 1), .ref (u 2), .ref (u 3), .ref (u 4), .ref (u 5), .ref (u 6), .ref (u 7), .ref (u 8), .ref (u 9), .ref (u 10)]) (u 11) (u 12) (u 13) (u 16) (u 17) (u 18) (nn 3) (nn 4) ([.int (nI (nn 2)), .int (sc 1), .int (sc 2), .int (nI (nn 3)), .int (nI (nn 4)), .ref (u 11), .ref (u 12), .ref (u 13), .ref (u 14), .ref (u 15), .ref (u 16), .ref (u 17), .ref (u 18)]) (u 3) ([.ref (u 1), .ref (u 3), .ref (u 71)]) (u 30) (u 31) (u 32) ([.int (sc 7), .int (sc 8), .ref (u 30), .ref (u 31), .ref (u 32), .ref (u 33), .ref (u 34), .ref (u 1)]) (v 20) (v 21) (v 1) (v 2) (v 3) (v 6) (v 7) (v 8) H.size rfl rfl rfl rfl rfl rfl rfl rfl rfl rfl rfl rfl rfl rfl rfl (by omega) (by omega)) (cwV 0 hts gL_law_X10_dearer rfl rfl rfl hd_X10_dearer_RX10 ⟨Nat.le_of_ble_eq_true rfl, Nat.le_of_ble_eq_true rfl⟩) ⟨fun a U g mk q => by obtain ⟨q0, q1, qP, qK, qN⟩ := q; exact ⟨q0, q1, qP, va_K.moved (u := U) (U := U.calling g mk a) (Vm.Alike.refl U.vm) qK, qN.calling⟩, va_recv hK hPc (ci := 10) (q0 := 0) rfl rfl, fun U hU hW => ⟨rfl, by rw [hU], by rw [hU]; exact hPc, va_K.moved hW.alike hK, hN.warm hW⟩⟩ rfl rfl hl.1 rfl (lv_room (Nat.le_of_ble_eq_true rfl)) dL_law_643 ⟨Nat.le_of_ble_eq_true rfl, Nat.le_of_ble_eq_true rfl⟩) hS (fun q _ h => False.elim h) (fun q h => False.elim h) (fun r1 u2 t H1 locs ht hvm hw3 hB hz1 hk1 hS => ?_)
  have hP := hP.kept (fun k q hk => hk1 q.1 (hP k q hk).lt (fun h => h))
  clear hz1 hk1 hPc hC
  generalize H1 = H at hP hS ht ⊢
  try dsimp only at hw3
  refine lv_pop hx hb dL_law_646 rfl ?_
  refine lv_aload_n hx hb dL_law_647 rfl (lv_at hl 1 rfl) ?_
  have hC : List.map (fun i => lAt (lawW cI cZ cQ h0 h1 u w fq fi0 v sc nn) i) [69, 70, 71, 72, 73, 74, 75, 76] = List.map some [(h1, .inr (11, (.int (sc 17) :: .int (sc 18) :: .int (nI (nn 16)) :: .ref (w 0) :: .ref (w 1) :: .ref (w 2) :: .int (nI (nn 17)) :: .ref (w 3) :: .ref (w 4) :: .ref (w 5) :: .ref (w 6) :: .int (nI (nn 18)) :: .ref (w 7) :: .int (nI (nn 19)) :: .int (sc 19) :: .int (nI (nn 20)) :: .int (sc 20) :: .int (sc 21) :: .ref (w 8) :: .int (nI (nn 21)) :: .ref (w 9) :: .ref (w 10) :: .ref (w 11) :: .ref (w 12) :: .ref (w 13) :: .int (nI (nn 22)) :: .ref (w 14) :: .ref (w 15) :: .ref (w 16) :: .int (nI (nn 23)) :: .ref (w 17) :: .int (sc 22) :: .int (sc 23) :: .ref (w 18) :: .int (sc 24) :: .int (sc 25) :: .ref (w 19) :: .int (nI (nn 24)) :: .ref (w 20) :: .ref (w 21) :: .ref (w 22) :: .int (nI (nn 25)) :: .ref (w 23) :: .ref (w 24) :: .ref (w 25) :: .ref (w 26) :: []))), ((w 0), .inl (cI, 8, .inl (v 52))), ((w 1), .inl (cI, 8, .inl (v 53))), ((w 2), .inl (cI, 8, .inl (v 54))), ((w 3), .inl (cI, 4, .inl (v 55))), ((w 4), .inl (cI, 4, .inl (v 56))), ((w 5), .inl (cI, 4, .inl (v 57))), ((w 6), .inl (cI, 34, .inl (v 58)))] := rfl
  have hPc := vx_sub hP [69, 70, 71, 72, 73, 74, 75, 76] hC
  refine va_calli (va_runV (As := []) (rest := []) ⟨hx, hb, hml, hown, hts⟩ (c_X11_dearer l dC dI cI cZ cQ h1 (nn 16) (nn 17) (w 0) (w 1) (w 2) (w 3) (w 4) (w 5) (w 6) ((.int (sc 17) :: .int (sc 18) :: .int (nI (nn 16)) :: .ref (w 0) :: .ref (w 1) :: .ref (w 2) :: .int (nI (nn 17)) :: .ref (w 3) :: .ref (w 4) :: .ref (w 5) :: .ref (w 6) :: .int (nI (nn 18)) :: .ref (w 7) :: .int (nI (nn 19)) :: .int (sc 19) :: .int (nI (nn 20)) :: .int (sc 20) :: .int (sc 21) :: .ref (w 8) :: .int (nI (nn 21)) :: .ref (w 9) :: .ref (w 10) :: .ref (w 11) :: .ref (w 12) :: .ref (w 13) :: .int (nI (nn 22)) :: .ref (w 14) :: .ref (w 15) :: .ref (w 16) :: .int (nI (nn 23)) :: .ref (w 17) :: .int (sc 22) :: .int (sc 23) :: .ref (w 18) :: .int (sc 24) :: .int (sc 25) :: .ref (w 19) :: .int (nI (nn 24)) :: .ref (w 20) :: .ref (w 21) :: .ref (w 22) :: .int (nI (nn 25)) :: .ref (w 23) :: .ref (w 24) :: .ref (w 25) :: .ref (w 26) :: [])) (v 52) (v 53) (v 54) (v 55) (v 56) (v 57) (v 58) H.size rfl rfl rfl rfl rfl rfl rfl rfl rfl (by omega) (by first | assumption | decide) (by omega)) (cwV 0 hts gL_law_X11_dearer rfl rfl rfl hd_X11_dearer_RX11 ⟨Nat.le_of_ble_eq_true rfl, Nat.le_of_ble_eq_true rfl⟩) (pv_R (va_recv hK hPc (ci := 11) (q0 := 0) rfl rfl) hK hPc) rfl rfl hl.1 rfl (lv_room (Nat.le_of_ble_eq_true rfl)) dL_law_648 ⟨Nat.le_of_ble_eq_true rfl, Nat.le_of_ble_eq_true rfl⟩) hS (fun q _ h => False.elim h) (fun q h => False.elim h) (fun r4 u5 t H1 locs ht hvm hw6 hB hz1 hk1 hS => ?_)
  have hP := hP.kept (fun k q hk => hk1 q.1 (hP k q hk).lt (fun h => h))
  clear hz1 hk1 hPc hC
  generalize H1 = H at hP hS ht ⊢
  try dsimp only at hw6
  refine lv_pop hx hb dL_law_651 rfl ?_
  refine lv_goto (tgt := 928) hx hb dL_law_652 (by decide) ?_
  refine lv_iinc (v := nI (i + 4)) (lv' := [(3, .int (nI (i + 4))), (2, .ref h1), (1, .ref h0), (0, .ref b)]) hx hb dL_law_928 hl (k := 0) rfl ((rfl : nI i + Int32.ofInt 4 = nI i + 4).trans (nI_add i 4)) (by decide) rfl (fun ls hl => ?_)
  refine lv_goto (tgt := 18) hx hb dL_law_931 (by decide) ?_
  exact ih v sc nn cd H locs ls ⟨hn0, hn1, hn2, hn3, hn4, hn5, hn6, hn7, hn8, hn9, hn10, hn11, hn12, hn13, hn14, hn15, hn16, hn17, hn18, hn19, hn20, hn21, hn22, hn23, hn24, hn25, hqe, hqb, hsi, hci, hqw, hpw, hqk, hmi, heq, htx, hfe, hqq, hee, hbb, hkp, hBL, hMM, hST, hHH, hSD, hRW, hDK, hCU, hHR, hIM⟩ hP hD hS (lv_sub hl [0, 1, 2, 3] rfl)
