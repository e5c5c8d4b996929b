set_option maxHeartbeats 8000000 in
set_option maxRecDepth 100000 in
theorem law_c27 {p : Program} {e : Env} {s : State} {m : MethodId} {below : List Frame} {meth : Method} {c : Code} (l : Launch) {b L : Nat} {xs : Nat → Int32} (C0 : lw_At p s m meth c b L xs) (hL : L ≤ 256) {dC : Nat → ClassId} {dI : Nat → Nat → Nat} {cI cZ cQ : ClassId} (hK : va_K (dC, dI) vwCl (tys0 cI cZ cQ) s) (hN : xN s) (hXS : xS (fun q : Nat => s.heap.size ≤ q) s s.heap) {h0 h1 : Nat} {u w : Nat → Nat} {fq fi0 : Nat → Option Nat} (hfq : ∀ j, j < 20 → fq j = some (da u j 0)) (hf0 : fi0 0 = some (u 59)) (hf1 : fi0 1 = some (u 60)) (i : Nat) (hi : i + 4 ≤ L) (ih : ∀ (v : Nat → Nat → Int32) (sc : Nat → Int32) (nn : Nat → Nat) (cd : Nat → dskC) (H : Heap) (locs : List Loc) (ls : Array Slot), lawI v sc nn cd → va_P (dC, dI) vwCl (lawW cI cZ cQ h0 h1 u w fq fi0 v sc nn ++ (hisW cI (u 1) (da u) cd)) H → va_D (fun q : Nat => s.heap.size ≤ q) (lawW cI cZ cQ h0 h1 u w fq fi0 v sc nn ++ (hisW cI (u 1) (da u) cd)) → va_S (fun q : Nat => s.heap.size ≤ q) s.heap H locs → lv_has ls 4 [(3, .int (nI (i + 4))), (2, .ref h1), (1, .ref h0), (0, .ref b)] → W p l e room_1 s m #[Value.ref b] below meth c H locs 217 2950 (lw_Z below #[Value.ref b] s) (F0 m 18 ls [])) : ∀ (v : Nat → Nat → Int32) (sc : Nat → Int32) (nn : Nat → Nat) (cd : Nat → dskC) (H : Heap) (locs : List Loc) (ls : Array Slot), lawI v sc nn cd → va_P (dC, dI) vwCl (lawW cI cZ cQ h0 h1 u w fq fi0 v sc nn ++ (hisW cI (u 1) (da u) cd)) H → va_D (fun q : Nat => s.heap.size ≤ q) (lawW cI cZ cQ h0 h1 u w fq fi0 v sc nn ++ (hisW cI (u 1) (da u) cd)) → va_S (fun q : Nat => s.heap.size ≤ q) s.heap H locs → lv_has ls 4 [(3, .int (nI i)), (2, .ref h1), (1, .ref h0), (0, .ref b)] → W p l e room_1 s m #[Value.ref b] below meth c H locs 217 2950 (lw_Z below #[Value.ref b] s) (F0 m 859 ls []) := by
  intro v sc nn cd H locs ls hI hP hD hS hl
  obtain ⟨hn0, hn1, hn2, hn3, hn4, hn5, hn6, hn7, hn8, hn9, hn10, hn11, hn12, hn13, hn14, hn15, hn16, hn17, hn18, hn19, hn20, hn21, hn22, hn23, hn24, hn25, hqe, hqb, hsi, hci, hqw, hpw, hqk, hmi, heq, htx, hfe, hqq, hee, hbb, hkp, hBL, hMM, hST, hHH, hSD, hRW, hDK, hCU, hHR, hIM⟩ := hI
  obtain ⟨hx, hb, hr, hml, hown, hts0, hX, hbl, hlocks, hgv⟩ := id C0
  have hts : ∀ w ∈ wsL_law, w.before #[Value.ref b] s = true := fun w h => hts0 w (wsL_law_in w h)
  have hown : s.vm.findClass RL = some m.cls := hown
  have hA : ∀ q : Nat, s.heap.size ≤ q → (fun q : Nat => s.heap.size ≤ q) q := fun _ h => h
  have hbA : ¬ (fun q : Nat => s.heap.size ≤ q) b := Nat.not_le.mpr hbl
  refine lv_aload_n hx hb dL_law_859 rfl (lv_at hl 2 rfl) ?_
  refine lv_aload_n hx hb dL_law_860 rfl (lv_at hl 3 rfl) ?_
  refine lv_iload_n hx hb dL_law_861 rfl (lv_at hl 0 rfl) ?_
  refine lv_iconst (v := 1) hx hb dL_law_862 (by decide) ?_
  refine lv_iadd hx hb dL_law_863 ?_
  refine lv_topi (fun z1 ez1 => ?_)
  obtain rfl : z1 = nI (i + 1) := ez1.trans (nI_add i 1)
  refine va_sld hx hb hX hbl hbA hS (vp_in_nI (n := i + 1) (N := L) (by omega) (by omega)) dL_law_864 ?_
  have hC : List.map (fun i => lAt (lawW cI cZ cQ h0 h1 u w fq fi0 v sc nn) i) [0] = List.map some [(h0, .inr (10, [.ref (u 0), .int (nI (nn 0)), .int (sc 0), .int (nI (nn 1)), .ref (u 1), .ref (u 2), .ref (u 3), .ref (u 4), .ref (u 5), .ref (u 6), .ref (u 7), .ref (u 8), .ref (u 9), .ref (u 10)]))] := rfl
  have hPc := vx_sub hP [0] hC
  have hDc := vx_D hD [0] (by decide) hC
  have hFc := vx_free hD hS hA [0] hC
  refine va_calli (va_runV (As := [.int (xs (nI (i + 1)).toNatClampNeg)]) (rest := []) ⟨hx, hb, hml, hown, hts⟩ (c_X10_seedD l dC dI cI cZ cQ h0 (u 0) (nn 0) (sc 0) (nn 1) (u 1) (u 2) (u 3) (u 4) (u 5) (u 6) (u 7) (u 8) (u 9) (u 10) (xs (nI (i + 1)).toNatClampNeg) H.size (by omega)) (cwV 1 hts gL_law_X10_seed rfl rfl rfl hd_X10_seed_RX10 ⟨Nat.le_of_ble_eq_true rfl, Nat.le_of_ble_eq_true rfl⟩) (pv_D (va_recv hK hPc (ci := 10) (q0 := 0) rfl rfl) hK hPc hDc) rfl rfl hl.1 rfl (lv_room (Nat.le_of_ble_eq_true rfl)) dL_law_865 ⟨Nat.le_of_ble_eq_true rfl, Nat.le_of_ble_eq_true rfl⟩) hS (fun q _ h => hFc q h) hFc (fun r2 u3 t H1 locs ht hvm hw4 hB hz1 hk1 hS => ?_)
  obtain ⟨k5, hk5, he6, hP1, hD1⟩ := hB
  replace hP1 := va_hp ht hP1
  obtain ⟨hP, hD⟩ := vx_mix hP hD [0] hC hk1 hP1 rfl
  generalize hX1 : wmix _ _ _ _ = X1 at hP hD
  clear hP1 hD1 hC
  clear hz1 hk1 hPc hDc hFc
  generalize H1 = H at hP hS ht ⊢
  try dsimp only at hw4
  refine lv_aload_n hx hb dL_law_868 rfl (lv_at hl 1 rfl) ?_
  refine lv_aload_n hx hb dL_law_869 rfl (lv_at hl 3 rfl) ?_
  refine lv_iload_n hx hb dL_law_870 rfl (lv_at hl 0 rfl) ?_
  refine lv_iconst (v := 1) hx hb dL_law_871 (by decide) ?_
  refine lv_iadd hx hb dL_law_872 ?_
  refine lv_topi (fun z7 ez7 => ?_)
  obtain rfl : z7 = nI (i + 1) := ez7.trans (nI_add i 1)
  refine va_sld hx hb hX hbl hbA hS (vp_in_nI (n := i + 1) (N := L) (by omega) (by omega)) dL_law_873 ?_
  have hC : List.map (fun i => lAt X1 i) [69] = List.map some [(h1, .inr (11, (.int (sc 17) :: .int (sc 18) :: .int (nI (nn 16)) :: .ref (w 0) :: .ref (w 1) :: .ref (w 2) :: .int (nI (nn 17)) :: .ref (w 3) :: .ref (w 4) :: .ref (w 5) :: .ref (w 6) :: .int (nI (nn 18)) :: .ref (w 7) :: .int (nI (nn 19)) :: .int (sc 19) :: .int (nI (nn 20)) :: .int (sc 20) :: .int (sc 21) :: .ref (w 8) :: .int (nI (nn 21)) :: .ref (w 9) :: .ref (w 10) :: .ref (w 11) :: .ref (w 12) :: .ref (w 13) :: .int (nI (nn 22)) :: .ref (w 14) :: .ref (w 15) :: .ref (w 16) :: .int (nI (nn 23)) :: .ref (w 17) :: .int (sc 22) :: .int (sc 23) :: .ref (w 18) :: .int (sc 24) :: .int (sc 25) :: .ref (w 19) :: .int (nI (nn 24)) :: .ref (w 20) :: .ref (w 21) :: .ref (w 22) :: .int (nI (nn 25)) :: .ref (w 23) :: .ref (w 24) :: .ref (w 25) :: .ref (w 26) :: [])))] := by rw [← hX1]; exact wmix_map (by decide) rfl
  have hPc := vx_sub hP [69] hC
  have hDc := vx_D hD [69] (by decide) hC
  have hFc := vx_free hD hS hA [69] hC
  refine va_calli (va_runV (As := [.int (xs (nI (i + 1)).toNatClampNeg)]) (rest := [.int r2]) ⟨hx, hb, hml, hown, hts⟩ (c_X11_seedD l dC dI cI cZ cQ h1 (sc 17) (sc 18) (nn 16) (w 0) (w 1) (w 2) (nn 17) (w 3) (w 4) (w 5) (w 6) (nn 18) (w 7) (nn 19) (sc 19) (nn 20) (sc 20) (sc 21) (w 8) (nn 21) (w 9) (w 10) (w 11) (w 12) (w 13) (nn 22) (w 14) (w 15) (w 16) (nn 23) (w 17) (sc 22) (sc 23) (w 18) (sc 24) (sc 25) (w 19) (nn 24) (w 20) (w 21) (w 22) (nn 25) (w 23) (w 24) (w 25) (w 26) (xs (nI (i + 1)).toNatClampNeg) H.size (by omega)) (cwV 1 hts gL_law_X11_seed rfl rfl rfl hd_X11_seed_RX11 ⟨Nat.le_of_ble_eq_true rfl, Nat.le_of_ble_eq_true rfl⟩) (pv_D (va_recv hK hPc (ci := 11) (q0 := 0) rfl rfl) hK hPc hDc) rfl rfl hl.1 rfl (lv_room (Nat.le_of_ble_eq_true rfl)) dL_law_874 ⟨Nat.le_of_ble_eq_true rfl, Nat.le_of_ble_eq_true rfl⟩) hS (fun q _ h => hFc q h) hFc (fun r8 u9 t H1 locs ht hvm hw10 hB hz1 hk1 hS => ?_)
  obtain ⟨k11, hk11, he12, hP1, hD1⟩ := hB
  replace hP1 := va_hp ht hP1
  obtain ⟨hP, hD⟩ := vx_mix hP hD [69] hC hk1 hP1 rfl
  generalize hX2 : wmix _ _ _ _ = X2 at hP hD
  clear hP1 hD1 hC
  clear hz1 hk1 hPc hDc hFc
  generalize H1 = H at hP hS ht ⊢
  try dsimp only at hw10
  have hLq := L_seed he6 he12 hSD
  refine lv_icmp_eq (tgt := 928) hx hb dL_law_877 (by decide) (fun _ => ?_) (fun c1 => absurd (hw4.trans (hLq.1.trans hw10.symm)) c1)
  refine lv_iinc (v := nI (i + 4)) (lv' := [(3, .int (nI (i + 4))), (2, .ref h1), (1, .ref h0), (0, .ref b)]) hx hb dL_law_928 hl (k := 0) rfl ((rfl : nI i + Int32.ofInt 4 = nI i + 4).trans (nI_add i 4)) (by decide) rfl (fun ls hl => ?_)
  refine lv_goto (tgt := 18) hx hb dL_law_931 (by decide) ?_
  have hE : X2 = lawW cI cZ cQ h0 h1 u w fq fi0 v sc (va_up (va_up nn 1 k5) 18 k11) := by rw [← hX2, ← hX1]; rfl
  rw [hE] at hP hD
  exact ih v sc (va_up (va_up nn 1 k5) 18 k11) cd H locs ls ⟨hn0, (show k5 ≤ 2147483647 by omega), hn2, hn3, hn4, hn5, hn6, hn7, hn8, hn9, hn10, hn11, hn12, hn13, hn14, hn15, hn16, hn17, (show k11 ≤ 2147483647 by omega), hn19, hn20, hn21, hn22, hn23, hn24, hn25, hqe, hqb, hsi, hci, hqw, hpw, hqk, hmi, heq, htx, hfe, hqq, hee, hbb, hkp, hBL, hMM, hST, hHH, (show k5 = k11 from hLq.2), hRW, hDK, hCU, hHR, hIM⟩ hP hD hS (lv_sub hl [0, 1, 2, 3] rfl)
set_option maxHeartbeats 8000000 in
set_option maxRecDepth 100000 in
theorem law_c28 {p : Program} {e : Env} {s : State} {m : MethodId} {below : List Frame} {meth : Method} {c : Code} (l : Launch) {b L : Nat} {xs : Nat → Int32} (C0 : lw_At p s m meth c b L xs) (hL : L ≤ 256) {dC : Nat → ClassId} {dI : Nat → Nat → Nat} {cI cZ cQ : ClassId} (hK : va_K (dC, dI) vwCl (tys0 cI cZ cQ) s) (hN : xN s) (hXS : xS (fun q : Nat => s.heap.size ≤ q) s s.heap) {h0 h1 : Nat} {u w : Nat → Nat} {fq fi0 : Nat → Option Nat} (hfq : ∀ j, j < 20 → fq j = some (da u j 0)) (hf0 : fi0 0 = some (u 59)) (hf1 : fi0 1 = some (u 60)) (i : Nat) (hi : i + 4 ≤ L) (ih : ∀ (v : Nat → Nat → Int32) (sc : Nat → Int32) (nn : Nat → Nat) (cd : Nat → dskC) (H : Heap) (locs : List Loc) (ls : Array Slot), lawI v sc nn cd → va_P (dC, dI) vwCl (lawW cI cZ cQ h0 h1 u w fq fi0 v sc nn ++ (hisW cI (u 1) (da u) cd)) H → va_D (fun q : Nat => s.heap.size ≤ q) (lawW cI cZ cQ h0 h1 u w fq fi0 v sc nn ++ (hisW cI (u 1) (da u) cd)) → va_S (fun q : Nat => s.heap.size ≤ q) s.heap H locs → lv_has ls 4 [(3, .int (nI (i + 4))), (2, .ref h1), (1, .ref h0), (0, .ref b)] → W p l e room_1 s m #[Value.ref b] below meth c H locs 217 2950 (lw_Z below #[Value.ref b] s) (F0 m 18 ls [])) : ∀ (v : Nat → Nat → Int32) (sc : Nat → Int32) (nn : Nat → Nat) (cd : Nat → dskC) (H : Heap) (locs : List Loc) (ls : Array Slot), lawI v sc nn cd → va_P (dC, dI) vwCl (lawW cI cZ cQ h0 h1 u w fq fi0 v sc nn ++ (hisW cI (u 1) (da u) cd)) H → va_D (fun q : Nat => s.heap.size ≤ q) (lawW cI cZ cQ h0 h1 u w fq fi0 v sc nn ++ (hisW cI (u 1) (da u) cd)) → va_S (fun q : Nat => s.heap.size ≤ q) s.heap H locs → lv_has ls 4 [(3, .int (nI i)), (2, .ref h1), (1, .ref h0), (0, .ref b)] → W p l e room_1 s m #[Value.ref b] below meth c H locs 217 2950 (lw_Z below #[Value.ref b] s) (F0 m 882 ls []) := by
  intro v sc nn cd H locs ls hI hP hD hS hl
  obtain ⟨hn0, hn1, hn2, hn3, hn4, hn5, hn6, hn7, hn8, hn9, hn10, hn11, hn12, hn13, hn14, hn15, hn16, hn17, hn18, hn19, hn20, hn21, hn22, hn23, hn24, hn25, hqe, hqb, hsi, hci, hqw, hpw, hqk, hmi, heq, htx, hfe, hqq, hee, hbb, hkp, hBL, hMM, hST, hHH, hSD, hRW, hDK, hCU, hHR, hIM⟩ := hI
  obtain ⟨hx, hb, hr, hml, hown, hts0, hX, hbl, hlocks, hgv⟩ := id C0
  have hts : ∀ w ∈ wsL_law, w.before #[Value.ref b] s = true := fun w h => hts0 w (wsL_law_in w h)
  have hown : s.vm.findClass RL = some m.cls := hown
  have hA : ∀ q : Nat, s.heap.size ≤ q → (fun q : Nat => s.heap.size ≤ q) q := fun _ h => h
  have hbA : ¬ (fun q : Nat => s.heap.size ≤ q) b := Nat.not_le.mpr hbl
  refine lv_aload_n hx hb dL_law_882 rfl (lv_at hl 2 rfl) ?_
  refine lv_aload_n hx hb dL_law_883 rfl (lv_at hl 3 rfl) ?_
  refine lv_iload_n hx hb dL_law_884 rfl (lv_at hl 0 rfl) ?_
  refine lv_iconst (v := 1) hx hb dL_law_885 (by decide) ?_
  refine lv_iadd hx hb dL_law_886 ?_
  refine lv_topi (fun z1 ez1 => ?_)
  obtain rfl : z1 = nI (i + 1) := ez1.trans (nI_add i 1)
  refine va_sld hx hb hX hbl hbA hS (vp_in_nI (n := i + 1) (N := L) (by omega) (by omega)) dL_law_887 ?_
  have hC : List.map (fun i => lAt (lawW cI cZ cQ h0 h1 u w fq fi0 v sc nn) i) [0, 31, 32, 33, 34, 23, 24, 25, 26, 27, 28, 35, 36, 37, 38, 39, 40, 41, 42, 43, 44, 45, 46, 29] = List.map some [(h0, .inr (10, [.ref (u 0), .int (nI (nn 0)), .int (sc 0), .int (nI (nn 1)), .ref (u 1), .ref (u 2), .ref (u 3), .ref (u 4), .ref (u 5), .ref (u 6), .ref (u 7), .ref (u 8), .ref (u 9), .ref (u 10)])), ((u 5), .inr (4, [.ref (u 56), .ref (u 57), .ref (u 58)])), ((u 56), .inl (cQ, 2, .inr (.inr (.inr (.inr fi0))))), ((u 57), .inl (cI, 2, .inl (v 24))), ((u 58), .inl (cZ, 2, .inl (v 25))), ((u 3), .inr (1, [.int (sc 7), .int (sc 8), .ref (u 30), .ref (u 31), .ref (u 32), .ref (u 33), .ref (u 34), .ref (u 1)])), ((u 30), .inl (cI, 8, .inl (v 19))), ((u 31), .inl (cI, 8, .inl (v 20))), ((u 32), .inl (cI, 8, .inl (v 21))), ((u 33), .inl (cI, 4, .inl (v 22))), ((u 34), .inl (cI, 4, .inl (v 23))), ((u 59), .inr (1, [.int (sc 9), .int (sc 10), .ref (u 61), .ref (u 62), .ref (u 63), .ref (u 64), .ref (u 65), .ref (u 1)])), ((u 61), .inl (cI, 8, .inl (v 26))), ((u 62), .inl (cI, 8, .inl (v 27))), ((u 63), .inl (cI, 8, .inl (v 28))), ((u 64), .inl (cI, 4, .inl (v 29))), ((u 65), .inl (cI, 4, .inl (v 30))), ((u 60), .inr (1, [.int (sc 11), .int (sc 12), .ref (u 66), .ref (u 67), .ref (u 68), .ref (u 69), .ref (u 70), .ref (u 1)])), ((u 66), .inl (cI, 8, .inl (v 31))), ((u 67), .inl (cI, 8, .inl (v 32))), ((u 68), .inl (cI, 8, .inl (v 33))), ((u 69), .inl (cI, 4, .inl (v 34))), ((u 70), .inl (cI, 4, .inl (v 35))), ((u 4), .inr (3, [.ref (u 35), .int (nI (nn 10)), .int (nI (nn 11))]))] := rfl
  have hPc := vx_sub hP [0, 31, 32, 33, 34, 23, 24, 25, 26, 27, 28, 35, 36, 37, 38, 39, 40, 41, 42, 43, 44, 45, 46, 29] hC
  have hDc := vx_D hD [0, 31, 32, 33, 34, 23, 24, 25, 26, 27, 28, 35, 36, 37, 38, 39, 40, 41, 42, 43, 44, 45, 46, 29] (by decide +kernel) hC
  have hFc := vx_free hD hS hA [0, 31, 32, 33, 34, 23, 24, 25, 26, 27, 28, 35, 36, 37, 38, 39, 40, 41, 42, 43, 44, 45, 46, 29] hC
  refine va_calli (va_runV (As := [.int (xs (nI (i + 1)).toNatClampNeg)]) (rest := []) ⟨hx, hb, hml, hown, hts⟩ (c_X10_keepD l dC dI cI cZ cQ h0 (nn 1) (u 3) (u 4) (u 5) ([.ref (u 0), .int (nI (nn 0)), .int (sc 0), .int (nI (nn 1)), .ref (u 1), .ref (u 2), .ref (u 3), .ref (u 4), .ref (u 5), .ref (u 6), .ref (u 7), .ref (u 8), .ref (u 9), .ref (u 10)]) (u 56) (u 57) (u 58) ([.ref (u 56), .ref (u 57), .ref (u 58)]) fi0 (v 24) (v 25) (sc 7) (sc 8) (u 30) (u 31) (u 32) (u 33) (u 34) (u 1) (v 19) (v 20) (v 21) (v 22) (v 23) (u 59) (sc 9) (sc 10) (u 61) (u 62) (u 63) (u 64) (u 65) (v 26) (v 27) (v 28) (v 29) (v 30) (u 60) (sc 11) (sc 12) (u 66) (u 67) (u 68) (u 69) (u 70) (v 31) (v 32) (v 33) (v 34) (v 35) (u 35) (nn 10) (nn 11) (xs (nI (i + 1)).toNatClampNeg) H.size rfl rfl rfl rfl rfl rfl rfl hf0 hf1 (by first | assumption | decide) (by omega) (by omega) (by omega)) (cwV 1 hts gL_law_X10_keep rfl rfl rfl hd_X10_keep_RX10 ⟨Nat.le_of_ble_eq_true rfl, Nat.le_of_ble_eq_true rfl⟩) (pv_D (va_recv hK hPc (ci := 10) (q0 := 0) rfl rfl) hK hPc hDc) rfl rfl hl.1 rfl (lv_room (Nat.le_of_ble_eq_true rfl)) dL_law_888 ⟨Nat.le_of_ble_eq_true rfl, Nat.le_of_ble_eq_true rfl⟩) hS (fun q _ h => hFc q h) hFc (fun r2 u3 t H1 locs ht hvm hw4 hB hz1 hk1 hS => ?_)
  refine ob_x hB fun f5 hy91 => ob_x hy91 fun f6 hy92 => ob_x hy92 fun f7 hy93 => ob_x hy93 fun f8 hy94 => ob_x hy94 fun f9 hy95 => ob_x hy95 fun f10 hy96 => ob_x hy96 fun f11 hy97 => ob_x hy97 fun f12 hy98 => ob_x hy98 fun f13 hy99 => ob_x hy99 fun f14 hy910 => ob_x hy910 fun f15 hy911 => ob_x hy911 fun f16 hy912 => ob_x hy912 fun i17 hy913 => ob_x hy913 fun i18 hy914 => ob_x hy914 fun i19 hy915 => ob_x hy915 fun i20 hy916 => ob_x hy916 fun k21 hy917 => ob_a hy917 fun hk21 hy918 => ob_a hy918 fun he22 hy919 => ob_a hy919 fun he23 hy920 => ob_a hy920 fun he24 hy921 => ob_a hy921 fun he25 hy922 => ob_a hy922 fun he26 hy923 => ob_a hy923 fun he27 hy924 => ob_a hy924 fun hP1 hD1 => ?_
  clear hy91 hy92 hy93 hy94 hy95 hy96 hy97 hy98 hy99 hy910 hy911 hy912 hy913 hy914 hy915 hy916 hy917 hy918 hy919 hy920 hy921 hy922 hy923 hy924 hB
  replace hP1 := va_hp ht hP1
  obtain ⟨hP, hD⟩ := vx_mix hP hD [0, 31, 32, 33, 34, 23, 24, 25, 26, 27, 28, 35, 36, 37, 38, 39, 40, 41, 42, 43, 44, 45, 46, 29] hC hk1 hP1 rfl
  generalize hX1 : wmix _ _ _ _ = X1 at hP hD
  clear hP1 hD1 hC
  clear hz1 hk1 hPc hDc hFc
  generalize H1 = H at hP hS ht ⊢
  try dsimp only at hw4
  refine lv_pop hx hb dL_law_891 rfl ?_
  refine lv_aload_n hx hb dL_law_892 rfl (lv_at hl 1 rfl) ?_
  refine lv_aload_n hx hb dL_law_893 rfl (lv_at hl 3 rfl) ?_
  refine lv_iload_n hx hb dL_law_894 rfl (lv_at hl 0 rfl) ?_
  refine lv_iconst (v := 1) hx hb dL_law_895 (by decide) ?_
  refine lv_iadd hx hb dL_law_896 ?_
  refine lv_topi (fun z28 ez28 => ?_)
  obtain rfl : z28 = nI (i + 1) := ez28.trans (nI_add i 1)
  refine va_sld hx hb hX hbl hbA hS (vp_in_nI (n := i + 1) (N := L) (by omega) (by omega)) dL_law_897 ?_
  have hC : List.map (fun i => lAt X1 i) [69, 76, 95, 96] = List.map some [(h1, .inr (11, (.int (sc 17) :: .int (sc 18) :: .int (nI (nn 16)) :: .ref (w 0) :: .ref (w 1) :: .ref (w 2) :: .int (nI (nn 17)) :: .ref (w 3) :: .ref (w 4) :: .ref (w 5) :: .ref (w 6) :: .int (nI (nn 18)) :: .ref (w 7) :: .int (nI (nn 19)) :: .int (sc 19) :: .int (nI (nn 20)) :: .int (sc 20) :: .int (sc 21) :: .ref (w 8) :: .int (nI (nn 21)) :: .ref (w 9) :: .ref (w 10) :: .ref (w 11) :: .ref (w 12) :: .ref (w 13) :: .int (nI (nn 22)) :: .ref (w 14) :: .ref (w 15) :: .ref (w 16) :: .int (nI (nn 23)) :: .ref (w 17) :: .int (sc 22) :: .int (sc 23) :: .ref (w 18) :: .int (sc 24) :: .int (sc 25) :: .ref (w 19) :: .int (nI (nn 24)) :: .ref (w 20) :: .ref (w 21) :: .ref (w 22) :: .int (nI (nn 25)) :: .ref (w 23) :: .ref (w 24) :: .ref (w 25) :: .ref (w 26) :: []))), ((w 6), .inl (cI, 34, .inl (v 58))), ((w 25), .inl (cI, 70, .inl (v 77))), ((w 26), .inl (cZ, 2, .inl (v 78)))] := by rw [← hX1]; exact wmix_map (by decide) rfl
  have hPc := vx_sub hP [69, 76, 95, 96] hC
  have hDc := vx_D hD [69, 76, 95, 96] (by decide) hC
  have hFc := vx_free hD hS hA [69, 76, 95, 96] hC
  refine va_calli (va_runV (As := [.int (xs (nI (i + 1)).toNatClampNeg)]) (rest := []) ⟨hx, hb, hml, hown, hts⟩ (c_X11_keepD l dC dI cI cZ cQ h1 (sc 17) (sc 18) (nn 16) (w 0) (w 1) (w 2) (nn 17) (w 3) (w 4) (w 5) (w 6) (nn 18) (w 7) (nn 19) (sc 19) (nn 20) (sc 20) (sc 21) (w 8) (nn 21) (w 9) (w 10) (w 11) (w 12) (w 13) (nn 22) (w 14) (w 15) (w 16) (nn 23) (w 17) (sc 22) (sc 23) (w 18) (sc 24) (sc 25) (w 19) (nn 24) (w 20) (w 21) (w 22) (nn 25) (w 23) (w 24) (w 25) (w 26) (v 58) (v 77) (v 78) (xs (nI (i + 1)).toNatClampNeg) H.size (by first | assumption | decide) (by omega) (by omega)) (cwV 1 hts gL_law_X11_keep rfl rfl rfl hd_X11_keep_RX11 ⟨Nat.le_of_ble_eq_true rfl, Nat.le_of_ble_eq_true rfl⟩) (pv_D (va_recv hK hPc (ci := 11) (q0 := 0) rfl rfl) hK hPc hDc) rfl rfl hl.1 rfl (lv_room (Nat.le_of_ble_eq_true rfl)) dL_law_898 ⟨Nat.le_of_ble_eq_true rfl, Nat.le_of_ble_eq_true rfl⟩) hS (fun q _ h => hFc q h) hFc (fun r29 u30 t H1 locs ht hvm hw31 hB hz1 hk1 hS => ?_)
  obtain ⟨f32, f33, k34, hk34, he35, he36, he37, he38, hP1, hD1⟩ := hB
  replace hP1 := va_hp ht hP1
  obtain ⟨hP, hD⟩ := vx_mix hP hD [69, 76, 95, 96] hC hk1 hP1 rfl
  generalize hX2 : wmix _ _ _ _ = X2 at hP hD
  clear hP1 hD1 hC
  clear hz1 hk1 hPc hDc hFc
  generalize H1 = H at hP hS ht ⊢
  try dsimp only at hw31
  have hLq := L_keep he23 he24 he25 he26 he27 he36 he38 hSD hn3 hn4 hDK hCU hHR hIM
  refine lv_pop hx hb dL_law_901 rfl ?_
  refine lv_goto (tgt := 928) hx hb dL_law_902 (by decide) ?_
  refine lv_iinc (v := nI (i + 4)) (lv' := [(3, .int (nI (i + 4))), (2, .ref h1), (1, .ref h0), (0, .ref b)]) hx hb dL_law_928 hl (k := 0) rfl ((rfl : nI i + Int32.ofInt 4 = nI i + 4).trans (nI_add i 4)) (by decide) rfl (fun ls hl => ?_)
  refine lv_goto (tgt := 18) hx hb dL_law_931 (by decide) ?_
  have hE : X2 = lawW cI cZ cQ h0 h1 u w fq fi0 (va_up (va_up (va_up (va_up (va_up (va_up (va_up (va_up (va_up (va_up (va_up (va_up (va_up (va_up v 24 f5) 25 f6) 26 f7) 27 f8) 28 f9) 29 f10) 30 f11) 31 f12) 32 f13) 33 f14) 34 f15) 35 f16) 77 f32) 78 f33) (va_up (va_up (va_up (va_up sc 9 i17) 10 i18) 11 i19) 12 i20) (va_up (va_up nn 11 k21) 23 k34) := by rw [← hX2, ← hX1]; rfl
  rw [hE] at hP hD
  exact ih (va_up (va_up (va_up (va_up (va_up (va_up (va_up (va_up (va_up (va_up (va_up (va_up (va_up (va_up v 24 f5) 25 f6) 26 f7) 27 f8) 28 f9) 29 f10) 30 f11) 31 f12) 32 f13) 33 f14) 34 f15) 35 f16) 77 f32) 78 f33) (va_up (va_up (va_up (va_up sc 9 i17) 10 i18) 11 i19) 12 i20) (va_up (va_up nn 11 k21) 23 k34) cd H locs ls ⟨hn0, hn1, hn2, hn3, hn4, hn5, hn6, hn7, hn8, hn9, hn10, (show k21 ≤ 20 by omega), hn12, hn13, hn14, hn15, hn16, hn17, hn18, hn19, hn20, hn21, hn22, (show k34 ≤ 20 by omega), hn24, hn25, hqe, hqb, he22, hci, hqw, hpw, hqk, he35, heq, htx, hfe, hqq, hee, hbb, (show ∀ j, j < 2 → f33 j = f6 j from by rw [he24, he37]; exact kept_rel hkp), hBL, hMM, hST, hHH, hSD, hRW, hDK, (show k21 = k34 from hLq.1), (show hR ((nn 3)) ((nn 4)) ((nn 10)) (k21) cd ((v 69)) from hLq.2.1), (show imR ((nn 3)) ((nn 4)) (f5) (f6) (dk (i17) (i18) (f7) (f8) (f9) (f10) (f11)) (dk (i19) (i20) (f12) (f13) (f14) (f15) (f16)) (f32) from hLq.2.2)⟩ hP hD hS (lv_sub hl [0, 1, 2, 3] rfl)
set_option maxHeartbeats 8000000 in
set_option maxRecDepth 100000 in
theorem law_c29 {p : Program} {e : Env} {s : State} {m : MethodId} {below : List Frame} {meth : Method} {c : Code} (l : Launch) {b L : Nat} {xs : Nat → Int32} (C0 : lw_At p s m meth c b L xs) (hL : L ≤ 256) {dC : Nat → ClassId} {dI : Nat → Nat → Nat} {cI cZ cQ : ClassId} (hK : va_K (dC, dI) vwCl (tys0 cI cZ cQ) s) (hN : xN s) (hXS : xS (fun q : Nat => s.heap.size ≤ q) s s.heap) {h0 h1 : Nat} {u w : Nat → Nat} {fq fi0 : Nat → Option Nat} (hfq : ∀ j, j < 20 → fq j = some (da u j 0)) (hf0 : fi0 0 = some (u 59)) (hf1 : fi0 1 = some (u 60)) (i : Nat) (hi : i + 4 ≤ L) (ih : ∀ (v : Nat → Nat → Int32) (sc : Nat → Int32) (nn : Nat → Nat) (cd : Nat → dskC) (H : Heap) (locs : List Loc) (ls : Array Slot), lawI v sc nn cd → va_P (dC, dI) vwCl (lawW cI cZ cQ h0 h1 u w fq fi0 v sc nn ++ (hisW cI (u 1) (da u) cd)) H → va_D (fun q : Nat => s.heap.size ≤ q) (lawW cI cZ cQ h0 h1 u w fq fi0 v sc nn ++ (hisW cI (u 1) (da u) cd)) → va_S (fun q : Nat => s.heap.size ≤ q) s.heap H locs → lv_has ls 4 [(3, .int (nI (i + 4))), (2, .ref h1), (1, .ref h0), (0, .ref b)] → W p l e room_1 s m #[Value.ref b] below meth c H locs 217 2950 (lw_Z below #[Value.ref b] s) (F0 m 18 ls [])) : ∀ (v : Nat → Nat → Int32) (sc : Nat → Int32) (nn : Nat → Nat) (cd : Nat → dskC) (H : Heap) (locs : List Loc) (ls : Array Slot), lawI v sc nn cd → va_P (dC, dI) vwCl (lawW cI cZ cQ h0 h1 u w fq fi0 v sc nn ++ (hisW cI (u 1) (da u) cd)) H → va_D (fun q : Nat => s.heap.size ≤ q) (lawW cI cZ cQ h0 h1 u w fq fi0 v sc nn ++ (hisW cI (u 1) (da u) cd)) → va_S (fun q : Nat => s.heap.size ≤ q) s.heap H locs → lv_has ls 4 [(3, .int (nI i)), (2, .ref h1), (1, .ref h0), (0, .ref b)] → W p l e room_1 s m #[Value.ref b] below meth c H locs 217 2950 (lw_Z below #[Value.ref b] s) (F0 m 905 ls []) := by
  intro v sc nn cd H locs ls hI hP hD hS hl
  obtain ⟨hn0, hn1, hn2, hn3, hn4, hn5, hn6, hn7, hn8, hn9, hn10, hn11, hn12, hn13, hn14, hn15, hn16, hn17, hn18, hn19, hn20, hn21, hn22, hn23, hn24, hn25, hqe, hqb, hsi, hci, hqw, hpw, hqk, hmi, heq, htx, hfe, hqq, hee, hbb, hkp, hBL, hMM, hST, hHH, hSD, hRW, hDK, hCU, hHR, hIM⟩ := hI
  obtain ⟨hx, hb, hr, hml, hown, hts0, hX, hbl, hlocks, hgv⟩ := id C0
  have hts : ∀ w ∈ wsL_law, w.before #[Value.ref b] s = true := fun w h => hts0 w (wsL_law_in w h)
  have hown : s.vm.findClass RL = some m.cls := hown
  have hA : ∀ q : Nat, s.heap.size ≤ q → (fun q : Nat => s.heap.size ≤ q) q := fun _ h => h
  have hbA : ¬ (fun q : Nat => s.heap.size ≤ q) b := Nat.not_le.mpr hbl
  refine lv_aload_n hx hb dL_law_905 rfl (lv_at hl 2 rfl) ?_
  refine lv_aload_n hx hb dL_law_906 rfl (lv_at hl 3 rfl) ?_
  refine lv_iload_n hx hb dL_law_907 rfl (lv_at hl 0 rfl) ?_
  refine lv_iconst (v := 1) hx hb dL_law_908 (by decide) ?_
  refine lv_iadd hx hb dL_law_909 ?_
  refine lv_topi (fun z1 ez1 => ?_)
  obtain rfl : z1 = nI (i + 1) := ez1.trans (nI_add i 1)
  refine va_sld hx hb hX hbl hbA hS (vp_in_nI (n := i + 1) (N := L) (by omega) (by omega)) dL_law_910 ?_
  have hC : List.map (fun i => lAt (lawW cI cZ cQ h0 h1 u w fq fi0 v sc nn) i) [0, 31, 32, 33, 34, 23, 24, 25, 26, 27, 28, 35, 36, 37, 38, 39, 40, 41, 42, 43, 44, 45, 46, 29] = List.map some [(h0, .inr (10, [.ref (u 0), .int (nI (nn 0)), .int (sc 0), .int (nI (nn 1)), .ref (u 1), .ref (u 2), .ref (u 3), .ref (u 4), .ref (u 5), .ref (u 6), .ref (u 7), .ref (u 8), .ref (u 9), .ref (u 10)])), ((u 5), .inr (4, [.ref (u 56), .ref (u 57), .ref (u 58)])), ((u 56), .inl (cQ, 2, .inr (.inr (.inr (.inr fi0))))), ((u 57), .inl (cI, 2, .inl (v 24))), ((u 58), .inl (cZ, 2, .inl (v 25))), ((u 3), .inr (1, [.int (sc 7), .int (sc 8), .ref (u 30), .ref (u 31), .ref (u 32), .ref (u 33), .ref (u 34), .ref (u 1)])), ((u 30), .inl (cI, 8, .inl (v 19))), ((u 31), .inl (cI, 8, .inl (v 20))), ((u 32), .inl (cI, 8, .inl (v 21))), ((u 33), .inl (cI, 4, .inl (v 22))), ((u 34), .inl (cI, 4, .inl (v 23))), ((u 59), .inr (1, [.int (sc 9), .int (sc 10), .ref (u 61), .ref (u 62), .ref (u 63), .ref (u 64), .ref (u 65), .ref (u 1)])), ((u 61), .inl (cI, 8, .inl (v 26))), ((u 62), .inl (cI, 8, .inl (v 27))), ((u 63), .inl (cI, 8, .inl (v 28))), ((u 64), .inl (cI, 4, .inl (v 29))), ((u 65), .inl (cI, 4, .inl (v 30))), ((u 60), .inr (1, [.int (sc 11), .int (sc 12), .ref (u 66), .ref (u 67), .ref (u 68), .ref (u 69), .ref (u 70), .ref (u 1)])), ((u 66), .inl (cI, 8, .inl (v 31))), ((u 67), .inl (cI, 8, .inl (v 32))), ((u 68), .inl (cI, 8, .inl (v 33))), ((u 69), .inl (cI, 4, .inl (v 34))), ((u 70), .inl (cI, 4, .inl (v 35))), ((u 4), .inr (3, [.ref (u 35), .int (nI (nn 10)), .int (nI (nn 11))]))] := rfl
  have hPc := vx_sub hP [0, 31, 32, 33, 34, 23, 24, 25, 26, 27, 28, 35, 36, 37, 38, 39, 40, 41, 42, 43, 44, 45, 46, 29] hC
  have hDc := vx_D hD [0, 31, 32, 33, 34, 23, 24, 25, 26, 27, 28, 35, 36, 37, 38, 39, 40, 41, 42, 43, 44, 45, 46, 29] (by decide +kernel) hC
  have hFc := vx_free hD hS hA [0, 31, 32, 33, 34, 23, 24, 25, 26, 27, 28, 35, 36, 37, 38, 39, 40, 41, 42, 43, 44, 45, 46, 29] hC
  refine va_calli (va_runV (As := [.int (xs (nI (i + 1)).toNatClampNeg)]) (rest := []) ⟨hx, hb, hml, hown, hts⟩ (c_X10_goBackD l dC dI cI cZ cQ h0 (u 0) (nn 0) (sc 0) (nn 1) (u 1) (u 2) (u 3) (u 4) (u 5) (u 6) (u 7) (u 8) (u 9) (u 10) (u 56) (u 57) (u 58) ([.ref (u 56), .ref (u 57), .ref (u 58)]) fi0 (v 24) (v 25) (sc 7) (sc 8) (u 30) (u 31) (u 32) (u 33) (u 34) (v 19) (v 20) (v 21) (v 22) (v 23) (u 59) (sc 9) (sc 10) (u 61) (u 62) (u 63) (u 64) (u 65) (v 26) (v 27) (v 28) (v 29) (v 30) (u 60) (sc 11) (sc 12) (u 66) (u 67) (u 68) (u 69) (u 70) (v 31) (v 32) (v 33) (v 34) (v 35) (u 35) (nn 10) (nn 11) (xs (nI (i + 1)).toNatClampNeg) H.size rfl rfl rfl hf0 hf1 (by first | assumption | decide) (by omega) (by omega) (by omega)) (cwV 1 hts gL_law_X10_goBack rfl rfl rfl hd_X10_goBack_RX10 ⟨Nat.le_of_ble_eq_true rfl, Nat.le_of_ble_eq_true rfl⟩) (pv_D (va_recv hK hPc (ci := 10) (q0 := 0) rfl rfl) hK hPc hDc) rfl rfl hl.1 rfl (lv_room (Nat.le_of_ble_eq_true rfl)) dL_law_911 ⟨Nat.le_of_ble_eq_true rfl, Nat.le_of_ble_eq_true rfl⟩) hS (fun q _ h => hFc q h) hFc (fun r2 u3 t H1 locs ht hvm hw4 hB hz1 hk1 hS => ?_)
  refine ob_x hB fun f5 hy91 => ob_x hy91 fun f6 hy92 => ob_x hy92 fun f7 hy93 => ob_x hy93 fun f8 hy94 => ob_x hy94 fun f9 hy95 => ob_x hy95 fun i11 hy96 => ob_x hy96 fun i12 hy97 => ob_x hy97 fun k10 hy98 => ob_x hy98 fun k13 hy99 => ob_a hy99 fun hk10 hy910 => ob_a hy910 fun hk13 hy911 => ob_a hy911 fun he14 hy912 => ob_a hy912 fun he15 hy913 => ob_a hy913 fun he16 hy914 => ob_a hy914 fun hP1 hD1 => ?_
  clear hy91 hy92 hy93 hy94 hy95 hy96 hy97 hy98 hy99 hy910 hy911 hy912 hy913 hy914 hB
  replace hP1 := va_hp ht hP1
  obtain ⟨hP, hD⟩ := vx_mix hP hD [0, 31, 32, 33, 34, 23, 24, 25, 26, 27, 28, 35, 36, 37, 38, 39, 40, 41, 42, 43, 44, 45, 46, 29] hC hk1 hP1 rfl
  generalize hX1 : wmix _ _ _ _ = X1 at hP hD
  clear hP1 hD1 hC
  clear hz1 hk1 hPc hDc hFc
  generalize H1 = H at hP hS ht ⊢
  try dsimp only at hw4
  refine lv_pop hx hb dL_law_914 rfl ?_
  refine lv_aload_n hx hb dL_law_915 rfl (lv_at hl 1 rfl) ?_
  refine lv_aload_n hx hb dL_law_916 rfl (lv_at hl 3 rfl) ?_
  refine lv_iload_n hx hb dL_law_917 rfl (lv_at hl 0 rfl) ?_
  refine lv_iconst (v := 1) hx hb dL_law_918 (by decide) ?_
  refine lv_iadd hx hb dL_law_919 ?_
  refine lv_topi (fun z17 ez17 => ?_)
  obtain rfl : z17 = nI (i + 1) := ez17.trans (nI_add i 1)
  refine va_sld hx hb hX hbl hbA hS (vp_in_nI (n := i + 1) (N := L) (by omega) (by omega)) dL_law_920 ?_
  have hC : List.map (fun i => lAt X1 i) [69, 76, 95, 96] = List.map some [(h1, .inr (11, (.int (sc 17) :: .int (sc 18) :: .int (nI (nn 16)) :: .ref (w 0) :: .ref (w 1) :: .ref (w 2) :: .int (nI (nn 17)) :: .ref (w 3) :: .ref (w 4) :: .ref (w 5) :: .ref (w 6) :: .int (nI (nn 18)) :: .ref (w 7) :: .int (nI (nn 19)) :: .int (sc 19) :: .int (nI (nn 20)) :: .int (sc 20) :: .int (sc 21) :: .ref (w 8) :: .int (nI (nn 21)) :: .ref (w 9) :: .ref (w 10) :: .ref (w 11) :: .ref (w 12) :: .ref (w 13) :: .int (nI (nn 22)) :: .ref (w 14) :: .ref (w 15) :: .ref (w 16) :: .int (nI (nn 23)) :: .ref (w 17) :: .int (sc 22) :: .int (sc 23) :: .ref (w 18) :: .int (sc 24) :: .int (sc 25) :: .ref (w 19) :: .int (nI (nn 24)) :: .ref (w 20) :: .ref (w 21) :: .ref (w 22) :: .int (nI (nn 25)) :: .ref (w 23) :: .ref (w 24) :: .ref (w 25) :: .ref (w 26) :: []))), ((w 6), .inl (cI, 34, .inl (v 58))), ((w 25), .inl (cI, 70, .inl (v 77))), ((w 26), .inl (cZ, 2, .inl (v 78)))] := by rw [← hX1]; exact wmix_map (by decide) rfl
  have hPc := vx_sub hP [69, 76, 95, 96] hC
  have hDc := vx_D hD [69, 76, 95, 96] (by decide) hC
  have hFc := vx_free hD hS hA [69, 76, 95, 96] hC
  refine va_calli (va_runV (As := [.int (xs (nI (i + 1)).toNatClampNeg)]) (rest := []) ⟨hx, hb, hml, hown, hts⟩ (c_X11_goBackD l dC dI cI cZ cQ h1 (sc 17) (sc 18) (nn 16) (w 0) (w 1) (w 2) (nn 17) (w 3) (w 4) (w 5) (w 6) (nn 18) (w 7) (nn 19) (sc 19) (nn 20) (sc 20) (sc 21) (w 8) (nn 21) (w 9) (w 10) (w 11) (w 12) (w 13) (nn 22) (w 14) (w 15) (w 16) (nn 23) (w 17) (sc 22) (sc 23) (w 18) (sc 24) (sc 25) (w 19) (nn 24) (w 20) (w 21) (w 22) (nn 25) (w 23) (w 24) (w 25) (w 26) (v 58) (v 77) (v 78) (xs (nI (i + 1)).toNatClampNeg) H.size (by first | assumption | decide) (by omega) (by omega)) (cwV 1 hts gL_law_X11_goBack rfl rfl rfl hd_X11_goBack_RX11 ⟨Nat.le_of_ble_eq_true rfl, Nat.le_of_ble_eq_true rfl⟩) (pv_D (va_recv hK hPc (ci := 11) (q0 := 0) rfl rfl) hK hPc hDc) rfl rfl hl.1 rfl (lv_room (Nat.le_of_ble_eq_true rfl)) dL_law_921 ⟨Nat.le_of_ble_eq_true rfl, Nat.le_of_ble_eq_true rfl⟩) hS (fun q _ h => hFc q h) hFc (fun r18 u19 t H1 locs ht hvm hw20 hB hz1 hk1 hS => ?_)
  obtain ⟨f21, k22, k23, hk22, hk23, he24, he25, he26, hP1, hD1⟩ := hB
  replace hP1 := va_hp ht hP1
  obtain ⟨hP, hD⟩ := vx_mix hP hD [69, 76, 95, 96] hC hk1 hP1 rfl
  generalize hX2 : wmix _ _ _ _ = X2 at hP hD
  clear hP1 hD1 hC
  clear hz1 hk1 hPc hDc hFc
  generalize H1 = H at hP hS ht ⊢
  try dsimp only at hw20
  have hLq := L_goBack he14 he15 he16 he24 he25 he26 (fun j hj => (hkp j hj).symm) hSD (by omega) (by omega) hn3 hn4 hDK hCU hHR hIM
  refine lv_pop hx hb dL_law_924 rfl ?_
  refine lv_goto (tgt := 928) hx hb dL_law_925 (by decide) ?_
  refine lv_iinc (v := nI (i + 4)) (lv' := [(3, .int (nI (i + 4))), (2, .ref h1), (1, .ref h0), (0, .ref b)]) hx hb dL_law_928 hl (k := 0) rfl ((rfl : nI i + Int32.ofInt 4 = nI i + 4).trans (nI_add i 4)) (by decide) rfl (fun ls hl => ?_)
  refine lv_goto (tgt := 18) hx hb dL_law_931 (by decide) ?_
  have hE : X2 = lawW cI cZ cQ h0 h1 u w fq fi0 (va_up (va_up (va_up (va_up (va_up (va_up v 19 f5) 20 f6) 21 f7) 22 f8) 23 f9) 58 f21) (va_up (va_up sc 7 i11) 8 i12) (va_up (va_up (va_up (va_up nn 1 k10) 11 k13) 18 k22) 23 k23) := by rw [← hX2, ← hX1]; rfl
  rw [hE] at hP hD
  exact ih (va_up (va_up (va_up (va_up (va_up (va_up v 19 f5) 20 f6) 21 f7) 22 f8) 23 f9) 58 f21) (va_up (va_up sc 7 i11) 8 i12) (va_up (va_up (va_up (va_up nn 1 k10) 11 k13) 18 k22) 23 k23) cd H locs ls ⟨hn0, (show k10 ≤ 2147483647 by omega), hn2, hn3, hn4, hn5, hn6, hn7, hn8, hn9, hn10, (show k13 ≤ 20 by omega), hn12, hn13, hn14, hn15, hn16, hn17, (show k22 ≤ 2147483647 by omega), hn19, hn20, hn21, hn22, (show k23 ≤ 20 by omega), hn24, hn25, hqe, hqb, hsi, hci, hqw, hpw, hqk, hmi, heq, htx, hfe, hqq, hee, hbb, hkp, hBL, hMM, hST, hHH, (show k10 = k22 from hLq.2.1), hRW, (show dR ((nn 3)) ((nn 4)) (dk (i11) (i12) (f5) (f6) (f7) (f8) (f9)) (f21) from hLq.1), (show k13 = k23 from hLq.2.2.1), (show hR ((nn 3)) ((nn 4)) ((nn 10)) (k13) cd ((v 69)) from hLq.2.2.2), hIM⟩ hP hD hS (lv_sub hl [0, 1, 2, 3] rfl)
