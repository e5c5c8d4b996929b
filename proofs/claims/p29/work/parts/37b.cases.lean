set_option maxHeartbeats 8000000 in
set_option maxRecDepth 100000 in
theorem law_c4 {p : Program} {e : Env} {s : State} {m : MethodId} {below : List Frame} {meth : Method} {c : Code} (l : Launch) {b L : Nat} {xs : Nat → Int32} (C0 : lw_At p s m meth c b L xs) (hL : L ≤ 256) {dC : Nat → ClassId} {dI : Nat → Nat → Nat} {cI cZ cQ : ClassId} (hK : va_K (dC, dI) vwCl (tys0 cI cZ cQ) s) (hN : xN s) (hXS : xS (fun q : Nat => s.heap.size ≤ q) s s.heap) {h0 h1 : Nat} {u w : Nat → Nat} {fq fi0 : Nat → Option Nat} (hfq : ∀ j, j < 20 → fq j = some (da u j 0)) (hf0 : fi0 0 = some (u 59)) (hf1 : fi0 1 = some (u 60)) (i : Nat) (hi : i + 4 ≤ L) (ih : ∀ (v : Nat → Nat → Int32) (sc : Nat → Int32) (nn : Nat → Nat) (cd : Nat → dskC) (H : Heap) (locs : List Loc) (ls : Array Slot), lawI v sc nn cd → va_P (dC, dI) vwCl (lawW cI cZ cQ h0 h1 u w fq fi0 v sc nn ++ (hisW cI (u 1) (da u) cd)) H → va_D (fun q : Nat => s.heap.size ≤ q) (lawW cI cZ cQ h0 h1 u w fq fi0 v sc nn ++ (hisW cI (u 1) (da u) cd)) → va_S (fun q : Nat => s.heap.size ≤ q) s.heap H locs → lv_has ls 4 [(3, .int (nI (i + 4))), (2, .ref h1), (1, .ref h0), (0, .ref b)] → W p l e room_1 s m #[Value.ref b] below meth c H locs 217 2950 (lw_Z below #[Value.ref b] s) (F0 m 18 ls [])) : ∀ (v : Nat → Nat → Int32) (sc : Nat → Int32) (nn : Nat → Nat) (cd : Nat → dskC) (H : Heap) (locs : List Loc) (ls : Array Slot), lawI v sc nn cd → va_P (dC, dI) vwCl (lawW cI cZ cQ h0 h1 u w fq fi0 v sc nn ++ (hisW cI (u 1) (da u) cd)) H → va_D (fun q : Nat => s.heap.size ≤ q) (lawW cI cZ cQ h0 h1 u w fq fi0 v sc nn ++ (hisW cI (u 1) (da u) cd)) → va_S (fun q : Nat => s.heap.size ≤ q) s.heap H locs → lv_has ls 4 [(3, .int (nI i)), (2, .ref h1), (1, .ref h0), (0, .ref b)] → W p l e room_1 s m #[Value.ref b] below meth c H locs 217 2950 (lw_Z below #[Value.ref b] s) (F0 m 240 ls []) := by
  intro v sc nn cd H locs ls hI hP hD hS hl
  obtain ⟨hn0, hn1, hn2, hn3, hn4, hn5, hn6, hn7, hn8, hn9, hn10, hn11, hn12, hn13, hn14, hn15, hn16, hn17, hn18, hn19, hn20, hn21, hn22, hn23, hn24, hn25, hqe, hqb, hsi, hci, hqw, hpw, hqk, hmi, heq, htx, hfe, hqq, hee, hbb, hkp, hBL, hMM, hST, hHH, hSD, hRW, hDK, hCU, hHR, hIM⟩ := hI
  obtain ⟨hx, hb, hr, hml, hown, hts0, hX, hbl, hlocks, hgv⟩ := id C0
  have hts : ∀ w ∈ wsL_law, w.before #[Value.ref b] s = true := fun w h => hts0 w (wsL_law_in w h)
  have hown : s.vm.findClass RL = some m.cls := hown
  have hA : ∀ q : Nat, s.heap.size ≤ q → (fun q : Nat => s.heap.size ≤ q) q := fun _ h => h
  have hbA : ¬ (fun q : Nat => s.heap.size ≤ q) b := Nat.not_le.mpr hbl
  refine lv_aload_n hx hb dL_law_240 rfl (lv_at hl 2 rfl) ?_
  refine lv_aload_n hx hb dL_law_241 rfl (lv_at hl 3 rfl) ?_
  refine lv_iload_n hx hb dL_law_242 rfl (lv_at hl 0 rfl) ?_
  refine lv_iconst (v := 1) hx hb dL_law_243 (by decide) ?_
  refine lv_iadd hx hb dL_law_244 ?_
  refine lv_topi (fun z1 ez1 => ?_)
  obtain rfl : z1 = nI (i + 1) := ez1.trans (nI_add i 1)
  refine va_sld hx hb hX hbl hbA hS (vp_in_nI (n := i + 1) (N := L) (by omega) (by omega)) dL_law_245 ?_
  refine lv_aload_n hx hb dL_law_246 rfl (lv_at hl 3 rfl) ?_
  refine lv_iload_n hx hb dL_law_247 rfl (lv_at hl 0 rfl) ?_
  refine lv_iconst (v := 2) hx hb dL_law_248 (by decide) ?_
  refine lv_iadd hx hb dL_law_249 ?_
  refine lv_topi (fun z2 ez2 => ?_)
  obtain rfl : z2 = nI (i + 2) := ez2.trans (nI_add i 2)
  refine va_sld hx hb hX hbl hbA hS (vp_in_nI (n := i + 2) (N := L) (by omega) (by omega)) dL_law_250 ?_
  have hC : List.map (fun i => lAt (lawW cI cZ cQ h0 h1 u w fq fi0 v sc nn) i) [0, 2, 23, 24, 25, 26, 3, 4, 5] = List.map some [(h0, .inr (10, [.ref (u 0), .int (nI (nn 0)), .int (sc 0), .int (nI (nn 1)), .ref (u 1), .ref (u 2), .ref (u 3), .ref (u 4), .ref (u 5), .ref (u 6), .ref (u 7), .ref (u 8), .ref (u 9), .ref (u 10)])), ((u 1), .inr (5, [.int (nI (nn 2)), .int (sc 1), .int (sc 2), .int (nI (nn 3)), .int (nI (nn 4)), .ref (u 11), .ref (u 12), .ref (u 13), .ref (u 14), .ref (u 15), .ref (u 16), .ref (u 17), .ref (u 18)])), ((u 3), .inr (1, [.int (sc 7), .int (sc 8), .ref (u 30), .ref (u 31), .ref (u 32), .ref (u 33), .ref (u 34), .ref (u 1)])), ((u 30), .inl (cI, 8, .inl (v 19))), ((u 31), .inl (cI, 8, .inl (v 20))), ((u 32), .inl (cI, 8, .inl (v 21))), ((u 11), .inl (cI, 8, .inl (v 1))), ((u 12), .inl (cI, 8, .inl (v 2))), ((u 13), .inl (cI, 8, .inl (v 3)))] := rfl
  have hPc := vx_sub hP [0, 2, 23, 24, 25, 26, 3, 4, 5] hC
  refine va_calli (va_runV (As := [.int (xs (nI (i + 1)).toNatClampNeg), .int (xs (nI (i + 2)).toNatClampNeg)]) (rest := []) ⟨hx, hb, hml, hown, hts⟩ (c_X10_quill l dC dI cI cZ cQ h0 (u 1) (u 3) ([.ref (u 0), .int (nI (nn 0)), .int (sc 0), .int (nI (nn 1)), .ref (u 1), .ref (u 2), .ref (u 3), .ref (u 4), .ref (u 5), .ref (u 6), .ref (u 7), .ref (u 8), .ref (u 9), .ref (u 10)]) (u 11) (u 12) (u 13) (u 16) (u 17) (u 18) (nn 3) ([.int (nI (nn 2)), .int (sc 1), .int (sc 2), .int (nI (nn 3)), .int (nI (nn 4)), .ref (u 11), .ref (u 12), .ref (u 13), .ref (u 14), .ref (u 15), .ref (u 16), .ref (u 17), .ref (u 18)]) (sc 7) (sc 8) (u 30) (u 31) (u 32) (u 33) (u 34) ([.int (sc 7), .int (sc 8), .ref (u 30), .ref (u 31), .ref (u 32), .ref (u 33), .ref (u 34), .ref (u 1)]) (v 19) (v 20) (v 21) (v 1) (v 2) (v 3) (xs (nI (i + 1)).toNatClampNeg) (xs (nI (i + 2)).toNatClampNeg) H.size rfl rfl rfl rfl rfl rfl rfl rfl rfl rfl rfl rfl rfl rfl rfl rfl rfl (by omega)) (cwV 2 hts gL_law_X10_quill rfl rfl rfl hd_X10_quill_RX10 ⟨Nat.le_of_ble_eq_true rfl, Nat.le_of_ble_eq_true rfl⟩) (pv_R (va_recv hK hPc (ci := 10) (q0 := 0) rfl rfl) hK hPc) rfl rfl hl.1 rfl (lv_room (Nat.le_of_ble_eq_true rfl)) dL_law_251 ⟨Nat.le_of_ble_eq_true rfl, Nat.le_of_ble_eq_true rfl⟩) hS (fun q _ h => False.elim h) (fun q h => False.elim h) (fun r3 u4 t H1 locs ht hvm hw5 hB hz1 hk1 hS => ?_)
  have hP := hP.kept (fun k q hk => hk1 q.1 (hP k q hk).lt (fun h => h))
  clear hz1 hk1 hPc hC
  generalize H1 = H at hP hS ht ⊢
  try dsimp only at hw5
  refine lv_pop hx hb dL_law_254 rfl ?_
  refine lv_aload_n hx hb dL_law_255 rfl (lv_at hl 1 rfl) ?_
  refine lv_aload_n hx hb dL_law_256 rfl (lv_at hl 3 rfl) ?_
  refine lv_iload_n hx hb dL_law_257 rfl (lv_at hl 0 rfl) ?_
  refine lv_iconst (v := 1) hx hb dL_law_258 (by decide) ?_
  refine lv_iadd hx hb dL_law_259 ?_
  refine lv_topi (fun z6 ez6 => ?_)
  obtain rfl : z6 = nI (i + 1) := ez6.trans (nI_add i 1)
  refine va_sld hx hb hX hbl hbA hS (vp_in_nI (n := i + 1) (N := L) (by omega) (by omega)) dL_law_260 ?_
  refine lv_aload_n hx hb dL_law_261 rfl (lv_at hl 3 rfl) ?_
  refine lv_iload_n hx hb dL_law_262 rfl (lv_at hl 0 rfl) ?_
  refine lv_iconst (v := 2) hx hb dL_law_263 (by decide) ?_
  refine lv_iadd hx hb dL_law_264 ?_
  refine lv_topi (fun z7 ez7 => ?_)
  obtain rfl : z7 = nI (i + 2) := ez7.trans (nI_add i 2)
  refine va_sld hx hb hX hbl hbA hS (vp_in_nI (n := i + 2) (N := L) (by omega) (by omega)) dL_law_265 ?_
  have hC : List.map (fun i => lAt (lawW cI cZ cQ h0 h1 u w fq fi0 v sc nn) i) [69, 70, 71, 72, 76] = List.map some [(h1, .inr (11, (.int (sc 17) :: .int (sc 18) :: .int (nI (nn 16)) :: .ref (w 0) :: .ref (w 1) :: .ref (w 2) :: .int (nI (nn 17)) :: .ref (w 3) :: .ref (w 4) :: .ref (w 5) :: .ref (w 6) :: .int (nI (nn 18)) :: .ref (w 7) :: .int (nI (nn 19)) :: .int (sc 19) :: .int (nI (nn 20)) :: .int (sc 20) :: .int (sc 21) :: .ref (w 8) :: .int (nI (nn 21)) :: .ref (w 9) :: .ref (w 10) :: .ref (w 11) :: .ref (w 12) :: .ref (w 13) :: .int (nI (nn 22)) :: .ref (w 14) :: .ref (w 15) :: .ref (w 16) :: .int (nI (nn 23)) :: .ref (w 17) :: .int (sc 22) :: .int (sc 23) :: .ref (w 18) :: .int (sc 24) :: .int (sc 25) :: .ref (w 19) :: .int (nI (nn 24)) :: .ref (w 20) :: .ref (w 21) :: .ref (w 22) :: .int (nI (nn 25)) :: .ref (w 23) :: .ref (w 24) :: .ref (w 25) :: .ref (w 26) :: []))), ((w 0), .inl (cI, 8, .inl (v 52))), ((w 1), .inl (cI, 8, .inl (v 53))), ((w 2), .inl (cI, 8, .inl (v 54))), ((w 6), .inl (cI, 34, .inl (v 58)))] := rfl
  have hPc := vx_sub hP [69, 70, 71, 72, 76] hC
  refine va_calli (va_runV (As := [.int (xs (nI (i + 1)).toNatClampNeg), .int (xs (nI (i + 2)).toNatClampNeg)]) (rest := []) ⟨hx, hb, hml, hown, hts⟩ (c_X11_quill l dC dI cI cZ cQ h1 (nn 16) (w 0) (w 1) (w 2) (w 6) ((.int (sc 17) :: .int (sc 18) :: .int (nI (nn 16)) :: .ref (w 0) :: .ref (w 1) :: .ref (w 2) :: .int (nI (nn 17)) :: .ref (w 3) :: .ref (w 4) :: .ref (w 5) :: .ref (w 6) :: .int (nI (nn 18)) :: .ref (w 7) :: .int (nI (nn 19)) :: .int (sc 19) :: .int (nI (nn 20)) :: .int (sc 20) :: .int (sc 21) :: .ref (w 8) :: .int (nI (nn 21)) :: .ref (w 9) :: .ref (w 10) :: .ref (w 11) :: .ref (w 12) :: .ref (w 13) :: .int (nI (nn 22)) :: .ref (w 14) :: .ref (w 15) :: .ref (w 16) :: .int (nI (nn 23)) :: .ref (w 17) :: .int (sc 22) :: .int (sc 23) :: .ref (w 18) :: .int (sc 24) :: .int (sc 25) :: .ref (w 19) :: .int (nI (nn 24)) :: .ref (w 20) :: .ref (w 21) :: .ref (w 22) :: .int (nI (nn 25)) :: .ref (w 23) :: .ref (w 24) :: .ref (w 25) :: .ref (w 26) :: [])) (v 52) (v 53) (v 54) (v 58) (xs (nI (i + 1)).toNatClampNeg) (xs (nI (i + 2)).toNatClampNeg) H.size rfl rfl rfl rfl rfl (by omega) (by first | assumption | decide)) (cwV 2 hts gL_law_X11_quill rfl rfl rfl hd_X11_quill_RX11 ⟨Nat.le_of_ble_eq_true rfl, Nat.le_of_ble_eq_true rfl⟩) (pv_R (va_recv hK hPc (ci := 11) (q0 := 0) rfl rfl) hK hPc) rfl rfl hl.1 rfl (lv_room (Nat.le_of_ble_eq_true rfl)) dL_law_266 ⟨Nat.le_of_ble_eq_true rfl, Nat.le_of_ble_eq_true rfl⟩) hS (fun q _ h => False.elim h) (fun q h => False.elim h) (fun r8 u9 t H1 locs ht hvm hw10 hB hz1 hk1 hS => ?_)
  have hP := hP.kept (fun k q hk => hk1 q.1 (hP k q hk).lt (fun h => h))
  clear hz1 hk1 hPc hC
  generalize H1 = H at hP hS ht ⊢
  try dsimp only at hw10
  refine lv_pop hx hb dL_law_269 rfl ?_
  refine lv_goto (tgt := 928) hx hb dL_law_270 (by decide) ?_
  refine lv_iinc (v := nI (i + 4)) (lv' := [(3, .int (nI (i + 4))), (2, .ref h1), (1, .ref h0), (0, .ref b)]) hx hb dL_law_928 hl (k := 0) rfl ((rfl : nI i + Int32.ofInt 4 = nI i + 4).trans (nI_add i 4)) (by decide) rfl (fun ls hl => ?_)
  refine lv_goto (tgt := 18) hx hb dL_law_931 (by decide) ?_
  exact ih v sc nn cd H locs ls ⟨hn0, hn1, hn2, hn3, hn4, hn5, hn6, hn7, hn8, hn9, hn10, hn11, hn12, hn13, hn14, hn15, hn16, hn17, hn18, hn19, hn20, hn21, hn22, hn23, hn24, hn25, hqe, hqb, hsi, hci, hqw, hpw, hqk, hmi, heq, htx, hfe, hqq, hee, hbb, hkp, hBL, hMM, hST, hHH, hSD, hRW, hDK, hCU, hHR, hIM⟩ hP hD hS (lv_sub hl [0, 1, 2, 3] rfl)
set_option maxHeartbeats 8000000 in
set_option maxRecDepth 100000 in
theorem law_c5 {p : Program} {e : Env} {s : State} {m : MethodId} {below : List Frame} {meth : Method} {c : Code} (l : Launch) {b L : Nat} {xs : Nat → Int32} (C0 : lw_At p s m meth c b L xs) (hL : L ≤ 256) {dC : Nat → ClassId} {dI : Nat → Nat → Nat} {cI cZ cQ : ClassId} (hK : va_K (dC, dI) vwCl (tys0 cI cZ cQ) s) (hN : xN s) (hXS : xS (fun q : Nat => s.heap.size ≤ q) s s.heap) {h0 h1 : Nat} {u w : Nat → Nat} {fq fi0 : Nat → Option Nat} (hfq : ∀ j, j < 20 → fq j = some (da u j 0)) (hf0 : fi0 0 = some (u 59)) (hf1 : fi0 1 = some (u 60)) (i : Nat) (hi : i + 4 ≤ L) (ih : ∀ (v : Nat → Nat → Int32) (sc : Nat → Int32) (nn : Nat → Nat) (cd : Nat → dskC) (H : Heap) (locs : List Loc) (ls : Array Slot), lawI v sc nn cd → va_P (dC, dI) vwCl (lawW cI cZ cQ h0 h1 u w fq fi0 v sc nn ++ (hisW cI (u 1) (da u) cd)) H → va_D (fun q : Nat => s.heap.size ≤ q) (lawW cI cZ cQ h0 h1 u w fq fi0 v sc nn ++ (hisW cI (u 1) (da u) cd)) → va_S (fun q : Nat => s.heap.size ≤ q) s.heap H locs → lv_has ls 4 [(3, .int (nI (i + 4))), (2, .ref h1), (1, .ref h0), (0, .ref b)] → W p l e room_1 s m #[Value.ref b] below meth c H locs 217 2950 (lw_Z below #[Value.ref b] s) (F0 m 18 ls [])) : ∀ (v : Nat → Nat → Int32) (sc : Nat → Int32) (nn : Nat → Nat) (cd : Nat → dskC) (H : Heap) (locs : List Loc) (ls : Array Slot), lawI v sc nn cd → va_P (dC, dI) vwCl (lawW cI cZ cQ h0 h1 u w fq fi0 v sc nn ++ (hisW cI (u 1) (da u) cd)) H → va_D (fun q : Nat => s.heap.size ≤ q) (lawW cI cZ cQ h0 h1 u w fq fi0 v sc nn ++ (hisW cI (u 1) (da u) cd)) → va_S (fun q : Nat => s.heap.size ≤ q) s.heap H locs → lv_has ls 4 [(3, .int (nI i)), (2, .ref h1), (1, .ref h0), (0, .ref b)] → W p l e room_1 s m #[Value.ref b] below meth c H locs 217 2950 (lw_Z below #[Value.ref b] s) (F0 m 273 ls []) := by
  intro v sc nn cd H locs ls hI hP hD hS hl
  obtain ⟨hn0, hn1, hn2, hn3, hn4, hn5, hn6, hn7, hn8, hn9, hn10, hn11, hn12, hn13, hn14, hn15, hn16, hn17, hn18, hn19, hn20, hn21, hn22, hn23, hn24, hn25, hqe, hqb, hsi, hci, hqw, hpw, hqk, hmi, heq, htx, hfe, hqq, hee, hbb, hkp, hBL, hMM, hST, hHH, hSD, hRW, hDK, hCU, hHR, hIM⟩ := hI
  obtain ⟨hx, hb, hr, hml, hown, hts0, hX, hbl, hlocks, hgv⟩ := id C0
  have hts : ∀ w ∈ wsL_law, w.before #[Value.ref b] s = true := fun w h => hts0 w (wsL_law_in w h)
  have hown : s.vm.findClass RL = some m.cls := hown
  have hA : ∀ q : Nat, s.heap.size ≤ q → (fun q : Nat => s.heap.size ≤ q) q := fun _ h => h
  have hbA : ¬ (fun q : Nat => s.heap.size ≤ q) b := Nat.not_le.mpr hbl
  refine lv_aload_n hx hb dL_law_273 rfl (lv_at hl 2 rfl) ?_
  refine lv_aload_n hx hb dL_law_274 rfl (lv_at hl 3 rfl) ?_
  refine lv_iload_n hx hb dL_law_275 rfl (lv_at hl 0 rfl) ?_
  refine lv_iconst (v := 1) hx hb dL_law_276 (by decide) ?_
  refine lv_iadd hx hb dL_law_277 ?_
  refine lv_topi (fun z1 ez1 => ?_)
  obtain rfl : z1 = nI (i + 1) := ez1.trans (nI_add i 1)
  refine va_sld hx hb hX hbl hbA hS (vp_in_nI (n := i + 1) (N := L) (by omega) (by omega)) dL_law_278 ?_
  refine lv_aload_n hx hb dL_law_279 rfl (lv_at hl 3 rfl) ?_
  refine lv_iload_n hx hb dL_law_280 rfl (lv_at hl 0 rfl) ?_
  refine lv_iconst (v := 2) hx hb dL_law_281 (by decide) ?_
  refine lv_iadd hx hb dL_law_282 ?_
  refine lv_topi (fun z2 ez2 => ?_)
  obtain rfl : z2 = nI (i + 2) := ez2.trans (nI_add i 2)
  refine va_sld hx hb hX hbl hbA hS (vp_in_nI (n := i + 2) (N := L) (by omega) (by omega)) dL_law_283 ?_
  have hC : List.map (fun i => lAt (lawW cI cZ cQ h0 h1 u w fq fi0 v sc nn) i) [0, 2, 23, 27, 28, 8, 9, 10] = List.map some [(h0, .inr (10, [.ref (u 0), .int (nI (nn 0)), .int (sc 0), .int (nI (nn 1)), .ref (u 1), .ref (u 2), .ref (u 3), .ref (u 4), .ref (u 5), .ref (u 6), .ref (u 7), .ref (u 8), .ref (u 9), .ref (u 10)])), ((u 1), .inr (5, [.int (nI (nn 2)), .int (sc 1), .int (sc 2), .int (nI (nn 3)), .int (nI (nn 4)), .ref (u 11), .ref (u 12), .ref (u 13), .ref (u 14), .ref (u 15), .ref (u 16), .ref (u 17), .ref (u 18)])), ((u 3), .inr (1, [.int (sc 7), .int (sc 8), .ref (u 30), .ref (u 31), .ref (u 32), .ref (u 33), .ref (u 34), .ref (u 1)])), ((u 33), .inl (cI, 4, .inl (v 22))), ((u 34), .inl (cI, 4, .inl (v 23))), ((u 16), .inl (cI, 4, .inl (v 6))), ((u 17), .inl (cI, 4, .inl (v 7))), ((u 18), .inl (cI, 4, .inl (v 8)))] := rfl
  have hPc := vx_sub hP [0, 2, 23, 27, 28, 8, 9, 10] hC
  refine va_calli (va_runV (As := [.int (xs (nI (i + 1)).toNatClampNeg), .int (xs (nI (i + 2)).toNatClampNeg)]) (rest := []) ⟨hx, hb, hml, hown, hts⟩ (c_X10_hand l dC dI cI cZ cQ h0 (u 1) (u 3) ([.ref (u 0), .int (nI (nn 0)), .int (sc 0), .int (nI (nn 1)), .ref (u 1), .ref (u 2), .ref (u 3), .ref (u 4), .ref (u 5), .ref (u 6), .ref (u 7), .ref (u 8), .ref (u 9), .ref (u 10)]) (u 11) (u 12) (u 13) (u 16) (u 17) (u 18) (nn 4) ([.int (nI (nn 2)), .int (sc 1), .int (sc 2), .int (nI (nn 3)), .int (nI (nn 4)), .ref (u 11), .ref (u 12), .ref (u 13), .ref (u 14), .ref (u 15), .ref (u 16), .ref (u 17), .ref (u 18)]) (sc 7) (sc 8) (u 30) (u 31) (u 32) (u 33) (u 34) ([.int (sc 7), .int (sc 8), .ref (u 30), .ref (u 31), .ref (u 32), .ref (u 33), .ref (u 34), .ref (u 1)]) (v 22) (v 23) (v 6) (v 7) (v 8) (xs (nI (i + 1)).toNatClampNeg) (xs (nI (i + 2)).toNatClampNeg) H.size rfl rfl rfl rfl rfl rfl rfl rfl rfl rfl rfl rfl rfl rfl rfl rfl rfl (by omega)) (cwV 2 hts gL_law_X10_hand rfl rfl rfl hd_X10_hand_RX10 ⟨Nat.le_of_ble_eq_true rfl, Nat.le_of_ble_eq_true rfl⟩) (pv_R (va_recv hK hPc (ci := 10) (q0 := 0) rfl rfl) hK hPc) rfl rfl hl.1 rfl (lv_room (Nat.le_of_ble_eq_true rfl)) dL_law_284 ⟨Nat.le_of_ble_eq_true rfl, Nat.le_of_ble_eq_true rfl⟩) hS (fun q _ h => False.elim h) (fun q h => False.elim h) (fun r3 u4 t H1 locs ht hvm hw5 hB hz1 hk1 hS => ?_)
  have hP := hP.kept (fun k q hk => hk1 q.1 (hP k q hk).lt (fun h => h))
  clear hz1 hk1 hPc hC
  generalize H1 = H at hP hS ht ⊢
  try dsimp only at hw5
  refine lv_pop hx hb dL_law_287 rfl ?_
  refine lv_aload_n hx hb dL_law_288 rfl (lv_at hl 1 rfl) ?_
  refine lv_aload_n hx hb dL_law_289 rfl (lv_at hl 3 rfl) ?_
  refine lv_iload_n hx hb dL_law_290 rfl (lv_at hl 0 rfl) ?_
  refine lv_iconst (v := 1) hx hb dL_law_291 (by decide) ?_
  refine lv_iadd hx hb dL_law_292 ?_
  refine lv_topi (fun z6 ez6 => ?_)
  obtain rfl : z6 = nI (i + 1) := ez6.trans (nI_add i 1)
  refine va_sld hx hb hX hbl hbA hS (vp_in_nI (n := i + 1) (N := L) (by omega) (by omega)) dL_law_293 ?_
  refine lv_aload_n hx hb dL_law_294 rfl (lv_at hl 3 rfl) ?_
  refine lv_iload_n hx hb dL_law_295 rfl (lv_at hl 0 rfl) ?_
  refine lv_iconst (v := 2) hx hb dL_law_296 (by decide) ?_
  refine lv_iadd hx hb dL_law_297 ?_
  refine lv_topi (fun z7 ez7 => ?_)
  obtain rfl : z7 = nI (i + 2) := ez7.trans (nI_add i 2)
  refine va_sld hx hb hX hbl hbA hS (vp_in_nI (n := i + 2) (N := L) (by omega) (by omega)) dL_law_298 ?_
  have hC : List.map (fun i => lAt (lawW cI cZ cQ h0 h1 u w fq fi0 v sc nn) i) [69, 73, 74, 75, 76] = List.map some [(h1, .inr (11, (.int (sc 17) :: .int (sc 18) :: .int (nI (nn 16)) :: .ref (w 0) :: .ref (w 1) :: .ref (w 2) :: .int (nI (nn 17)) :: .ref (w 3) :: .ref (w 4) :: .ref (w 5) :: .ref (w 6) :: .int (nI (nn 18)) :: .ref (w 7) :: .int (nI (nn 19)) :: .int (sc 19) :: .int (nI (nn 20)) :: .int (sc 20) :: .int (sc 21) :: .ref (w 8) :: .int (nI (nn 21)) :: .ref (w 9) :: .ref (w 10) :: .ref (w 11) :: .ref (w 12) :: .ref (w 13) :: .int (nI (nn 22)) :: .ref (w 14) :: .ref (w 15) :: .ref (w 16) :: .int (nI (nn 23)) :: .ref (w 17) :: .int (sc 22) :: .int (sc 23) :: .ref (w 18) :: .int (sc 24) :: .int (sc 25) :: .ref (w 19) :: .int (nI (nn 24)) :: .ref (w 20) :: .ref (w 21) :: .ref (w 22) :: .int (nI (nn 25)) :: .ref (w 23) :: .ref (w 24) :: .ref (w 25) :: .ref (w 26) :: []))), ((w 3), .inl (cI, 4, .inl (v 55))), ((w 4), .inl (cI, 4, .inl (v 56))), ((w 5), .inl (cI, 4, .inl (v 57))), ((w 6), .inl (cI, 34, .inl (v 58)))] := rfl
  have hPc := vx_sub hP [69, 73, 74, 75, 76] hC
  refine va_calli (va_runV (As := [.int (xs (nI (i + 1)).toNatClampNeg), .int (xs (nI (i + 2)).toNatClampNeg)]) (rest := []) ⟨hx, hb, hml, hown, hts⟩ (c_X11_hand l dC dI cI cZ cQ h1 (nn 17) (w 3) (w 4) (w 5) (w 6) ((.int (sc 17) :: .int (sc 18) :: .int (nI (nn 16)) :: .ref (w 0) :: .ref (w 1) :: .ref (w 2) :: .int (nI (nn 17)) :: .ref (w 3) :: .ref (w 4) :: .ref (w 5) :: .ref (w 6) :: .int (nI (nn 18)) :: .ref (w 7) :: .int (nI (nn 19)) :: .int (sc 19) :: .int (nI (nn 20)) :: .int (sc 20) :: .int (sc 21) :: .ref (w 8) :: .int (nI (nn 21)) :: .ref (w 9) :: .ref (w 10) :: .ref (w 11) :: .ref (w 12) :: .ref (w 13) :: .int (nI (nn 22)) :: .ref (w 14) :: .ref (w 15) :: .ref (w 16) :: .int (nI (nn 23)) :: .ref (w 17) :: .int (sc 22) :: .int (sc 23) :: .ref (w 18) :: .int (sc 24) :: .int (sc 25) :: .ref (w 19) :: .int (nI (nn 24)) :: .ref (w 20) :: .ref (w 21) :: .ref (w 22) :: .int (nI (nn 25)) :: .ref (w 23) :: .ref (w 24) :: .ref (w 25) :: .ref (w 26) :: [])) (v 55) (v 56) (v 57) (v 58) (xs (nI (i + 1)).toNatClampNeg) (xs (nI (i + 2)).toNatClampNeg) H.size rfl rfl rfl rfl rfl (by omega)) (cwV 2 hts gL_law_X11_hand rfl rfl rfl hd_X11_hand_RX11 ⟨Nat.le_of_ble_eq_true rfl, Nat.le_of_ble_eq_true rfl⟩) (pv_R (va_recv hK hPc (ci := 11) (q0 := 0) rfl rfl) hK hPc) rfl rfl hl.1 rfl (lv_room (Nat.le_of_ble_eq_true rfl)) dL_law_299 ⟨Nat.le_of_ble_eq_true rfl, Nat.le_of_ble_eq_true rfl⟩) hS (fun q _ h => False.elim h) (fun q h => False.elim h) (fun r8 u9 t H1 locs ht hvm hw10 hB hz1 hk1 hS => ?_)
  have hP := hP.kept (fun k q hk => hk1 q.1 (hP k q hk).lt (fun h => h))
  clear hz1 hk1 hPc hC
  generalize H1 = H at hP hS ht ⊢
  try dsimp only at hw10
  refine lv_pop hx hb dL_law_302 rfl ?_
  refine lv_goto (tgt := 928) hx hb dL_law_303 (by decide) ?_
  refine lv_iinc (v := nI (i + 4)) (lv' := [(3, .int (nI (i + 4))), (2, .ref h1), (1, .ref h0), (0, .ref b)]) hx hb dL_law_928 hl (k := 0) rfl ((rfl : nI i + Int32.ofInt 4 = nI i + 4).trans (nI_add i 4)) (by decide) rfl (fun ls hl => ?_)
  refine lv_goto (tgt := 18) hx hb dL_law_931 (by decide) ?_
  exact ih v sc nn cd H locs ls ⟨hn0, hn1, hn2, hn3, hn4, hn5, hn6, hn7, hn8, hn9, hn10, hn11, hn12, hn13, hn14, hn15, hn16, hn17, hn18, hn19, hn20, hn21, hn22, hn23, hn24, hn25, hqe, hqb, hsi, hci, hqw, hpw, hqk, hmi, heq, htx, hfe, hqq, hee, hbb, hkp, hBL, hMM, hST, hHH, hSD, hRW, hDK, hCU, hHR, hIM⟩ hP hD hS (lv_sub hl [0, 1, 2, 3] rfl)
set_option maxHeartbeats 8000000 in
set_option maxRecDepth 100000 in
theorem law_c13 {p : Program} {e : Env} {s : State} {m : MethodId} {below : List Frame} {meth : Method} {c : Code} (l : Launch) {b L : Nat} {xs : Nat → Int32} (C0 : lw_At p s m meth c b L xs) (hL : L ≤ 256) {dC : Nat → ClassId} {dI : Nat → Nat → Nat} {cI cZ cQ : ClassId} (hK : va_K (dC, dI) vwCl (tys0 cI cZ cQ) s) (hN : xN s) (hXS : xS (fun q : Nat => s.heap.size ≤ q) s s.heap) {h0 h1 : Nat} {u w : Nat → Nat} {fq fi0 : Nat → Option Nat} (hfq : ∀ j, j < 20 → fq j = some (da u j 0)) (hf0 : fi0 0 = some (u 59)) (hf1 : fi0 1 = some (u 60)) (i : Nat) (hi : i + 4 ≤ L) (ih : ∀ (v : Nat → Nat → Int32) (sc : Nat → Int32) (nn : Nat → Nat) (cd : Nat → dskC) (H : Heap) (locs : List Loc) (ls : Array Slot), lawI v sc nn cd → va_P (dC, dI) vwCl (lawW cI cZ cQ h0 h1 u w fq fi0 v sc nn ++ (hisW cI (u 1) (da u) cd)) H → va_D (fun q : Nat => s.heap.size ≤ q) (lawW cI cZ cQ h0 h1 u w fq fi0 v sc nn ++ (hisW cI (u 1) (da u) cd)) → va_S (fun q : Nat => s.heap.size ≤ q) s.heap H locs → lv_has ls 4 [(3, .int (nI (i + 4))), (2, .ref h1), (1, .ref h0), (0, .ref b)] → W p l e room_1 s m #[Value.ref b] below meth c H locs 217 2950 (lw_Z below #[Value.ref b] s) (F0 m 18 ls [])) : ∀ (v : Nat → Nat → Int32) (sc : Nat → Int32) (nn : Nat → Nat) (cd : Nat → dskC) (H : Heap) (locs : List Loc) (ls : Array Slot), lawI v sc nn cd → va_P (dC, dI) vwCl (lawW cI cZ cQ h0 h1 u w fq fi0 v sc nn ++ (hisW cI (u 1) (da u) cd)) H → va_D (fun q : Nat => s.heap.size ≤ q) (lawW cI cZ cQ h0 h1 u w fq fi0 v sc nn ++ (hisW cI (u 1) (da u) cd)) → va_S (fun q : Nat => s.heap.size ≤ q) s.heap H locs → lv_has ls 4 [(3, .int (nI i)), (2, .ref h1), (1, .ref h0), (0, .ref b)] → W p l e room_1 s m #[Value.ref b] below meth c H locs 217 2950 (lw_Z below #[Value.ref b] s) (F0 m 477 ls []) := by
  intro v sc nn cd H locs ls hI hP hD hS hl
  obtain ⟨hn0, hn1, hn2, hn3, hn4, hn5, hn6, hn7, hn8, hn9, hn10, hn11, hn12, hn13, hn14, hn15, hn16, hn17, hn18, hn19, hn20, hn21, hn22, hn23, hn24, hn25, hqe, hqb, hsi, hci, hqw, hpw, hqk, hmi, heq, htx, hfe, hqq, hee, hbb, hkp, hBL, hMM, hST, hHH, hSD, hRW, hDK, hCU, hHR, hIM⟩ := hI
  obtain ⟨hx, hb, hr, hml, hown, hts0, hX, hbl, hlocks, hgv⟩ := id C0
  have hts : ∀ w ∈ wsL_law, w.before #[Value.ref b] s = true := fun w h => hts0 w (wsL_law_in w h)
  have hown : s.vm.findClass RL = some m.cls := hown
  have hA : ∀ q : Nat, s.heap.size ≤ q → (fun q : Nat => s.heap.size ≤ q) q := fun _ h => h
  have hbA : ¬ (fun q : Nat => s.heap.size ≤ q) b := Nat.not_le.mpr hbl
  refine lv_aload_n hx hb dL_law_477 rfl (lv_at hl 2 rfl) ?_
  refine lv_aload_n hx hb dL_law_478 rfl (lv_at hl 3 rfl) ?_
  refine lv_iload_n hx hb dL_law_479 rfl (lv_at hl 0 rfl) ?_
  refine lv_iconst (v := 1) hx hb dL_law_480 (by decide) ?_
  refine lv_iadd hx hb dL_law_481 ?_
  refine lv_topi (fun z1 ez1 => ?_)
  obtain rfl : z1 = nI (i + 1) := ez1.trans (nI_add i 1)
  refine va_sld hx hb hX hbl hbA hS (vp_in_nI (n := i + 1) (N := L) (by omega) (by omega)) dL_law_482 ?_
  refine lv_aload_n hx hb dL_law_483 rfl (lv_at hl 3 rfl) ?_
  refine lv_iload_n hx hb dL_law_484 rfl (lv_at hl 0 rfl) ?_
  refine lv_iconst (v := 2) hx hb dL_law_485 (by decide) ?_
  refine lv_iadd hx hb dL_law_486 ?_
  refine lv_topi (fun z2 ez2 => ?_)
  obtain rfl : z2 = nI (i + 2) := ez2.trans (nI_add i 2)
  refine va_sld hx hb hX hbl hbA hS (vp_in_nI (n := i + 2) (N := L) (by omega) (by omega)) dL_law_487 ?_
  have hC : List.map (fun i => lAt (lawW cI cZ cQ h0 h1 u w fq fi0 v sc nn) i) [0, 2, 47, 23, 24, 25, 26, 3, 4, 5, 8, 9, 10] = List.map some [(h0, .inr (10, [.ref (u 0), .int (nI (nn 0)), .int (sc 0), .int (nI (nn 1)), .ref (u 1), .ref (u 2), .ref (u 3), .ref (u 4), .ref (u 5), .ref (u 6), .ref (u 7), .ref (u 8), .ref (u 9), .ref (u 10)])), ((u 1), .inr (5, [.int (nI (nn 2)), .int (sc 1), .int (sc 2), .int (nI (nn 3)), .int (nI (nn 4)), .ref (u 11), .ref (u 12), .ref (u 13), .ref (u 14), .ref (u 15), .ref (u 16), .ref (u 17), .ref (u 18)])), ((u 6), .inr (9, [.ref (u 1), .ref (u 3), .ref (u 71)])), ((u 3), .inr (1, [.int (sc 7), .int (sc 8), .ref (u 30), .ref (u 31), .ref (u 32), .ref (u 33), .ref (u 34), .ref (u 1)])), ((u 30), .inl (cI, 8, .inl (v 19))), ((u 31), .inl (cI, 8, .inl (v 20))), ((u 32), .inl (cI, 8, .inl (v 21))), ((u 11), .inl (cI, 8, .inl (v 1))), ((u 12), .inl (cI, 8, .inl (v 2))), ((u 13), .inl (cI, 8, .inl (v 3))), ((u 16), .inl (cI, 4, .inl (v 6))), ((u 17), .inl (cI, 4, .inl (v 7))), ((u 18), .inl (cI, 4, .inl (v 8)))] := rfl
  have hPc := vx_sub hP [0, 2, 47, 23, 24, 25, 26, 3, 4, 5, 8, 9, 10] hC
  refine va_calli (va_runV (As := [.int (xs (nI (i + 1)).toNatClampNeg), .int (xs (nI (i + 2)).toNatClampNeg)]) (rest := []) ⟨hx, hb, hml, hown, hts⟩ (c_X10_goodPages l dC dI cI cZ cQ h0 (u 1) (u 6) ([.ref (u 0), .int (nI (nn 0)), .int (sc 0), .int (nI (nn 1)), .ref (u 1), .ref (u 2), .ref (u 3), .ref (u 4), .ref (u 5), .ref (u 6), .ref (u 7), .ref (u 8), .ref (u 9), .ref (u 10)]) (u 11) (u 12) (u 13) (u 16) (u 17) (u 18) (nn 3) (nn 4) ([.int (nI (nn 2)), .int (sc 1), .int (sc 2), .int (nI (nn 3)), .int (nI (nn 4)), .ref (u 11), .ref (u 12), .ref (u 13), .ref (u 14), .ref (u 15), .ref (u 16), .ref (u 17), .ref (u 18)]) (u 3) ([.ref (u 1), .ref (u 3), .ref (u 71)]) (u 30) (u 31) (u 32) ([.int (sc 7), .int (sc 8), .ref (u 30), .ref (u 31), .ref (u 32), .ref (u 33), .ref (u 34), .ref (u 1)]) (v 19) (v 20) (v 21) (v 1) (v 2) (v 3) (v 6) (v 7) (v 8) (xs (nI (i + 1)).toNatClampNeg) (xs (nI (i + 2)).toNatClampNeg) H.size rfl rfl rfl rfl rfl rfl rfl rfl rfl rfl rfl rfl rfl rfl rfl (by omega) (by omega)) (cwV 2 hts gL_law_X10_goodPages rfl rfl rfl hd_X10_goodPages_RX10 ⟨Nat.le_of_ble_eq_true rfl, Nat.le_of_ble_eq_true rfl⟩) ⟨fun a U g mk q => by obtain ⟨q0, q1, qP, qK, qN⟩ := q; exact ⟨q0, q1, qP, va_K.moved (u := U) (U := U.calling g mk a) (Vm.Alike.refl U.vm) qK, qN.calling⟩, va_recv hK hPc (ci := 10) (q0 := 0) rfl rfl, fun U hU hW => ⟨rfl, by rw [hU], by rw [hU]; exact hPc, va_K.moved hW.alike hK, hN.warm hW⟩⟩ rfl rfl hl.1 rfl (lv_room (Nat.le_of_ble_eq_true rfl)) dL_law_488 ⟨Nat.le_of_ble_eq_true rfl, Nat.le_of_ble_eq_true rfl⟩) hS (fun q _ h => False.elim h) (fun q h => False.elim h) (fun r3 u4 t H1 locs ht hvm hw5 hB hz1 hk1 hS => ?_)
  have hP := hP.kept (fun k q hk => hk1 q.1 (hP k q hk).lt (fun h => h))
  clear hz1 hk1 hPc hC
  generalize H1 = H at hP hS ht ⊢
  try dsimp only at hw5
  refine lv_pop hx hb dL_law_491 rfl ?_
  refine lv_aload_n hx hb dL_law_492 rfl (lv_at hl 1 rfl) ?_
  refine lv_aload_n hx hb dL_law_493 rfl (lv_at hl 3 rfl) ?_
  refine lv_iload_n hx hb dL_law_494 rfl (lv_at hl 0 rfl) ?_
  refine lv_iconst (v := 1) hx hb dL_law_495 (by decide) ?_
  refine lv_iadd hx hb dL_law_496 ?_
  refine lv_topi (fun z6 ez6 => ?_)
  obtain rfl : z6 = nI (i + 1) := ez6.trans (nI_add i 1)
  refine va_sld hx hb hX hbl hbA hS (vp_in_nI (n := i + 1) (N := L) (by omega) (by omega)) dL_law_497 ?_
  refine lv_aload_n hx hb dL_law_498 rfl (lv_at hl 3 rfl) ?_
  refine lv_iload_n hx hb dL_law_499 rfl (lv_at hl 0 rfl) ?_
  refine lv_iconst (v := 2) hx hb dL_law_500 (by decide) ?_
  refine lv_iadd hx hb dL_law_501 ?_
  refine lv_topi (fun z7 ez7 => ?_)
  obtain rfl : z7 = nI (i + 2) := ez7.trans (nI_add i 2)
  refine va_sld hx hb hX hbl hbA hS (vp_in_nI (n := i + 2) (N := L) (by omega) (by omega)) dL_law_502 ?_
  have hC : List.map (fun i => lAt (lawW cI cZ cQ h0 h1 u w fq fi0 v sc nn) i) [69, 70, 71, 72, 73, 74, 75, 76] = List.map some [(h1, .inr (11, (.int (sc 17) :: .int (sc 18) :: .int (nI (nn 16)) :: .ref (w 0) :: .ref (w 1) :: .ref (w 2) :: .int (nI (nn 17)) :: .ref (w 3) :: .ref (w 4) :: .ref (w 5) :: .ref (w 6) :: .int (nI (nn 18)) :: .ref (w 7) :: .int (nI (nn 19)) :: .int (sc 19) :: .int (nI (nn 20)) :: .int (sc 20) :: .int (sc 21) :: .ref (w 8) :: .int (nI (nn 21)) :: .ref (w 9) :: .ref (w 10) :: .ref (w 11) :: .ref (w 12) :: .ref (w 13) :: .int (nI (nn 22)) :: .ref (w 14) :: .ref (w 15) :: .ref (w 16) :: .int (nI (nn 23)) :: .ref (w 17) :: .int (sc 22) :: .int (sc 23) :: .ref (w 18) :: .int (sc 24) :: .int (sc 25) :: .ref (w 19) :: .int (nI (nn 24)) :: .ref (w 20) :: .ref (w 21) :: .ref (w 22) :: .int (nI (nn 25)) :: .ref (w 23) :: .ref (w 24) :: .ref (w 25) :: .ref (w 26) :: []))), ((w 0), .inl (cI, 8, .inl (v 52))), ((w 1), .inl (cI, 8, .inl (v 53))), ((w 2), .inl (cI, 8, .inl (v 54))), ((w 3), .inl (cI, 4, .inl (v 55))), ((w 4), .inl (cI, 4, .inl (v 56))), ((w 5), .inl (cI, 4, .inl (v 57))), ((w 6), .inl (cI, 34, .inl (v 58)))] := rfl
  have hPc := vx_sub hP [69, 70, 71, 72, 73, 74, 75, 76] hC
  refine va_calli (va_runV (As := [.int (xs (nI (i + 1)).toNatClampNeg), .int (xs (nI (i + 2)).toNatClampNeg)]) (rest := []) ⟨hx, hb, hml, hown, hts⟩ (c_X11_goodPages l dC dI cI cZ cQ h1 (nn 16) (nn 17) (w 0) (w 1) (w 2) (w 3) (w 4) (w 5) (w 6) ((.int (sc 17) :: .int (sc 18) :: .int (nI (nn 16)) :: .ref (w 0) :: .ref (w 1) :: .ref (w 2) :: .int (nI (nn 17)) :: .ref (w 3) :: .ref (w 4) :: .ref (w 5) :: .ref (w 6) :: .int (nI (nn 18)) :: .ref (w 7) :: .int (nI (nn 19)) :: .int (sc 19) :: .int (nI (nn 20)) :: .int (sc 20) :: .int (sc 21) :: .ref (w 8) :: .int (nI (nn 21)) :: .ref (w 9) :: .ref (w 10) :: .ref (w 11) :: .ref (w 12) :: .ref (w 13) :: .int (nI (nn 22)) :: .ref (w 14) :: .ref (w 15) :: .ref (w 16) :: .int (nI (nn 23)) :: .ref (w 17) :: .int (sc 22) :: .int (sc 23) :: .ref (w 18) :: .int (sc 24) :: .int (sc 25) :: .ref (w 19) :: .int (nI (nn 24)) :: .ref (w 20) :: .ref (w 21) :: .ref (w 22) :: .int (nI (nn 25)) :: .ref (w 23) :: .ref (w 24) :: .ref (w 25) :: .ref (w 26) :: [])) (v 52) (v 53) (v 54) (v 55) (v 56) (v 57) (v 58) (xs (nI (i + 1)).toNatClampNeg) (xs (nI (i + 2)).toNatClampNeg) H.size rfl rfl rfl rfl rfl rfl rfl rfl rfl (by omega) (by first | assumption | decide) (by omega)) (cwV 2 hts gL_law_X11_goodPages rfl rfl rfl hd_X11_goodPages_RX11 ⟨Nat.le_of_ble_eq_true rfl, Nat.le_of_ble_eq_true rfl⟩) (pv_R (va_recv hK hPc (ci := 11) (q0 := 0) rfl rfl) hK hPc) rfl rfl hl.1 rfl (lv_room (Nat.le_of_ble_eq_true rfl)) dL_law_503 ⟨Nat.le_of_ble_eq_true rfl, Nat.le_of_ble_eq_true rfl⟩) hS (fun q _ h => False.elim h) (fun q h => False.elim h) (fun r8 u9 t H1 locs ht hvm hw10 hB hz1 hk1 hS => ?_)
  have hP := hP.kept (fun k q hk => hk1 q.1 (hP k q hk).lt (fun h => h))
  clear hz1 hk1 hPc hC
  generalize H1 = H at hP hS ht ⊢
  try dsimp only at hw10
  refine lv_pop hx hb dL_law_506 rfl ?_
  refine lv_goto (tgt := 928) hx hb dL_law_507 (by decide) ?_
  refine lv_iinc (v := nI (i + 4)) (lv' := [(3, .int (nI (i + 4))), (2, .ref h1), (1, .ref h0), (0, .ref b)]) hx hb dL_law_928 hl (k := 0) rfl ((rfl : nI i + Int32.ofInt 4 = nI i + 4).trans (nI_add i 4)) (by decide) rfl (fun ls hl => ?_)
  refine lv_goto (tgt := 18) hx hb dL_law_931 (by decide) ?_
  exact ih v sc nn cd H locs ls ⟨hn0, hn1, hn2, hn3, hn4, hn5, hn6, hn7, hn8, hn9, hn10, hn11, hn12, hn13, hn14, hn15, hn16, hn17, hn18, hn19, hn20, hn21, hn22, hn23, hn24, hn25, hqe, hqb, hsi, hci, hqw, hpw, hqk, hmi, heq, htx, hfe, hqq, hee, hbb, hkp, hBL, hMM, hST, hHH, hSD, hRW, hDK, hCU, hHR, hIM⟩ hP hD hS (lv_sub hl [0, 1, 2, 3] rfl)
set_option maxHeartbeats 8000000 in
set_option maxRecDepth 100000 in
theorem law_c14 {p : Program} {e : Env} {s : State} {m : MethodId} {below : List Frame} {meth : Method} {c : Code} (l : Launch) {b L : Nat} {xs : Nat → Int32} (C0 : lw_At p s m meth c b L xs) (hL : L ≤ 256) {dC : Nat → ClassId} {dI : Nat → Nat → Nat} {cI cZ cQ : ClassId} (hK : va_K (dC, dI) vwCl (tys0 cI cZ cQ) s) (hN : xN s) (hXS : xS (fun q : Nat => s.heap.size ≤ q) s s.heap) {h0 h1 : Nat} {u w : Nat → Nat} {fq fi0 : Nat → Option Nat} (hfq : ∀ j, j < 20 → fq j = some (da u j 0)) (hf0 : fi0 0 = some (u 59)) (hf1 : fi0 1 = some (u 60)) (i : Nat) (hi : i + 4 ≤ L) (ih : ∀ (v : Nat → Nat → Int32) (sc : Nat → Int32) (nn : Nat → Nat) (cd : Nat → dskC) (H : Heap) (locs : List Loc) (ls : Array Slot), lawI v sc nn cd → va_P (dC, dI) vwCl (lawW cI cZ cQ h0 h1 u w fq fi0 v sc nn ++ (hisW cI (u 1) (da u) cd)) H → va_D (fun q : Nat => s.heap.size ≤ q) (lawW cI cZ cQ h0 h1 u w fq fi0 v sc nn ++ (hisW cI (u 1) (da u) cd)) → va_S (fun q : Nat => s.heap.size ≤ q) s.heap H locs → lv_has ls 4 [(3, .int (nI (i + 4))), (2, .ref h1), (1, .ref h0), (0, .ref b)] → W p l e room_1 s m #[Value.ref b] below meth c H locs 217 2950 (lw_Z below #[Value.ref b] s) (F0 m 18 ls [])) : ∀ (v : Nat → Nat → Int32) (sc : Nat → Int32) (nn : Nat → Nat) (cd : Nat → dskC) (H : Heap) (locs : List Loc) (ls : Array Slot), lawI v sc nn cd → va_P (dC, dI) vwCl (lawW cI cZ cQ h0 h1 u w fq fi0 v sc nn ++ (hisW cI (u 1) (da u) cd)) H → va_D (fun q : Nat => s.heap.size ≤ q) (lawW cI cZ cQ h0 h1 u w fq fi0 v sc nn ++ (hisW cI (u 1) (da u) cd)) → va_S (fun q : Nat => s.heap.size ≤ q) s.heap H locs → lv_has ls 4 [(3, .int (nI i)), (2, .ref h1), (1, .ref h0), (0, .ref b)] → W p l e room_1 s m #[Value.ref b] below meth c H locs 217 2950 (lw_Z below #[Value.ref b] s) (F0 m 510 ls []) := by
  intro v sc nn cd H locs ls hI hP hD hS hl
  obtain ⟨hn0, hn1, hn2, hn3, hn4, hn5, hn6, hn7, hn8, hn9, hn10, hn11, hn12, hn13, hn14, hn15, hn16, hn17, hn18, hn19, hn20, hn21, hn22, hn23, hn24, hn25, hqe, hqb, hsi, hci, hqw, hpw, hqk, hmi, heq, htx, hfe, hqq, hee, hbb, hkp, hBL, hMM, hST, hHH, hSD, hRW, hDK, hCU, hHR, hIM⟩ := hI
  obtain ⟨hx, hb, hr, hml, hown, hts0, hX, hbl, hlocks, hgv⟩ := id C0
  have hts : ∀ w ∈ wsL_law, w.before #[Value.ref b] s = true := fun w h => hts0 w (wsL_law_in w h)
  have hown : s.vm.findClass RL = some m.cls := hown
  have hA : ∀ q : Nat, s.heap.size ≤ q → (fun q : Nat => s.heap.size ≤ q) q := fun _ h => h
  have hbA : ¬ (fun q : Nat => s.heap.size ≤ q) b := Nat.not_le.mpr hbl
  refine lv_aload_n hx hb dL_law_510 rfl (lv_at hl 2 rfl) ?_
  refine lv_aload_n hx hb dL_law_511 rfl (lv_at hl 3 rfl) ?_
  refine lv_iload_n hx hb dL_law_512 rfl (lv_at hl 0 rfl) ?_
  refine lv_iconst (v := 1) hx hb dL_law_513 (by decide) ?_
  refine lv_iadd hx hb dL_law_514 ?_
  refine lv_topi (fun z1 ez1 => ?_)
  obtain rfl : z1 = nI (i + 1) := ez1.trans (nI_add i 1)
  refine va_sld hx hb hX hbl hbA hS (vp_in_nI (n := i + 1) (N := L) (by omega) (by omega)) dL_law_515 ?_
  refine lv_aload_n hx hb dL_law_516 rfl (lv_at hl 3 rfl) ?_
  refine lv_iload_n hx hb dL_law_517 rfl (lv_at hl 0 rfl) ?_
  refine lv_iconst (v := 2) hx hb dL_law_518 (by decide) ?_
  refine lv_iadd hx hb dL_law_519 ?_
  refine lv_topi (fun z2 ez2 => ?_)
  obtain rfl : z2 = nI (i + 2) := ez2.trans (nI_add i 2)
  refine va_sld hx hb hX hbl hbA hS (vp_in_nI (n := i + 2) (N := L) (by omega) (by omega)) dL_law_520 ?_
  have hC : List.map (fun i => lAt (lawW cI cZ cQ h0 h1 u w fq fi0 v sc nn) i) [0, 2, 47, 23, 24, 25, 26, 3, 4, 5, 8, 9, 10] = List.map some [(h0, .inr (10, [.ref (u 0), .int (nI (nn 0)), .int (sc 0), .int (nI (nn 1)), .ref (u 1), .ref (u 2), .ref (u 3), .ref (u 4), .ref (u 5), .ref (u 6), .ref (u 7), .ref (u 8), .ref (u 9), .ref (u 10)])), ((u 1), .inr (5, [.int (nI (nn 2)), .int (sc 1), .int (sc 2), .int (nI (nn 3)), .int (nI (nn 4)), .ref (u 11), .ref (u 12), .ref (u 13), .ref (u 14), .ref (u 15), .ref (u 16), .ref (u 17), .ref (u 18)])), ((u 6), .inr (9, [.ref (u 1), .ref (u 3), .ref (u 71)])), ((u 3), .inr (1, [.int (sc 7), .int (sc 8), .ref (u 30), .ref (u 31), .ref (u 32), .ref (u 33), .ref (u 34), .ref (u 1)])), ((u 30), .inl (cI, 8, .inl (v 19))), ((u 31), .inl (cI, 8, .inl (v 20))), ((u 32), .inl (cI, 8, .inl (v 21))), ((u 11), .inl (cI, 8, .inl (v 1))), ((u 12), .inl (cI, 8, .inl (v 2))), ((u 13), .inl (cI, 8, .inl (v 3))), ((u 16), .inl (cI, 4, .inl (v 6))), ((u 17), .inl (cI, 4, .inl (v 7))), ((u 18), .inl (cI, 4, .inl (v 8)))] := rfl
  have hPc := vx_sub hP [0, 2, 47, 23, 24, 25, 26, 3, 4, 5, 8, 9, 10] hC
  refine va_calli (va_runV (As := [.int (xs (nI (i + 1)).toNatClampNeg), .int (xs (nI (i + 2)).toNatClampNeg)]) (rest := []) ⟨hx, hb, hml, hown, hts⟩ (c_X10_life l dC dI cI cZ cQ h0 (u 1) (u 6) ([.ref (u 0), .int (nI (nn 0)), .int (sc 0), .int (nI (nn 1)), .ref (u 1), .ref (u 2), .ref (u 3), .ref (u 4), .ref (u 5), .ref (u 6), .ref (u 7), .ref (u 8), .ref (u 9), .ref (u 10)]) (u 11) (u 12) (u 13) (u 16) (u 17) (u 18) (nn 3) (nn 4) ([.int (nI (nn 2)), .int (sc 1), .int (sc 2), .int (nI (nn 3)), .int (nI (nn 4)), .ref (u 11), .ref (u 12), .ref (u 13), .ref (u 14), .ref (u 15), .ref (u 16), .ref (u 17), .ref (u 18)]) (u 3) ([.ref (u 1), .ref (u 3), .ref (u 71)]) (u 30) (u 31) (u 32) ([.int (sc 7), .int (sc 8), .ref (u 30), .ref (u 31), .ref (u 32), .ref (u 33), .ref (u 34), .ref (u 1)]) (v 19) (v 20) (v 21) (v 1) (v 2) (v 3) (v 6) (v 7) (v 8) (xs (nI (i + 1)).toNatClampNeg) (xs (nI (i + 2)).toNatClampNeg) H.size rfl rfl rfl rfl rfl rfl rfl rfl rfl rfl rfl rfl rfl rfl rfl (by omega) (by omega)) (cwV 2 hts gL_law_X10_life rfl rfl rfl hd_X10_life_RX10 ⟨Nat.le_of_ble_eq_true rfl, Nat.le_of_ble_eq_true rfl⟩) ⟨fun a U g mk q => by obtain ⟨q0, q1, qP, qK, qN⟩ := q; exact ⟨q0, q1, qP, va_K.moved (u := U) (U := U.calling g mk a) (Vm.Alike.refl U.vm) qK, qN.calling⟩, va_recv hK hPc (ci := 10) (q0 := 0) rfl rfl, fun U hU hW => ⟨rfl, by rw [hU], by rw [hU]; exact hPc, va_K.moved hW.alike hK, hN.warm hW⟩⟩ rfl rfl hl.1 rfl (lv_room (Nat.le_of_ble_eq_true rfl)) dL_law_521 ⟨Nat.le_of_ble_eq_true rfl, Nat.le_of_ble_eq_true rfl⟩) hS (fun q _ h => False.elim h) (fun q h => False.elim h) (fun r3 u4 t H1 locs ht hvm hw5 hB hz1 hk1 hS => ?_)
  have hP := hP.kept (fun k q hk => hk1 q.1 (hP k q hk).lt (fun h => h))
  clear hz1 hk1 hPc hC
  generalize H1 = H at hP hS ht ⊢
  try dsimp only at hw5
  refine lv_pop hx hb dL_law_524 rfl ?_
  refine lv_aload_n hx hb dL_law_525 rfl (lv_at hl 1 rfl) ?_
  refine lv_aload_n hx hb dL_law_526 rfl (lv_at hl 3 rfl) ?_
  refine lv_iload_n hx hb dL_law_527 rfl (lv_at hl 0 rfl) ?_
  refine lv_iconst (v := 1) hx hb dL_law_528 (by decide) ?_
  refine lv_iadd hx hb dL_law_529 ?_
  refine lv_topi (fun z6 ez6 => ?_)
  obtain rfl : z6 = nI (i + 1) := ez6.trans (nI_add i 1)
  refine va_sld hx hb hX hbl hbA hS (vp_in_nI (n := i + 1) (N := L) (by omega) (by omega)) dL_law_530 ?_
  refine lv_aload_n hx hb dL_law_531 rfl (lv_at hl 3 rfl) ?_
  refine lv_iload_n hx hb dL_law_532 rfl (lv_at hl 0 rfl) ?_
  refine lv_iconst (v := 2) hx hb dL_law_533 (by decide) ?_
  refine lv_iadd hx hb dL_law_534 ?_
  refine lv_topi (fun z7 ez7 => ?_)
  obtain rfl : z7 = nI (i + 2) := ez7.trans (nI_add i 2)
  refine va_sld hx hb hX hbl hbA hS (vp_in_nI (n := i + 2) (N := L) (by omega) (by omega)) dL_law_535 ?_
  have hC : List.map (fun i => lAt (lawW cI cZ cQ h0 h1 u w fq fi0 v sc nn) i) [69, 70, 71, 72, 73, 74, 75, 76] = List.map some [(h1, .inr (11, (.int (sc 17) :: .int (sc 18) :: .int (nI (nn 16)) :: .ref (w 0) :: .ref (w 1) :: .ref (w 2) :: .int (nI (nn 17)) :: .ref (w 3) :: .ref (w 4) :: .ref (w 5) :: .ref (w 6) :: .int (nI (nn 18)) :: .ref (w 7) :: .int (nI (nn 19)) :: .int (sc 19) :: .int (nI (nn 20)) :: .int (sc 20) :: .int (sc 21) :: .ref (w 8) :: .int (nI (nn 21)) :: .ref (w 9) :: .ref (w 10) :: .ref (w 11) :: .ref (w 12) :: .ref (w 13) :: .int (nI (nn 22)) :: .ref (w 14) :: .ref (w 15) :: .ref (w 16) :: .int (nI (nn 23)) :: .ref (w 17) :: .int (sc 22) :: .int (sc 23) :: .ref (w 18) :: .int (sc 24) :: .int (sc 25) :: .ref (w 19) :: .int (nI (nn 24)) :: .ref (w 20) :: .ref (w 21) :: .ref (w 22) :: .int (nI (nn 25)) :: .ref (w 23) :: .ref (w 24) :: .ref (w 25) :: .ref (w 26) :: []))), ((w 0), .inl (cI, 8, .inl (v 52))), ((w 1), .inl (cI, 8, .inl (v 53))), ((w 2), .inl (cI, 8, .inl (v 54))), ((w 3), .inl (cI, 4, .inl (v 55))), ((w 4), .inl (cI, 4, .inl (v 56))), ((w 5), .inl (cI, 4, .inl (v 57))), ((w 6), .inl (cI, 34, .inl (v 58)))] := rfl
  have hPc := vx_sub hP [69, 70, 71, 72, 73, 74, 75, 76] hC
  refine va_calli (va_runV (As := [.int (xs (nI (i + 1)).toNatClampNeg), .int (xs (nI (i + 2)).toNatClampNeg)]) (rest := []) ⟨hx, hb, hml, hown, hts⟩ (c_X11_life l dC dI cI cZ cQ h1 (nn 16) (nn 17) (w 0) (w 1) (w 2) (w 3) (w 4) (w 5) (w 6) ((.int (sc 17) :: .int (sc 18) :: .int (nI (nn 16)) :: .ref (w 0) :: .ref (w 1) :: .ref (w 2) :: .int (nI (nn 17)) :: .ref (w 3) :: .ref (w 4) :: .ref (w 5) :: .ref (w 6) :: .int (nI (nn 18)) :: .ref (w 7) :: .int (nI (nn 19)) :: .int (sc 19) :: .int (nI (nn 20)) :: .int (sc 20) :: .int (sc 21) :: .ref (w 8) :: .int (nI (nn 21)) :: .ref (w 9) :: .ref (w 10) :: .ref (w 11) :: .ref (w 12) :: .ref (w 13) :: .int (nI (nn 22)) :: .ref (w 14) :: .ref (w 15) :: .ref (w 16) :: .int (nI (nn 23)) :: .ref (w 17) :: .int (sc 22) :: .int (sc 23) :: .ref (w 18) :: .int (sc 24) :: .int (sc 25) :: .ref (w 19) :: .int (nI (nn 24)) :: .ref (w 20) :: .ref (w 21) :: .ref (w 22) :: .int (nI (nn 25)) :: .ref (w 23) :: .ref (w 24) :: .ref (w 25) :: .ref (w 26) :: [])) (v 52) (v 53) (v 54) (v 55) (v 56) (v 57) (v 58) (xs (nI (i + 1)).toNatClampNeg) (xs (nI (i + 2)).toNatClampNeg) H.size rfl rfl rfl rfl rfl rfl rfl rfl rfl (by omega) (by first | assumption | decide) (by omega)) (cwV 2 hts gL_law_X11_life rfl rfl rfl hd_X11_life_RX11 ⟨Nat.le_of_ble_eq_true rfl, Nat.le_of_ble_eq_true rfl⟩) (pv_R (va_recv hK hPc (ci := 11) (q0 := 0) rfl rfl) hK hPc) rfl rfl hl.1 rfl (lv_room (Nat.le_of_ble_eq_true rfl)) dL_law_536 ⟨Nat.le_of_ble_eq_true rfl, Nat.le_of_ble_eq_true rfl⟩) hS (fun q _ h => False.elim h) (fun q h => False.elim h) (fun r8 u9 t H1 locs ht hvm hw10 hB hz1 hk1 hS => ?_)
  have hP := hP.kept (fun k q hk => hk1 q.1 (hP k q hk).lt (fun h => h))
  clear hz1 hk1 hPc hC
  generalize H1 = H at hP hS ht ⊢
  try dsimp only at hw10
  refine lv_pop hx hb dL_law_539 rfl ?_
  refine lv_goto (tgt := 928) hx hb dL_law_540 (by decide) ?_
  refine lv_iinc (v := nI (i + 4)) (lv' := [(3, .int (nI (i + 4))), (2, .ref h1), (1, .ref h0), (0, .ref b)]) hx hb dL_law_928 hl (k := 0) rfl ((rfl : nI i + Int32.ofInt 4 = nI i + 4).trans (nI_add i 4)) (by decide) rfl (fun ls hl => ?_)
  refine lv_goto (tgt := 18) hx hb dL_law_931 (by decide) ?_
  exact ih v sc nn cd H locs ls ⟨hn0, hn1, hn2, hn3, hn4, hn5, hn6, hn7, hn8, hn9, hn10, hn11, hn12, hn13, hn14, hn15, hn16, hn17, hn18, hn19, hn20, hn21, hn22, hn23, hn24, hn25, hqe, hqb, hsi, hci, hqw, hpw, hqk, hmi, heq, htx, hfe, hqq, hee, hbb, hkp, hBL, hMM, hST, hHH, hSD, hRW, hDK, hCU, hHR, hIM⟩ hP hD hS (lv_sub hl [0, 1, 2, 3] rfl)
