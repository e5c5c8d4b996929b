set_option maxHeartbeats 8000000 in
set_option maxRecDepth 100000 in
theorem law_c0 {p : Program} {e : Env} {s : State} {m : MethodId} {below : List Frame} {meth : Method} {c : Code} (l : Launch) {b L : Nat} {xs : Nat → Int32} (C0 : lw_At p s m meth c b L xs) (hL : L ≤ 256) {dC : Nat → ClassId} {dI : Nat → Nat → Nat} {cI cZ cQ : ClassId} (hK : va_K (dC, dI) vwCl (tys0 cI cZ cQ) s) (hN : xN s) (hXS : xS (fun q : Nat => s.heap.size ≤ q) s s.heap) {h0 h1 : Nat} {u w : Nat → Nat} {fq fi0 : Nat → Option Nat} (hfq : ∀ j, j < 20 → fq j = some (da u j 0)) (hf0 : fi0 0 = some (u 59)) (hf1 : fi0 1 = some (u 60)) (i : Nat) (hi : i + 4 ≤ L) (ih : ∀ (v : Nat → Nat → Int32) (sc : Nat → Int32) (nn : Nat → Nat) (cd : Nat → dskC) (H : Heap) (locs : List Loc) (ls : Array Slot), lawI v sc nn cd → va_P (dC, dI) vwCl (lawW cI cZ cQ h0 h1 u w fq fi0 v sc nn ++ (hisW cI (u 1) (da u) cd)) H → va_D (fun q : Nat => s.heap.size ≤ q) (lawW cI cZ cQ h0 h1 u w fq fi0 v sc nn ++ (hisW cI (u 1) (da u) cd)) → va_S (fun q : Nat => s.heap.size ≤ q) s.heap H locs → lv_has ls 4 [(3, .int (nI (i + 4))), (2, .ref h1), (1, .ref h0), (0, .ref b)] → W p l e room_1 s m #[Value.ref b] below meth c H locs 217 2950 (lw_Z below #[Value.ref b] s) (F0 m 18 ls [])) : ∀ (v : Nat → Nat → Int32) (sc : Nat → Int32) (nn : Nat → Nat) (cd : Nat → dskC) (H : Heap) (locs : List Loc) (ls : Array Slot), lawI v sc nn cd → va_P (dC, dI) vwCl (lawW cI cZ cQ h0 h1 u w fq fi0 v sc nn ++ (hisW cI (u 1) (da u) cd)) H → va_D (fun q : Nat => s.heap.size ≤ q) (lawW cI cZ cQ h0 h1 u w fq fi0 v sc nn ++ (hisW cI (u 1) (da u) cd)) → va_S (fun q : Nat => s.heap.size ≤ q) s.heap H locs → lv_has ls 4 [(3, .int (nI i)), (2, .ref h1), (1, .ref h0), (0, .ref b)] → W p l e room_1 s m #[Value.ref b] below meth c H locs 217 2950 (lw_Z below #[Value.ref b] s) (F0 m 168 ls []) := by
  intro v sc nn cd H locs ls hI hP hD hS hl
  obtain ⟨hn0, hn1, hn2, hn3, hn4, hn5, hn6, hn7, hn8, hn9, hn10, hn11, hn12, hn13, hn14, hn15, hn16, hn17, hn18, hn19, hn20, hn21, hn22, hn23, hn24, hn25, hqe, hqb, hsi, hci, hqw, hpw, hqk, hmi, heq, htx, hfe, hqq, hee, hbb, hkp, hBL, hMM, hST, hHH, hSD, hRW, hDK, hCU, hHR, hIM⟩ := hI
  obtain ⟨hx, hb, hr, hml, hown, hts0, hX, hbl, hlocks, hgv⟩ := id C0
  have hts : ∀ w ∈ wsL_law, w.before #[Value.ref b] s = true := fun w h => hts0 w (wsL_law_in w h)
  have hown : s.vm.findClass RL = some m.cls := hown
  have hA : ∀ q : Nat, s.heap.size ≤ q → (fun q : Nat => s.heap.size ≤ q) q := fun _ h => h
  have hbA : ¬ (fun q : Nat => s.heap.size ≤ q) b := Nat.not_le.mpr hbl
  refine lv_aload_n hx hb dL_law_168 rfl (lv_at hl 2 rfl) ?_
  refine lv_aload_n hx hb dL_law_169 rfl (lv_at hl 3 rfl) ?_
  refine lv_iload_n hx hb dL_law_170 rfl (lv_at hl 0 rfl) ?_
  refine lv_iconst (v := 1) hx hb dL_law_171 (by decide) ?_
  refine lv_iadd hx hb dL_law_172 ?_
  refine lv_topi (fun z1 ez1 => ?_)
  obtain rfl : z1 = nI (i + 1) := ez1.trans (nI_add i 1)
  refine va_sld hx hb hX hbl hbA hS (vp_in_nI (n := i + 1) (N := L) (by omega) (by omega)) dL_law_173 ?_
  have hC : List.map (fun i => (lawW cI cZ cQ h0 h1 u w fq fi0 v sc nn)[i]?) [0, 1] = List.map some [(h0, .inr (10, [.ref (u 0), .int (nI (nn 0)), .int (sc 0), .int (nI (nn 1)), .ref (u 1), .ref (u 2), .ref (u 3), .ref (u 4), .ref (u 5), .ref (u 6), .ref (u 7), .ref (u 8), .ref (u 9), .ref (u 10)])), ((u 0), .inl (cI, 220, .inl (v 0)))] := rfl
  have hPc := vx_sub hP [0, 1] hC
  have hDc := vx_D hD [0, 1] (by decide) hC
  have hFc := vx_free hD hS hA [0, 1] hC
  refine va_calli (va_runV (As := [.int (xs (nI (i + 1)).toNatClampNeg)]) (rest := []) ⟨hx, hb, hml, hown, hts⟩ (c_X10_feedA l dC dI cI cZ cQ h0 (u 0) (nn 0) (sc 0) (nn 1) (u 1) (u 2) (u 3) (u 4) (u 5) (u 6) (u 7) (u 8) (u 9) (u 10) (v 0) (xs (nI (i + 1)).toNatClampNeg) H.size (by omega)) (cwV 1 hts gL_law_X10_feed rfl rfl rfl (by decide +kernel) ⟨Nat.le_of_ble_eq_true rfl, Nat.le_of_ble_eq_true rfl⟩) ⟨fun a U g mk q => by obtain ⟨q0, q1, qP, qK, qD⟩ := q; exact ⟨q0, q1, qP, va_K.moved (u := U) (U := U.calling g mk a) (Vm.Alike.refl U.vm) qK, qD⟩, va_recv hK hPc (ci := 10) (q0 := 0) rfl rfl, fun U hU hW => ⟨rfl, by rw [hU], by rw [hU]; exact hPc, va_K.moved hW.alike hK, hDc.weaken (fun _ _ _ _ => trivial)⟩⟩ rfl rfl hl.1 rfl (lv_room (Nat.le_of_ble_eq_true rfl)) dL_law_174 ⟨Nat.le_of_ble_eq_true rfl, Nat.le_of_ble_eq_true rfl⟩) hS (fun q _ h => hFc q h) hFc (fun r2 u3 t H1 locs ht hvm hw4 hB hz1 hk1 hS => ?_)
  obtain ⟨f5, k6, hk6, he7, he8, hP1, hD1⟩ := hB
  rw [ht] at hP1
  obtain ⟨hP, hD⟩ := vx_mix hP hD [0, 1] hC hk1 hP1 rfl
  generalize hX1 : wmix _ _ _ _ = X1 at hP hD
  clear hP1 hD1 hC
  clear hz1 hk1 hPc hDc hFc
  generalize H1 = H at hP hS ht ⊢
  try dsimp only at hw4
  refine lv_pop hx hb dL_law_177 rfl ?_
  refine lv_aload_n hx hb dL_law_178 rfl (lv_at hl 1 rfl) ?_
  refine lv_aload_n hx hb dL_law_179 rfl (lv_at hl 3 rfl) ?_
  refine lv_iload_n hx hb dL_law_180 rfl (lv_at hl 0 rfl) ?_
  refine lv_iconst (v := 1) hx hb dL_law_181 (by decide) ?_
  refine lv_iadd hx hb dL_law_182 ?_
  refine lv_topi (fun z9 ez9 => ?_)
  obtain rfl : z9 = nI (i + 1) := ez9.trans (nI_add i 1)
  refine va_sld hx hb hX hbl hbA hS (vp_in_nI (n := i + 1) (N := L) (by omega) (by omega)) dL_law_183 ?_
  have hC : List.map (fun i => X1[i]?) [69, 77] = List.map some [(h1, .inr (11, [.int (sc 17), .int (sc 18), .int (nI (nn 16)), .ref (w 0), .ref (w 1), .ref (w 2), .int (nI (nn 17)), .ref (w 3), .ref (w 4), .ref (w 5), .ref (w 6), .int (nI (nn 18)), .ref (w 7), .int (nI (nn 19)), .int (sc 19), .int (nI (nn 20)), .int (sc 20), .int (sc 21), .ref (w 8), .int (nI (nn 21)), .ref (w 9), .ref (w 10), .ref (w 11), .ref (w 12), .ref (w 13), .int (nI (nn 22)), .ref (w 14), .ref (w 15), .ref (w 16), .int (nI (nn 23)), .ref (w 17), .int (sc 22), .int (sc 23), .ref (w 18), .int (sc 24), .int (sc 25), .ref (w 19), .int (nI (nn 24)), .ref (w 20), .ref (w 21), .ref (w 22), .int (nI (nn 25)), .ref (w 23), .ref (w 24), .ref (w 25), .ref (w 26)])), ((w 7), .inl (cI, 220, .inl (v 59)))] := by rw [← hX1]; exact wmix_map (by decide) rfl
  have hPc := vx_sub hP [69, 77] hC
  have hDc := vx_D hD [69, 77] (by decide) hC
  have hFc := vx_free hD hS hA [69, 77] hC
  refine va_calli (va_runV (As := [.int (xs (nI (i + 1)).toNatClampNeg)]) (rest := []) ⟨hx, hb, hml, hown, hts⟩ (c_X11_feedA l dC dI cI cZ cQ h1 (sc 17) (sc 18) (nn 16) (w 0) (w 1) (w 2) (nn 17) (w 3) (w 4) (w 5) (w 6) (nn 18) (w 7) (nn 19) (sc 19) (nn 20) (sc 20) (sc 21) (w 8) (nn 21) (w 9) (w 10) (w 11) (w 12) (w 13) (nn 22) (w 14) (w 15) (w 16) (nn 23) (w 17) (sc 22) (sc 23) (w 18) (sc 24) (sc 25) (w 19) (nn 24) (w 20) (w 21) (w 22) (nn 25) (w 23) (w 24) (w 25) (w 26) (v 59) (xs (nI (i + 1)).toNatClampNeg) H.size (by omega)) (cwV 1 hts gL_law_X11_feed rfl rfl rfl (by decide +kernel) ⟨Nat.le_of_ble_eq_true rfl, Nat.le_of_ble_eq_true rfl⟩) ⟨fun a U g mk q => by obtain ⟨q0, q1, qP, qK, qD⟩ := q; exact ⟨q0, q1, qP, va_K.moved (u := U) (U := U.calling g mk a) (Vm.Alike.refl U.vm) qK, qD⟩, va_recv hK hPc (ci := 11) (q0 := 0) rfl rfl, fun U hU hW => ⟨rfl, by rw [hU], by rw [hU]; exact hPc, va_K.moved hW.alike hK, hDc.weaken (fun _ _ _ _ => trivial)⟩⟩ rfl rfl hl.1 rfl (lv_room (Nat.le_of_ble_eq_true rfl)) dL_law_184 ⟨Nat.le_of_ble_eq_true rfl, Nat.le_of_ble_eq_true rfl⟩) hS (fun q _ h => hFc q h) hFc (fun r10 u11 t H1 locs ht hvm hw12 hB hz1 hk1 hS => ?_)
  obtain ⟨f13, k14, hk14, he15, he16, hP1, hD1⟩ := hB
  rw [ht] at hP1
  obtain ⟨hP, hD⟩ := vx_mix hP hD [69, 77] hC hk1 hP1 rfl
  generalize hX2 : wmix _ _ _ _ = X2 at hP hD
  clear hP1 hD1 hC
  clear hz1 hk1 hPc hDc hFc
  generalize H1 = H at hP hS ht ⊢
  try dsimp only at hw12
  refine lv_pop hx hb dL_law_187 rfl ?_
  refine lv_goto (tgt := 928) hx hb dL_law_188 (by decide) ?_
  refine lv_iinc (v := nI (i + 4)) (lv' := [(3, .int (nI (i + 4))), (2, .ref h1), (1, .ref h0), (0, .ref b)]) hx hb dL_law_928 hl (k := 0) rfl ((rfl : nI i + Int32.ofInt 4 = nI i + 4).trans (nI_add i 4)) (by decide) rfl (fun ls hl => ?_)
  refine lv_goto (tgt := 18) hx hb dL_law_931 (by decide) ?_
  have hE : X2 = lawW cI cZ cQ h0 h1 u w fq fi0 (va_up (va_up v 0 f5) 59 f13) sc (va_up (va_up nn 0 k6) 19 k14) := by rw [← hX2, ← hX1]; rfl
  rw [hE] at hP hD
  exact ih (va_up (va_up v 0 f5) 59 f13) sc (va_up (va_up nn 0 k6) 19 k14) cd H locs ls ⟨(show k6 ≤ 220 by omega), hn1, hn2, hn3, hn4, hn5, hn6, hn7, hn8, hn9, hn10, hn11, hn12, hn13, hn14, hn15, hn16, hn17, hn18, (show k14 ≤ 220 by omega), hn20, hn21, hn22, hn23, hn24, hn25, hqe, hqb, hsi, hci, hqw, hpw, hqk, hmi, (he7.trans ((congrArg (feedN _) heq).trans he15.symm)), (show ∀ j, j < k6 → f13 j = f5 j ∧ 0 ≤ f5 j from by rw [he7, he8, he16, ← heq]; exact feed_rel htx), hfe, hqq, hee, hbb, hkp, hBL, hMM, hST, hHH, hSD, hRW, hDK, hCU, hHR, hIM⟩ hP hD hS (lv_sub hl [0, 1, 2, 3] rfl)
