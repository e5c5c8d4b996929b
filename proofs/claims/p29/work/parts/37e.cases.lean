set_option maxHeartbeats 8000000 in
set_option maxRecDepth 100000 in
theorem law_c23 {p : Program} {e : Env} {s : State} {m : MethodId} {below : List Frame} {meth : Method} {c : Code} (l : Launch) {b L : Nat} {xs : Nat → Int32} (C0 : lw_At p s m meth c b L xs) (hL : L ≤ 256) {dC : Nat → ClassId} {dI : Nat → Nat → Nat} {cI cZ cQ : ClassId} (hK : va_K (dC, dI) vwCl (tys0 cI cZ cQ) s) (hN : xN s) (hXS : xS (fun q : Nat => s.heap.size ≤ q) s s.heap) {h0 h1 : Nat} {u w : Nat → Nat} {fq fi0 : Nat → Option Nat} (hfq : ∀ j, j < 20 → fq j = some (da u j 0)) (hf0 : fi0 0 = some (u 59)) (hf1 : fi0 1 = some (u 60)) (i : Nat) (hi : i + 4 ≤ L) (ih : ∀ (v : Nat → Nat → Int32) (sc : Nat → Int32) (nn : Nat → Nat) (cd : Nat → dskC) (H : Heap) (locs : List Loc) (ls : Array Slot), lawI v sc nn cd → va_P (dC, dI) vwCl (lawW cI cZ cQ h0 h1 u w fq fi0 v sc nn ++ (hisW cI (u 1) (da u) cd)) H → va_D (fun q : Nat => s.heap.size ≤ q) (lawW cI cZ cQ h0 h1 u w fq fi0 v sc nn ++ (hisW cI (u 1) (da u) cd)) → va_S (fun q : Nat => s.heap.size ≤ q) s.heap H locs → lv_has ls 4 [(3, .int (nI (i + 4))), (2, .ref h1), (1, .ref h0), (0, .ref b)] → W p l e room_1 s m #[Value.ref b] below meth c H locs 217 2950 (lw_Z below #[Value.ref b] s) (F0 m 18 ls [])) : ∀ (v : Nat → Nat → Int32) (sc : Nat → Int32) (nn : Nat → Nat) (cd : Nat → dskC) (H : Heap) (locs : List Loc) (ls : Array Slot), lawI v sc nn cd → va_P (dC, dI) vwCl (lawW cI cZ cQ h0 h1 u w fq fi0 v sc nn ++ (hisW cI (u 1) (da u) cd)) H → va_D (fun q : Nat => s.heap.size ≤ q) (lawW cI cZ cQ h0 h1 u w fq fi0 v sc nn ++ (hisW cI (u 1) (da u) cd)) → va_S (fun q : Nat => s.heap.size ≤ q) s.heap H locs → lv_has ls 4 [(3, .int (nI i)), (2, .ref h1), (1, .ref h0), (0, .ref b)] → W p l e room_1 s m #[Value.ref b] below meth c H locs 217 2950 (lw_Z below #[Value.ref b] s) (F0 m 787 ls []) := by
  intro v sc nn cd H locs ls hI hP hD hS hl
  obtain ⟨hn0, hn1, hn2, hn3, hn4, hn5, hn6, hn7, hn8, hn9, hn10, hn11, hn12, hn13, hn14, hn15, hn16, hn17, hn18, hn19, hn20, hn21, hn22, hn23, hn24, hn25, hqe, hqb, hsi, hci, hqw, hpw, hqk, hmi, heq, htx, hfe, hqq, hee, hbb, hkp, hBL, hMM, hST, hHH, hSD, hRW, hDK, hCU, hHR, hIM⟩ := hI
  obtain ⟨hx, hb, hr, hml, hown, hts0, hX, hbl, hlocks, hgv⟩ := id C0
  have hts : ∀ w ∈ wsL_law, w.before #[Value.ref b] s = true := fun w h => hts0 w (wsL_law_in w h)
  have hown : s.vm.findClass RL = some m.cls := hown
  have hA : ∀ q : Nat, s.heap.size ≤ q → (fun q : Nat => s.heap.size ≤ q) q := fun _ h => h
  have hbA : ¬ (fun q : Nat => s.heap.size ≤ q) b := Nat.not_le.mpr hbl
  refine lv_aload_n hx hb dL_law_787 rfl (lv_at hl 2 rfl) ?_
  have hC : List.map (fun i => lAt (lawW cI cZ cQ h0 h1 u w fq fi0 v sc nn) i) [0, 62, 63, 64, 65, 2, 3, 4, 5, 8, 9] = List.map some [(h0, .inr (10, [.ref (u 0), .int (nI (nn 0)), .int (sc 0), .int (nI (nn 1)), .ref (u 1), .ref (u 2), .ref (u 3), .ref (u 4), .ref (u 5), .ref (u 6), .ref (u 7), .ref (u 8), .ref (u 9), .ref (u 10)])), ((u 9), .inr (2, [.int (nI (nn 14)), .ref (u 1), .ref (u 83), .ref (u 84), .ref (u 85)])), ((u 83), .inl (cI, 6, .inl (v 47))), ((u 84), .inl (cI, 6, .inl (v 48))), ((u 85), .inl (cI, 6, .inl (v 49))), ((u 1), .inr (5, [.int (nI (nn 2)), .int (sc 1), .int (sc 2), .int (nI (nn 3)), .int (nI (nn 4)), .ref (u 11), .ref (u 12), .ref (u 13), .ref (u 14), .ref (u 15), .ref (u 16), .ref (u 17), .ref (u 18)])), ((u 11), .inl (cI, 8, .inl (v 1))), ((u 12), .inl (cI, 8, .inl (v 2))), ((u 13), .inl (cI, 8, .inl (v 3))), ((u 16), .inl (cI, 4, .inl (v 6))), ((u 17), .inl (cI, 4, .inl (v 7)))] := rfl
  have hPc := vx_sub hP [0, 62, 63, 64, 65, 2, 3, 4, 5, 8, 9] hC
  refine va_calli (va_runV (As := []) (rest := []) ⟨hx, hb, hml, hown, hts⟩ (c_X10_lookAt l dC dI cI cZ cQ h0 (u 9) ([.ref (u 0), .int (nI (nn 0)), .int (sc 0), .int (nI (nn 1)), .ref (u 1), .ref (u 2), .ref (u 3), .ref (u 4), .ref (u 5), .ref (u 6), .ref (u 7), .ref (u 8), .ref (u 9), .ref (u 10)]) (nn 14) (u 1) (u 83) (u 84) (u 85) ([.int (nI (nn 14)), .ref (u 1), .ref (u 83), .ref (u 84), .ref (u 85)]) (v 47) (v 48) (v 49) (u 11) (u 12) (u 13) (u 16) (u 17) (u 18) (nn 3) (nn 4) ([.int (nI (nn 2)), .int (sc 1), .int (sc 2), .int (nI (nn 3)), .int (nI (nn 4)), .ref (u 11), .ref (u 12), .ref (u 13), .ref (u 14), .ref (u 15), .ref (u 16), .ref (u 17), .ref (u 18)]) (v 1) (v 2) (v 3) (v 6) (v 7) H.size rfl rfl rfl rfl rfl rfl rfl rfl rfl rfl rfl rfl rfl rfl (by omega) (by omega) (by omega) (by first | assumption | decide)) (cwV 0 hts gL_law_X10_lookAt rfl rfl rfl hd_X10_lookAt_RX10 ⟨Nat.le_of_ble_eq_true rfl, Nat.le_of_ble_eq_true rfl⟩) ⟨fun a U g mk q => by obtain ⟨q0, q1, qP, qK, qN⟩ := q; exact ⟨q0, q1, qP, va_K.moved (u := U) (U := U.calling g mk a) (Vm.Alike.refl U.vm) qK, qN.calling⟩, va_recv hK hPc (ci := 10) (q0 := 0) rfl rfl, fun U hU hW => ⟨rfl, by rw [hU], by rw [hU]; exact hPc, va_K.moved hW.alike hK, hN.warm hW⟩⟩ rfl rfl hl.1 rfl (lv_room (Nat.le_of_ble_eq_true rfl)) dL_law_788 ⟨Nat.le_of_ble_eq_true rfl, Nat.le_of_ble_eq_true rfl⟩) hS (fun q _ h => False.elim h) (fun q h => False.elim h) (fun r1 u2 t H1 locs ht hvm hw3 hB hz1 hk1 hS => ?_)
  have hP := hP.kept (fun k q hk => hk1 q.1 (hP k q hk).lt (fun h => h))
  clear hz1 hk1 hPc hC
  generalize H1 = H at hP hS ht ⊢
  try dsimp only at hw3
  refine lv_pop hx hb dL_law_791 rfl ?_
  refine lv_aload_n hx hb dL_law_792 rfl (lv_at hl 1 rfl) ?_
  have hC : List.map (fun i => lAt (lawW cI cZ cQ h0 h1 u w fq fi0 v sc nn) i) [69, 70, 71, 72, 73, 74, 90, 91, 92] = List.map some [(h1, .inr (11, (.int (sc 17) :: .int (sc 18) :: .int (nI (nn 16)) :: .ref (w 0) :: .ref (w 1) :: .ref (w 2) :: .int (nI (nn 17)) :: .ref (w 3) :: .ref (w 4) :: .ref (w 5) :: .ref (w 6) :: .int (nI (nn 18)) :: .ref (w 7) :: .int (nI (nn 19)) :: .int (sc 19) :: .int (nI (nn 20)) :: .int (sc 20) :: .int (sc 21) :: .ref (w 8) :: .int (nI (nn 21)) :: .ref (w 9) :: .ref (w 10) :: .ref (w 11) :: .ref (w 12) :: .ref (w 13) :: .int (nI (nn 22)) :: .ref (w 14) :: .ref (w 15) :: .ref (w 16) :: .int (nI (nn 23)) :: .ref (w 17) :: .int (sc 22) :: .int (sc 23) :: .ref (w 18) :: .int (sc 24) :: .int (sc 25) :: .ref (w 19) :: .int (nI (nn 24)) :: .ref (w 20) :: .ref (w 21) :: .ref (w 22) :: .int (nI (nn 25)) :: .ref (w 23) :: .ref (w 24) :: .ref (w 25) :: .ref (w 26) :: []))), ((w 0), .inl (cI, 8, .inl (v 52))), ((w 1), .inl (cI, 8, .inl (v 53))), ((w 2), .inl (cI, 8, .inl (v 54))), ((w 3), .inl (cI, 4, .inl (v 55))), ((w 4), .inl (cI, 4, .inl (v 56))), ((w 20), .inl (cI, 6, .inl (v 72))), ((w 21), .inl (cI, 6, .inl (v 73))), ((w 22), .inl (cI, 6, .inl (v 74)))] := rfl
  have hPc := vx_sub hP [69, 70, 71, 72, 73, 74, 90, 91, 92] hC
  refine va_calli (va_runV (As := []) (rest := []) ⟨hx, hb, hml, hown, hts⟩ (c_X11_lookAt l dC dI cI cZ cQ h1 (nn 16) (nn 17) (w 0) (w 1) (w 2) (w 3) (w 4) (nn 24) (w 20) (w 21) (w 22) ((.int (sc 17) :: .int (sc 18) :: .int (nI (nn 16)) :: .ref (w 0) :: .ref (w 1) :: .ref (w 2) :: .int (nI (nn 17)) :: .ref (w 3) :: .ref (w 4) :: .ref (w 5) :: .ref (w 6) :: .int (nI (nn 18)) :: .ref (w 7) :: .int (nI (nn 19)) :: .int (sc 19) :: .int (nI (nn 20)) :: .int (sc 20) :: .int (sc 21) :: .ref (w 8) :: .int (nI (nn 21)) :: .ref (w 9) :: .ref (w 10) :: .ref (w 11) :: .ref (w 12) :: .ref (w 13) :: .int (nI (nn 22)) :: .ref (w 14) :: .ref (w 15) :: .ref (w 16) :: .int (nI (nn 23)) :: .ref (w 17) :: .int (sc 22) :: .int (sc 23) :: .ref (w 18) :: .int (sc 24) :: .int (sc 25) :: .ref (w 19) :: .int (nI (nn 24)) :: .ref (w 20) :: .ref (w 21) :: .ref (w 22) :: .int (nI (nn 25)) :: .ref (w 23) :: .ref (w 24) :: .ref (w 25) :: .ref (w 26) :: [])) (v 52) (v 53) (v 54) (v 55) (v 56) (v 72) (v 73) (v 74) H.size rfl rfl rfl rfl rfl rfl rfl rfl rfl rfl rfl (by omega) (by first | assumption | decide) (by omega) (by omega) (by first | assumption | decide) (by first | assumption | decide)) (cwV 0 hts gL_law_X11_lookAt rfl rfl rfl hd_X11_lookAt_RX11 ⟨Nat.le_of_ble_eq_true rfl, Nat.le_of_ble_eq_true rfl⟩) (pv_R (va_recv hK hPc (ci := 11) (q0 := 0) rfl rfl) hK hPc) rfl rfl hl.1 rfl (lv_room (Nat.le_of_ble_eq_true rfl)) dL_law_793 ⟨Nat.le_of_ble_eq_true rfl, Nat.le_of_ble_eq_true rfl⟩) hS (fun q _ h => False.elim h) (fun q h => False.elim h) (fun r4 u5 t H1 locs ht hvm hw6 hB hz1 hk1 hS => ?_)
  have hP := hP.kept (fun k q hk => hk1 q.1 (hP k q hk).lt (fun h => h))
  clear hz1 hk1 hPc hC
  generalize H1 = H at hP hS ht ⊢
  try dsimp only at hw6
  refine lv_pop hx hb dL_law_796 rfl ?_
  refine lv_goto (tgt := 928) hx hb dL_law_797 (by decide) ?_
  refine lv_iinc (v := nI (i + 4)) (lv' := [(3, .int (nI (i + 4))), (2, .ref h1), (1, .ref h0), (0, .ref b)]) hx hb dL_law_928 hl (k := 0) rfl ((rfl : nI i + Int32.ofInt 4 = nI i + 4).trans (nI_add i 4)) (by decide) rfl (fun ls hl => ?_)
  refine lv_goto (tgt := 18) hx hb dL_law_931 (by decide) ?_
  exact ih v sc nn cd H locs ls ⟨hn0, hn1, hn2, hn3, hn4, hn5, hn6, hn7, hn8, hn9, hn10, hn11, hn12, hn13, hn14, hn15, hn16, hn17, hn18, hn19, hn20, hn21, hn22, hn23, hn24, hn25, hqe, hqb, hsi, hci, hqw, hpw, hqk, hmi, heq, htx, hfe, hqq, hee, hbb, hkp, hBL, hMM, hST, hHH, hSD, hRW, hDK, hCU, hHR, hIM⟩ hP hD hS (lv_sub hl [0, 1, 2, 3] rfl)
set_option maxHeartbeats 8000000 in
set_option maxRecDepth 100000 in
theorem law_c24 {p : Program} {e : Env} {s : State} {m : MethodId} {below : List Frame} {meth : Method} {c : Code} (l : Launch) {b L : Nat} {xs : Nat → Int32} (C0 : lw_At p s m meth c b L xs) (hL : L ≤ 256) {dC : Nat → ClassId} {dI : Nat → Nat → Nat} {cI cZ cQ : ClassId} (hK : va_K (dC, dI) vwCl (tys0 cI cZ cQ) s) (hN : xN s) (hXS : xS (fun q : Nat => s.heap.size ≤ q) s s.heap) {h0 h1 : Nat} {u w : Nat → Nat} {fq fi0 : Nat → Option Nat} (hfq : ∀ j, j < 20 → fq j = some (da u j 0)) (hf0 : fi0 0 = some (u 59)) (hf1 : fi0 1 = some (u 60)) (i : Nat) (hi : i + 4 ≤ L) (ih : ∀ (v : Nat → Nat → Int32) (sc : Nat → Int32) (nn : Nat → Nat) (cd : Nat → dskC) (H : Heap) (locs : List Loc) (ls : Array Slot), lawI v sc nn cd → va_P (dC, dI) vwCl (lawW cI cZ cQ h0 h1 u w fq fi0 v sc nn ++ (hisW cI (u 1) (da u) cd)) H → va_D (fun q : Nat => s.heap.size ≤ q) (lawW cI cZ cQ h0 h1 u w fq fi0 v sc nn ++ (hisW cI (u 1) (da u) cd)) → va_S (fun q : Nat => s.heap.size ≤ q) s.heap H locs → lv_has ls 4 [(3, .int (nI (i + 4))), (2, .ref h1), (1, .ref h0), (0, .ref b)] → W p l e room_1 s m #[Value.ref b] below meth c H locs 217 2950 (lw_Z below #[Value.ref b] s) (F0 m 18 ls [])) : ∀ (v : Nat → Nat → Int32) (sc : Nat → Int32) (nn : Nat → Nat) (cd : Nat → dskC) (H : Heap) (locs : List Loc) (ls : Array Slot), lawI v sc nn cd → va_P (dC, dI) vwCl (lawW cI cZ cQ h0 h1 u w fq fi0 v sc nn ++ (hisW cI (u 1) (da u) cd)) H → va_D (fun q : Nat => s.heap.size ≤ q) (lawW cI cZ cQ h0 h1 u w fq fi0 v sc nn ++ (hisW cI (u 1) (da u) cd)) → va_S (fun q : Nat => s.heap.size ≤ q) s.heap H locs → lv_has ls 4 [(3, .int (nI i)), (2, .ref h1), (1, .ref h0), (0, .ref b)] → W p l e room_1 s m #[Value.ref b] below meth c H locs 217 2950 (lw_Z below #[Value.ref b] s) (F0 m 800 ls []) := by
  intro v sc nn cd H locs ls hI hP hD hS hl
  obtain ⟨hn0, hn1, hn2, hn3, hn4, hn5, hn6, hn7, hn8, hn9, hn10, hn11, hn12, hn13, hn14, hn15, hn16, hn17, hn18, hn19, hn20, hn21, hn22, hn23, hn24, hn25, hqe, hqb, hsi, hci, hqw, hpw, hqk, hmi, heq, htx, hfe, hqq, hee, hbb, hkp, hBL, hMM, hST, hHH, hSD, hRW, hDK, hCU, hHR, hIM⟩ := hI
  obtain ⟨hx, hb, hr, hml, hown, hts0, hX, hbl, hlocks, hgv⟩ := id C0
  have hts : ∀ w ∈ wsL_law, w.before #[Value.ref b] s = true := fun w h => hts0 w (wsL_law_in w h)
  have hown : s.vm.findClass RL = some m.cls := hown
  have hA : ∀ q : Nat, s.heap.size ≤ q → (fun q : Nat => s.heap.size ≤ q) q := fun _ h => h
  have hbA : ¬ (fun q : Nat => s.heap.size ≤ q) b := Nat.not_le.mpr hbl
  refine lv_aload_n hx hb dL_law_800 rfl (lv_at hl 2 rfl) ?_
  refine lv_aload_n hx hb dL_law_801 rfl (lv_at hl 3 rfl) ?_
  refine lv_iload_n hx hb dL_law_802 rfl (lv_at hl 0 rfl) ?_
  refine lv_iconst (v := 1) hx hb dL_law_803 (by decide) ?_
  refine lv_iadd hx hb dL_law_804 ?_
  refine lv_topi (fun z1 ez1 => ?_)
  obtain rfl : z1 = nI (i + 1) := ez1.trans (nI_add i 1)
  refine va_sld hx hb hX hbl hbA hS (vp_in_nI (n := i + 1) (N := L) (by omega) (by omega)) dL_law_805 ?_
  refine lv_aload_n hx hb dL_law_806 rfl (lv_at hl 3 rfl) ?_
  refine lv_iload_n hx hb dL_law_807 rfl (lv_at hl 0 rfl) ?_
  refine lv_iconst (v := 2) hx hb dL_law_808 (by decide) ?_
  refine lv_iadd hx hb dL_law_809 ?_
  refine lv_topi (fun z2 ez2 => ?_)
  obtain rfl : z2 = nI (i + 2) := ez2.trans (nI_add i 2)
  refine va_sld hx hb hX hbl hbA hS (vp_in_nI (n := i + 2) (N := L) (by omega) (by omega)) dL_law_810 ?_
  have hC : List.map (fun i => lAt (lawW cI cZ cQ h0 h1 u w fq fi0 v sc nn) i) [0, 2, 66, 67, 68] = List.map some [(h0, .inr (10, [.ref (u 0), .int (nI (nn 0)), .int (sc 0), .int (nI (nn 1)), .ref (u 1), .ref (u 2), .ref (u 3), .ref (u 4), .ref (u 5), .ref (u 6), .ref (u 7), .ref (u 8), .ref (u 9), .ref (u 10)])), ((u 1), .inr (5, [.int (nI (nn 2)), .int (sc 1), .int (sc 2), .int (nI (nn 3)), .int (nI (nn 4)), .ref (u 11), .ref (u 12), .ref (u 13), .ref (u 14), .ref (u 15), .ref (u 16), .ref (u 17), .ref (u 18)])), ((u 10), .inr (0, [.int (nI (nn 15)), .ref (u 86), .ref (u 87)])), ((u 86), .inl (cI, 15, .inl (v 50))), ((u 87), .inl (cI, 15, .inl (v 51)))] := rfl
  have hPc := vx_sub hP [0, 2, 66, 67, 68] hC
  have hDc := vx_D hD [0, 2, 66, 67, 68] (by decide) hC
  have hFc := vx_free hD hS hA [0, 2, 66, 67, 68] hC
  refine va_calli (va_runV (As := [.int (xs (nI (i + 1)).toNatClampNeg), .int (xs (nI (i + 2)).toNatClampNeg)]) (rest := []) ⟨hx, hb, hml, hown, hts⟩ (c_X10_noteF l dC dI cI cZ cQ h0 (u 1) (u 10) ([.ref (u 0), .int (nI (nn 0)), .int (sc 0), .int (nI (nn 1)), .ref (u 1), .ref (u 2), .ref (u 3), .ref (u 4), .ref (u 5), .ref (u 6), .ref (u 7), .ref (u 8), .ref (u 9), .ref (u 10)]) (nn 3) ([.int (nI (nn 2)), .int (sc 1), .int (sc 2), .int (nI (nn 3)), .int (nI (nn 4)), .ref (u 11), .ref (u 12), .ref (u 13), .ref (u 14), .ref (u 15), .ref (u 16), .ref (u 17), .ref (u 18)]) (nn 15) (u 86) (u 87) (v 50) (v 51) (xs (nI (i + 1)).toNatClampNeg) (xs (nI (i + 2)).toNatClampNeg) H.size rfl rfl rfl (by omega) (by omega) (by first | assumption | decide)) (cwV 2 hts gL_law_X10_note rfl rfl rfl hd_X10_note_RX10 ⟨Nat.le_of_ble_eq_true rfl, Nat.le_of_ble_eq_true rfl⟩) (pv_D (va_recv hK hPc (ci := 10) (q0 := 0) rfl rfl) hK hPc hDc) rfl rfl hl.1 rfl (lv_room (Nat.le_of_ble_eq_true rfl)) dL_law_811 ⟨Nat.le_of_ble_eq_true rfl, Nat.le_of_ble_eq_true rfl⟩) hS (fun q _ h => hFc q h) hFc (fun r3 u4 t H1 locs ht hvm hw5 hB hz1 hk1 hS => ?_)
  obtain ⟨f6, f7, k8, hk8, he9, he10, hP1, hD1⟩ := hB
  replace hP1 := va_hp ht hP1
  obtain ⟨hP, hD⟩ := vx_mix hP hD [0, 2, 66, 67, 68] hC hk1 hP1 rfl
  generalize hX1 : wmix _ _ _ _ = X1 at hP hD
  clear hP1 hD1 hC
  clear hz1 hk1 hPc hDc hFc
  generalize H1 = H at hP hS ht ⊢
  try dsimp only at hw5
  refine lv_pop hx hb dL_law_814 rfl ?_
  refine lv_aload_n hx hb dL_law_815 rfl (lv_at hl 1 rfl) ?_
  refine lv_aload_n hx hb dL_law_816 rfl (lv_at hl 3 rfl) ?_
  refine lv_iload_n hx hb dL_law_817 rfl (lv_at hl 0 rfl) ?_
  refine lv_iconst (v := 1) hx hb dL_law_818 (by decide) ?_
  refine lv_iadd hx hb dL_law_819 ?_
  refine lv_topi (fun z11 ez11 => ?_)
  obtain rfl : z11 = nI (i + 1) := ez11.trans (nI_add i 1)
  refine va_sld hx hb hX hbl hbA hS (vp_in_nI (n := i + 1) (N := L) (by omega) (by omega)) dL_law_820 ?_
  refine lv_aload_n hx hb dL_law_821 rfl (lv_at hl 3 rfl) ?_
  refine lv_iload_n hx hb dL_law_822 rfl (lv_at hl 0 rfl) ?_
  refine lv_iconst (v := 2) hx hb dL_law_823 (by decide) ?_
  refine lv_iadd hx hb dL_law_824 ?_
  refine lv_topi (fun z12 ez12 => ?_)
  obtain rfl : z12 = nI (i + 2) := ez12.trans (nI_add i 2)
  refine va_sld hx hb hX hbl hbA hS (vp_in_nI (n := i + 2) (N := L) (by omega) (by omega)) dL_law_825 ?_
  have hC : List.map (fun i => lAt X1 i) [69, 93, 94] = List.map some [(h1, .inr (11, (.int (sc 17) :: .int (sc 18) :: .int (nI (nn 16)) :: .ref (w 0) :: .ref (w 1) :: .ref (w 2) :: .int (nI (nn 17)) :: .ref (w 3) :: .ref (w 4) :: .ref (w 5) :: .ref (w 6) :: .int (nI (nn 18)) :: .ref (w 7) :: .int (nI (nn 19)) :: .int (sc 19) :: .int (nI (nn 20)) :: .int (sc 20) :: .int (sc 21) :: .ref (w 8) :: .int (nI (nn 21)) :: .ref (w 9) :: .ref (w 10) :: .ref (w 11) :: .ref (w 12) :: .ref (w 13) :: .int (nI (nn 22)) :: .ref (w 14) :: .ref (w 15) :: .ref (w 16) :: .int (nI (nn 23)) :: .ref (w 17) :: .int (sc 22) :: .int (sc 23) :: .ref (w 18) :: .int (sc 24) :: .int (sc 25) :: .ref (w 19) :: .int (nI (nn 24)) :: .ref (w 20) :: .ref (w 21) :: .ref (w 22) :: .int (nI (nn 25)) :: .ref (w 23) :: .ref (w 24) :: .ref (w 25) :: .ref (w 26) :: []))), ((w 23), .inl (cI, 15, .inl (v 75))), ((w 24), .inl (cI, 15, .inl (v 76)))] := by rw [← hX1]; exact wmix_map (by decide) rfl
  have hPc := vx_sub hP [69, 93, 94] hC
  have hDc := vx_D hD [69, 93, 94] (by decide) hC
  have hFc := vx_free hD hS hA [69, 93, 94] hC
  refine va_calli (va_runV (As := [.int (xs (nI (i + 1)).toNatClampNeg), .int (xs (nI (i + 2)).toNatClampNeg)]) (rest := []) ⟨hx, hb, hml, hown, hts⟩ (c_X11_noteF l dC dI cI cZ cQ h1 (sc 17) (sc 18) (nn 16) (w 0) (w 1) (w 2) (nn 17) (w 3) (w 4) (w 5) (w 6) (nn 18) (w 7) (nn 19) (sc 19) (nn 20) (sc 20) (sc 21) (w 8) (nn 21) (w 9) (w 10) (w 11) (w 12) (w 13) (nn 22) (w 14) (w 15) (w 16) (nn 23) (w 17) (sc 22) (sc 23) (w 18) (sc 24) (sc 25) (w 19) (nn 24) (w 20) (w 21) (w 22) (nn 25) (w 23) (w 24) (w 25) (w 26) (v 75) (v 76) (xs (nI (i + 1)).toNatClampNeg) (xs (nI (i + 2)).toNatClampNeg) H.size (by omega) (by omega) (by first | assumption | decide)) (cwV 2 hts gL_law_X11_note rfl rfl rfl hd_X11_note_RX11 ⟨Nat.le_of_ble_eq_true rfl, Nat.le_of_ble_eq_true rfl⟩) (pv_D (va_recv hK hPc (ci := 11) (q0 := 0) rfl rfl) hK hPc hDc) rfl rfl hl.1 rfl (lv_room (Nat.le_of_ble_eq_true rfl)) dL_law_826 ⟨Nat.le_of_ble_eq_true rfl, Nat.le_of_ble_eq_true rfl⟩) hS (fun q _ h => hFc q h) hFc (fun r13 u14 t H1 locs ht hvm hw15 hB hz1 hk1 hS => ?_)
  obtain ⟨f16, f17, k18, hk18, he19, he20, hP1, hD1⟩ := hB
  replace hP1 := va_hp ht hP1
  obtain ⟨hP, hD⟩ := vx_mix hP hD [69, 93, 94] hC hk1 hP1 rfl
  generalize hX2 : wmix _ _ _ _ = X2 at hP hD
  clear hP1 hD1 hC
  clear hz1 hk1 hPc hDc hFc
  generalize H1 = H at hP hS ht ⊢
  try dsimp only at hw15
  refine lv_pop hx hb dL_law_829 rfl ?_
  refine lv_goto (tgt := 928) hx hb dL_law_830 (by decide) ?_
  refine lv_iinc (v := nI (i + 4)) (lv' := [(3, .int (nI (i + 4))), (2, .ref h1), (1, .ref h0), (0, .ref b)]) hx hb dL_law_928 hl (k := 0) rfl ((rfl : nI i + Int32.ofInt 4 = nI i + 4).trans (nI_add i 4)) (by decide) rfl (fun ls hl => ?_)
  refine lv_goto (tgt := 18) hx hb dL_law_931 (by decide) ?_
  have hE : X2 = lawW cI cZ cQ h0 h1 u w fq fi0 (va_up (va_up (va_up (va_up v 50 f6) 51 f7) 75 f16) 76 f17) sc (va_up (va_up nn 15 k8) 25 k18) := by rw [← hX2, ← hX1]; rfl
  rw [hE] at hP hD
  exact ih (va_up (va_up (va_up (va_up v 50 f6) 51 f7) 75 f16) 76 f17) sc (va_up (va_up nn 15 k8) 25 k18) cd H locs ls ⟨hn0, hn1, hn2, hn3, hn4, hn5, hn6, hn7, hn8, hn9, hn10, hn11, hn12, hn13, hn14, (show k8 ≤ 15 by omega), hn16, hn17, hn18, hn19, hn20, hn21, hn22, hn23, hn24, (show k18 ≤ 15 by omega), hqe, he9, hsi, hci, hqw, hpw, he19, hmi, heq, htx, hfe, hqq, hee, (show k8 = k18 from by rw [he10, he20, hqq, hbb]), hkp, hBL, hMM, hST, hHH, hSD, hRW, hDK, hCU, hHR, hIM⟩ hP hD hS (lv_sub hl [0, 1, 2, 3] rfl)
set_option maxHeartbeats 8000000 in
set_option maxRecDepth 100000 in
theorem law_c25 {p : Program} {e : Env} {s : State} {m : MethodId} {below : List Frame} {meth : Method} {c : Code} (l : Launch) {b L : Nat} {xs : Nat → Int32} (C0 : lw_At p s m meth c b L xs) (hL : L ≤ 256) {dC : Nat → ClassId} {dI : Nat → Nat → Nat} {cI cZ cQ : ClassId} (hK : va_K (dC, dI) vwCl (tys0 cI cZ cQ) s) (hN : xN s) (hXS : xS (fun q : Nat => s.heap.size ≤ q) s s.heap) {h0 h1 : Nat} {u w : Nat → Nat} {fq fi0 : Nat → Option Nat} (hfq : ∀ j, j < 20 → fq j = some (da u j 0)) (hf0 : fi0 0 = some (u 59)) (hf1 : fi0 1 = some (u 60)) (i : Nat) (hi : i + 4 ≤ L) (ih : ∀ (v : Nat → Nat → Int32) (sc : Nat → Int32) (nn : Nat → Nat) (cd : Nat → dskC) (H : Heap) (locs : List Loc) (ls : Array Slot), lawI v sc nn cd → va_P (dC, dI) vwCl (lawW cI cZ cQ h0 h1 u w fq fi0 v sc nn ++ (hisW cI (u 1) (da u) cd)) H → va_D (fun q : Nat => s.heap.size ≤ q) (lawW cI cZ cQ h0 h1 u w fq fi0 v sc nn ++ (hisW cI (u 1) (da u) cd)) → va_S (fun q : Nat => s.heap.size ≤ q) s.heap H locs → lv_has ls 4 [(3, .int (nI (i + 4))), (2, .ref h1), (1, .ref h0), (0, .ref b)] → W p l e room_1 s m #[Value.ref b] below meth c H locs 217 2950 (lw_Z below #[Value.ref b] s) (F0 m 18 ls [])) : ∀ (v : Nat → Nat → Int32) (sc : Nat → Int32) (nn : Nat → Nat) (cd : Nat → dskC) (H : Heap) (locs : List Loc) (ls : Array Slot), lawI v sc nn cd → va_P (dC, dI) vwCl (lawW cI cZ cQ h0 h1 u w fq fi0 v sc nn ++ (hisW cI (u 1) (da u) cd)) H → va_D (fun q : Nat => s.heap.size ≤ q) (lawW cI cZ cQ h0 h1 u w fq fi0 v sc nn ++ (hisW cI (u 1) (da u) cd)) → va_S (fun q : Nat => s.heap.size ≤ q) s.heap H locs → lv_has ls 4 [(3, .int (nI i)), (2, .ref h1), (1, .ref h0), (0, .ref b)] → W p l e room_1 s m #[Value.ref b] below meth c H locs 217 2950 (lw_Z below #[Value.ref b] s) (F0 m 833 ls []) := by
  intro v sc nn cd H locs ls hI hP hD hS hl
  obtain ⟨hn0, hn1, hn2, hn3, hn4, hn5, hn6, hn7, hn8, hn9, hn10, hn11, hn12, hn13, hn14, hn15, hn16, hn17, hn18, hn19, hn20, hn21, hn22, hn23, hn24, hn25, hqe, hqb, hsi, hci, hqw, hpw, hqk, hmi, heq, htx, hfe, hqq, hee, hbb, hkp, hBL, hMM, hST, hHH, hSD, hRW, hDK, hCU, hHR, hIM⟩ := hI
  obtain ⟨hx, hb, hr, hml, hown, hts0, hX, hbl, hlocks, hgv⟩ := id C0
  have hts : ∀ w ∈ wsL_law, w.before #[Value.ref b] s = true := fun w h => hts0 w (wsL_law_in w h)
  have hown : s.vm.findClass RL = some m.cls := hown
  have hA : ∀ q : Nat, s.heap.size ≤ q → (fun q : Nat => s.heap.size ≤ q) q := fun _ h => h
  have hbA : ¬ (fun q : Nat => s.heap.size ≤ q) b := Nat.not_le.mpr hbl
  refine lv_aload_n hx hb dL_law_833 rfl (lv_at hl 2 rfl) ?_
  have hC : List.map (fun i => lAt (lawW cI cZ cQ h0 h1 u w fq fi0 v sc nn) i) [0, 62, 66] = List.map some [(h0, .inr (10, [.ref (u 0), .int (nI (nn 0)), .int (sc 0), .int (nI (nn 1)), .ref (u 1), .ref (u 2), .ref (u 3), .ref (u 4), .ref (u 5), .ref (u 6), .ref (u 7), .ref (u 8), .ref (u 9), .ref (u 10)])), ((u 9), .inr (2, [.int (nI (nn 14)), .ref (u 1), .ref (u 83), .ref (u 84), .ref (u 85)])), ((u 10), .inr (0, [.int (nI (nn 15)), .ref (u 86), .ref (u 87)]))] := rfl
  have hPc := vx_sub hP [0, 62, 66] hC
  have hDc := vx_D hD [0, 62, 66] (by decide) hC
  have hFc := vx_free hD hS hA [0, 62, 66] hC
  refine va_calli (va_runV (As := []) (rest := []) ⟨hx, hb, hml, hown, hts⟩ (c_X10_tearF l dC dI cI cZ cQ h0 (u 9) (u 10) ([.ref (u 0), .int (nI (nn 0)), .int (sc 0), .int (nI (nn 1)), .ref (u 1), .ref (u 2), .ref (u 3), .ref (u 4), .ref (u 5), .ref (u 6), .ref (u 7), .ref (u 8), .ref (u 9), .ref (u 10)]) (nn 14) (u 1) (u 83) (u 84) (u 85) (nn 15) (u 86) (u 87) H.size rfl rfl (by omega) (by omega)) (cwV 0 hts gL_law_X10_tear rfl rfl rfl hd_X10_tear_RX10 ⟨Nat.le_of_ble_eq_true rfl, Nat.le_of_ble_eq_true rfl⟩) (pv_D (va_recv hK hPc (ci := 10) (q0 := 0) rfl rfl) hK hPc hDc) rfl rfl hl.1 rfl (lv_room (Nat.le_of_ble_eq_true rfl)) dL_law_834 ⟨Nat.le_of_ble_eq_true rfl, Nat.le_of_ble_eq_true rfl⟩) hS (fun q _ h => hFc q h) hFc (fun r1 u2 t H1 locs ht hvm hw3 hB hz1 hk1 hS => ?_)
  obtain ⟨k4, k5, hk4, hk5, hP1, hD1⟩ := hB
  replace hP1 := va_hp ht hP1
  obtain ⟨hP, hD⟩ := vx_mix hP hD [0, 62, 66] hC hk1 hP1 rfl
  generalize hX1 : wmix _ _ _ _ = X1 at hP hD
  clear hP1 hD1 hC
  clear hz1 hk1 hPc hDc hFc
  generalize H1 = H at hP hS ht ⊢
  try dsimp only at hw3
  refine lv_pop hx hb dL_law_837 rfl ?_
  refine lv_aload_n hx hb dL_law_838 rfl (lv_at hl 1 rfl) ?_
  have hC : List.map (fun i => lAt X1 i) [69] = List.map some [(h1, .inr (11, (.int (sc 17) :: .int (sc 18) :: .int (nI (nn 16)) :: .ref (w 0) :: .ref (w 1) :: .ref (w 2) :: .int (nI (nn 17)) :: .ref (w 3) :: .ref (w 4) :: .ref (w 5) :: .ref (w 6) :: .int (nI (nn 18)) :: .ref (w 7) :: .int (nI (nn 19)) :: .int (sc 19) :: .int (nI (nn 20)) :: .int (sc 20) :: .int (sc 21) :: .ref (w 8) :: .int (nI (nn 21)) :: .ref (w 9) :: .ref (w 10) :: .ref (w 11) :: .ref (w 12) :: .ref (w 13) :: .int (nI (nn 22)) :: .ref (w 14) :: .ref (w 15) :: .ref (w 16) :: .int (nI (nn 23)) :: .ref (w 17) :: .int (sc 22) :: .int (sc 23) :: .ref (w 18) :: .int (sc 24) :: .int (sc 25) :: .ref (w 19) :: .int (nI (nn 24)) :: .ref (w 20) :: .ref (w 21) :: .ref (w 22) :: .int (nI (nn 25)) :: .ref (w 23) :: .ref (w 24) :: .ref (w 25) :: .ref (w 26) :: [])))] := by rw [← hX1]; exact wmix_map (by decide) rfl
  have hPc := vx_sub hP [69] hC
  have hDc := vx_D hD [69] (by decide) hC
  have hFc := vx_free hD hS hA [69] hC
  refine va_calli (va_runV (As := []) (rest := []) ⟨hx, hb, hml, hown, hts⟩ (c_X11_tearF l dC dI cI cZ cQ h1 (sc 17) (sc 18) (nn 16) (w 0) (w 1) (w 2) (nn 17) (w 3) (w 4) (w 5) (w 6) (nn 18) (w 7) (nn 19) (sc 19) (nn 20) (sc 20) (sc 21) (w 8) (nn 21) (w 9) (w 10) (w 11) (w 12) (w 13) (nn 22) (w 14) (w 15) (w 16) (nn 23) (w 17) (sc 22) (sc 23) (w 18) (sc 24) (sc 25) (w 19) (nn 24) (w 20) (w 21) (w 22) (nn 25) (w 23) (w 24) (w 25) (w 26) H.size (by omega) (by omega)) (cwV 0 hts gL_law_X11_tear rfl rfl rfl hd_X11_tear_RX11 ⟨Nat.le_of_ble_eq_true rfl, Nat.le_of_ble_eq_true rfl⟩) (pv_D (va_recv hK hPc (ci := 11) (q0 := 0) rfl rfl) hK hPc hDc) rfl rfl hl.1 rfl (lv_room (Nat.le_of_ble_eq_true rfl)) dL_law_839 ⟨Nat.le_of_ble_eq_true rfl, Nat.le_of_ble_eq_true rfl⟩) hS (fun q _ h => hFc q h) hFc (fun r6 u7 t H1 locs ht hvm hw8 hB hz1 hk1 hS => ?_)
  obtain ⟨k9, k10, hk9, hk10, hP1, hD1⟩ := hB
  replace hP1 := va_hp ht hP1
  obtain ⟨hP, hD⟩ := vx_mix hP hD [69] hC hk1 hP1 rfl
  generalize hX2 : wmix _ _ _ _ = X2 at hP hD
  clear hP1 hD1 hC
  clear hz1 hk1 hPc hDc hFc
  generalize H1 = H at hP hS ht ⊢
  try dsimp only at hw8
  refine lv_pop hx hb dL_law_842 rfl ?_
  refine lv_goto (tgt := 928) hx hb dL_law_843 (by decide) ?_
  refine lv_iinc (v := nI (i + 4)) (lv' := [(3, .int (nI (i + 4))), (2, .ref h1), (1, .ref h0), (0, .ref b)]) hx hb dL_law_928 hl (k := 0) rfl ((rfl : nI i + Int32.ofInt 4 = nI i + 4).trans (nI_add i 4)) (by decide) rfl (fun ls hl => ?_)
  refine lv_goto (tgt := 18) hx hb dL_law_931 (by decide) ?_
  have hE : X2 = lawW cI cZ cQ h0 h1 u w fq fi0 v sc (va_up (va_up (va_up (va_up nn 14 k4) 15 k5) 24 k9) 25 k10) := by rw [← hX2, ← hX1]; rfl
  rw [hE] at hP hD
  exact ih v sc (va_up (va_up (va_up (va_up nn 14 k4) 15 k5) 24 k9) 25 k10) cd H locs ls ⟨hn0, hn1, hn2, hn3, hn4, hn5, hn6, hn7, hn8, hn9, hn10, hn11, hn12, hn13, (show k4 ≤ 6 by omega), (show k5 ≤ 15 by omega), hn16, hn17, hn18, hn19, hn20, hn21, hn22, hn23, (show k9 ≤ 6 by omega), (show k10 ≤ 15 by omega), (x_z1 (show k4 ≤ 0 by omega)), (x_z1 (show k5 ≤ 0 by omega)), hsi, hci, (x_z2 (show k9 ≤ 0 by omega)), (x_z3 (show k9 ≤ 0 by omega)), (x_z1 (show k10 ≤ 0 by omega)), hmi, heq, htx, hfe, hqq, (show k4 = k9 by omega), (show k5 = k10 by omega), hkp, hBL, hMM, hST, hHH, hSD, hRW, hDK, hCU, hHR, hIM⟩ hP hD hS (lv_sub hl [0, 1, 2, 3] rfl)
set_option maxHeartbeats 8000000 in
set_option maxRecDepth 100000 in
theorem law_c26 {p : Program} {e : Env} {s : State} {m : MethodId} {below : List Frame} {meth : Method} {c : Code} (l : Launch) {b L : Nat} {xs : Nat → Int32} (C0 : lw_At p s m meth c b L xs) (hL : L ≤ 256) {dC : Nat → ClassId} {dI : Nat → Nat → Nat} {cI cZ cQ : ClassId} (hK : va_K (dC, dI) vwCl (tys0 cI cZ cQ) s) (hN : xN s) (hXS : xS (fun q : Nat => s.heap.size ≤ q) s s.heap) {h0 h1 : Nat} {u w : Nat → Nat} {fq fi0 : Nat → Option Nat} (hfq : ∀ j, j < 20 → fq j = some (da u j 0)) (hf0 : fi0 0 = some (u 59)) (hf1 : fi0 1 = some (u 60)) (i : Nat) (hi : i + 4 ≤ L) (ih : ∀ (v : Nat → Nat → Int32) (sc : Nat → Int32) (nn : Nat → Nat) (cd : Nat → dskC) (H : Heap) (locs : List Loc) (ls : Array Slot), lawI v sc nn cd → va_P (dC, dI) vwCl (lawW cI cZ cQ h0 h1 u w fq fi0 v sc nn ++ (hisW cI (u 1) (da u) cd)) H → va_D (fun q : Nat => s.heap.size ≤ q) (lawW cI cZ cQ h0 h1 u w fq fi0 v sc nn ++ (hisW cI (u 1) (da u) cd)) → va_S (fun q : Nat => s.heap.size ≤ q) s.heap H locs → lv_has ls 4 [(3, .int (nI (i + 4))), (2, .ref h1), (1, .ref h0), (0, .ref b)] → W p l e room_1 s m #[Value.ref b] below meth c H locs 217 2950 (lw_Z below #[Value.ref b] s) (F0 m 18 ls [])) : ∀ (v : Nat → Nat → Int32) (sc : Nat → Int32) (nn : Nat → Nat) (cd : Nat → dskC) (H : Heap) (locs : List Loc) (ls : Array Slot), lawI v sc nn cd → va_P (dC, dI) vwCl (lawW cI cZ cQ h0 h1 u w fq fi0 v sc nn ++ (hisW cI (u 1) (da u) cd)) H → va_D (fun q : Nat => s.heap.size ≤ q) (lawW cI cZ cQ h0 h1 u w fq fi0 v sc nn ++ (hisW cI (u 1) (da u) cd)) → va_S (fun q : Nat => s.heap.size ≤ q) s.heap H locs → lv_has ls 4 [(3, .int (nI i)), (2, .ref h1), (1, .ref h0), (0, .ref b)] → W p l e room_1 s m #[Value.ref b] below meth c H locs 217 2950 (lw_Z below #[Value.ref b] s) (F0 m 846 ls []) := by
  intro v sc nn cd H locs ls hI hP hD hS hl
  obtain ⟨hn0, hn1, hn2, hn3, hn4, hn5, hn6, hn7, hn8, hn9, hn10, hn11, hn12, hn13, hn14, hn15, hn16, hn17, hn18, hn19, hn20, hn21, hn22, hn23, hn24, hn25, hqe, hqb, hsi, hci, hqw, hpw, hqk, hmi, heq, htx, hfe, hqq, hee, hbb, hkp, hBL, hMM, hST, hHH, hSD, hRW, hDK, hCU, hHR, hIM⟩ := hI
  obtain ⟨hx, hb, hr, hml, hown, hts0, hX, hbl, hlocks, hgv⟩ := id C0
  have hts : ∀ w ∈ wsL_law, w.before #[Value.ref b] s = true := fun w h => hts0 w (wsL_law_in w h)
  have hown : s.vm.findClass RL = some m.cls := hown
  have hA : ∀ q : Nat, s.heap.size ≤ q → (fun q : Nat => s.heap.size ≤ q) q := fun _ h => h
  have hbA : ¬ (fun q : Nat => s.heap.size ≤ q) b := Nat.not_le.mpr hbl
  refine lv_aload_n hx hb dL_law_846 rfl (lv_at hl 2 rfl) ?_
  have hC : List.map (fun i => lAt (lawW cI cZ cQ h0 h1 u w fq fi0 v sc nn) i) [0, 66, 67, 68, 23, 26] = List.map some [(h0, .inr (10, [.ref (u 0), .int (nI (nn 0)), .int (sc 0), .int (nI (nn 1)), .ref (u 1), .ref (u 2), .ref (u 3), .ref (u 4), .ref (u 5), .ref (u 6), .ref (u 7), .ref (u 8), .ref (u 9), .ref (u 10)])), ((u 10), .inr (0, [.int (nI (nn 15)), .ref (u 86), .ref (u 87)])), ((u 86), .inl (cI, 15, .inl (v 50))), ((u 87), .inl (cI, 15, .inl (v 51))), ((u 3), .inr (1, [.int (sc 7), .int (sc 8), .ref (u 30), .ref (u 31), .ref (u 32), .ref (u 33), .ref (u 34), .ref (u 1)])), ((u 32), .inl (cI, 8, .inl (v 21)))] := rfl
  have hPc := vx_sub hP [0, 66, 67, 68, 23, 26] hC
  refine va_calli (va_runV (As := []) (rest := []) ⟨hx, hb, hml, hown, hts⟩ (c_X10_judge l dC dI cI cZ cQ h0 (u 3) (u 10) ([.ref (u 0), .int (nI (nn 0)), .int (sc 0), .int (nI (nn 1)), .ref (u 1), .ref (u 2), .ref (u 3), .ref (u 4), .ref (u 5), .ref (u 6), .ref (u 7), .ref (u 8), .ref (u 9), .ref (u 10)]) (nn 15) (u 86) (u 87) ([.int (nI (nn 15)), .ref (u 86), .ref (u 87)]) (v 50) (v 51) (u 32) ([.int (sc 7), .int (sc 8), .ref (u 30), .ref (u 31), .ref (u 32), .ref (u 33), .ref (u 34), .ref (u 1)]) (v 21) H.size rfl rfl rfl rfl rfl rfl (by omega) (by first | assumption | decide)) (cwV 0 hts gL_law_X10_judge rfl rfl rfl hd_X10_judge_RX10 ⟨Nat.le_of_ble_eq_true rfl, Nat.le_of_ble_eq_true rfl⟩) (pv_R (va_recv hK hPc (ci := 10) (q0 := 0) rfl rfl) hK hPc) rfl rfl hl.1 rfl (lv_room (Nat.le_of_ble_eq_true rfl)) dL_law_847 ⟨Nat.le_of_ble_eq_true rfl, Nat.le_of_ble_eq_true rfl⟩) hS (fun q _ h => False.elim h) (fun q h => False.elim h) (fun r1 u2 t H1 locs ht hvm hw3 hB hz1 hk1 hS => ?_)
  have hP := hP.kept (fun k q hk => hk1 q.1 (hP k q hk).lt (fun h => h))
  clear hz1 hk1 hPc hC
  generalize H1 = H at hP hS ht ⊢
  try dsimp only at hw3
  refine lv_pop hx hb dL_law_850 rfl ?_
  refine lv_aload_n hx hb dL_law_851 rfl (lv_at hl 1 rfl) ?_
  have hC : List.map (fun i => lAt (lawW cI cZ cQ h0 h1 u w fq fi0 v sc nn) i) [69, 76, 93, 94] = List.map some [(h1, .inr (11, (.int (sc 17) :: .int (sc 18) :: .int (nI (nn 16)) :: .ref (w 0) :: .ref (w 1) :: .ref (w 2) :: .int (nI (nn 17)) :: .ref (w 3) :: .ref (w 4) :: .ref (w 5) :: .ref (w 6) :: .int (nI (nn 18)) :: .ref (w 7) :: .int (nI (nn 19)) :: .int (sc 19) :: .int (nI (nn 20)) :: .int (sc 20) :: .int (sc 21) :: .ref (w 8) :: .int (nI (nn 21)) :: .ref (w 9) :: .ref (w 10) :: .ref (w 11) :: .ref (w 12) :: .ref (w 13) :: .int (nI (nn 22)) :: .ref (w 14) :: .ref (w 15) :: .ref (w 16) :: .int (nI (nn 23)) :: .ref (w 17) :: .int (sc 22) :: .int (sc 23) :: .ref (w 18) :: .int (sc 24) :: .int (sc 25) :: .ref (w 19) :: .int (nI (nn 24)) :: .ref (w 20) :: .ref (w 21) :: .ref (w 22) :: .int (nI (nn 25)) :: .ref (w 23) :: .ref (w 24) :: .ref (w 25) :: .ref (w 26) :: []))), ((w 6), .inl (cI, 34, .inl (v 58))), ((w 23), .inl (cI, 15, .inl (v 75))), ((w 24), .inl (cI, 15, .inl (v 76)))] := rfl
  have hPc := vx_sub hP [69, 76, 93, 94] hC
  refine va_calli (va_runV (As := []) (rest := []) ⟨hx, hb, hml, hown, hts⟩ (c_X11_judge l dC dI cI cZ cQ h1 (w 6) (nn 25) (w 23) (w 24) ((.int (sc 17) :: .int (sc 18) :: .int (nI (nn 16)) :: .ref (w 0) :: .ref (w 1) :: .ref (w 2) :: .int (nI (nn 17)) :: .ref (w 3) :: .ref (w 4) :: .ref (w 5) :: .ref (w 6) :: .int (nI (nn 18)) :: .ref (w 7) :: .int (nI (nn 19)) :: .int (sc 19) :: .int (nI (nn 20)) :: .int (sc 20) :: .int (sc 21) :: .ref (w 8) :: .int (nI (nn 21)) :: .ref (w 9) :: .ref (w 10) :: .ref (w 11) :: .ref (w 12) :: .ref (w 13) :: .int (nI (nn 22)) :: .ref (w 14) :: .ref (w 15) :: .ref (w 16) :: .int (nI (nn 23)) :: .ref (w 17) :: .int (sc 22) :: .int (sc 23) :: .ref (w 18) :: .int (sc 24) :: .int (sc 25) :: .ref (w 19) :: .int (nI (nn 24)) :: .ref (w 20) :: .ref (w 21) :: .ref (w 22) :: .int (nI (nn 25)) :: .ref (w 23) :: .ref (w 24) :: .ref (w 25) :: .ref (w 26) :: [])) (v 58) (v 75) (v 76) H.size rfl rfl rfl rfl (by omega) (by first | assumption | decide)) (cwV 0 hts gL_law_X11_judge rfl rfl rfl hd_X11_judge_RX11 ⟨Nat.le_of_ble_eq_true rfl, Nat.le_of_ble_eq_true rfl⟩) (pv_R (va_recv hK hPc (ci := 11) (q0 := 0) rfl rfl) hK hPc) rfl rfl hl.1 rfl (lv_room (Nat.le_of_ble_eq_true rfl)) dL_law_852 ⟨Nat.le_of_ble_eq_true rfl, Nat.le_of_ble_eq_true rfl⟩) hS (fun q _ h => False.elim h) (fun q h => False.elim h) (fun r4 u5 t H1 locs ht hvm hw6 hB hz1 hk1 hS => ?_)
  have hP := hP.kept (fun k q hk => hk1 q.1 (hP k q hk).lt (fun h => h))
  clear hz1 hk1 hPc hC
  generalize H1 = H at hP hS ht ⊢
  try dsimp only at hw6
  refine lv_pop hx hb dL_law_855 rfl ?_
  refine lv_goto (tgt := 928) hx hb dL_law_856 (by decide) ?_
  refine lv_iinc (v := nI (i + 4)) (lv' := [(3, .int (nI (i + 4))), (2, .ref h1), (1, .ref h0), (0, .ref b)]) hx hb dL_law_928 hl (k := 0) rfl ((rfl : nI i + Int32.ofInt 4 = nI i + 4).trans (nI_add i 4)) (by decide) rfl (fun ls hl => ?_)
  refine lv_goto (tgt := 18) hx hb dL_law_931 (by decide) ?_
  exact ih v sc nn cd H locs ls ⟨hn0, hn1, hn2, hn3, hn4, hn5, hn6, hn7, hn8, hn9, hn10, hn11, hn12, hn13, hn14, hn15, hn16, hn17, hn18, hn19, hn20, hn21, hn22, hn23, hn24, hn25, hqe, hqb, hsi, hci, hqw, hpw, hqk, hmi, heq, htx, hfe, hqq, hee, hbb, hkp, hBL, hMM, hST, hHH, hSD, hRW, hDK, hCU, hHR, hIM⟩ hP hD hS (lv_sub hl [0, 1, 2, 3] rfl)
