theorem x_exit {i L : Nat} (hi : i ≤ 256) (hL : L ≤ 256) {z : Int32} (ez : z = Int32.ofNat L - 4) : (z < nI i ↔ L < i + 4) := by
  have h4 : z.toInt = (L : Int) - 4 := by rw [ez]; exact pk_sub_toInt (a := L) (b := 4) (by omega) (by omega)
  have hq : (nI i).toInt = (i : Int) := nI_toInt (by omega)
  rw [Int32.lt_iff_toInt_lt, h4, hq]
  omega
set_option maxHeartbeats 8000000 in
set_option maxRecDepth 100000 in
theorem law_loop {p : Program} {e : Env} {s : State} {m : MethodId} {below : List Frame} {meth : Method} {c : Code} (l : Launch) {b L : Nat} {xs : Nat → Int32} (C0 : lw_At p s m meth c b L xs) (hL : L ≤ 256) {dC : Nat → ClassId} {dI : Nat → Nat → Nat} {cI cZ cQ : ClassId} (hK : va_K (dC, dI) vwCl (tys0 cI cZ cQ) s) (hN : xN s) (hXS : xS (fun q : Nat => s.heap.size ≤ q) s s.heap) {h0 h1 : Nat} {u w : Nat → Nat} {fq fi0 : Nat → Option Nat} (hfq : ∀ j, j < 20 → fq j = some (da u j 0)) (hf0 : fi0 0 = some (u 59)) (hf1 : fi0 1 = some (u 60)) : ∀ (d i : Nat), i ≤ 256 → L ≤ i + 4 * d + 3 → ∀ (v : Nat → Nat → Int32) (sc : Nat → Int32) (nn : Nat → Nat) (cd : Nat → dskC) (H : Heap) (locs : List Loc) (ls : Array Slot), lawI v sc nn cd → va_P (dC, dI) vwCl (lawW cI cZ cQ h0 h1 u w fq fi0 v sc nn ++ (hisW cI (u 1) (da u) cd)) H → va_D (fun q : Nat => s.heap.size ≤ q) (lawW cI cZ cQ h0 h1 u w fq fi0 v sc nn ++ (hisW cI (u 1) (da u) cd)) → va_S (fun q : Nat => s.heap.size ≤ q) s.heap H locs → lv_has ls 4 [(3, .int (nI i)), (2, .ref h1), (1, .ref h0), (0, .ref b)] → W p l e room_1 s m #[Value.ref b] below meth c H locs 217 2950 (lw_Z below #[Value.ref b] s) (F0 m 18 ls []) := by
  obtain ⟨hx, hb, hr, hml, hown, hts0, hX, hbl, hlocks, hgv⟩ := id C0
  have hbA : ¬ (fun q : Nat => s.heap.size ≤ q) b := Nat.not_le.mpr hbl
  intro d
  induction d with
  | zero =>
    intro i hi2 hd v sc nn cd H locs ls hI hP hD hS hl
    refine lv_iload_n hx hb dL_law_18 rfl (lv_at hl 0 rfl) ?_
    refine lv_aload_n hx hb dL_law_19 rfl (lv_at hl 3 rfl) ?_
    refine va_slen hx hb hX hbl hbA hS dL_law_20 ?_
    refine lv_iconst (v := 4) hx hb dL_law_21 (by decide) ?_
    refine lv_isub hx hb dL_law_22 ?_
    refine lv_topi (fun z ez => ?_)
    have hz := x_exit (i := i) (L := L) (by omega) hL ez
    refine lv_icmp_gt (tgt := 934) hx hb dL_law_23 (by decide) (fun c1 => ?_) (fun c1 => absurd (hz.mpr (by omega)) c1)
    refine lv_iconst (v := 1) hx hb dL_law_934 (by decide) ?_
    refine va_forget (fun q hq => hS.2.2 q hq) ?_
    refine W.widen (k := 600000) (n := 7302250) (Nat.le_of_ble_eq_true rfl) (Nat.le_of_ble_eq_true rfl) ?_
    exact lw_ret hx hb hr hlocks dL_law_935
  | succ d ih =>
    intro i hi2 hd v sc nn cd H locs ls hI hP hD hS hl
    refine lv_iload_n hx hb dL_law_18 rfl (lv_at hl 0 rfl) ?_
    refine lv_aload_n hx hb dL_law_19 rfl (lv_at hl 3 rfl) ?_
    refine va_slen hx hb hX hbl hbA hS dL_law_20 ?_
    refine lv_iconst (v := 4) hx hb dL_law_21 (by decide) ?_
    refine lv_isub hx hb dL_law_22 ?_
    refine lv_topi (fun z ez => ?_)
    have hz := x_exit (i := i) (L := L) (by omega) hL ez
    refine lv_icmp_gt (tgt := 934) hx hb dL_law_23 (by decide) (fun c1 => ?_) (fun c1 => ?_)
    ·
      refine lv_iconst (v := 1) hx hb dL_law_934 (by decide) ?_
      refine va_forget (fun q hq => hS.2.2 q hq) ?_
      refine W.widen (k := 600000) (n := 7302250) (Nat.le_of_ble_eq_true rfl) (Nat.le_of_ble_eq_true rfl) ?_
      exact lw_ret hx hb hr hlocks dL_law_935
    ·
      have hi : i + 4 ≤ L := by
        rcases Nat.lt_or_ge L (i + 4) with h | h
        · exact absurd (hz.mpr h) c1
        · exact h
      clear c1 hz ez
      have ih := ih (i + 4) (by omega) (by omega)
      refine lv_aload_n hx hb dL_law_26 rfl (lv_at hl 3 rfl) ?_
      refine lv_iload_n hx hb dL_law_27 rfl (lv_at hl 0 rfl) ?_
      refine va_sld hx hb hX hbl hbA hS (vp_in_nI (n := i) (N := L) (by omega) (by omega)) dL_law_28 ?_
      refine lv_bipush (v := 31) hx hb dL_law_29 (by decide) ?_
      refine lv_iand hx hb dL_law_31 ?_
      refine lv_topi (fun y _ => ?_)
      by_cases cy : y.toInt < 0 ∨ 29 < y.toInt
      · refine lv_tableOut (tgt := 928) hx hb dL_law_32 cy (by decide) ?_
        refine lv_iinc (v := nI (i + 4)) (lv' := [(3, .int (nI (i + 4))), (2, .ref h1), (1, .ref h0), (0, .ref b)]) hx hb dL_law_928 hl (k := 0) rfl ((rfl : nI i + Int32.ofInt 4 = nI i + 4).trans (nI_add i 4)) (by decide) rfl (fun ls hl => ?_)
        refine lv_goto (tgt := 18) hx hb dL_law_931 (by decide) ?_
        exact ih v sc nn cd H locs ls hI hP hD hS hl
      have hy := x_sw_0_29 cy
      rcases hy with hy | hy | hy | hy | hy | hy | hy | hy | hy | hy | hy | hy | hy | hy | hy | hy | hy | hy | hy | hy | hy | hy | hy | hy | hy | hy | hy | hy | hy | hy
      · refine lv_tableIn (tgt := 168) hx hb dL_law_32 (by rw [hy]; decide) (by rw [hy]; decide) (by rw [hy]; rfl) (by decide) ?_
        exact law_c0 l C0 hL hK hN hXS hfq hf0 hf1 i hi ih v sc nn cd H locs ls hI hP hD hS hl
      · refine lv_tableIn (tgt := 191) hx hb dL_law_32 (by rw [hy]; decide) (by rw [hy]; decide) (by rw [hy]; rfl) (by decide) ?_
        exact law_c1 l C0 hL hK hN hXS hfq hf0 hf1 i hi ih v sc nn cd H locs ls hI hP hD hS hl
      · refine lv_tableIn (tgt := 204) hx hb dL_law_32 (by rw [hy]; decide) (by rw [hy]; decide) (by rw [hy]; rfl) (by decide) ?_
        exact law_c2 l C0 hL hK hN hXS hfq hf0 hf1 i hi ih v sc nn cd H locs ls hI hP hD hS hl
      · refine lv_tableIn (tgt := 217) hx hb dL_law_32 (by rw [hy]; decide) (by rw [hy]; decide) (by rw [hy]; rfl) (by decide) ?_
        exact law_c3 l C0 hL hK hN hXS hfq hf0 hf1 i hi ih v sc nn cd H locs ls hI hP hD hS hl
      · refine lv_tableIn (tgt := 240) hx hb dL_law_32 (by rw [hy]; decide) (by rw [hy]; decide) (by rw [hy]; rfl) (by decide) ?_
        exact law_c4 l C0 hL hK hN hXS hfq hf0 hf1 i hi ih v sc nn cd H locs ls hI hP hD hS hl
      · refine lv_tableIn (tgt := 273) hx hb dL_law_32 (by rw [hy]; decide) (by rw [hy]; decide) (by rw [hy]; rfl) (by decide) ?_
        exact law_c5 l C0 hL hK hN hXS hfq hf0 hf1 i hi ih v sc nn cd H locs ls hI hP hD hS hl
      · refine lv_tableIn (tgt := 306) hx hb dL_law_32 (by rw [hy]; decide) (by rw [hy]; decide) (by rw [hy]; rfl) (by decide) ?_
        exact law_c6 l C0 hL hK hN hXS hfq hf0 hf1 i hi ih v sc nn cd H locs ls hI hP hD hS hl
      · refine lv_tableIn (tgt := 349) hx hb dL_law_32 (by rw [hy]; decide) (by rw [hy]; decide) (by rw [hy]; rfl) (by decide) ?_
        exact law_c7 l C0 hL hK hN hXS hfq hf0 hf1 i hi ih v sc nn cd H locs ls hI hP hD hS hl
      · refine lv_tableIn (tgt := 382) hx hb dL_law_32 (by rw [hy]; decide) (by rw [hy]; decide) (by rw [hy]; rfl) (by decide) ?_
        exact law_c8 l C0 hL hK hN hXS hfq hf0 hf1 i hi ih v sc nn cd H locs ls hI hP hD hS hl
      · refine lv_tableIn (tgt := 405) hx hb dL_law_32 (by rw [hy]; decide) (by rw [hy]; decide) (by rw [hy]; rfl) (by decide) ?_
        exact law_c9 l C0 hL hK hN hXS hfq hf0 hf1 i hi ih v sc nn cd H locs ls hI hP hD hS hl
      · refine lv_tableIn (tgt := 428) hx hb dL_law_32 (by rw [hy]; decide) (by rw [hy]; decide) (by rw [hy]; rfl) (by decide) ?_
        exact law_c10 l C0 hL hK hN hXS hfq hf0 hf1 i hi ih v sc nn cd H locs ls hI hP hD hS hl
      · refine lv_tableIn (tgt := 441) hx hb dL_law_32 (by rw [hy]; decide) (by rw [hy]; decide) (by rw [hy]; rfl) (by decide) ?_
        exact law_c11 l C0 hL hK hN hXS hfq hf0 hf1 i hi ih v sc nn cd H locs ls hI hP hD hS hl
      · refine lv_tableIn (tgt := 464) hx hb dL_law_32 (by rw [hy]; decide) (by rw [hy]; decide) (by rw [hy]; rfl) (by decide) ?_
        exact law_c12 l C0 hL hK hN hXS hfq hf0 hf1 i hi ih v sc nn cd H locs ls hI hP hD hS hl
      · refine lv_tableIn (tgt := 477) hx hb dL_law_32 (by rw [hy]; decide) (by rw [hy]; decide) (by rw [hy]; rfl) (by decide) ?_
        exact law_c13 l C0 hL hK hN hXS hfq hf0 hf1 i hi ih v sc nn cd H locs ls hI hP hD hS hl
      · refine lv_tableIn (tgt := 510) hx hb dL_law_32 (by rw [hy]; decide) (by rw [hy]; decide) (by rw [hy]; rfl) (by decide) ?_
        exact law_c14 l C0 hL hK hN hXS hfq hf0 hf1 i hi ih v sc nn cd H locs ls hI hP hD hS hl
      · refine lv_tableIn (tgt := 543) hx hb dL_law_32 (by rw [hy]; decide) (by rw [hy]; decide) (by rw [hy]; rfl) (by decide) ?_
        exact law_c15 l C0 hL hK hN hXS hfq hf0 hf1 i hi ih v sc nn cd H locs ls hI hP hD hS hl
      · refine lv_tableIn (tgt := 566) hx hb dL_law_32 (by rw [hy]; decide) (by rw [hy]; decide) (by rw [hy]; rfl) (by decide) ?_
        exact law_c16 l C0 hL hK hN hXS hfq hf0 hf1 i hi ih v sc nn cd H locs ls hI hP hD hS hl
      · refine lv_tableIn (tgt := 609) hx hb dL_law_32 (by rw [hy]; decide) (by rw [hy]; decide) (by rw [hy]; rfl) (by decide) ?_
        exact law_c17 l C0 hL hK hN hXS hfq hf0 hf1 i hi ih v sc nn cd H locs ls hI hP hD hS hl
      · refine lv_tableIn (tgt := 642) hx hb dL_law_32 (by rw [hy]; decide) (by rw [hy]; decide) (by rw [hy]; rfl) (by decide) ?_
        exact law_c18 l C0 hL hK hN hXS hfq hf0 hf1 i hi ih v sc nn cd H locs ls hI hP hD hS hl
      · refine lv_tableIn (tgt := 655) hx hb dL_law_32 (by rw [hy]; decide) (by rw [hy]; decide) (by rw [hy]; rfl) (by decide) ?_
        exact law_c19 l C0 hL hK hN hXS hfq hf0 hf1 i hi ih v sc nn cd H locs ls hI hP hD hS hl
      · refine lv_tableIn (tgt := 698) hx hb dL_law_32 (by rw [hy]; decide) (by rw [hy]; decide) (by rw [hy]; rfl) (by decide) ?_
        exact law_c20 l C0 hL hK hN hXS hfq hf0 hf1 i hi ih v sc nn cd H locs ls hI hP hD hS hl
      · refine lv_tableIn (tgt := 731) hx hb dL_law_32 (by rw [hy]; decide) (by rw [hy]; decide) (by rw [hy]; rfl) (by decide) ?_
        exact law_c21 l C0 hL hK hN hXS hfq hf0 hf1 i hi ih v sc nn cd H locs ls hI hP hD hS hl
      · refine lv_tableIn (tgt := 774) hx hb dL_law_32 (by rw [hy]; decide) (by rw [hy]; decide) (by rw [hy]; rfl) (by decide) ?_
        exact law_c22 l C0 hL hK hN hXS hfq hf0 hf1 i hi ih v sc nn cd H locs ls hI hP hD hS hl
      · refine lv_tableIn (tgt := 787) hx hb dL_law_32 (by rw [hy]; decide) (by rw [hy]; decide) (by rw [hy]; rfl) (by decide) ?_
        exact law_c23 l C0 hL hK hN hXS hfq hf0 hf1 i hi ih v sc nn cd H locs ls hI hP hD hS hl
      · refine lv_tableIn (tgt := 800) hx hb dL_law_32 (by rw [hy]; decide) (by rw [hy]; decide) (by rw [hy]; rfl) (by decide) ?_
        exact law_c24 l C0 hL hK hN hXS hfq hf0 hf1 i hi ih v sc nn cd H locs ls hI hP hD hS hl
      · refine lv_tableIn (tgt := 833) hx hb dL_law_32 (by rw [hy]; decide) (by rw [hy]; decide) (by rw [hy]; rfl) (by decide) ?_
        exact law_c25 l C0 hL hK hN hXS hfq hf0 hf1 i hi ih v sc nn cd H locs ls hI hP hD hS hl
      · refine lv_tableIn (tgt := 846) hx hb dL_law_32 (by rw [hy]; decide) (by rw [hy]; decide) (by rw [hy]; rfl) (by decide) ?_
        exact law_c26 l C0 hL hK hN hXS hfq hf0 hf1 i hi ih v sc nn cd H locs ls hI hP hD hS hl
      · refine lv_tableIn (tgt := 859) hx hb dL_law_32 (by rw [hy]; decide) (by rw [hy]; decide) (by rw [hy]; rfl) (by decide) ?_
        exact law_c27 l C0 hL hK hN hXS hfq hf0 hf1 i hi ih v sc nn cd H locs ls hI hP hD hS hl
      · refine lv_tableIn (tgt := 882) hx hb dL_law_32 (by rw [hy]; decide) (by rw [hy]; decide) (by rw [hy]; rfl) (by decide) ?_
        exact law_c28 l C0 hL hK hN hXS hfq hf0 hf1 i hi ih v sc nn cd H locs ls hI hP hD hS hl
      · refine lv_tableIn (tgt := 905) hx hb dL_law_32 (by rw [hy]; decide) (by rw [hy]; decide) (by rw [hy]; rfl) (by decide) ?_
        exact law_c29 l C0 hL hK hN hXS hfq hf0 hf1 i hi ih v sc nn cd H locs ls hI hP hD hS hl
