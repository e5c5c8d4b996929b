/-! the desk's and the office's steps, as the methods do them -/
theorem hd_2 {p c : Int32} (h : p = 2) : 2 + c + 3 = hdF p c := by
  unfold hdF
  rw [if_pos (Or.inl h)]
theorem hd_3 {p c : Int32} (h : p = 3) : 2 + c + 3 = hdF p c := by
  unfold hdF
  rw [if_pos (Or.inr h)]
theorem hd_4 {p c : Int32} (h : p = 4) : 2 + c + 2 = hdF p c := by
  unfold hdF
  rw [h, if_neg (by decide), if_pos rfl]
theorem hd_n {p c : Int32} (h2 : ¬ p = 2) (h3 : ¬ p = 3) (h4 : ¬ p = 4) : 2 + c + 1 = hdF p c := by
  unfold hdF
  rw [if_neg (fun h => h.elim h2 h3), if_neg h4]
theorem hd_o {p c : Int32} (h : p.toInt < 2 ∨ 4 < p.toInt) : 2 + c + 1 = hdF p c := by
  have n : ∀ k : Int32, 2 ≤ k.toInt → k.toInt ≤ 4 → ¬ p = k := by
    intro k h1 h2 e
    rw [e] at h
    omega
  exact hd_n (n 2 (by decide) (by decide)) (n 3 (by decide) (by decide)) (n 4 (by decide) (by decide))
theorem hd_ix {p c : Int32} (hc : bN 9 c) : ∃ k : Nat, 3 ≤ k ∧ k ≤ 14 ∧ hdF p c = nI k := by
  obtain ⟨a, ha, rfl⟩ := hc
  unfold hdF
  have e : (2 : Int32) + nI a = nI (2 + a) := nI_add 2 a
  rw [e]
  split
  · exact ⟨2 + a + 3, by omega, by omega, nI_add (2 + a) 3⟩
  · split
    · exact ⟨2 + a + 2, by omega, by omega, nI_add (2 + a) 2⟩
    · exact ⟨2 + a + 1, by omega, by omega, nI_add (2 + a) 1⟩
theorem mx_ne {x : Int32} : ¬ (if 1 < x then x else 1) = 0 := x_mx1 rfl
theorem mx_big {x : Int32} {k : Nat} (h : 3 ≤ k) (h2 : k ≤ 14) (e : x = nI k) : mxF x = x := by
  unfold mxF
  rw [if_pos]
  rw [e]
  exact (nI_ltI (a := 1) (b := k) (by omega) (by omega)).mpr (by omega)
theorem wr_m {w p c s r : Int32} (hc : bN 9 c) : wrF w p c s r = (if w = s then mxF (12 * r / hdF p c) else mxF (12 * r / hdF p c) + 4) := by
  obtain ⟨k, h1, h2, e⟩ := hd_ix (p := p) hc
  unfold wrF
  rw [mx_big h1 h2 e]
theorem mx_1 {x : Int32} (h : 1 < x) : mxF x = x := if_pos h
theorem mx_0 {x : Int32} (h : ¬ 1 < x) : mxF x = 1 := if_neg h
theorem ds_1 {a h : Int32} (c : a / 3 < a - 8 * h) : a - 8 * h = dsF a h := by
  unfold dsF
  rw [if_neg]
  rw [fa_lt] at c ⊢
  omega
theorem ds_2 {a h : Int32} (c : ¬ a / 3 < a - 8 * h) : a / 3 = dsF a h := by
  unfold dsF
  by_cases d : a - 8 * h < a / 3
  · rw [if_pos d]
  · rw [if_neg d, fa_eq]
    rw [fa_lt] at c d
    omega
theorem pg_1 {mi cu w n : Int32} {a2 a3 a4 a5 a6 : Nat → Int32} {j k : Nat} (hj : j < 8) (hk : k < 4) (h : sbF (a4 j) w ≤ 50 ∧ lcB (a3 j) n = true) : 1 = gdX lcB w n j (dk mi cu a2 a3 a4 a5 a6) ∧ dk (mi + 2) cu a2 a3 (upd a4 j (sbF (a4 j) w)) (upd a5 k (a5 k + 1)) (upd a6 k (a6 k + 1)) = pgX lcB w n j k (dk mi cu a2 a3 a4 a5 a6) := by
  have g : gdX lcB w n j (dk mi cu a2 a3 a4 a5 a6) = 1 := by
    unfold gdX
    rw [dk_r4 hj, dk_r3 hj, if_pos h]
  refine ⟨g.symm, ?_⟩
  unfold pgX
  rw [g, dk_r4 hj, dk_r5 hk, dk_r6 hk, dk_rm, ← dk_4 hj, ← dk_5 hk, ← dk_6 hk]
  exact dk_mi
theorem pg_0 {mi cu w n : Int32} {a2 a3 a4 a5 a6 : Nat → Int32} {j k : Nat} (hj : j < 8) (hk : k < 4) (h : ¬ (sbF (a4 j) w ≤ 50 ∧ lcB (a3 j) n = true)) : 0 = gdX lcB w n j (dk mi cu a2 a3 a4 a5 a6) ∧ dk (mi + 2) cu a2 a3 (upd a4 j (sbF (a4 j) w)) (upd a5 k (a5 k + 1)) a6 = pgX lcB w n j k (dk mi cu a2 a3 a4 a5 a6) := by
  have g : gdX lcB w n j (dk mi cu a2 a3 a4 a5 a6) = 0 := by
    unfold gdX
    rw [dk_r4 hj, dk_r3 hj, if_neg h]
  refine ⟨g.symm, ?_⟩
  have e : upd a6 k (a6 k) = a6 := by
    funext i
    by_cases c : i = k
    · rw [c, pk_us]
    · rw [pk_un c]
  unfold pgX
  rw [g, dk_r4 hj, dk_r5 hk, dk_r6 hk, dk_rm, Int32.add_zero, ← dk_4 hj, ← dk_5 hk, ← dk_6 hk, e]
  exact dk_mi
theorem md_b {mi cu bl mm : Int32} {a2 a3 a4 a5 a6 : Nat → Int32} {j : Nat} (hj : j < 8) (h : bl ≤ cu) : dk (mi + mm) (cu + 1) (upd a2 j (a2 j - 9)) (upd a3 j (bcF (a3 j))) (upd a4 j 0) a5 a6 = mdX bcF bl mm j (dk mi cu a2 a3 a4 a5 a6) := by
  unfold mdX
  rw [dk_rc, dk_rm, if_pos h, if_pos h, dk_r2 hj, dk_r3 hj, ← dk_2 hj, ← dk_3 hj, ← dk_4 hj, ← dk_cu]
  exact dk_mi
theorem upd_id {f : Nat → Int32} {k : Nat} : upd f k (f k) = f := by
  funext i
  by_cases c : i = k
  · rw [c, pk_us]
  · rw [pk_un c]
theorem md_n {mi cu bl mm : Int32} {a2 a3 a4 a5 a6 : Nat → Int32} {j : Nat} (hj : j < 8) (h : ¬ bl ≤ cu) : dk (mi + mm) (cu + 1) (upd a2 j (a2 j - 5)) a3 (upd a4 j 0) a5 a6 = mdX bcF bl mm j (dk mi cu a2 a3 a4 a5 a6) := by
  unfold mdX
  rw [dk_rc, dk_rm, if_neg h, if_neg h, dk_r2 hj, dk_r3 hj, ← dk_2 hj, ← dk_3 hj, upd_id, ← dk_4 hj, ← dk_cu]
  exact dk_mi
theorem dk_ext {mi cu : Int32} {a2 a3 a4 a5 a6 b2 b3 b4 b5 b6 : Nat → Int32} (h2 : ∀ j, j < 8 → a2 j = b2 j) (h3 : ∀ j, j < 8 → a3 j = b3 j) (h4 : ∀ j, j < 8 → a4 j = b4 j) (h5 : ∀ j, j < 4 → a5 j = b5 j) (h6 : ∀ j, j < 4 → a6 j = b6 j) : ∀ i, i < 34 → dk mi cu a2 a3 a4 a5 a6 i = dk mi cu b2 b3 b4 b5 b6 i := by
  intro i hi
  unfold dk
  by_cases c : i < 8
  · rw [if_pos c, if_pos c]; exact h2 i c
  · rw [if_neg c, if_neg c]
    by_cases c : i < 16
    · rw [if_pos c, if_pos c]; exact h3 _ (by omega)
    · rw [if_neg c, if_neg c]
      by_cases c : i < 24
      · rw [if_pos c, if_pos c]; exact h4 _ (by omega)
      · rw [if_neg c, if_neg c]
        by_cases c : i < 28
        · rw [if_pos c, if_pos c]; exact h5 _ (by omega)
        · rw [if_neg c, if_neg c]
          by_cases c : i < 32
          · rw [if_pos c, if_pos c]; exact h6 _ (by omega)
          · rw [if_neg c, if_neg c]
theorem up8 {f g : Nat → Int32} : ∀ j, j < 8 → upd (upd (upd (upd (upd (upd (upd (upd f 0 (g 0)) 1 (g 1)) 2 (g 2)) 3 (g 3)) 4 (g 4)) 5 (g 5)) 6 (g 6)) 7 (g 7) j = g j := by
  intro j hj
  rcases (show j = 0 ∨ j = 1 ∨ j = 2 ∨ j = 3 ∨ j = 4 ∨ j = 5 ∨ j = 6 ∨ j = 7 by omega) with rfl | rfl | rfl | rfl | rfl | rfl | rfl | rfl <;> rfl
theorem up4 {f g : Nat → Int32} : ∀ j, j < 4 → upd (upd (upd (upd f 0 (g 0)) 1 (g 1)) 2 (g 2)) 3 (g 3) j = g j := by
  intro j hj
  rcases (show j = 0 ∨ j = 1 ∨ j = 2 ∨ j = 3 by omega) with rfl | rfl | rfl | rfl <;> rfl
/-! the reference's steps on its row -/
theorem mpg_page {D : DD} {w n b : Int32} {j k : Nat} (hj : j < 8) (hk : k < 4) (hb : b = gdX lmB w n j D) {E : DD} (hE : E = upd (upd D (16 + j) (sbF (D (16 + j)) w)) 32 (upd D (16 + j) (sbF (D (16 + j)) w) 32 + 2)) : upd (upd E (24 + k) (E (24 + k) + 1)) (28 + k) (upd E (24 + k) (E (24 + k) + 1) (28 + k) + b) = pgX lmB w n j k D := by
  subst hE
  subst hb
  have e1 : upd D (16 + j) (sbF (D (16 + j)) w) 32 = D 32 := pk_un (by omega)
  rw [e1]
  have e2 : upd (upd D (16 + j) (sbF (D (16 + j)) w)) 32 (D 32 + 2) (24 + k) = D (24 + k) := (pk_un (by omega)).trans (pk_un (by omega))
  have e3 : upd (upd (upd D (16 + j) (sbF (D (16 + j)) w)) 32 (D 32 + 2)) (24 + k) (D (24 + k) + 1) (28 + k) = D (28 + k) := (pk_un (by omega)).trans ((pk_un (by omega)).trans (pk_un (by omega)))
  rw [e2, e3]
  unfold pgX
  funext i
  by_cases c : i = 32
  · subst c
    rw [pk_un (by omega), pk_un (by omega), pk_us, pk_us]
  · rw [pk_un (f := upd (upd (upd D (16 + j) (sbF (D (16 + j)) w)) (24 + k) (D (24 + k) + 1)) (28 + k) _) c]
    exact upd_at (fun _ => upd_at (fun _ => pk_un c) rfl) rfl
theorem mmd_b {D : DD} {bl mm : Int32} {j : Nat} (hj : j < 8) (h : bl ≤ D 33) : upd (upd (upd (upd (upd D j (D j - 9)) (8 + j) (bmF (upd D j (D j - 9) (8 + j)))) (16 + j) 0) 33 (upd (upd (upd D j (D j - 9)) (8 + j) (bmF (upd D j (D j - 9) (8 + j)))) (16 + j) 0 33 + 1)) 32 (upd (upd (upd (upd D j (D j - 9)) (8 + j) (bmF (upd D j (D j - 9) (8 + j)))) (16 + j) 0) 33 (upd (upd (upd D j (D j - 9)) (8 + j) (bmF (upd D j (D j - 9) (8 + j)))) (16 + j) 0 33 + 1) 32 + mm) = mdX bmF bl mm j D := by
  have e1 : upd D j (D j - 9) (8 + j) = D (8 + j) := pk_un (by omega)
  rw [e1]
  have e2 : upd (upd (upd D j (D j - 9)) (8 + j) (bmF (D (8 + j)))) (16 + j) 0 33 = D 33 := (pk_un (by omega)).trans ((pk_un (by omega)).trans (pk_un (by omega)))
  rw [e2]
  have e3 : upd (upd (upd (upd D j (D j - 9)) (8 + j) (bmF (D (8 + j)))) (16 + j) 0) 33 (D 33 + 1) 32 = D 32 := (pk_un (by omega)).trans ((pk_un (by omega)).trans ((pk_un (by omega)).trans (pk_un (by omega))))
  rw [e3]
  unfold mdX
  rw [if_pos h, if_pos h]
theorem mmd_n {D : DD} {bl mm : Int32} {j : Nat} (hj : j < 8) (h : ¬ bl ≤ D 33) : upd (upd (upd (upd D j (D j - 5)) (16 + j) 0) 33 (upd (upd D j (D j - 5)) (16 + j) 0 33 + 1)) 32 (upd (upd (upd D j (D j - 5)) (16 + j) 0) 33 (upd (upd D j (D j - 5)) (16 + j) 0 33 + 1) 32 + mm) = mdX bmF bl mm j D := by
  have e2 : upd (upd D j (D j - 5)) (16 + j) 0 33 = D 33 := (pk_un (by omega)).trans (pk_un (by omega))
  rw [e2]
  have e3 : upd (upd (upd D j (D j - 5)) (16 + j) 0) 33 (D 33 + 1) 32 = D 32 := (pk_un (by omega)).trans ((pk_un (by omega)).trans (pk_un (by omega)))
  rw [e3]
  have e4 : upd (upd D j (D j - 5)) (8 + j) (D (8 + j)) = upd D j (D j - 5) := by
    have e5 : upd D j (D j - 5) (8 + j) = D (8 + j) := pk_un (by omega)
    rw [← e5]
    exact upd_id
  unfold mdX
  rw [if_neg h, if_neg h, e4]
theorem hd_ne {p c : Int32} (h : bN 9 c) : ¬ hdF p c = 0 := by
  obtain ⟨k, h1, h2, e⟩ := hd_ix (p := p) h
  rw [e]
  exact nI_ne0 (by omega) (by omega)
theorem gd01 {lk : Int32 → Int32 → Bool} {w n r : Int32} {j : Nat} {D : DD} (h : r = gdX lk w n j D) : (r = 1 ∧ 1 = gdX lk w n j D) ∨ (r = 0 ∧ 0 = gdX lk w n j D) := by
  by_cases c : sbF (D (16 + j)) w ≤ 50 ∧ lk (D (8 + j)) n = true
  · have e : gdX lk w n j D = 1 := if_pos c
    exact Or.inl ⟨h.trans e, e.symm⟩
  · have e : gdX lk w n j D = 0 := if_neg c
    exact Or.inr ⟨h.trans e, e.symm⟩
theorem dwN_lt (s : Nat) : dwN s < 2147483648 := Nat.mod_lt _ (by decide)
/-- a draw's number -/
theorem dr_ix {r : Int32} {x k : Nat} (hk : 0 < k) (h : r = nI (x % k)) : ∃ w : Nat, w < k ∧ Hid (w = x % k) ∧ r = nI w := ⟨x % k, Nat.mod_lt _ hk, Hid.mk rfl, h⟩
theorem dw_2 {w k s a : Nat} (h : Hid (a = dwN s)) (e : Hid (w = dwN a / 65536 % k)) : Hid (w = dwN (dwN s) / 65536 % k) := Hid.mk (by rw [← h.out]; exact e.out)
theorem dw_3 {w k s a b : Nat} (h : Hid (a = dwN s)) (h2 : Hid (b = dwN a)) (e : Hid (w = dwN b / 65536 % k)) : Hid (w = dwN (dwN (dwN s)) / 65536 % k) := Hid.mk (by rw [← h.out, ← h2.out]; exact e.out)
theorem dw_f {s a b c : Nat} (h : Hid (a = dwN s)) (h2 : Hid (b = dwN a)) (h3 : Hid (c = dwN b)) : c = dwN (dwN (dwN s)) := by rw [← h.out, ← h2.out]; exact h3.out
/-- the past moved by one -/
theorem sh_step {f g : DD} {k : Nat} (hk : 34 ≤ k) (h : ∀ i, f i = if i + 34 < k then g (i + 34) else g i) : ∀ i, upd f (k - 34) (f k) i = if i + 34 < k + 1 then g (i + 34) else g i := by
  intro i
  have e : f k = g k := (h k).trans (if_neg (by omega))
  by_cases c : i = k - 34
  · rw [c, pk_us, e, if_pos (by omega), show k - 34 + 34 = k from by omega]
  · rw [pk_un c, h i]
    by_cases d : i + 34 < k
    · rw [if_pos d, if_pos (by omega)]
    · rw [if_neg d, if_neg (by omega)]
theorem rm_step {f g now : DD} {u k : Nat} (h : ∀ i, f i = if 34 * u ≤ i ∧ i < 34 * u + k then now (i - 34 * u) else g i) : ∀ i, upd f (34 * u + k) (now k) i = if 34 * u ≤ i ∧ i < 34 * u + (k + 1) then now (i - 34 * u) else g i := by
  intro i
  by_cases c : i = 34 * u + k
  · rw [c, pk_us, if_pos ⟨by omega, by omega⟩, show 34 * u + k - 34 * u = k from by omega]
  · rw [pk_un c, h i]
    by_cases d : 34 * u ≤ i ∧ i < 34 * u + k
    · rw [if_pos d, if_pos ⟨d.1, by omega⟩]
    · rw [if_neg d, if_neg (fun e => d ⟨e.1, by omega⟩)]
theorem rm_20 {f g past now : DD} {un : Nat} (hu : un = 20) (hg : ∀ i, g i = if i + 34 < 680 then past (i + 34) else past i) (h : ∀ i, f i = if 34 * (un - 1) ≤ i ∧ i < 34 * (un - 1) + 34 then now (i - 34 * (un - 1)) else g i) : ∀ i, f i = rmF un now past i := by
  subst hu
  intro i
  rw [h i]
  unfold rmF
  rw [if_pos rfl]
  by_cases d : 34 * (20 - 1) ≤ i ∧ i < 34 * (20 - 1) + 34
  · rw [if_pos d, if_pos d]
  · rw [if_neg d, if_neg d, hg i]
    by_cases e : i + 34 < 680
    · rw [if_pos e, if_pos ⟨rfl, by omega⟩]
    · rw [if_neg e, if_neg (fun q => e (by omega))]
theorem rm_n {f past now : DD} {un : Nat} (hu : ¬ un = 20) (h : ∀ i, f i = if 34 * un ≤ i ∧ i < 34 * un + 34 then now (i - 34 * un) else past i) : ∀ i, f i = rmF un now past i := by
  intro i
  rw [h i]
  unfold rmF
  rw [if_neg hu]
  by_cases d : 34 * un ≤ i ∧ i < 34 * un + 34
  · rw [if_pos d, if_pos d]
  · rw [if_neg d, if_neg d, if_neg (fun q => hu q.1)]
/-- one draw's deed, as the methods do it -/
theorem d1_md {lk : Int32 → Int32 → Bool} {bf : Int32 → Int32} {nq nh s w1 w3 : Nat} {bl mm : Int32} {W : Nat → Nat → Int32} {n9 : Nat → Int32} {D : DD} (e1 : Hid (w1 = dwN s / 65536 % nq)) (e3 : Hid (w3 = dwN (dwN (dwN s)) / 65536 % 3)) (h0 : w3 = 0) (hc : cmP bl w1 D) : mdX bf bl mm w1 D = (d1X lk bf nq nh bl mm W n9 (s, D)).2 := by
  have e1 : w1 = dwN s / 65536 % nq := e1
  have e3 : w3 = dwN (dwN (dwN s)) / 65536 % 3 := e3
  unfold d1X
  dsimp only
  rw [← e3, ← e1, if_pos h0, if_pos hc]
theorem d1_no {lk : Int32 → Int32 → Bool} {bf : Int32 → Int32} {nq nh s w1 w3 : Nat} {bl mm : Int32} {W : Nat → Nat → Int32} {n9 : Nat → Int32} {D : DD} (e1 : Hid (w1 = dwN s / 65536 % nq)) (e3 : Hid (w3 = dwN (dwN (dwN s)) / 65536 % 3)) (h0 : w3 = 0) (hc : ¬ cmP bl w1 D) : D = (d1X lk bf nq nh bl mm W n9 (s, D)).2 := by
  have e1 : w1 = dwN s / 65536 % nq := e1
  have e3 : w3 = dwN (dwN (dwN s)) / 65536 % 3 := e3
  unfold d1X
  dsimp only
  rw [← e3, ← e1, if_pos h0, if_neg hc]
theorem d1_dy {lk : Int32 → Int32 → Bool} {bf : Int32 → Int32} {nq nh s w1 w3 : Nat} {bl mm : Int32} {W : Nat → Nat → Int32} {n9 : Nat → Int32} {D : DD} (e1 : Hid (w1 = dwN s / 65536 % nq)) (e3 : Hid (w3 = dwN (dwN (dwN s)) / 65536 % 3)) (h0 : w3 = 1) : dyX 1 w1 D = (d1X lk bf nq nh bl mm W n9 (s, D)).2 := by
  have e1 : w1 = dwN s / 65536 % nq := e1
  have e3 : w3 = dwN (dwN (dwN s)) / 65536 % 3 := e3
  unfold d1X
  dsimp only
  rw [← e3, ← e1, if_neg (by omega), if_pos h0]
theorem d1_pg {lk : Int32 → Int32 → Bool} {bf : Int32 → Int32} {nq nh s w1 w2 w3 : Nat} {bl mm : Int32} {W : Nat → Nat → Int32} {n9 : Nat → Int32} {D : DD} (e1 : Hid (w1 = dwN s / 65536 % nq)) (e2 : Hid (w2 = dwN (dwN s) / 65536 % nh)) (e3 : Hid (w3 = dwN (dwN (dwN s)) / 65536 % 3)) (h0 : ¬ w3 = 0) (h1 : ¬ w3 = 1) : pgX lk (W w1 w2) (n9 w2) w1 w2 D = (d1X lk bf nq nh bl mm W n9 (s, D)).2 := by
  have e1 : w1 = dwN s / 65536 % nq := e1
  have e2 : w2 = dwN (dwN s) / 65536 % nh := e2
  have e3 : w3 = dwN (dwN (dwN s)) / 65536 % 3 := e3
  unfold d1X
  dsimp only
  rw [← e3, ← e1, ← e2, if_neg h0, if_neg h1]
theorem x_mask_draw {sd : Nat} (h : sd ≤ 2147483647) {a b c : Int64} (ea : a = (nI sd).toInt64 * 1103515245) (eb : b = a + 12345) (ec : c = b &&& 2147483647) : c.toInt32 = nI (dwN sd) := by
  have h1 : lN sd * 1103515245 = lN (sd * 1103515245) := lN_mul sd 1103515245
  have h2 : lN (sd * 1103515245) + 12345 = lN (sd * 1103515245 + 12345) := lN_add _ 12345
  have hb : b = lN (sd * 1103515245 + 12345) := by rw [eb, ea, nI_l (by omega), h1, h2]
  have hv : b.toBitVec.toNat = sd * 1103515245 + 12345 := by
    rw [hb]
    show (BitVec.ofNat 64 (sd * 1103515245 + 12345)).toNat = _
    rw [BitVec.toNat_ofNat]
    exact Nat.mod_eq_of_lt (by omega)
  obtain ⟨k, hk, e⟩ := x_mask31 b
  rw [ec, e]
  have h3 : (b.toBitVec &&& 2147483647#64).toNat = (sd * 1103515245 + 12345) % 2147483648 := by
    rw [BitVec.toNat_and, hv]
    have h : (2147483647#64).toNat = 2 ^ 31 - 1 := by decide
    rw [h, Nat.and_two_pow_sub_one_eq_mod]
  have h4 : (b &&& 2147483647).toInt32 = nI (dwN sd) := by
    apply Int32.toBitVec_inj.1
    apply BitVec.eq_of_toNat_eq
    have g1 : ((b &&& 2147483647).toInt32).toBitVec = ((b.toBitVec &&& 2147483647#64)).signExtend 32 := rfl
    have g2 : (nI (dwN sd)).toBitVec = BitVec.ofNat 32 (dwN sd) := rfl
    rw [g1, g2, BitVec.toNat_ofNat]
    unfold dwN
    rw [← h3]
    have q : ∀ y : Nat, y &&& 2147483647 = y % 2 ^ 31 := fun y => by rw [show (2147483647 : Nat) = 2 ^ 31 - 1 from by decide, Nat.and_two_pow_sub_one_eq_mod]
    simp [BitVec.toNat_signExtend]
    rw [q, q, Nat.mod_mod_of_dvd _ (show 2 ^ 31 ∣ 4294967296 from by decide)]
    exact (Nat.mod_eq_of_lt (Nat.lt_of_lt_of_le (Nat.mod_lt _ (by decide)) (by decide))).symm
  exact e.symm.trans h4
