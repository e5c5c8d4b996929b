/-! the desk as one row: 0 lengths, 8 nibs, 16 softness, 24 pages, 28 good ones, 32 minutes, 33 cuts -/
abbrev DD : Type := Nat → Int32
def dk (mi cu : Int32) (a2 a3 a4 a5 a6 : Nat → Int32) : DD := fun i => if i < 8 then a2 i else if i < 16 then a3 (i - 8) else if i < 24 then a4 (i - 16) else if i < 28 then a5 (i - 24) else if i < 32 then a6 (i - 28) else if i = 32 then mi else if i = 33 then cu else 0
theorem dk_2 {mi cu : Int32} {a2 a3 a4 a5 a6 : Nat → Int32} {j : Nat} {v : Int32} (hj : j < 8) : dk mi cu (upd a2 j v) a3 a4 a5 a6 = upd (dk mi cu a2 a3 a4 a5 a6) j v := by
  funext i
  unfold dk upd
  dsimp only
  repeat' split
  all_goals first | rfl | omega
theorem dk_3 {mi cu : Int32} {a2 a3 a4 a5 a6 : Nat → Int32} {j : Nat} {v : Int32} (hj : j < 8) : dk mi cu a2 (upd a3 j v) a4 a5 a6 = upd (dk mi cu a2 a3 a4 a5 a6) (8 + j) v := by
  funext i
  unfold dk upd
  dsimp only
  repeat' split
  all_goals first | rfl | omega
theorem dk_4 {mi cu : Int32} {a2 a3 a4 a5 a6 : Nat → Int32} {j : Nat} {v : Int32} (hj : j < 8) : dk mi cu a2 a3 (upd a4 j v) a5 a6 = upd (dk mi cu a2 a3 a4 a5 a6) (16 + j) v := by
  funext i
  unfold dk upd
  dsimp only
  repeat' split
  all_goals first | rfl | omega
theorem dk_5 {mi cu : Int32} {a2 a3 a4 a5 a6 : Nat → Int32} {j : Nat} {v : Int32} (hj : j < 4) : dk mi cu a2 a3 a4 (upd a5 j v) a6 = upd (dk mi cu a2 a3 a4 a5 a6) (24 + j) v := by
  funext i
  unfold dk upd
  dsimp only
  repeat' split
  all_goals first | rfl | omega
theorem dk_6 {mi cu : Int32} {a2 a3 a4 a5 a6 : Nat → Int32} {j : Nat} {v : Int32} (hj : j < 4) : dk mi cu a2 a3 a4 a5 (upd a6 j v) = upd (dk mi cu a2 a3 a4 a5 a6) (28 + j) v := by
  funext i
  unfold dk upd
  dsimp only
  repeat' split
  all_goals first | rfl | omega
theorem dk_mi {mi cu : Int32} {a2 a3 a4 a5 a6 : Nat → Int32} {v : Int32} : dk v cu a2 a3 a4 a5 a6 = upd (dk mi cu a2 a3 a4 a5 a6) 32 v := by
  funext i
  unfold dk upd
  dsimp only
  repeat' split
  all_goals first | rfl | omega
theorem dk_cu {mi cu : Int32} {a2 a3 a4 a5 a6 : Nat → Int32} {v : Int32} : dk mi v a2 a3 a4 a5 a6 = upd (dk mi cu a2 a3 a4 a5 a6) 33 v := by
  funext i
  unfold dk upd
  dsimp only
  repeat' split
  all_goals first | rfl | omega
theorem dk_r2 {mi cu : Int32} {a2 a3 a4 a5 a6 : Nat → Int32} {j : Nat} (hj : j < 8) : dk mi cu a2 a3 a4 a5 a6 j = a2 j := if_pos hj
theorem dk_r3 {mi cu : Int32} {a2 a3 a4 a5 a6 : Nat → Int32} {j : Nat} (hj : j < 8) : dk mi cu a2 a3 a4 a5 a6 (8 + j) = a3 j := by
  unfold dk
  rw [if_neg (by omega), if_pos (by omega), show 8 + j - 8 = j from by omega]
theorem dk_r4 {mi cu : Int32} {a2 a3 a4 a5 a6 : Nat → Int32} {j : Nat} (hj : j < 8) : dk mi cu a2 a3 a4 a5 a6 (16 + j) = a4 j := by
  unfold dk
  rw [if_neg (by omega), if_neg (by omega), if_pos (by omega), show 16 + j - 16 = j from by omega]
theorem dk_r5 {mi cu : Int32} {a2 a3 a4 a5 a6 : Nat → Int32} {j : Nat} (hj : j < 4) : dk mi cu a2 a3 a4 a5 a6 (24 + j) = a5 j := by
  unfold dk
  rw [if_neg (by omega), if_neg (by omega), if_neg (by omega), if_pos (by omega), show 24 + j - 24 = j from by omega]
theorem dk_r6 {mi cu : Int32} {a2 a3 a4 a5 a6 : Nat → Int32} {j : Nat} (hj : j < 4) : dk mi cu a2 a3 a4 a5 a6 (28 + j) = a6 j := by
  unfold dk
  rw [if_neg (by omega), if_neg (by omega), if_neg (by omega), if_neg (by omega), if_pos (by omega), show 28 + j - 28 = j from by omega]
theorem dk_rm {mi cu : Int32} {a2 a3 a4 a5 a6 : Nat → Int32} : dk mi cu a2 a3 a4 a5 a6 32 = mi := rfl
theorem dk_rc {mi cu : Int32} {a2 a3 a4 a5 a6 : Nat → Int32} : dk mi cu a2 a3 a4 a5 a6 33 = cu := rfl
/-! softness, hardness, wear, nibs -/
def sbF (a b : Int32) : Int32 := if a + b < 99 then a + b else 99
def dsF (a h : Int32) : Int32 := if a - 8 * h < a / 3 then a / 3 else a - 8 * h
def mxF (a : Int32) : Int32 := if 1 < a then a else 1
def hdF (p c : Int32) : Int32 := 2 + c + (if p = 2 ∨ p = 3 then 3 else if p = 4 then 2 else 1)
def wrF (w p c s r : Int32) : Int32 := if w = s then mxF (12 * r / mxF (hdF p c)) else mxF (12 * r / mxF (hdF p c)) + 4
def lcB (n w : Int32) : Bool := decide ((if 0 ≤ n - w then n - w else 0 - (n - w)) ≤ 1)
def lmB (n w : Int32) : Bool := decide (-1 ≤ n - w ∧ n - w ≤ 1)
def bcF (n : Int32) : Int32 := if n + 1 < 9 then n + 1 else 9
def bmF (n : Int32) : Int32 := if n < 9 then n + 1 else 9
/-- whether a page is good -/
def gdX (lk : Int32 → Int32 → Bool) (w n : Int32) (j : Nat) (D : DD) : Int32 := if sbF (D (16 + j)) w ≤ 50 ∧ lk (D (8 + j)) n = true then 1 else 0
def pgX (lk : Int32 → Int32 → Bool) (w n : Int32) (j k : Nat) (D : DD) : DD := upd (upd (upd (upd D (16 + j) (sbF (D (16 + j)) w)) (24 + k) (D (24 + k) + 1)) (28 + k) (D (28 + k) + gdX lk w n j D)) 32 (D 32 + 2)
def mdX (bf : Int32 → Int32) (bl mm : Int32) (j : Nat) (D : DD) : DD := upd (upd (upd (upd (upd D j (D j - (if bl ≤ D 33 then 9 else 5))) (8 + j) (if bl ≤ D 33 then bf (D (8 + j)) else D (8 + j))) (16 + j) 0) 33 (D 33 + 1)) 32 (D 32 + mm)
abbrev cmP (bl : Int32) (j : Nat) (D : DD) : Prop := (if bl ≤ D 33 then 9 else 5) ≤ D j
def brX (bf : Int32 → Int32) (j : Nat) (D : DD) : DD := upd (upd D (8 + j) (bf (D (8 + j)))) 33 (D 33 + 1)
def dyX (h : Int32) (j : Nat) (D : DD) : DD := upd D (16 + j) (dsF (D (16 + j)) h)
def whX (D : DD) : DD := upd (upd D 33 0) 32 (D 32 + 5)
def itX (F : DD → DD) : Nat → DD → DD
  | 0, D => D
  | n + 1, D => F (itX F n D)
/-- draws -/
def dwN (sd : Nat) : Nat := (sd * 1103515245 + 12345) % 2147483648
def d1X (lk : Int32 → Int32 → Bool) (bf : Int32 → Int32) (nq nh : Nat) (bl mm : Int32) (W : Nat → Nat → Int32) (n9 : Nat → Int32) (x : Nat × DD) : Nat × DD :=
  (dwN (dwN (dwN x.1)),
    if dwN (dwN (dwN x.1)) / 65536 % 3 = 0 then (if cmP bl (dwN x.1 / 65536 % nq) x.2 then mdX bf bl mm (dwN x.1 / 65536 % nq) x.2 else x.2)
    else if dwN (dwN (dwN x.1)) / 65536 % 3 = 1 then dyX 1 (dwN x.1 / 65536 % nq) x.2
    else pgX lk (W (dwN x.1 / 65536 % nq) (dwN (dwN x.1) / 65536 % nh)) (n9 (dwN (dwN x.1) / 65536 % nh)) (dwN x.1 / 65536 % nq) (dwN (dwN x.1) / 65536 % nh) x.2)
def dIt (F : Nat × DD → Nat × DD) : Nat → Nat × DD → Nat × DD
  | 0, x => x
  | n + 1, x => F (dIt F n x)
/-! the two desks, side by side -/
def inD (nq nh i : Nat) : Prop := i = 32 ∨ i = 33 ∨ i < nq ∨ (8 ≤ i ∧ i < 8 + nq) ∨ (16 ≤ i ∧ i < 16 + nq) ∨ (24 ≤ i ∧ i < 24 + nh) ∨ (28 ≤ i ∧ i < 28 + nh)
def bN (m : Nat) (x : Int32) : Prop := ∃ c : Nat, c ≤ m ∧ x = nI c
def dR (nq nh : Nat) (D E : DD) : Prop := (∀ i, inD nq nh i → D i = E i) ∧ ∀ j, j < nq → bN 9 (D (8 + j)) ∧ bN 99 (D j)
theorem upd_at {f g : DD} {k i : Nat} {x y : Int32} (h : i ≠ k → f i = g i) (hx : x = y) : upd f k x i = upd g k y i := by
  by_cases c : i = k
  · rw [c, pk_us, pk_us]; exact hx
  · rw [pk_un c, pk_un c]; exact h c
theorem bN_lk {n w : Int32} (hn : bN 9 n) (hw : bN 9 w) : lcB n w = lmB n w := by
  obtain ⟨a, ha, rfl⟩ := hn
  obtain ⟨b, hb, rfl⟩ := hw
  unfold lcB lmB
  have h1 : (nI a - nI b).toInt = (a : Int) - b := pk_sub_toInt (by omega) (by omega)
  have h2 : (0 - (nI a - nI b)).toInt = (b : Int) - a := by
    rw [Int32.toInt_sub, h1, x_toInt0, Int.bmod_def]
    omega
  have h3 : ((-1 : Int32)).toInt = -1 := by decide
  congr 1
  apply propext
  by_cases c : 0 ≤ nI a - nI b
  · rw [if_pos c]
    simp only [fa_le]
    rw [h1, x_t1, h3]
    rw [fa_le, h1, x_toInt0] at c
    omega
  · rw [if_neg c]
    simp only [fa_le]
    rw [h1, h2, x_t1, h3]
    rw [fa_le, h1, x_toInt0] at c
    omega
theorem bN_bf {n : Int32} (hn : bN 9 n) : bcF n = bmF n ∧ bN 9 (bmF n) := by
  obtain ⟨a, ha, rfl⟩ := hn
  unfold bcF bmF
  have e : nI a + 1 = nI (a + 1) := nI_1 a
  rw [e]
  have h9 : (9 : Int32) = nI 9 := rfl
  rw [h9]
  by_cases c : a < 9
  · rw [if_pos ((nI_ltI (by omega) (by omega)).mpr c)]
    refine ⟨?_, a + 1, by omega, rfl⟩
    by_cases d : a + 1 < 9
    · rw [if_pos ((nI_ltI (by omega) (by omega)).mpr d)]
    · rw [if_neg (fun h => d ((nI_ltI (by omega) (by omega)).mp h)), show a + 1 = 9 from by omega]
  · rw [if_neg (fun h => c ((nI_ltI (by omega) (by omega)).mp h))]
    rw [if_neg (fun h => absurd ((nI_ltI (a := a + 1) (b := 9) (by omega) (by omega)).mp h) (by omega))]
    exact ⟨rfl, 9, by omega, rfl⟩
theorem dR_pg {nq nh j k : Nat} {D E : DD} {w n : Int32} (h : dR nq nh D E) (hq : nq ≤ 8) (hh : nh ≤ 4) (hj : j < nq) (hk : k < nh) (hn : bN 9 n) : gdX lcB w n j D = gdX lmB w n j E ∧ dR nq nh (pgX lcB w n j k D) (pgX lmB w n j k E) := by
  have e1 : D (16 + j) = E (16 + j) := h.1 _ (by unfold inD; omega)
  have e2 : D (8 + j) = E (8 + j) := h.1 _ (by unfold inD; omega)
  have e3 : D (24 + k) = E (24 + k) := h.1 _ (by unfold inD; omega)
  have e4 : D (28 + k) = E (28 + k) := h.1 _ (by unfold inD; omega)
  have e5 : D 32 = E 32 := h.1 _ (by unfold inD; omega)
  have eg : gdX lcB w n j D = gdX lmB w n j E := by
    unfold gdX
    rw [bN_lk (h.2 j hj).1 hn, e1, e2]
  refine ⟨eg, fun i hi => ?_, fun m hm => ?_⟩
  · exact upd_at (fun _ => upd_at (fun _ => upd_at (fun _ => upd_at (fun _ => h.1 i hi) (by rw [e1])) (by rw [e3])) (by rw [e4, eg])) (by rw [e5])
  · unfold pgX
    rw [pk_un (by omega), pk_un (by omega), pk_un (by omega), pk_un (by omega), pk_un (by omega), pk_un (by omega), pk_un (by omega), pk_un (by omega)]
    exact h.2 m hm
theorem bN_sub {x : Int32} {b : Nat} (hx : bN 99 x) (hb : nI b ≤ x) (h9 : b ≤ 9) : bN 99 (x - nI b) := by
  obtain ⟨a, ha, rfl⟩ := hx
  have := (nI_leI (a := b) (b := a) (by omega) (by omega)).mp hb
  exact ⟨a - b, by omega, pk_sub (by omega)⟩
theorem dR_cm {nq nh j : Nat} {D E : DD} {bl : Int32} (h : dR nq nh D E) (hj : j < nq) : cmP bl j D ↔ cmP bl j E := by
  unfold cmP
  rw [h.1 33 (by unfold inD; omega), h.1 j (by unfold inD; omega)]
theorem dR_md {nq nh j : Nat} {D E : DD} {bl mm : Int32} (h : dR nq nh D E) (hq : nq ≤ 8) (hj : j < nq) (hc : cmP bl j D) : dR nq nh (mdX bcF bl mm j D) (mdX bmF bl mm j E) := by
  have e1 : D j = E j := h.1 _ (by unfold inD; omega)
  have e2 : D (8 + j) = E (8 + j) := h.1 _ (by unfold inD; omega)
  have e3 : D 33 = E 33 := h.1 _ (by unfold inD; omega)
  have e4 : D 32 = E 32 := h.1 _ (by unfold inD; omega)
  have eb := bN_bf (h.2 j hj).1
  refine ⟨fun i hi => ?_, fun m hm => ?_⟩
  · exact upd_at (fun _ => upd_at (fun _ => upd_at (fun _ => upd_at (fun _ => upd_at (fun _ => h.1 i hi) (by rw [e1, e3])) (by rw [eb.1, e2, e3])) rfl) (by rw [e3])) (by rw [e4])
  · unfold mdX
    have a1 : upd (upd (upd (upd (upd D j (D j - (if bl ≤ D 33 then 9 else 5))) (8 + j) (if bl ≤ D 33 then bcF (D (8 + j)) else D (8 + j))) (16 + j) 0) 33 (D 33 + 1)) 32 (D 32 + mm) (8 + m) = upd D (8 + j) (if bl ≤ D 33 then bcF (D (8 + j)) else D (8 + j)) (8 + m) := by
      rw [pk_un (by omega), pk_un (by omega), pk_un (by omega)]
      exact upd_at (fun _ => pk_un (by omega)) rfl
    have a2 : upd (upd (upd (upd (upd D j (D j - (if bl ≤ D 33 then 9 else 5))) (8 + j) (if bl ≤ D 33 then bcF (D (8 + j)) else D (8 + j))) (16 + j) 0) 33 (D 33 + 1)) 32 (D 32 + mm) m = upd D j (D j - (if bl ≤ D 33 then 9 else 5)) m := by
      rw [pk_un (by omega), pk_un (by omega), pk_un (by omega), pk_un (by omega)]
    rw [a1, a2]
    by_cases c : m = j
    · rw [c, pk_us, pk_us]
      refine ⟨?_, ?_⟩
      · by_cases d : bl ≤ D 33
        · rw [if_pos d, eb.1]; exact eb.2
        · rw [if_neg d]; exact (h.2 j hj).1
      · by_cases d : bl ≤ D 33
        · rw [if_pos d]
          unfold cmP at hc
          rw [if_pos d] at hc
          exact bN_sub (b := 9) (h.2 j hj).2 hc (by omega)
        · rw [if_neg d]
          unfold cmP at hc
          rw [if_neg d] at hc
          exact bN_sub (b := 5) (h.2 j hj).2 hc (by omega)
    · rw [pk_un c, pk_un (by omega)]
      exact h.2 m hm
theorem dR_dy {nq nh j : Nat} {D E : DD} {hr : Int32} (h : dR nq nh D E) (hq : nq ≤ 8) (hj : j < nq) : dR nq nh (dyX hr j D) (dyX hr j E) := by
  have e1 : D (16 + j) = E (16 + j) := h.1 _ (by unfold inD; omega)
  refine ⟨fun i hi => ?_, fun m hm => ?_⟩
  · exact upd_at (fun _ => h.1 i hi) (by rw [e1])
  · unfold dyX
    rw [pk_un (by omega), pk_un (by omega)]
    exact h.2 m hm
theorem dR_wh {nq nh : Nat} {D E : DD} (h : dR nq nh D E) (hq : nq ≤ 8) : dR nq nh (whX D) (whX E) := by
  have e1 : D 32 = E 32 := h.1 _ (by unfold inD; omega)
  refine ⟨fun i hi => ?_, fun m hm => ?_⟩
  · exact upd_at (fun _ => upd_at (fun _ => h.1 i hi) rfl) (by rw [e1])
  · unfold whX
    rw [pk_un (by omega), pk_un (by omega), pk_un (by omega), pk_un (by omega)]
    exact h.2 m hm
theorem dR_br {nq nh j : Nat} {D E : DD} (h : dR nq nh D E) (hq : nq ≤ 8) (hj : j < nq) (hc : ¬ 9 ≤ D (8 + j)) : dR nq nh (brX (· + 1) j D) (brX bmF j E) := by
  have e1 : D (8 + j) = E (8 + j) := h.1 _ (by unfold inD; omega)
  have e3 : D 33 = E 33 := h.1 _ (by unfold inD; omega)
  have eb := bN_bf (h.2 j hj).1
  have e2 : D (8 + j) + 1 = bmF (D (8 + j)) := (if_pos (fa_nle hc)).symm
  refine ⟨fun i hi => ?_, fun m hm => ?_⟩
  · exact upd_at (fun _ => upd_at (fun _ => h.1 i hi) (by rw [← e1]; exact e2)) (by rw [e3])
  · have a1 : brX (· + 1) j D (8 + m) = upd D (8 + j) (D (8 + j) + 1) (8 + m) := pk_un (by omega)
    have a2 : brX (· + 1) j D m = D m := (pk_un (by omega)).trans (pk_un (by omega))
    rw [a1, a2]
    refine ⟨?_, (h.2 m hm).2⟩
    by_cases c : m = j
    · rw [c, pk_us, e2]
      exact eb.2
    · rw [pk_un (by omega)]; exact (h.2 m hm).1
theorem dR_it {nq nh : Nat} {F G : DD → DD} (hF : ∀ D E, dR nq nh D E → dR nq nh (F D) (G E)) : ∀ (n : Nat) (D E : DD), dR nq nh D E → dR nq nh (itX F n D) (itX G n E)
  | 0, _, _, h => h
  | n + 1, D, E, h => hF _ _ (dR_it hF n D E h)
theorem dR_d1 {nq nh : Nat} {bl mm : Int32} {W V : Nat → Nat → Int32} {n9 m9 : Nat → Int32} {x y : Nat × DD} (hs : x.1 = y.1) (h : dR nq nh x.2 y.2) (hq : nq ≤ 8) (hh : nh ≤ 4) (hq0 : 0 < nq) (hh0 : 0 < nh) (hW : ∀ j k, j < nq → k < nh → W j k = V j k) (hn : ∀ k, k < nh → n9 k = m9 k ∧ bN 9 (n9 k)) :
    (d1X lcB bcF nq nh bl mm W n9 x).1 = (d1X lmB bmF nq nh bl mm V m9 y).1 ∧ dR nq nh (d1X lcB bcF nq nh bl mm W n9 x).2 (d1X lmB bmF nq nh bl mm V m9 y).2 := by
  obtain ⟨s, D⟩ := x
  obtain ⟨s', E⟩ := y
  obtain rfl : s = s' := hs
  have h : dR nq nh D E := h
  refine ⟨rfl, ?_⟩
  have j1 : dwN s / 65536 % nq < nq := Nat.mod_lt _ hq0
  have k1 : dwN (dwN s) / 65536 % nh < nh := Nat.mod_lt _ hh0
  unfold d1X
  dsimp only
  by_cases c : dwN (dwN (dwN s)) / 65536 % 3 = 0
  · rw [if_pos c, if_pos c]
    by_cases g : cmP bl (dwN s / 65536 % nq) D
    · rw [if_pos g, if_pos ((dR_cm h j1).mp g)]
      exact dR_md h hq j1 g
    · rw [if_neg g, if_neg (fun q => g ((dR_cm h j1).mpr q))]
      exact h
  · rw [if_neg c, if_neg c]
    by_cases g : dwN (dwN (dwN s)) / 65536 % 3 = 1
    · rw [if_pos g, if_pos g]
      exact dR_dy h hq j1
    · rw [if_neg g, if_neg g, ← hW _ _ j1 k1, ← (hn _ k1).1]
      exact (dR_pg h hq hh j1 k1 (hn _ k1).2).2
theorem dR_dIt {nq nh : Nat} {bl mm : Int32} {W V : Nat → Nat → Int32} {n9 m9 : Nat → Int32} (hq : nq ≤ 8) (hh : nh ≤ 4) (hq0 : 0 < nq) (hh0 : 0 < nh) (hW : ∀ j k, j < nq → k < nh → W j k = V j k) (hn : ∀ k, k < nh → n9 k = m9 k ∧ bN 9 (n9 k)) : ∀ (n : Nat) (x y : Nat × DD), x.1 = y.1 → dR nq nh x.2 y.2 →
    (dIt (d1X lcB bcF nq nh bl mm W n9) n x).1 = (dIt (d1X lmB bmF nq nh bl mm V m9) n y).1 ∧ dR nq nh (dIt (d1X lcB bcF nq nh bl mm W n9) n x).2 (dIt (d1X lmB bmF nq nh bl mm V m9) n y).2
  | 0, _, _, h1, h2 => ⟨h1, h2⟩
  | n + 1, x, y, h1, h2 => by
    have h := dR_dIt (bl := bl) (mm := mm) hq hh hq0 hh0 hW hn n x y h1 h2
    exact dR_d1 h.1 h.2 hq hh hq0 hh0 hW hn
/-! the history -/
abbrev dkc (x : dskC) : DD := dk x.1 x.2.1 (x.2.2 0) (x.2.2 1) (x.2.2 2) (x.2.2 3) (x.2.2 4)
def hR (nq nh o n : Nat) (cd : Nat → dskC) (past : DD) : Prop := ∀ k, k < n → dR nq nh (dkc (cd ((o + k) % 20))) (fun i => past (34 * k + i))
def rmF (un : Nat) (now past : DD) : DD := fun i => if 34 * (if un = 20 then 19 else un) ≤ i ∧ i < 34 * (if un = 20 then 19 else un) + 34 then now (i - 34 * (if un = 20 then 19 else un)) else if un = 20 ∧ i < 646 then past (i + 34) else past i
theorem hR_push {nq nh o n : Nat} {cd : Nat → dskC} {past now : DD} {x : dskC} (h : hR nq nh o n cd past) (hq : nq ≤ 8) (hh : nh ≤ 4) (ho : o ≤ 19) (hn : n ≤ 20) (hx : dR nq nh (dkc x) now) : hR nq nh (if n < 20 then o else (o + 1) % 20) (if n < 20 then n + 1 else n) (va_up cd ((o + n) % 20) x) (rmF n now past) := by
  have hin : ∀ {k i : Nat}, k < 20 → inD nq nh i → i < 34 := by
    intro k i _ hi
    unfold inD at hi
    omega
  intro k hk
  have cong : ∀ {D : DD} {f g : DD}, (∀ i, i < 34 → f i = g i) → dR nq nh D g → dR nq nh D f := by
    intro D f g e r
    exact ⟨fun i hi => (r.1 i hi).trans (e i (hin (k := 0) (by omega) hi)).symm, r.2⟩
  by_cases c : n < 20
  · rw [if_pos c] at hk ⊢
    by_cases e : k = n
    · subst e
      rw [va_up_self]
      refine cong (fun i hi => ?_) hx
      unfold rmF
      rw [if_neg (show ¬ k = 20 by omega), if_pos ⟨by omega, by omega⟩, show 34 * k + i - 34 * k = i from by omega]
    · rw [va_up_ne _ _ (show (o + k) % 20 ≠ (o + n) % 20 by omega)]
      refine cong (fun i hi => ?_) (h k (by omega))
      unfold rmF
      rw [if_neg (show ¬ n = 20 by omega), if_neg (by omega), if_neg (by omega)]
  · have e20 : n = 20 := by omega
    subst e20
    rw [if_neg (by omega)] at hk ⊢
    by_cases e : k = 19
    · subst e
      rw [show ((o + 1) % 20 + 19) % 20 = (o + 20) % 20 from by omega, va_up_self]
      refine cong (fun i hi => ?_) hx
      unfold rmF
      rw [if_pos rfl, if_pos ⟨by omega, by omega⟩, show 34 * 19 + i - 34 * 19 = i from by omega]
    · rw [va_up_ne _ _ (show ((o + 1) % 20 + k) % 20 ≠ (o + 20) % 20 by omega), show ((o + 1) % 20 + k) % 20 = (o + (k + 1)) % 20 from by omega]
      refine cong (fun i hi => ?_) (h (k + 1) (by omega))
      unfold rmF
      rw [if_pos rfl, if_neg (by omega), if_pos ⟨rfl, by omega⟩, show 34 * k + i + 34 = 34 * (k + 1) + i from by omega]
theorem hR_0 {nq nh o : Nat} {cd : Nat → dskC} {past : DD} : hR nq nh o 0 cd past := fun k hk => absurd hk (by omega)
theorem hR_le {nq nh o n m : Nat} {cd : Nat → dskC} {past : DD} (h : hR nq nh o n cd past) (hm : m ≤ n) : hR nq nh o m cd past := fun k hk => h k (by omega)
theorem dR_congr {nq nh : Nat} {D E F : DD} (h : dR nq nh D E) (hq : nq ≤ 8) (hh : nh ≤ 4) (e : ∀ i, i < 34 → F i = E i) : dR nq nh D F := ⟨fun i hi => (h.1 i hi).trans (e i (by unfold inD at hi; omega)).symm, h.2⟩
theorem dR_congL {nq nh : Nat} {D E F : DD} (h : dR nq nh D E) (hq : nq ≤ 8) (hh : nh ≤ 4) (e : ∀ i, i < 34 → F i = D i) : dR nq nh F E := ⟨fun i hi => (e i (by unfold inD at hi; omega)).trans (h.1 i hi), fun j hj => by rw [e (8 + j) (by omega), e j (by omega)]; exact h.2 j hj⟩
