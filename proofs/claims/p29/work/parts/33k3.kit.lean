/-! what is looked at and tried: words that both sides come to -/
def smF (f : Nat → Int32) : Nat → Int32
  | 0 => 0
  | n + 1 => smF f n + f n
theorem smF_c {f g : Nat → Int32} : ∀ (n : Nat), (∀ i, i < n → f i = g i) → smF f n = smF g n
  | 0, _ => rfl
  | n + 1, h => by
    show smF f n + f n = smF g n + g n
    rw [smF_c n (fun i hi => h i (by omega)), h n (by omega)]
def sfF (f : Nat → Int32) : Nat → Int32
  | 0 => 0
  | n + 1 => sfF f n ||| (if 50 < f n then 1 <<< (nI n &&& 31) else 0)
theorem sfF_c {f g : Nat → Int32} : ∀ (n : Nat), (∀ i, i < n → f i = g i) → sfF f n = sfF g n
  | 0, _ => rfl
  | n + 1, h => by
    show sfF f n ||| (if 50 < f n then 1 <<< (nI n &&& 31) else 0) = sfF g n ||| (if 50 < g n then 1 <<< (nI n &&& 31) else 0)
    rw [sfF_c n (fun i hi => h i (by omega)), h n (by omega)]
theorem sf_y {f : Nat → Int32} {n : Nat} {a : Int32} (h : a = sfF f n) (c : 50 < f n) : a ||| 1 <<< (nI n &&& 31) = sfF f (n + 1) := by
  show _ = sfF f n ||| (if 50 < f n then 1 <<< (nI n &&& 31) else 0)
  rw [if_pos c, h]
theorem sf_n {f : Nat → Int32} {n : Nat} {a : Int32} (h : a = sfF f n) (c : ¬ 50 < f n) : a = sfF f (n + 1) := by
  show _ = sfF f n ||| (if 50 < f n then 1 <<< (nI n &&& 31) else 0)
  rw [if_neg c, Int32.or_zero]
  exact h
/-- the k-th of some values, or OUTSIDE -/
def pkV (m : Nat) (q : Int32) (v : Nat → Int32) : Int32 := if q.toInt < 0 ∨ (m : Int) < q.toInt then -1000000002 else v q.toNatClampNeg
theorem pk_o {m : Nat} {q : Int32} {v : Nat → Int32} (h : q.toInt < 0 ∨ (m : Int) < q.toInt) : -1000000002 = pkV m q v := (if_pos h).symm
theorem pk_k {m k : Nat} {q : Int32} {v : Nat → Int32} (hk : k ≤ m) (hm : m < 100) (h : q = nI k) : v k = pkV m q v := by
  unfold pkV
  rw [h, if_neg, nI_clamp (by omega)]
  rw [nI_toInt (by omega)]
  omega
theorem pkV_c {m : Nat} {q : Int32} {v w : Nat → Int32} (hm : m < 100) (h : ∀ k, k ≤ m → v k = w k) : pkV m q v = pkV m q w := by
  unfold pkV
  by_cases c : q.toInt < 0 ∨ (m : Int) < q.toInt
  · rw [if_pos c, if_pos c]
  · rw [if_neg c, if_neg c]
    have h0 : ¬ q < 0 := by
      rw [fa_lt, x_toInt0]
      omega
    obtain ⟨j, hj, rfl⟩ := nI_of h0
    rw [nI_toInt hj] at c
    rw [nI_clamp hj]
    exact h j (by omega)
/-- good pages from v on, each w softer -/
def gpN (w : Int32) : Nat → Int32 → Nat
  | 0, _ => 0
  | d + 1, v => if v ≤ 50 then gpN w d (sbF v w) + 1 else 0
theorem gpN_le {w : Int32} : ∀ (d : Nat) (v : Int32), gpN w d v ≤ d
  | 0, _ => Nat.le_refl 0
  | d + 1, v => by
    show (if v ≤ 50 then gpN w d (sbF v w) + 1 else 0) ≤ d + 1
    split
    · have := gpN_le (w := w) d (sbF v w)
      omega
    · omega
theorem gp_step {w v : Int32} {k m t : Nat} (hk : k < m) (c : v ≤ 50) (h : k + gpN w (m - k) v = t) : k + 1 + gpN w (m - (k + 1)) (sbF v w) = t := by
  rw [show m - k = (m - (k + 1)) + 1 from by omega] at h
  have e : gpN w ((m - (k + 1)) + 1) v = gpN w (m - (k + 1)) (sbF v w) + 1 := if_pos c
  rw [e] at h
  omega
theorem gp_end {w v : Int32} {k m t : Nat} (c : ¬ v ≤ 50) (h : k + gpN w (m - k) v = t) : k = t := by
  have e : gpN w (m - k) v = 0 := by
    cases m - k with
    | zero => rfl
    | succ d => exact if_neg c
  omega
theorem gp_full {w v : Int32} {k m t : Nat} (hk : m ≤ k) (h : k + gpN w (m - k) v = t) : k = t := by
  rw [show m - k = 0 from by omega] at h
  exact h
/-- good pages of a quill for a hand -/
def gdN (lk : Int32 → Int32 → Bool) (w n b s : Int32) : Nat := if lk b n = true then gpN w 999 (sbF s w) else 0
theorem gdN_le {lk : Int32 → Int32 → Bool} {w n b s : Int32} : gdN lk w n b s ≤ 999 := by
  unfold gdN
  split
  · exact gpN_le _ _
  · omega
/-- in a whole life -/
def lfN (lk : Int32 → Int32 → Bool) (w n b s : Int32) (l : Nat) : Nat := min 999 (gdN lk w n b s + l / 5 * gdN lk w n b 0)
/-- crooked slits -/
def ckF (st : Int32) : Nat → Int64
  | 0 => 1000000000
  | n + 1 => ckF st n * st.toInt64 / 100
