/-! which quill to whom: the first best of all ways; a way of k hands is a number of k figures (base 8), the first hand's the highest -/
def twT : Nat → Nat → Nat
  | 0, _ => 0
  | k + 1, p => twT k (p / 8) ||| 2 ^ (p % 8)
def twV (nq : Nat) : Nat → Nat → Bool
  | 0, _ => true
  | k + 1, p => twV nq k (p / 8) && (decide (p % 8 < nq) && !(twT k (p / 8)).testBit (p % 8))
def twS (G : Nat → Nat → Nat) : Nat → Nat → Nat
  | 0, _ => 0
  | k + 1, p => twS G k (p / 8) + G (p % 8) k
def twD : Nat → Nat → Nat → Nat
  | 0, _, _ => 0
  | k + 1, p, i => if i = k then p % 8 else twD k (p / 8) i
theorem tw_V {nq k p : Nat} : twV nq (k + 1) p = true ↔ (twV nq k (p / 8) = true ∧ p % 8 < nq ∧ (twT k (p / 8)).testBit (p % 8) = false) := by
  show (twV nq k (p / 8) && (decide (p % 8 < nq) && !(twT k (p / 8)).testBit (p % 8))) = true ↔ _
  by_cases h3 : p % 8 < nq
  · rw [decide_eq_true h3]
    cases h1 : twV nq k (p / 8) <;> cases h2 : (twT k (p / 8)).testBit (p % 8) <;> simp [h3]
  · rw [decide_eq_false h3]
    cases h1 : twV nq k (p / 8) <;> cases h2 : (twT k (p / 8)).testBit (p % 8) <;> simp [h3]
theorem tw_T : ∀ (k p : Nat), twT k p < 2 ^ 8
  | 0, _ => by
    show 0 < 2 ^ 8
    decide
  | k + 1, p => by
    show twT k (p / 8) ||| 2 ^ (p % 8) < 2 ^ 8
    exact Nat.or_lt_two_pow (tw_T k (p / 8)) (Nat.pow_lt_pow_right (by decide) (Nat.mod_lt _ (by decide)))
theorem tw_T8 {k p : Nat} : twT k p < 256 := tw_T k p
theorem tw_S {G : Nat → Nat → Nat} (hG : ∀ j k, G j k ≤ 999) : ∀ (k p : Nat), twS G k p ≤ 999 * k
  | 0, _ => Nat.le_refl 0
  | k + 1, p => by
    show twS G k (p / 8) + G (p % 8) k ≤ 999 * (k + 1)
    have h1 := tw_S hG k (p / 8)
    have h2 := hG (p % 8) k
    omega
theorem tw_S4 {G : Nat → Nat → Nat} {k p : Nat} (hG : ∀ j k, G j k ≤ 999) (hk : k ≤ 4) : twS G k p ≤ 4000 := by
  have h := tw_S hG k p
  omega
theorem tw_d {p j : Nat} (hj : j < 8) : (8 * p + j) / 8 = p := by omega
theorem tw_m {p j : Nat} (hj : j < 8) : (8 * p + j) % 8 = j := by omega
theorem tw_Vx {nq k p j : Nat} (hj : j < 8) : twV nq (k + 1) (8 * p + j) = true ↔ (twV nq k p = true ∧ j < nq ∧ (twT k p).testBit j = false) := by
  rw [tw_V, tw_d hj, tw_m hj]
theorem tw_Tx {k p j : Nat} (hj : j < 8) : twT (k + 1) (8 * p + j) = twT k p ||| 2 ^ j := by
  show twT k ((8 * p + j) / 8) ||| 2 ^ ((8 * p + j) % 8) = _
  rw [tw_d hj, tw_m hj]
theorem tw_Sx {G : Nat → Nat → Nat} {k p j : Nat} (hj : j < 8) : twS G (k + 1) (8 * p + j) = twS G k p + G j k := by
  show twS G k ((8 * p + j) / 8) + G ((8 * p + j) % 8) k = _
  rw [tw_d hj, tw_m hj]
theorem tw_Dx {k p j i : Nat} (hj : j < 8) : twD (k + 1) (8 * p + j) i = if i = k then j else twD k p i := by
  show (if i = k then (8 * p + j) % 8 else twD k ((8 * p + j) / 8) i) = _
  rw [tw_d hj, tw_m hj]
theorem tw_pf {nq k : Nat} : ∀ (m x : Nat), twV nq (k + m) x = true → twV nq k (x / 8 ^ m) = true
  | 0, x, h => by
    rw [Nat.pow_zero, Nat.div_one]
    exact h
  | m + 1, x, h => by
    have h1 := tw_pf m (x / 8) ((tw_V (k := k + m) (p := x)).mp h).1
    rw [Nat.div_div_eq_div_mul] at h1
    rw [Nat.pow_succ, Nat.mul_comm]
    exact h1
/-- a way that goes wrong at its first figures -/
theorem tw_bad {nq k n x : Nat} (hk : k ≤ n) (h : ¬ twV nq k (x / 8 ^ (n - k)) = true) : twV nq n x = false := by
  cases e : twV nq n x with
  | false => rfl
  | true => exact absurd (tw_pf (n - k) x (by rw [show k + (n - k) = n from by omega]; exact e)) h
/-- the first best of the ways below c -/
def twB (nq : Nat) (G : Nat → Nat → Nat) (n c : Nat) (b : Int32) (R : Nat → Prop) : Prop :=
  (b = -1 ∧ ∀ x, x < c → twV nq n x = false) ∨ (∃ K, K < c ∧ twV nq n K = true ∧ b = nI (twS G n K) ∧ (∀ x, x < c → twV nq n x = true → twS G n x ≤ twS G n K) ∧ (∀ x, x < K → twV nq n x = true → twS G n x < twS G n K) ∧ R K)
theorem tw_0 {nq : Nat} {G : Nat → Nat → Nat} {n c : Nat} {R : Nat → Prop} (hc : c = 0) : twB nq G n c (-1) R := Or.inl ⟨rfl, fun x hx => absurd hx (by omega)⟩
theorem tw_skip {nq : Nat} {G : Nat → Nat → Nat} {n c d : Nat} {b : Int32} {R : Nat → Prop} (hc : c ≤ d) (h : twB nq G n c b R) (e : ∀ x, c ≤ x → x < d → twV nq n x = false) : twB nq G n d b R := by
  rcases h with ⟨h1, h2⟩ | ⟨K, h1, h2, h3, h4, h5, h6⟩
  · refine Or.inl ⟨h1, fun x hx => ?_⟩
    rcases Nat.lt_or_ge x c with q | q
    · exact h2 x q
    · exact e x q hx
  · refine Or.inr ⟨K, by omega, h2, h3, fun x hx v => ?_, h5, h6⟩
    rcases Nat.lt_or_ge x c with q | q
    · exact h4 x q v
    · rw [e x q hx] at v
      exact absurd v (by decide)
theorem tw_neg {a : Nat} (h : a < 2 ^ 31) : (-1 : Int32) < nI a := by
  rw [fa_lt, nI_toInt h]
  have e : (-1 : Int32).toInt = -1 := by decide
  omega
theorem tw_no {nq : Nat} {G : Nat → Nat → Nat} {n c : Nat} {b : Int32} {R : Nat → Prop} (hs : ∀ x, twS G n x < 2 ^ 31) (h : twB nq G n c b R) (v : twV nq n c = true) (hb : ¬ b < nI (twS G n c)) : twB nq G n (c + 1) b R := by
  rcases h with ⟨h1, h2⟩ | ⟨K, h1, h2, h3, h4, h5, h6⟩
  · exact absurd (by rw [h1]; exact tw_neg (hs c)) hb
  · have hle : twS G n c ≤ twS G n K := by
      rcases Nat.lt_or_ge (twS G n K) (twS G n c) with q | q
      · exact absurd (by rw [h3]; exact (nI_ltI (hs K) (hs c)).mpr q) hb
      · exact q
    refine Or.inr ⟨K, by omega, h2, h3, fun x hx v => ?_, h5, h6⟩
    rcases (show x < c ∨ x = c by omega) with q | q
    · exact h4 x q v
    · rw [q]
      exact hle
theorem tw_yes {nq : Nat} {G : Nat → Nat → Nat} {n c : Nat} {b : Int32} {R Q : Nat → Prop} (hs : ∀ x, twS G n x < 2 ^ 31) (h : twB nq G n c b R) (v : twV nq n c = true) (hb : b < nI (twS G n c)) (hR : Q c) : twB nq G n (c + 1) (nI (twS G n c)) Q := by
  have hl : ∀ x, x < c → twV nq n x = true → twS G n x < twS G n c := by
    intro x hx w
    rcases h with ⟨h1, h2⟩ | ⟨K, h1, h2, h3, h4, h5, h6⟩
    · rw [h2 x hx] at w
      exact absurd w (by decide)
    · rw [h3] at hb
      exact Nat.lt_of_le_of_lt (h4 x hx w) ((nI_ltI (hs K) (hs c)).mp hb)
  refine Or.inr ⟨c, by omega, v, rfl, fun x hx w => ?_, hl, hR⟩
  rcases (show x < c ∨ x = c by omega) with q | q
  · exact Nat.le_of_lt (hl x q w)
  · rw [q]
    exact Nat.le_refl _
theorem tw_bad1 {nq : Nat} {G : Nat → Nat → Nat} {n c : Nat} {b : Int32} {R : Nat → Prop} (h : twB nq G n c b R) (v : twV nq n c = false) : twB nq G n (c + 1) b R := by
  refine tw_skip (by omega) h (fun x h1 h2 => ?_)
  rw [show x = c from by omega]
  exact v
theorem tw_uni {nq n c : Nat} {G F : Nat → Nat → Nat} {b d : Int32} {R Q : Nat → Prop} (e : ∀ x, twV nq n x = true → twS G n x = twS F n x) (h : twB nq G n c b R) (k : twB nq F n c d Q) : b = d ∧ ((∃ x, x < c ∧ twV nq n x = true) → ∃ x, x < c ∧ R x ∧ Q x) := by
  rcases h with ⟨h1, h2⟩ | ⟨K, h1, h2, h3, h4, h5, h6⟩
  · rcases k with ⟨k1, k2⟩ | ⟨L, k1, k2, k3, k4, k5, k6⟩
    · refine ⟨by rw [h1, k1], fun ⟨x, hx, v⟩ => ?_⟩
      rw [h2 x hx] at v
      exact absurd v (by decide)
    · rw [h2 L k1] at k2
      exact absurd k2 (by decide)
  · rcases k with ⟨k1, k2⟩ | ⟨L, k1, k2, k3, k4, k5, k6⟩
    · rw [k2 K h1] at h2
      exact absurd h2 (by decide)
    · have eK := e K h2
      have eL := e L k2
      have a1 := h4 L k1 k2
      have a2 := k4 K h1 h2
      rcases Nat.lt_trichotomy K L with q | q | q
      · have a3 := k5 K q h2
        omega
      · subst q
        exact ⟨by rw [h3, k3, eK], fun _ => ⟨K, h1, h6, k6⟩⟩
      · have a3 := h5 L q k2
        omega
theorem tw_Sc {nq : Nat} {G F : Nat → Nat → Nat} : ∀ (k p : Nat), (∀ j i, j < nq → i < k → G j i = F j i) → twV nq k p = true → twS G k p = twS F k p
  | 0, _, _, _ => rfl
  | k + 1, p, e, v => by
    obtain ⟨v1, v2, _⟩ := tw_V.mp v
    show twS G k (p / 8) + G (p % 8) k = twS F k (p / 8) + F (p % 8) k
    rw [tw_Sc k (p / 8) (fun j i hj hi => e j i hj (by omega)) v1, e (p % 8) k v2 (by omega)]
theorem tw_key : ∀ q : Nat, q < 9 → ∀ n : Nat, n < 5 → n ≤ q → ([0, 0, 1, 10, 83] : List Nat).getD n 0 < 8 ^ n ∧ twV q n (([0, 0, 1, 10, 83] : List Nat).getD n 0) = true := by decide +kernel
theorem tw_ex {nq n : Nat} (hq : nq ≤ 8) (hn : n ≤ nq) (h4 : n ≤ 4) : ∃ x, x < 8 ^ n ∧ twV nq n x = true := ⟨_, tw_key nq (by omega) n (by omega) hn⟩
/-! the class: depth first -/
def twR (n : Nat) (f : Nat → Int32) (K : Nat) : Prop := ∀ i, i < n → f i = nI (twD n K i)
theorem tw_bit0 : ∀ t : Nat, t < 256 → ∀ j : Nat, j < 8 → ((nI t &&& 1 <<< (nI j &&& 31) = 0) ↔ t.testBit j = false) := by decide +kernel
theorem tw_or0 : ∀ t : Nat, t < 256 → ∀ j : Nat, j < 8 → nI t ||| 1 <<< (nI j &&& 31) = nI (t ||| 2 ^ j) := by decide +kernel
theorem tw_has0 : ∀ t : Nat, t < 256 → ∀ j : Nat, j < 8 → nI t >>> (nI j &&& 31) &&& 1 = nI (if t.testBit j = true then 1 else 0) := by decide +kernel
theorem tw_p8 {n k : Nat} (hk : k < n) : 8 ^ (n - k) = 8 * 8 ^ (n - (k + 1)) := by
  rw [show n - k = (n - (k + 1)) + 1 from by omega, Nat.pow_succ, Nat.mul_comm]
theorem tw_st {nq : Nat} {G : Nat → Nat → Nat} {n k p : Nat} {b : Int32} {R : Nat → Prop} (hk : k < n) (h : twB nq G n (p * 8 ^ (n - k)) b R) : twB nq G n ((8 * p + 0) * 8 ^ (n - (k + 1))) b R := by
  rw [tw_p8 hk, ← Nat.mul_assoc, Nat.mul_comm p 8] at h
  exact h
theorem tw_sub {nq : Nat} {G : Nat → Nat → Nat} {n k a d : Nat} {b : Int32} {R : Nat → Prop} (hk : k < n) (had : a ≤ d) (h : twB nq G n (a * 8 ^ (n - (k + 1))) b R) (e : ∀ y, a ≤ y → y < d → ¬ twV nq (k + 1) y = true) : twB nq G n (d * 8 ^ (n - (k + 1))) b R := by
  refine tw_skip (Nat.mul_le_mul_right _ had) h (fun x h1 h2 => ?_)
  refine tw_bad (k := k + 1) (by omega) (e _ ?_ ?_)
  · exact (Nat.le_div_iff_mul_le (Nat.pow_pos (by decide))).mpr h1
  · exact (Nat.div_lt_iff_lt_mul (Nat.pow_pos (by decide))).mpr h2
/-- a quill that is taken already is passed over -/
theorem tw_tk {nq : Nat} {G : Nat → Nat → Nat} {n k p j t : Nat} {b : Int32} {R : Nat → Prop} (hk : k < n) (hj : j < 8) (ht : t = twT k p) (c : ¬ nI t &&& 1 <<< (nI j &&& 31) = 0) (h : twB nq G n ((8 * p + j) * 8 ^ (n - (k + 1))) b R) : twB nq G n ((8 * p + (j + 1)) * 8 ^ (n - (k + 1))) b R := by
  refine tw_sub hk (by omega) h (fun y h1 h2 v => ?_)
  rw [show y = 8 * p + j from by omega] at v
  refine c ((tw_bit0 t (by rw [ht]; exact tw_T8) j hj).mpr ?_)
  rw [ht]
  exact ((tw_Vx hj).mp v).2.2
theorem tw_fr {k p j t : Nat} (hj : j < 8) (ht : t = twT k p) (c : nI t &&& 1 <<< (nI j &&& 31) = 0) : (twT k p).testBit j = false := by
  rw [← ht]
  exact (tw_bit0 t (by rw [ht]; exact tw_T8) j hj).mp c
/-- behind the last quill -/
theorem tw_end {nq : Nat} {G : Nat → Nat → Nat} {n k p j : Nat} {b : Int32} {R : Nat → Prop} (hk : k < n) (hj : j = nq) (hq : nq ≤ 8) (h : twB nq G n ((8 * p + j) * 8 ^ (n - (k + 1))) b R) : twB nq G n ((p + 1) * 8 ^ (n - k)) b R := by
  have h1 := tw_sub (d := 8 * p + 8) hk (by omega) h (fun y h1 h2 v => by
    have h3 := (tw_V.mp v).2.1
    omega)
  rw [tw_p8 hk, ← Nat.mul_assoc, show (p + 1) * 8 = 8 * p + 8 from by omega]
  exact h1
theorem tw_j1 {nq : Nat} {G : Nat → Nat → Nat} {n k p j : Nat} {b : Int32} {R : Nat → Prop} (h : twB nq G n ((8 * p + j + 1) * 8 ^ (n - (k + 1))) b R) : twB nq G n ((8 * p + (j + 1)) * 8 ^ (n - (k + 1))) b R := h
theorem tw_tt {k p j t : Nat} (hj : j < 8) (h : t = twT k p) : t ||| 2 ^ j = twT (k + 1) (8 * p + j) := by
  rw [tw_Tx hj, h]
theorem tw_ss {G : Nat → Nat → Nat} {k p j s : Nat} (hj : j < 8) (h : s = twS G k p) : s + G j k = twS G (k + 1) (8 * p + j) := by
  rw [tw_Sx hj, h]
theorem tw_q4 {f : Nat → Int32} {k p j : Nat} (hj : j < 8) (h : ∀ i, i < k → f i = nI (twD k p i)) : ∀ i, i < k + 1 → upd f k (nI j) i = nI (twD (k + 1) (8 * p + j) i) := by
  intro i hi
  rw [tw_Dx hj]
  by_cases c : i = k
  · rw [c, pk_us, if_pos rfl]
  · rw [pk_un c, if_neg c]
    exact h i (by omega)
theorem tw_or {k p t j : Nat} {z : Int32} (hj : j < 8) (ht : t = twT k p) (e : z = nI t ||| 1 <<< (nI j &&& 31)) : z = nI (t ||| 2 ^ j) := e.trans (tw_or0 t (by rw [ht]; exact tw_T8) j hj)
theorem tw_add {s g : Nat} {a z : Int32} (ha : a = nI g) (e : z = nI s + a) : z = nI (s + g) := by
  rw [e, ha]
  exact nI_add s g
/-- all are given: kept, if it is more -/
theorem tw_keep {nq : Nat} {G : Nat → Nat → Nat} {n k p s : Nat} {b b1 : Int32} {f f1 f4 : Nat → Int32} (hG : ∀ j k, G j k ≤ 999) (hn : n ≤ 4) (hk : k = n) (h : twB nq G n (p * 8 ^ (n - k)) b (twR n f)) (v : twV nq k p = true) (hs : s = twS G k p) (hq : ∀ i, i < k → f4 i = nI (twD k p i)) (e1 : b1 = if b < nI s then nI s else b) (e2 : ∀ i, i < 4 → f1 i = if b < nI s then f4 i else f i) : twB nq G n ((p + 1) * 8 ^ (n - k)) b1 (twR n f1) := by
  subst hk
  subst hs
  rw [Nat.sub_self, Nat.pow_zero, Nat.mul_one] at h ⊢
  have hS : ∀ x, twS G k x < 2 ^ 31 := fun x => Nat.lt_of_le_of_lt (tw_S4 hG hn) (by decide)
  by_cases c : b < nI (twS G k p)
  · rw [if_pos c] at e1
    subst e1
    refine tw_yes hS h v c (fun i hi => ?_)
    rw [e2 i (by omega), if_pos c]
    exact hq i hi
  · rw [if_neg c] at e1
    subst e1
    have e3 : twR k f1 = twR k f := by
      funext K
      refine propext ⟨fun h9 i hi => ?_, fun h9 i hi => ?_⟩
      · rw [← h9 i hi, e2 i (by omega), if_neg c]
      · rw [← h9 i hi, e2 i (by omega), if_neg c]
    rw [e3]
    exact tw_no hS h v c
/-- the table of good pages -/
def twF (f : Nat → Int32) (G : Nat → Nat → Nat) (nq a b : Nat) : Prop := ∀ k j, (k < a ∨ (k = a ∧ j < b)) → j < nq → f (k * 8 + j) = nI (G j k)
theorem tw_f0 {f : Nat → Int32} {G : Nat → Nat → Nat} {nq : Nat} : twF f G nq 0 0 := fun k j h _ => absurd h (by omega)
theorem tw_f1 {f : Nat → Int32} {G : Nat → Nat → Nat} {nq a b w : Nat} (h : twF f G nq a b) (hq : nq ≤ 8) (hb : b < nq) (e : w = G b a) : twF (upd f (a * 8 + b) (nI w)) G nq a (b + 1) := by
  intro k j c hj
  by_cases d : k * 8 + j = a * 8 + b
  · have e1 : k = a := by omega
    have e2 : j = b := by omega
    rw [e1, e2, pk_us, e]
  · rw [pk_un d]
    refine h k j ?_ hj
    rcases c with c | ⟨c1, c2⟩
    · exact Or.inl c
    · refine Or.inr ⟨c1, ?_⟩
      have : j ≠ b := fun q => d (by rw [c1, q])
      omega
theorem tw_f2 {f : Nat → Int32} {G : Nat → Nat → Nat} {nq a b : Nat} (h : twF f G nq a b) (hb : b = nq) : twF f G nq (a + 1) 0 := by
  intro k j c hj
  refine h k j ?_ hj
  omega
theorem tw_f3 {f : Nat → Int32} {G : Nat → Nat → Nat} {nq nh a : Nat} (h : twF f G nq a 0) (ha : a = nh) : ∀ k j, k < nh → j < nq → f (k * 8 + j) = nI (G j k) := fun k j hk hj => h k j (Or.inl (by omega)) hj
theorem tw_b0 {nq : Nat} {G : Nat → Nat → Nat} {n m : Nat} {R : Nat → Prop} : twB nq G n (0 * m) (-1) R := tw_0 (Nat.zero_mul m)
theorem tw_fin {nq : Nat} {G : Nat → Nat → Nat} {n : Nat} {b : Int32} {R : Nat → Prop} (h : twB nq G n ((0 + 1) * 8 ^ (n - 0)) b R) : twB nq G n (8 ^ n) b R := by
  rw [Nat.zero_add, Nat.one_mul, Nat.sub_zero] at h
  exact h
/-! the reference: all numbers in their order -/
def fgF (a n k : Int32) : Int32 := a >>> ((3 * (n - 1 - k)) &&& 31) &&& 7
theorem fg_nat {c n i : Nat} (hc : c < 2 ^ 31) (hn : n ≤ 4) (hi : i < n) : fgF (nI c) (nI n) (nI i) = nI (c / 8 ^ (n - (i + 1)) % 8) := by
  unfold fgF
  have e1 : (3 : Int32) * (nI n - 1 - nI i) = nI (3 * (n - (i + 1))) := by
    rw [show (1 : Int32) = nI 1 from rfl, pk_sub (by omega), pk_sub (by omega), show (3 : Int32) = nI 3 from rfl, pk_mul]
    congr 2
    omega
  rw [e1]
  have key : ∀ m : Nat, m < 4 → ((nI (3 * m) &&& 31).toBitVec.smod 32).toNat = 3 * m := by decide +kernel
  rw [pk_shrN hc _ (3 * (n - (i + 1))) (key _ (by omega)), pk_andN (Nat.lt_of_le_of_lt (Nat.div_le_self _ _) (Nat.lt_trans hc (by decide))) 3 (by decide), Nat.pow_mul]
theorem tw_D : ∀ (n c i : Nat), i < n → twD n c i = c / 8 ^ (n - (i + 1)) % 8
  | 0, _, _, h => absurd h (by omega)
  | n + 1, c, i, h => by
    show (if i = n then c % 8 else twD n (c / 8) i) = _
    by_cases d : i = n
    · rw [if_pos d, show n + 1 - (i + 1) = 0 from by omega, Nat.pow_zero, Nat.div_one]
    · rw [if_neg d, tw_D n (c / 8) i (by omega), Nat.div_div_eq_div_mul, show n + 1 - (i + 1) = (n - (i + 1)) + 1 from by omega, Nat.pow_succ, Nat.mul_comm]
theorem fg_D {c n i : Nat} (hc : c < 2 ^ 31) (hn : n ≤ 4) (hi : i < n) : fgF (nI c) (nI n) (nI i) = nI (twD n c i) := by
  rw [fg_nat hc hn hi, tw_D n c i hi]
/-- the figures of a number, one by one: can it be, what is taken, the pages together -/
def twI (nq : Nat) (G : Nat → Nat → Nat) (n c h can : Nat) (t s : Int32) : Prop :=
  (can = 1 ∧ twV nq h (c / 8 ^ (n - h)) = true ∧ t = nI (twT h (c / 8 ^ (n - h))) ∧ s = nI (twS G h (c / 8 ^ (n - h)))) ∨ (can = 0 ∧ twV nq n c = false)
theorem tw_i0 {nq : Nat} {G : Nat → Nat → Nat} {n c : Nat} : twI nq G n c 0 1 0 0 := Or.inl ⟨rfl, rfl, rfl, rfl⟩
theorem tw_i1 {nq : Nat} {G : Nat → Nat → Nat} {n c h can : Nat} {t s : Int32} (k : twI nq G n c h can t s) (d : ¬ can = 0) : twV nq h (c / 8 ^ (n - h)) = true ∧ t = nI (twT h (c / 8 ^ (n - h))) ∧ s = nI (twS G h (c / 8 ^ (n - h))) := by
  rcases k with ⟨_, k⟩ | ⟨k, _⟩
  · exact k
  · exact absurd k d
theorem tw_i8 {n c h : Nat} (hh : h < n) : c / 8 ^ (n - h) = c / 8 ^ (n - (h + 1)) / 8 := by
  rw [Nat.div_div_eq_div_mul, tw_p8 hh, Nat.mul_comm]
theorem tw_iy {nq : Nat} {G : Nat → Nat → Nat} {n c h w g : Nat} {t s : Int32} (hh : h < n) (k : twV nq h (c / 8 ^ (n - h)) = true ∧ t = nI (twT h (c / 8 ^ (n - h))) ∧ s = nI (twS G h (c / 8 ^ (n - h)))) (ew : w = c / 8 ^ (n - (h + 1)) % 8) (hw : w < nq) (hb : ¬ (twT h (c / 8 ^ (n - h))).testBit w = true) (eg : g = G w h) : twI nq G n c (h + 1) 1 (t ||| 1 <<< (nI w &&& 31)) (s + nI g) := by
  obtain ⟨k1, k2, k3⟩ := k
  have h8 : w < 8 := by rw [ew]; exact Nat.mod_lt _ (by decide)
  refine Or.inl ⟨rfl, ?_, ?_, ?_⟩
  · refine tw_V.mpr ⟨?_, ?_, ?_⟩
    · rw [← tw_i8 hh]
      exact k1
    · rw [← ew]
      exact hw
    · rw [← tw_i8 hh, ← ew]
      exact Bool.eq_false_iff.mpr hb
  · rw [k2, tw_or0 _ tw_T8 _ h8]
    show _ = nI (twT h (c / 8 ^ (n - (h + 1)) / 8) ||| 2 ^ (c / 8 ^ (n - (h + 1)) % 8))
    rw [← tw_i8 hh, ← ew]
  · rw [k3, nI_add, eg]
    show _ = nI (twS G h (c / 8 ^ (n - (h + 1)) / 8) + G (c / 8 ^ (n - (h + 1)) % 8) h)
    rw [← tw_i8 hh, ← ew]
theorem tw_in {nq : Nat} {G : Nat → Nat → Nat} {n c h w : Nat} {t s : Int32} (hh : h < n) (ew : w = c / 8 ^ (n - (h + 1)) % 8) (hb : ¬ w < nq ∨ (twT h (c / 8 ^ (n - h))).testBit w = true) : twI nq G n c (h + 1) 0 t s := by
  refine Or.inr ⟨rfl, tw_bad (k := h + 1) (by omega) (fun v => ?_)⟩
  obtain ⟨_, v2, v3⟩ := tw_V.mp v
  rw [← ew] at v2
  rw [← tw_i8 hh, ← ew] at v3
  rcases hb with hb | hb
  · exact hb v2
  · rw [hb] at v3
    exact absurd v3 (by decide)
theorem tw_ie {nq : Nat} {G : Nat → Nat → Nat} {n c h can : Nat} {t s : Int32} (k : twI nq G n c h can t s) (d : ¬ can = 0) (hh : h = n) : twV nq n c = true ∧ s = nI (twS G n c) := by
  subst hh
  obtain ⟨k1, _, k3⟩ := tw_i1 k d
  rw [Nat.sub_self, Nat.pow_zero, Nat.div_one] at k1 k3
  exact ⟨k1, k3⟩
theorem tw_if {nq : Nat} {G : Nat → Nat → Nat} {n c h can : Nat} {t s : Int32} (k : twI nq G n c h can t s) (d : can = 0) : twV nq n c = false := by
  rcases k with ⟨k, _⟩ | ⟨_, k⟩
  · omega
  · exact k
theorem tw_oy {nq : Nat} {G : Nat → Nat → Nat} {n c h can : Nat} {b g t s : Int32} (hG : ∀ j k, G j k ≤ 999) (hn : n ≤ 4) (B : twB nq G n c b (fun K => g = nI K)) (k : twI nq G n c h can t s) (d : ¬ can = 0) (hh : h = n) (e : b < s) : twB nq G n (c + 1) s (fun K => nI c = nI K) := by
  obtain ⟨v, es⟩ := tw_ie k d hh
  subst es
  exact tw_yes (fun x => Nat.lt_of_le_of_lt (tw_S4 hG hn) (by decide)) B v e rfl
theorem tw_on {nq : Nat} {G : Nat → Nat → Nat} {n c h can : Nat} {b g t s : Int32} (hG : ∀ j k, G j k ≤ 999) (hn : n ≤ 4) (B : twB nq G n c b (fun K => g = nI K)) (k : twI nq G n c h can t s) (d : ¬ can = 0) (hh : h = n) (e : ¬ b < s) : twB nq G n (c + 1) b (fun K => g = nI K) := by
  obtain ⟨v, es⟩ := tw_ie k d hh
  subst es
  exact tw_no (fun x => Nat.lt_of_le_of_lt (tw_S4 hG hn) (by decide)) B v e
theorem tw_of {nq : Nat} {G : Nat → Nat → Nat} {n c h can : Nat} {b g t s : Int32} (B : twB nq G n c b (fun K => g = nI K)) (k : twI nq G n c h can t s) (d : can = 0) : twB nq G n (c + 1) b (fun K => g = nI K) := tw_bad1 B (tw_if k d)
theorem tw_hy {t j w : Nat} (ht : t < 256) (hj : j < 8) (hw : w < 2) (e : nI t >>> (nI j &&& 31) &&& 1 = nI w) (c : w = 1) : t.testBit j = true := by
  rw [tw_has0 t ht j hj, c] at e
  by_cases d : t.testBit j = true
  · exact d
  · rw [if_neg d] at e
    exact absurd e (by decide)
theorem tw_hn {t j w : Nat} (ht : t < 256) (hj : j < 8) (hw : w < 2) (e : nI t >>> (nI j &&& 31) &&& 1 = nI w) (c : ¬ w = 1) : ¬ t.testBit j = true := by
  intro d
  rw [tw_has0 t ht j hj, if_pos d] at e
  exact c ((nI_eq (by omega) (by omega)).mp e).symm
theorem tw_N8 {n : Nat} (hn : n ≤ 4) : ∃ y : Nat, y ≤ 4096 ∧ y = 8 ^ n ∧ (1 : Int32) <<< (nI (3 * n) &&& 31) = nI y := by
  rcases (show n = 0 ∨ n = 1 ∨ n = 2 ∨ n = 3 ∨ n = 4 by omega) with rfl | rfl | rfl | rfl | rfl
  · exact ⟨1, by decide, by decide, by decide⟩
  · exact ⟨8, by decide, by decide, by decide⟩
  · exact ⟨64, by decide, by decide, by decide⟩
  · exact ⟨512, by decide, by decide, by decide⟩
  · exact ⟨4096, by decide, by decide, by decide⟩
/-! what it answers, side by side -/
def twO (nq nh : Nat) (G : Nat → Nat → Nat) (q r : Int32) : Prop := (¬ (q = -1 ∨ ixP q nh) ∧ r = -1000000001) ∨ ((q = -1 ∨ ixP q nh) ∧ nq < nh ∧ r = -1) ∨ ((q = -1 ∨ ixP q nh) ∧ nh ≤ nq ∧ ∃ (b : Int32) (R : Nat → Prop), twB nq G nh (8 ^ nh) b R ∧ ((q = -1 ∧ r = b) ∨ (¬ q = -1 ∧ ∀ K, K < 8 ^ nh → R K → r = nI (twD nh K q.toNatClampNeg))))
theorem two_u {nq nh : Nat} {G : Nat → Nat → Nat} {q : Int32} (c : ¬ q = -1) (d : ¬ ixP q nh) : twO nq nh G q (-1000000001) := Or.inl ⟨fun h => by rcases h with h | h; exact c h; exact d h, rfl⟩
theorem two_f {nq nh : Nat} {G : Nat → Nat → Nat} {q : Int32} (c : q = -1 ∨ ixP q nh) (d : nq < nh) : twO nq nh G q (-1) := Or.inr (Or.inl ⟨c, d, rfl⟩)
theorem two_n {nq nh : Nat} {G : Nat → Nat → Nat} {q b : Int32} {R : Nat → Prop} (c : q = -1) (d : nh ≤ nq) (B : twB nq G nh (8 ^ nh) b R) : twO nq nh G q b := Or.inr (Or.inr ⟨Or.inl c, d, b, R, B, Or.inl ⟨c, rfl⟩⟩)
theorem two_y {nq nh j : Nat} {G : Nat → Nat → Nat} {r b : Int32} {R : Nat → Prop} (c : ixP (nI j) nh) (hj : j < 4) (d : nh ≤ nq) (B : twB nq G nh (8 ^ nh) b R) (e : ∀ K, K < 8 ^ nh → R K → r = nI (twD nh K j)) : twO nq nh G (nI j) r := by
  refine Or.inr (Or.inr ⟨Or.inr c, d, b, R, B, Or.inr ⟨fun h => ?_, ?_⟩⟩)
  · have h1 := c.1
    rw [h] at h1
    exact absurd h1 (by decide)
  · rw [nI_clamp (by omega)]
    exact e
theorem two_c {nq nh : Nat} {G F : Nat → Nat → Nat} {q r s : Int32} (hq : nq ≤ 8) (hh : nh ≤ 4) (eG : ∀ j k, j < nq → k < nh → G j k = F j k) (x : twO nq nh G q r) (y : twO nq nh F q s) : r = s := by
  rcases x with ⟨x1, x2⟩ | ⟨x1, x2, x3⟩ | ⟨x1, x2, b1, R1, x3, x4⟩
  · rcases y with ⟨y1, y2⟩ | ⟨y1, y2, y3⟩ | ⟨y1, y2, b2, R2, y3, y4⟩
    · rw [x2, y2]
    · exact absurd y1 x1
    · exact absurd y1 x1
  · rcases y with ⟨y1, y2⟩ | ⟨y1, y2, y3⟩ | ⟨y1, y2, b2, R2, y3, y4⟩
    · exact absurd x1 y1
    · rw [x3, y3]
    · exact absurd x2 (Nat.not_lt.mpr y2)
  · rcases y with ⟨y1, y2⟩ | ⟨y1, y2, y3⟩ | ⟨y1, y2, b2, R2, y3, y4⟩
    · exact absurd x1 y1
    · exact absurd y2 (Nat.not_lt.mpr x2)
    · obtain ⟨u1, u2⟩ := tw_uni (fun x v => tw_Sc nh x eG v) x3 y3
      rcases x4 with ⟨x4, x5⟩ | ⟨x4, x5⟩
      · rcases y4 with ⟨y4, y5⟩ | ⟨y4, y5⟩
        · rw [x5, y5, u1]
        · exact absurd x4 y4
      · rcases y4 with ⟨y4, y5⟩ | ⟨y4, y5⟩
        · exact absurd y4 x4
        · obtain ⟨K, hK, r1, r2⟩ := u2 (tw_ex hq x2 hh)
          rw [x5 K hK r1, y5 K hK r2]
theorem L_whom {nq nh nq2 nh2 : Nat} {q r s : Int32} {a b c d e f A B C A2 B2 C2 a2 a3 a4 a5 a6 : Nat → Int32} {mi cu : Int32} {E : DD} (hqq : nq = nq2) (hhh : nh = nh2) (hq : nq ≤ 8) (hh : nh ≤ 4) (hrw : rwR nq nh a b c d e f A B C A2 B2 C2) (hdk : dR nq nh (dk mi cu a2 a3 a4 a5 a6) E)
    (x : twO nq nh (fun j k => gdM lcB (wrF (a j) (b j) (c j) (d k) (e k)) (f k) (a3 j) (a4 j) 999) q r) (y : twO nq2 nh2 (fun j k => gdM lmB (wrF (A j) (B j) (C j) (A2 k) (B2 k)) (C2 k) (E (8 + j)) (E (16 + j)) 999) q s) : r = s := by
  subst hqq
  subst hhh
  refine two_c hq hh (fun j k hj hk => ?_) x y
  have e4 : a4 j = E (16 + j) := (dk_r4 (by omega)).symm.trans (hdk.1 _ (by unfold inD; omega))
  exact (gd_c hrw hdk hq hh hj hk (a4 j)).trans (by rw [e4])
theorem tw_31 {n K : Nat} (hn : n ≤ 4) (h : K < 8 ^ n) : K < 2 ^ 31 := Nat.lt_of_lt_of_le h (Nat.le_trans (Nat.pow_le_pow_right (by decide) hn) (by decide))
