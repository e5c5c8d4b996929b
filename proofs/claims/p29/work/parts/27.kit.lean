theorem cIn_into {f g : Nat → Int32} {n : Nat} (h : cIn f n) (h1 : ∀ i, i ≠ n → g i = f i) (h2 : ∃ c : Nat, c ≤ 9 ∧ g n = nI c) : cIn g (n + 1) := by
  intro i hi
  by_cases e : i = n
  · subst e
    exact h2
  · obtain ⟨k, hk, ek⟩ := h i (by omega)
    exact ⟨k, hk, (h1 i e).trans ek⟩
theorem cIn_row {f g : Nat → Int32} {n k : Nat} (h : cIn f n) (hk : k < n) (hg : cIn g k) : cIn (upd g k (f k)) (k + 1) := by
  obtain ⟨c, hc, e⟩ := h k hk
  rw [e]
  exact cIn_add hg hc
