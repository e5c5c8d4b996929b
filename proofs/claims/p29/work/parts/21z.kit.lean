theorem x_b01 {n : Nat} (h : n ≤ 1) : nI n = 1 ∨ nI n = 0 := by
  rcases (show n = 0 ∨ n = 1 by omega) with rfl | rfl
  · exact Or.inr rfl
  · exact Or.inl rfl
/-- a row of numbers below m -/
def qLt (f : Nat → Int32) (n m : Nat) : Prop := ∀ i, i < n → ∃ j : Nat, j < m ∧ f i = nI j
theorem qLt_0 {f : Nat → Int32} {m : Nat} : qLt f 0 m := fun i hi => absurd hi (by omega)
theorem qLt_add {f : Nat → Int32} {n m j : Nat} (h : qLt f n m) (hj : j < m) : qLt (upd f n (nI j)) (n + 1) m := by
  intro i hi
  by_cases e : i = n
  · subst e
    exact ⟨j, hj, pk_us⟩
  · obtain ⟨k, hk, ek⟩ := h i (by omega)
    exact ⟨k, hk, (pk_un e).trans ek⟩
