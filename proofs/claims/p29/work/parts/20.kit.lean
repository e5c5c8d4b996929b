/-- a row of hardnesses by cooking: 0 to 9 each -/
def cIn (f : Nat → Int32) (n : Nat) : Prop := ∀ i, i < n → ∃ c : Nat, c ≤ 9 ∧ f i = nI c
theorem cIn_0 {f : Nat → Int32} : cIn f 0 := fun i hi => absurd hi (by omega)
theorem cIn_add {f : Nat → Int32} {n c : Nat} (h : cIn f n) (hc : c ≤ 9) : cIn (upd f n (nI c)) (n + 1) := by
  intro i hi
  by_cases e : i = n
  · subst e
    exact ⟨c, hc, pk_us⟩
  · obtain ⟨k, hk, ek⟩ := h i (by omega)
    exact ⟨k, hk, (pk_un e).trans ek⟩
theorem x_draw {sd : Nat} (h : sd ≤ 2147483647) {a b c : Int64} (ea : a = (nI sd).toInt64 * 1103515245) (eb : b = a + 12345) (ec : c = b - b / 2147483648 * 2147483648) : c.toInt32 = nI ((sd * 1103515245 + 12345) % 2147483648) := by
  rw [ec, eb, ea, nI_l (by omega)]
  have h1 : lN sd * 1103515245 = lN (sd * 1103515245) := lN_mul sd 1103515245
  have h2 : lN (sd * 1103515245) + 12345 = lN (sd * 1103515245 + 12345) := lN_add _ 12345
  have h3 : lN (sd * 1103515245 + 12345) - lN (sd * 1103515245 + 12345) / 2147483648 * 2147483648 = lN ((sd * 1103515245 + 12345) % 2147483648) := pk_lRem (a := sd * 1103515245 + 12345) (b := 2147483648) (by omega) (by omega) (by omega)
  rw [h1, h2, h3, lN_i]
