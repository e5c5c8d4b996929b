/-- the two seeds among the images -/
def mIn (f : Nat → Int32) : Prop := (∃ k : Nat, k < 2 ^ 31 ∧ f 34 = nI k) ∧ ∃ k : Nat, k < 2 ^ 31 ∧ f 69 = nI k
theorem mIn_up {f : Nat → Int32} {j : Nat} {x : Int32} (h : mIn f) (h1 : 34 ≠ j) (h2 : 69 ≠ j) : mIn (upd f j x) := by
  obtain ⟨⟨a, ha, ea⟩, b, hb, eb⟩ := h
  exact ⟨⟨a, ha, (pk_un h1).trans ea⟩, b, hb, (pk_un h2).trans eb⟩
theorem mIn_s34 {f : Nat → Int32} {k : Nat} (h : mIn f) (hk : k < 2 ^ 31) : mIn (upd f 34 (nI k)) := ⟨⟨k, hk, pk_us⟩, by
  obtain ⟨_, b, hb, eb⟩ := h
  exact ⟨b, hb, (pk_un (by decide)).trans eb⟩⟩
theorem mIn_s69 {f : Nat → Int32} {k : Nat} (h : mIn f) (hk : k < 2 ^ 31) : mIn (upd f 69 (nI k)) := ⟨by
  obtain ⟨⟨a, ha, ea⟩, _⟩ := h
  exact ⟨a, ha, (pk_un (by decide)).trans ea⟩, k, hk, pk_us⟩
