/-- the two seeds among the images -/
def mIn (f : Nat → Int32) : Prop := (∃ k : Nat, k < 2 ^ 31 ∧ f 34 = nI k) ∧ ∃ k : Nat, k < 2 ^ 31 ∧ f 69 = nI k
theorem mIn_up {f : Nat → Int32} {j : Nat} {x : Int32} (h : mIn f) (h1 : 34 ≠ j) (h2 : 69 ≠ j) : mIn (upd f j x) := by
  obtain ⟨⟨a, ha, ea⟩, b, hb, eb⟩ := h
  exact ⟨⟨a, ha, (pk_un h1).trans ea⟩, b, hb, (pk_un h2).trans eb⟩
theorem mIn_s34 {f : Nat → Int32} {k : Nat} (h : mIn f) (hk : k < 2 ^ 31) : mIn (upd f 34 (nI k)) := ⟨⟨k, hk, pk_us⟩, by
  obtain ⟨_, b, hb, eb⟩ := h
  exact ⟨b, hb, (pk_un (by decide)).trans eb⟩⟩
theorem mIn_s69 {f : Nat → Int32} {k : Nat} (h : mIn f) (hk : k < 2 ^ 31) : mIn (upd f 69 (nI k)) := ⟨by
  obtain ⟨⟨a, ha, ea⟩, _⟩ := h
  exact ⟨a, ha, (pk_un (by decide)).trans ea⟩, k, hk, pk_us⟩
/-- the numbers of all ways -/
theorem x_N8 {n : Nat} (hn : n ≤ 4) : ∃ y : Nat, y ≤ 4096 ∧ (1 : Int32) <<< (nI (3 * n) &&& 31) = nI y := by
  rcases (show n = 0 ∨ n = 1 ∨ n = 2 ∨ n = 3 ∨ n = 4 by omega) with rfl | rfl | rfl | rfl | rfl
  · exact ⟨1, by decide, by decide⟩
  · exact ⟨8, by decide, by decide⟩
  · exact ⟨64, by decide, by decide⟩
  · exact ⟨512, by decide, by decide⟩
  · exact ⟨4096, by decide, by decide⟩
theorem x_N16 {n : Nat} (hn : n ≤ 4) : ∃ y : Nat, y ≤ 65536 ∧ (1 : Int32) <<< (nI (4 * n) &&& 31) = nI y := by
  rcases (show n = 0 ∨ n = 1 ∨ n = 2 ∨ n = 3 ∨ n = 4 by omega) with rfl | rfl | rfl | rfl | rfl
  · exact ⟨1, by decide, by decide⟩
  · exact ⟨16, by decide, by decide⟩
  · exact ⟨256, by decide, by decide⟩
  · exact ⟨4096, by decide, by decide⟩
  · exact ⟨65536, by decide, by decide⟩
