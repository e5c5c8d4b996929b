/-- a row of seeds -/
def sIn (f : Nat → Int32) : Prop := ∀ i, i < 2 → ∃ k : Nat, k < 2 ^ 31 ∧ f i = nI k
theorem sIn_up {f : Nat → Int32} {j k : Nat} (h : sIn f) (hk : k < 2 ^ 31) : sIn (upd f j (nI k)) := by
  intro i hi
  by_cases e : i = j
  · subst e
    exact ⟨k, hk, pk_us⟩
  · obtain ⟨q, hq, eq⟩ := h i hi
    exact ⟨q, hq, (pk_un e).trans eq⟩
theorem x_mask31 (x : Int64) : ∃ k : Nat, k < 2 ^ 31 ∧ (x &&& 2147483647).toInt32 = nI k := by
  refine ⟨(x.toBitVec &&& 2147483647#64).toNat, ?_, ?_⟩
  · rw [BitVec.toNat_and]
    have h : (2147483647#64).toNat = 2 ^ 31 - 1 := by decide
    rw [h, Nat.and_two_pow_sub_one_eq_mod]
    exact Nat.mod_lt _ (by decide)
  · apply Int32.toBitVec_inj.1
    apply BitVec.eq_of_toNat_eq
    have h1 : ((x &&& 2147483647).toInt32).toBitVec = ((x.toBitVec &&& 2147483647#64)).signExtend 32 := rfl
    have h2 : (nI (x.toBitVec &&& 2147483647#64).toNat).toBitVec = BitVec.ofNat 32 (x.toBitVec &&& 2147483647#64).toNat := rfl
    rw [h1, h2]
    simp [BitVec.toNat_signExtend]
theorem x_ge0 {i : Int32} {m : Nat} (hm : m < 2 ^ 31) (h : (-1) ≤ i ∧ i ≤ nI m) (c : ¬ i = (-1)) : ∃ k : Nat, k ≤ m ∧ i = nI k := by
  have h1 : ((-1 : Int32)).toInt = -1 := by decide
  have h2 := h.1
  rw [fa_le, h1] at h2
  rw [fa_eq, h1] at c
  have h0 : ¬ i < 0 := by
    rw [fa_lt, x_toInt0]
    omega
  obtain ⟨k, hk, rfl⟩ := nI_of h0
  exact ⟨k, (nI_leI hk hm).mp h.2, rfl⟩
theorem x_pos0 {p : Int32} (c : ¬ p ≤ 0) : ¬ p = 0 := fun e => c (by rw [e]; decide)
