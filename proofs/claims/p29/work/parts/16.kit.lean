theorem x_minN {a b : Nat} (ha : a < 2 ^ 31) (hb : b < 2 ^ 31) : (if nI b < nI a then nI b else nI a) = nI (min a b) := by
  by_cases c : b < a
  · rw [if_pos ((nI_ltI hb ha).mpr c), Nat.min_eq_right (Nat.le_of_lt c)]
  · rw [if_neg (fun h => c ((nI_ltI hb ha).mp h)), Nat.min_eq_left (by omega)]
theorem x_maxN {a b : Nat} (ha : a < 2 ^ 31) (hb : b < 2 ^ 31) : (if nI a < nI b then nI b else nI a) = nI (max a b) := by
  by_cases c : a < b
  · rw [if_pos ((nI_ltI ha hb).mpr c), Nat.max_eq_right (Nat.le_of_lt c)]
  · rw [if_neg (fun h => c ((nI_ltI ha hb).mp h)), Nat.max_eq_left (by omega)]
/-- the bounds of the numbers of a clause -/
def gBL : Nat → Int32 := fun j => ([1, 1] : List Int32).getD j 0
def gBM : Nat → Int32 := fun j => ([20, 20] : List Int32).getD j 0
def gQL : Nat → Int32 := fun j => ([0, 1, 0, 0, 1] : List Int32).getD j 0
def gQM : Nat → Int32 := fun j => ([1, 5, 9, 99, 9] : List Int32).getD j 0
def gHL : Nat → Int32 := fun j => ([0, 1, 1] : List Int32).getD j 0
def gHM : Nat → Int32 := fun j => ([1, 9, 9] : List Int32).getD j 0
/-- a static row of ints of the reader's class -/
def xS1 (nm : String) (N : Nat) (g : Nat → Int32) (A : Nat → Prop) (U : State) (H : Heap) : Prop := ∃ (t : Nat), va_Z RX7 nm "[I" (.ref t) A U H ∧ va_T .int t N (fun j => .int (g j)) A U H
theorem xS1.moved {nm : String} {N : Nat} {g : Nat → Int32} {A : Nat → Prop} {u U : State} {H : Heap} (hvm : u.vm.Alike U.vm) (h : xS1 nm N g A u H) : xS1 nm N g A U H := by
  obtain ⟨t, h1, h2⟩ := h
  exact ⟨t, h1.moved hvm, h2.moved hvm⟩
theorem xS1.kept {nm : String} {N : Nat} {g : Nat → Int32} {A : Nat → Prop} {U : State} {H H1 : Heap} (h : xS1 nm N g A U H) (hq : ∀ a : Nat, a < H.size → ¬ A a → H1[a]? = H[a]?) : xS1 nm N g A U H1 := by
  obtain ⟨t, h1, h2⟩ := h
  exact ⟨t, h1.kept hq, h2.kept hq⟩
theorem xS1.narrow {nm : String} {N : Nat} {g : Nat → Int32} {A B : Nat → Prop} {U : State} {H : Heap} (h : xS1 nm N g A U H) (hAB : ∀ q, B q → A q) : xS1 nm N g B U H := by
  obtain ⟨t, h1, h2⟩ := h
  exact ⟨t, h1.narrow hAB, h2.narrow hAB⟩
def xS (A : Nat → Prop) (U : State) (H : Heap) : Prop := xS1 "BLADE_LEAST" 2 gBL A U H ∧ xS1 "BLADE_MOST" 2 gBM A U H ∧ xS1 "QUILL_LEAST" 5 gQL A U H ∧ xS1 "QUILL_MOST" 5 gQM A U H ∧ xS1 "HAND_LEAST" 3 gHL A U H ∧ xS1 "HAND_MOST" 3 gHM A U H
theorem xS.moved {A : Nat → Prop} {u U : State} {H : Heap} (hvm : u.vm.Alike U.vm) (h : xS A u H) : xS A U H := ⟨h.1.moved hvm, h.2.1.moved hvm, h.2.2.1.moved hvm, h.2.2.2.1.moved hvm, h.2.2.2.2.1.moved hvm, h.2.2.2.2.2.moved hvm⟩
theorem xS.kept {A : Nat → Prop} {U : State} {H H1 : Heap} (h : xS A U H) (hq : ∀ a : Nat, a < H.size → ¬ A a → H1[a]? = H[a]?) : xS A U H1 := ⟨h.1.kept hq, h.2.1.kept hq, h.2.2.1.kept hq, h.2.2.2.1.kept hq, h.2.2.2.2.1.kept hq, h.2.2.2.2.2.kept hq⟩
theorem xS.narrow {A B : Nat → Prop} {U : State} {H : Heap} (h : xS A U H) (hAB : ∀ q, B q → A q) : xS B U H := ⟨h.1.narrow hAB, h.2.1.narrow hAB, h.2.2.1.narrow hAB, h.2.2.2.1.narrow hAB, h.2.2.2.2.1.narrow hAB, h.2.2.2.2.2.narrow hAB⟩
theorem x_fitsZ {n : Nat} (h : n ≤ 1) : narrow .boolean (.int (nI n)) = .int (nI n) ∧ fits .boolean (.int (nI n)) = true := by
  rcases (show n = 0 ∨ n = 1 by omega) with rfl | rfl
  · exact ⟨rfl, rfl⟩
  · exact ⟨rfl, rfl⟩
