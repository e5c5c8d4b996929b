/-! the world under a permutation of its cells; the twenty desks of the history -/
theorem xP_perm {D : va_G} {cl : List vw_C} {ws ws' : va_W} {H : Heap} (p : ws.Perm ws') (h : va_P D cl ws H) : va_P D cl ws' H := by
  intro k q hk
  obtain ⟨i, hi⟩ := List.getElem?_of_mem (p.mem_iff.mpr (List.mem_of_getElem? hk))
  exact h i q hi
theorem xD_iff {A : Nat → Prop} {ws : va_W} : va_D A ws ↔ (ws.map Prod.fst).Nodup ∧ ∀ q ∈ ws, A q.1 := by
  constructor
  · intro h
    refine ⟨?_, fun q hq => ?_⟩
    · rw [List.nodup_iff_pairwise_ne, List.pairwise_iff_getElem]
      intro i j hi hj hij e
      rw [List.length_map] at hi hj
      rw [List.getElem_map, List.getElem_map] at e
      have := h.1 i j _ _ (List.getElem?_eq_getElem hi) (List.getElem?_eq_getElem hj) e
      omega
    · obtain ⟨i, hi⟩ := List.getElem?_of_mem hq
      exact h.2 i q hi
  · intro h
    refine ⟨fun i j p q hp hq e => ?_, fun k q hk => h.2 q (List.mem_of_getElem? hk)⟩
    have hn := h.1
    rw [List.nodup_iff_pairwise_ne, List.pairwise_iff_getElem] at hn
    obtain ⟨hi, ei⟩ := List.getElem?_eq_some_iff.mp hp
    obtain ⟨hj, ej⟩ := List.getElem?_eq_some_iff.mp hq
    rcases Nat.lt_trichotomy i j with g | g | g
    · exact absurd (by rw [List.getElem_map, List.getElem_map, ei, ej]; exact e) (hn i j (by rw [List.length_map]; exact hi) (by rw [List.length_map]; exact hj) g)
    · exact g
    · exact absurd (by rw [List.getElem_map, List.getElem_map, ei, ej]; exact e.symm) (hn j i (by rw [List.length_map]; exact hj) (by rw [List.length_map]; exact hi) g)
theorem xD_perm {A : Nat → Prop} {ws ws' : va_W} (p : ws.Perm ws') (h : va_D A ws) : va_D A ws' :=
  xD_iff.mpr ⟨((p.map Prod.fst).nodup_iff).mp (xD_iff.mp h).1, fun q hq => (xD_iff.mp h).2 q (p.mem_iff.mpr hq)⟩
theorem x_rangeMap {α : Type} (X : List α) : (List.range X.length).filterMap (fun i => X[i]?) = X := by
  have h : (List.range X.length).map (fun i => X[i]?) = X.map some := by
    apply List.ext_getElem?
    intro i
    rw [List.getElem?_map, List.getElem?_map]
    by_cases hi : i < X.length
    · rw [List.getElem?_range hi, List.getElem?_eq_getElem hi]
      simp [hi]
    · rw [List.getElem?_eq_none (by rw [List.length_range]; omega), List.getElem?_eq_none (by omega)]
      rfl
  have h2 : (List.range X.length).filterMap (fun i => X[i]?) = ((List.range X.length).map (fun i => X[i]?)).filterMap id := by
    rw [List.filterMap_map]
    rfl
  rw [h2, h, List.filterMap_map]
  exact List.filterMap_some
theorem x_perm {α : Type} {X X' : List α} (is : List Nat) (hs : is.filterMap (fun i => X[i]?) = X') (hp : is.isPerm (List.range X.length) = true) : X.Perm X' := by
  have h := (List.isPerm_iff.mp hp).filterMap (fun i => X[i]?)
  rw [hs, x_rangeMap] at h
  exact h.symm
abbrev dskC : Type := Int32 × Int32 × (Nat → Nat → Int32)
def dskW (cI : ClassId) (o : Nat) (a : Nat → Nat) (x : dskC) : va_W := [(a 0, .inr (1, [.int x.1, .int x.2.1, .ref (a 1), .ref (a 2), .ref (a 3), .ref (a 4), .ref (a 5), .ref o])), (a 1, .inl (cI, 8, .inl (x.2.2 0))), (a 2, .inl (cI, 8, .inl (x.2.2 1))), (a 3, .inl (cI, 8, .inl (x.2.2 2))), (a 4, .inl (cI, 4, .inl (x.2.2 3))), (a 5, .inl (cI, 4, .inl (x.2.2 4)))]
def hisW (cI : ClassId) (o : Nat) (a : Nat → Nat → Nat) (c : Nat → dskC) : va_W := (List.range 20).flatMap (fun i => dskW cI o (a i) (c i))
def hisR (cI : ClassId) (o : Nat) (a : Nat → Nat → Nat) (c : Nat → dskC) (j : Nat) : va_W := ((List.range 20).erase j).flatMap (fun i => dskW cI o (a i) (c i))
theorem his_perm {cI : ClassId} {o : Nat} {a : Nat → Nat → Nat} {c : Nat → dskC} {j : Nat} (hj : j < 20) : (hisW cI o a c).Perm (dskW cI o (a j) (c j) ++ hisR cI o a c j) := by
  have h := (List.perm_cons_erase (List.mem_range.mpr hj)).flatMap_right (fun i => dskW cI o (a i) (c i))
  rw [List.flatMap_cons] at h
  exact h
theorem hisR_up {cI : ClassId} {o : Nat} {a : Nat → Nat → Nat} {c : Nat → dskC} {j : Nat} (x : dskC) : hisR cI o a (va_up c j x) j = hisR cI o a c j := by
  have h : ∀ i ∈ (List.range 20).erase j, dskW cI o (a i) (va_up c j x i) = dskW cI o (a i) (c i) := by
    intro i hi
    have hn : i ≠ j := (List.nodup_range.mem_erase_iff.mp hi).1
    simp [va_up, hn]
  unfold hisR
  rw [List.flatMap_def, List.flatMap_def, List.map_congr_left h]
/-- a new cell stands ahead of the tail -/
theorem tP_new {D : va_G} {cl : List vw_C} {X tl : va_W} {x : Nat × va_E} {H : Heap} (h : va_P D cl ((X ++ tl) ++ [x]) H) : va_P D cl ((X ++ [x]) ++ tl) H := xP_perm (by rw [List.append_assoc, List.append_assoc]; exact List.Perm.append_left X List.perm_append_comm) h
theorem tD_new {A : Nat → Prop} {X tl : va_W} {x : Nat × va_E} (h : va_D A ((X ++ tl) ++ [x])) : va_D A ((X ++ [x]) ++ tl) := xD_perm (by rw [List.append_assoc, List.append_assoc]; exact List.Perm.append_left X List.perm_append_comm) h
