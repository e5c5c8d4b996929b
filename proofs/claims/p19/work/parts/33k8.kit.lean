/-! by turns -/
def tsF (n : Nat) (st w : Int32) : Nat → Nat → Int32
  | 0 => fun _ => st
  | p + 1 => fun j => if j = p % n then sbF (tsF n st w p j) w else dsF (tsF n st w p j) 1
abbrev toP (n : Nat) (st w : Int32) : Prop := ∀ p, p < 20 → tsF n st w (p + 1) (p % n) ≤ 50
theorem ts_y {f : Nat → Int32} {n p k wr : Nat} {st w : Int32} (h : ∀ j, k ≤ j → j < n → f j = tsF n st w p j) (hk : k < n) (c : k = wr) (e : wr = p % n) : sbF (f k) w = tsF n st w (p + 1) k := by
  rw [h k (Nat.le_refl k) hk]
  exact (if_pos (c.trans e)).symm
theorem ts_n {f : Nat → Int32} {n p k wr : Nat} {st w : Int32} (h : ∀ j, k ≤ j → j < n → f j = tsF n st w p j) (hk : k < n) (c : ¬ k = wr) (e : wr = p % n) : dsF (f k) 1 = tsF n st w (p + 1) k := by
  rw [h k (Nat.le_refl k) hk]
  exact (if_neg (fun q => c (q.trans e.symm))).symm
theorem ts_up2 {f G : Nat → Int32} {k n : Nat} {v : Int32} (h : ∀ j, k ≤ j → j < n → f j = G j) : ∀ j, k + 1 ≤ j → j < n → upd f k v j = G j := fun j h1 h2 => (pk_un (by omega)).trans (h j (by omega) h2)
theorem to_s {n k : Nat} {st w : Int32} (h : ∀ p, p < k → tsF n st w (p + 1) (p % n) ≤ 50) (e : tsF n st w (k + 1) (k % n) ≤ 50) : ∀ p, p < k + 1 → tsF n st w (p + 1) (p % n) ≤ 50 := by
  intro p hp
  by_cases c : p = k
  · rw [c]; exact e
  · exact h p (by omega)
def fmP (P : Nat → Prop) (r : Int32) : Prop := (r = -1 ∧ ∀ m, 1 ≤ m → m ≤ 9 → ¬ P m) ∨ (∃ m : Nat, 1 ≤ m ∧ m ≤ 9 ∧ r = nI m ∧ P m ∧ ∀ i, 1 ≤ i → i < m → ¬ P i)
theorem fm_s {P : Nat → Prop} {k : Nat} (h : ∀ m, 1 ≤ m → m < k → ¬ P m) (e : ¬ P k) : ∀ m, 1 ≤ m → m < k + 1 → ¬ P m := by
  intro m h1 h2
  by_cases c : m = k
  · rw [c]; exact e
  · exact h m h1 (by omega)
theorem fmP_c {P Q : Nat → Prop} {r s : Int32} (e : ∀ m, P m ↔ Q m) (h : fmP P r) (k : fmP Q s) : r = s := by
  rcases h with ⟨h1, h2⟩ | ⟨m, m1, m9, h1, h2, h3⟩
  · rcases k with ⟨k1, k2⟩ | ⟨t, t1, t9, k1, k2, k3⟩
    · rw [h1, k1]
    · exact absurd ((e t).mpr k2) (h2 t t1 t9)
  · rcases k with ⟨k1, k2⟩ | ⟨t, t1, t9, k1, k2, k3⟩
    · exact absurd ((e m).mp h2) (k2 m m1 m9)
    · rcases Nat.lt_trichotomy m t with c | c | c
      · exact absurd ((e m).mp h2) (k3 m m1 c)
      · rw [h1, k1, c]
      · exact absurd ((e t).mpr k2) (h3 t t1 c)
def buP (nq nh : Nat) (q h : Int32) (P : Nat → Nat → Nat → Prop) (r : Int32) : Prop := (¬ (ixP q nq ∧ ixP h nh) ∧ r = -1000000001) ∨ ((ixP q nq ∧ ixP h nh) ∧ fmP (P q.toNatClampNeg h.toNatClampNeg) r)
theorem bu_y {nq nh j k : Nat} {P : Nat → Nat → Nat → Prop} {r : Int32} (c : ixP (nI j) nq) (d : ixP (nI k) nh) (hj : j < 2 ^ 31) (hk : k < 2 ^ 31) (h : fmP (P j k) r) : buP nq nh (nI j) (nI k) P r := by
  refine Or.inr ⟨⟨c, d⟩, ?_⟩
  rw [nI_clamp hj, nI_clamp hk]
  exact h
theorem L_turns {nq nh nq2 nh2 : Nat} {q h r s : Int32} {a b c d e f A B C A2 B2 C2 a2 a3 a4 a5 a6 : Nat → Int32} {mi cu : Int32} {E : DD} (hqq : nq = nq2) (hhh : nh = nh2) (hq : nq ≤ 8) (hh : nh ≤ 4) (hrw : rwR nq nh a b c d e f A B C A2 B2 C2) (hdk : dR nq nh (dk mi cu a2 a3 a4 a5 a6) E)
    (x : buP nq nh q h (fun j k m => lcB (a3 j) (f k) = true ∧ toP m (a4 j) (wrF (a j) (b j) (c j) (d k) (e k))) r) (y : buP nq2 nh2 q h (fun j k m => lmB (E (8 + j)) (C2 k) = true ∧ toP m (E (16 + j)) (wrF (A j) (B j) (C j) (A2 k) (B2 k))) s) : r = s := by
  subst hqq
  subst hhh
  rcases x with ⟨x1, x2⟩ | ⟨x1, x2⟩
  · rcases y with ⟨y1, y2⟩ | ⟨y1, y2⟩
    · rw [x2, y2]
    · exact absurd y1 x1
  · rcases y with ⟨y1, y2⟩ | ⟨y1, y2⟩
    · exact absurd x1 y1
    · refine fmP_c (fun m => ?_) x2 y2
      have hj := x_ixn x1.1 (by omega)
      have hk := x_ixn x1.2 (by omega)
      have e3 : a3 q.toNatClampNeg = E (8 + q.toNatClampNeg) := (dk_r3 (by omega)).symm.trans (hdk.1 _ (by unfold inD; omega))
      have e4 : a4 q.toNatClampNeg = E (16 + q.toNatClampNeg) := (dk_r4 (by omega)).symm.trans (hdk.1 _ (by unfold inD; omega))
      have b9 : bN 9 (a3 q.toNatClampNeg) := by
        have h9 := (hdk.2 _ hj).1
        rw [dk_r3 (by omega)] at h9
        exact h9
      have n9 := rw_n hrw _ hk
      dsimp only
      rw [bN_lk b9 n9.2, rw_W hrw _ _ hj hk, n9.1, e3, e4]
theorem tb_y {x n k : Nat} {L : Prop} {st w : Int32} (h : Hid (x = 1 ↔ (L ∧ ∀ p, p < k → tsF n st w (p + 1) (p % n) ≤ 50))) (c : x = 1) (e : tsF n st w (k + 1) (k % n) ≤ 50) : Hid (1 = 1 ↔ (L ∧ ∀ p, p < k + 1 → tsF n st w (p + 1) (p % n) ≤ 50)) := Hid.mk ⟨fun _ => ⟨(h.out.mp c).1, to_s (h.out.mp c).2 e⟩, fun _ => rfl⟩
theorem tb_x {x n k : Nat} {L : Prop} {st w : Int32} (h : Hid (x = 1 ↔ (L ∧ ∀ p, p < k → tsF n st w (p + 1) (p % n) ≤ 50))) (e : ¬ tsF n st w (k + 1) (k % n) ≤ 50) : Hid (0 = 1 ↔ (L ∧ ∀ p, p < k + 1 → tsF n st w (p + 1) (p % n) ≤ 50)) := Hid.mk ⟨fun q => absurd q (by decide), fun q => absurd (q.2 k (by omega)) e⟩
theorem tb_n {x n k : Nat} {L : Prop} {st w : Int32} (h : Hid (x = 1 ↔ (L ∧ ∀ p, p < k → tsF n st w (p + 1) (p % n) ≤ 50))) (c : x = 0) : Hid (0 = 1 ↔ (L ∧ ∀ p, p < k + 1 → tsF n st w (p + 1) (p % n) ≤ 50)) := Hid.mk ⟨fun q => absurd q (by decide), fun q => absurd (h.out.mpr ⟨q.1, fun p hp => q.2 p (by omega)⟩) (by omega)⟩
theorem tb_ret {x n k : Nat} {L : Prop} {st w : Int32} (h : Hid (x = 1 ↔ (L ∧ ∀ p, p < k → tsF n st w (p + 1) (p % n) ≤ 50))) (hk : k = 20) (hx : x ≤ 1) : (nI x = 1 ∧ (L ∧ toP n st w)) ∨ (nI x = 0 ∧ ¬ (L ∧ toP n st w)) := by
  rw [hk] at h
  rcases (show x = 0 ∨ x = 1 by omega) with rfl | rfl
  · exact Or.inr ⟨rfl, fun q => absurd (h.out.mpr q) (by decide)⟩
  · exact Or.inl ⟨rfl, h.out.mp rfl⟩
