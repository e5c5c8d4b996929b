/-! keep and goBack: the images, side by side -/
def kpS (q : Int32) (sd : Nat) (f : Nat → Int32) : Nat → Int32 := if 0 ≤ q ∧ q ≤ 1 then upd f q.toNatClampNeg (nI sd) else f
def kpM (q : Int32) (now : DD) (sd : Nat) (g : DD) : DD := fun i => if q = 0 then (if i < 34 then now i else if i = 34 then nI sd else g i) else if q = 1 then (if 35 ≤ i ∧ i < 69 then now (i - 35) else if i = 69 then nI sd else g i) else g i
abbrev goP (q : Int32) (f : Nat → Int32) : Prop := (0 ≤ q ∧ q ≤ 1) ∧ ¬ f q.toNatClampNeg = 0
theorem kp_step {f g now : DD} {b k x : Nat} (hx : x = b + k) (h : ∀ i, f i = if b ≤ i ∧ i < b + k then now (i - b) else g i) : ∀ i, upd f x (now k) i = if b ≤ i ∧ i < b + (k + 1) then now (i - b) else g i := by
  intro i
  subst hx
  by_cases c : i = b + k
  · subst c
    have e : (if b ≤ b + k ∧ b + k < b + (k + 1) then now (b + k - b) else g (b + k)) = now (b + k - b) := if_pos ⟨by omega, by omega⟩
    rw [pk_us, e, show b + k - b = k from by omega]
  · rw [pk_un c, h i]
    by_cases d : b ≤ i ∧ i < b + k
    · have d' : b ≤ i ∧ i < b + (k + 1) := ⟨d.1, by omega⟩
      exact (if_pos d).trans (if_pos d').symm
    · have d' : ¬ (b ≤ i ∧ i < b + (k + 1)) := fun e => d ⟨e.1, by omega⟩
      exact (if_neg d).trans (if_neg d').symm
theorem kpM_0 {f g now : DD} {sd : Nat} (h : ∀ i, f i = if 0 ≤ i ∧ i < 0 + 34 then now (i - 0) else g i) : ∀ i, upd f 34 (nI sd) i = kpM 0 now sd g i := by
  intro i
  have e0 : kpM 0 now sd g i = (if i < 34 then now i else if i = 34 then nI sd else g i) := if_pos rfl
  rw [e0]
  by_cases c : i = 34
  · have d : ¬ i < 34 := by omega
    rw [if_neg d, if_pos c, c]
    exact pk_us
  · rw [pk_un c, h i]
    by_cases d : i < 34
    · have d' : 0 ≤ i ∧ i < 0 + 34 := ⟨by omega, by omega⟩
      rw [if_pos d', if_pos d]
      exact congrArg now (Nat.sub_zero i)
    · have d' : ¬ (0 ≤ i ∧ i < 0 + 34) := fun e => d (by omega)
      rw [if_neg d', if_neg d, if_neg c]
theorem kpM_1 {f g now : DD} {sd : Nat} (h : ∀ i, f i = if 35 ≤ i ∧ i < 35 + 34 then now (i - 35) else g i) : ∀ i, upd f 69 (nI sd) i = kpM 1 now sd g i := by
  intro i
  have e0 : kpM 1 now sd g i = (if 35 ≤ i ∧ i < 69 then now (i - 35) else if i = 69 then nI sd else g i) := (if_neg (by decide)).trans (if_pos rfl)
  rw [e0]
  by_cases c : i = 69
  · have d : ¬ (35 ≤ i ∧ i < 69) := by omega
    rw [if_neg d, if_pos c, c]
    exact pk_us
  · rw [pk_un c, h i]
    by_cases d : 35 ≤ i ∧ i < 69
    · have d' : 35 ≤ i ∧ i < 35 + 34 := ⟨d.1, by omega⟩
      exact (if_pos d').trans (if_pos d).symm
    · have d' : ¬ (35 ≤ i ∧ i < 35 + 34) := fun e => d ⟨e.1, by omega⟩
      exact (if_neg d').trans ((if_neg d).trans (if_neg c)).symm
theorem kpM_n {q : Int32} {g now : DD} {sd : Nat} (h : ¬ (0 ≤ q ∧ q ≤ 1)) : ∀ i, g i = kpM q now sd g i := by
  intro i
  have h0 : ¬ q = 0 := fun e => h (by rw [e]; decide)
  have h1 : ¬ q = 1 := fun e => h (by rw [e]; decide)
  exact ((if_neg h0).trans (if_neg h1)).symm
theorem gb_step {f g h : DD} {b k x : Nat} (hx : x = b + k) (hf : ∀ i, f i = if i < k then g (b + i) else h i) : ∀ i, upd f k (g x) i = if i < k + 1 then g (b + i) else h i := by
  intro i
  subst hx
  by_cases c : i = k
  · have d : i < k + 1 := by omega
    rw [if_pos d, c]
    exact pk_us
  · rw [pk_un c, hf i]
    by_cases d : i < k
    · have d' : i < k + 1 := by omega
      rw [if_pos d, if_pos d']
    · have d' : ¬ i < k + 1 := by omega
      rw [if_neg d, if_neg d']
def imR (nq nh : Nat) (i1 i2 : Nat → Int32) (T V g : DD) : Prop := (¬ i2 0 = 0 → dR nq nh T g ∧ i1 0 = g 34) ∧ (¬ i2 1 = 0 → dR nq nh V (fun i => g (35 + i)) ∧ i1 1 = g 69)
theorem imR_0 {nq nh : Nat} {i1 i2 : Nat → Int32} {T V g : DD} (h : ∀ j, j < 2 → i2 j = 0) : imR nq nh i1 i2 T V g := ⟨fun c => absurd (h 0 (by decide)) c, fun c => absurd (h 1 (by decide)) c⟩
theorem imR_c {nq nh : Nat} {i1 i2 j2 : Nat → Int32} {T V g : DD} (h : imR nq nh i1 i2 T V g) (e : ∀ j, j < 2 → j2 j = i2 j) : imR nq nh i1 j2 T V g := ⟨fun c => h.1 (by rw [← e 0 (by decide)]; exact c), fun c => h.2 (by rw [← e 1 (by decide)]; exact c)⟩
theorem x_01n {q : Int32} (h : 0 ≤ q ∧ q ≤ 1) : q.toNatClampNeg < 2 := by
  rcases x_01 h with rfl | rfl <;> decide
theorem imR_keep {nq nh sd : Nat} {q : Int32} {i1 i2 j1 j2 : Nat → Int32} {T V g D E T1 V1 g1 : DD} (h : imR nq nh i1 i2 T V g) (hq : nq ≤ 8) (hh : nh ≤ 4) (hR : dR nq nh D E) (t1 : j1 = kpS q sd i1) (t2 : j2 = keptT q i2) (t3 : ∀ i, i < 34 → T1 i = if q = 0 then D i else T i) (t4 : ∀ i, i < 34 → V1 i = if q = 1 then D i else V i) (t5 : ∀ i, g1 i = kpM q E sd g i) : imR nq nh j1 j2 T1 V1 g1 := by
  by_cases c : 0 ≤ q ∧ q ≤ 1
  · rw [show kpS q sd i1 = upd i1 q.toNatClampNeg (nI sd) from if_pos c] at t1
    rw [show keptT q i2 = upd i2 q.toNatClampNeg 1 from if_pos c] at t2
    rcases x_01 c with rfl | rfl
    · have e1 : j1 = upd i1 0 (nI sd) := t1
      have e2 : j2 = upd i2 0 1 := t2
      have eg : ∀ i, g1 i = (if i < 34 then E i else if i = 34 then nI sd else g i) := fun i => (t5 i).trans (if_pos rfl)
      refine ⟨fun _ => ⟨dR_congL (dR_congr hR hq hh (fun i hi => (eg i).trans (if_pos hi))) hq hh (fun i hi => (t3 i hi).trans (if_pos rfl)), ?_⟩, fun k => ?_⟩
      · rw [e1, pk_us, eg 34, if_neg (by decide), if_pos rfl]
      · rw [e2, pk_un (by decide)] at k
        have h2 := h.2 k
        refine ⟨dR_congL (dR_congr h2.1 hq hh (fun i hi => ?_)) hq hh (fun i hi => (t4 i hi).trans (if_neg (by decide))), ?_⟩
        · show g1 (35 + i) = g (35 + i)
          rw [eg (35 + i), if_neg (by omega), if_neg (by omega)]
        · rw [e1, pk_un (by decide), eg 69, if_neg (by decide), if_neg (by decide)]
          exact h2.2
    · have e1 : j1 = upd i1 1 (nI sd) := t1
      have e2 : j2 = upd i2 1 1 := t2
      have eg : ∀ i, g1 i = (if 35 ≤ i ∧ i < 69 then E (i - 35) else if i = 69 then nI sd else g i) := fun i => (t5 i).trans ((if_neg (by decide)).trans (if_pos rfl))
      refine ⟨fun k => ?_, fun _ => ⟨dR_congL (dR_congr hR hq hh (fun i hi => ?_)) hq hh (fun i hi => (t4 i hi).trans (if_pos rfl)), ?_⟩⟩
      · rw [e2, pk_un (by decide)] at k
        have h2 := h.1 k
        refine ⟨dR_congL (dR_congr h2.1 hq hh (fun i hi => ?_)) hq hh (fun i hi => (t3 i hi).trans (if_neg (by decide))), ?_⟩
        · have a : ¬ (35 ≤ i ∧ i < 69) := by omega
          have b : ¬ i = 69 := by omega
          rw [eg i, if_neg a, if_neg b]
        · rw [e1, pk_un (by decide), eg 34, if_neg (by decide), if_neg (by decide)]
          exact h2.2
      · show g1 (35 + i) = E i
        have a : 35 ≤ 35 + i ∧ 35 + i < 69 := ⟨by omega, by omega⟩
        rw [eg (35 + i), if_pos a, show 35 + i - 35 = i from by omega]
      · rw [e1, pk_us, eg 69, if_neg (by decide), if_pos rfl]
  · have c0 : ¬ q = 0 := fun e => c (by rw [e]; decide)
    have c1 : ¬ q = 1 := fun e => c (by rw [e]; decide)
    have e1 : j1 = i1 := t1.trans (if_neg c)
    have e2 : j2 = i2 := t2.trans (if_neg c)
    have eg : ∀ i, g1 i = g i := fun i => (t5 i).trans ((if_neg c0).trans (if_neg c1))
    subst e1
    subst e2
    refine ⟨fun k => ⟨dR_congL (dR_congr (h.1 k).1 hq hh (fun i _ => eg i)) hq hh (fun i hi => (t3 i hi).trans (if_neg c0)), (h.1 k).2.trans (eg 34).symm⟩, fun k => ⟨dR_congL (dR_congr (h.2 k).1 hq hh (fun i _ => eg (35 + i))) hq hh (fun i hi => (t4 i hi).trans (if_neg c1)), (h.2 k).2.trans (eg 69).symm⟩⟩
theorem imR_go {nq nh sd sm sd1 sm1 : Nat} {q : Int32} {i1 i2 m5 : Nat → Int32} {T V g D E D1 E1 : DD} (h : imR nq nh i1 i2 T V g) (hq : nq ≤ 8) (hh : nh ≤ 4) (hR : dR nq nh D E) (hz : ∀ j, j < 2 → i2 j = m5 j) (hs : sd = sm) (b1 : sd1 ≤ 2147483647) (b2 : sm1 ≤ 2147483647) (t1 : ∀ i, i < 34 → D1 i = if goP q i2 then (if q = 0 then T i else V i) else D i) (t2 : ∀ i, i < 34 → E1 i = if goP q m5 then (if q = 0 then g i else g (35 + i)) else E i) (s1 : nI sd1 = if goP q i2 then i1 q.toNatClampNeg else nI sd) (s2 : nI sm1 = if goP q m5 then (if q = 0 then g 34 else g 69) else nI sm) : (goP q i2 ↔ goP q m5) ∧ dR nq nh D1 E1 ∧ sd1 = sm1 := by
  have eq : goP q i2 ↔ goP q m5 := by
    constructor
    · intro c
      refine ⟨c.1, ?_⟩
      rw [← hz _ (x_01n c.1)]
      exact c.2
    · intro c
      refine ⟨c.1, ?_⟩
      rw [hz _ (x_01n c.1)]
      exact c.2
  by_cases c : goP q i2
  · have c' := eq.mp c
    rcases x_01 c.1 with e | e
    · have k : ¬ i2 0 = 0 := by
        have k := c.2
        rw [e] at k
        exact k
      have h0 := h.1 k
      have e3 : i1 q.toNatClampNeg = i1 0 := by rw [e]; rfl
      refine ⟨eq, dR_congL (dR_congr h0.1 hq hh (fun i hi => (t2 i hi).trans ((if_pos c').trans (if_pos e)))) hq hh (fun i hi => (t1 i hi).trans ((if_pos c).trans (if_pos e))), ?_⟩
      have e4 : nI sd1 = nI sm1 := s1.trans ((if_pos c).trans (e3.trans (h0.2.trans (s2.trans ((if_pos c').trans (if_pos e))).symm)))
      exact (nI_eq (by omega) (by omega)).mp e4
    · have k : ¬ i2 1 = 0 := by
        have k := c.2
        rw [e] at k
        exact k
      have h0 := h.2 k
      have e3 : i1 q.toNatClampNeg = i1 1 := by rw [e]; rfl
      have e0 : ¬ q = 0 := by rw [e]; decide
      refine ⟨eq, dR_congL (dR_congr h0.1 hq hh (fun i hi => (t2 i hi).trans ((if_pos c').trans (if_neg e0)))) hq hh (fun i hi => (t1 i hi).trans ((if_pos c).trans (if_neg e0))), ?_⟩
      have e4 : nI sd1 = nI sm1 := s1.trans ((if_pos c).trans (e3.trans (h0.2.trans (s2.trans ((if_pos c').trans (if_neg e0))).symm)))
      exact (nI_eq (by omega) (by omega)).mp e4
  · have c' : ¬ goP q m5 := fun k => c (eq.mpr k)
    refine ⟨eq, dR_congL (dR_congr hR hq hh (fun i hi => (t2 i hi).trans (if_neg c'))) hq hh (fun i hi => (t1 i hi).trans (if_neg c)), ?_⟩
    exact (nI_eq (by omega) (by omega)).mp (s1.trans ((if_neg c).trans ((congrArg nI hs).trans (s2.trans (if_neg c')).symm)))
/-! a new office -/
def z0 : Nat → Int32 := fun _ => 0
def offP (y : RS) (bl mm : Int32) (nq nh : Nat) (R : Nat → Nat → Int32) (D : DD) : Prop := nq = y.1 4 ∧ nh = y.1 5 ∧ bl = y.2.1 0 ∧ mm = y.2.1 1 ∧ (∀ r j, r < 3 → j < nq → R r j = y.2.2 r j) ∧ (∀ r j, 5 ≤ r → r < 8 → j < nh → R r j = y.2.2 r j) ∧ (∀ i, inD nq nh i → D i = dk 0 0 (y.2.2 3) (y.2.2 4) z0 z0 z0 i)
theorem dk_in {nq nh : Nat} {a b a1 b1 : Nat → Int32} (hq : nq ≤ 8) (hh : nh ≤ 4) (h2 : ∀ j, j < nq → a j = a1 j) (h3 : ∀ j, j < nq → b j = b1 j) : ∀ i, inD nq nh i → dk 0 0 a b z0 z0 z0 i = dk 0 0 a1 b1 z0 z0 z0 i := by
  intro i hi
  unfold inD at hi
  rcases hi with rfl | rfl | h | h | h | h | h
  · exact dk_rm.trans dk_rm.symm
  · exact dk_rc.trans dk_rc.symm
  · exact (dk_r2 (by omega)).trans ((h2 i h).trans (dk_r2 (by omega)).symm)
  · obtain ⟨j, rfl⟩ : ∃ j, i = 8 + j := ⟨i - 8, by omega⟩
    exact (dk_r3 (by omega)).trans ((h3 j (by omega)).trans (dk_r3 (by omega)).symm)
  · obtain ⟨j, rfl⟩ : ∃ j, i = 16 + j := ⟨i - 16, by omega⟩
    exact (dk_r4 (by omega)).trans (dk_r4 (by omega)).symm
  · obtain ⟨j, rfl⟩ : ∃ j, i = 24 + j := ⟨i - 24, by omega⟩
    exact (dk_r5 (by omega)).trans (dk_r5 (by omega)).symm
  · obtain ⟨j, rfl⟩ : ∃ j, i = 28 + j := ⟨i - 28, by omega⟩
    exact (dk_r6 (by omega)).trans (dk_r6 (by omega)).symm
theorem inD_34 {nq nh i : Nat} (h : inD nq nh i) (hq : nq ≤ 8) (hh : nh ≤ 4) : i < 34 := by
  unfold inD at h
  omega
/-- of the class: rows copied, the desk laid out -/
theorem offP_c {y : RS} {st nq nh : Nat} {bl mm : Int32} {R R1 : Nat → Nat → Int32} {D : DD} (hd : dRel y st bl mm nq nh R) (hq : nq ≤ 8) (hh : nh ≤ 4) (r8 : ∀ r j, r < 5 → j < 8 → R1 r j = R r j) (r4 : ∀ r j, 5 ≤ r → r < 8 → j < 4 → R1 r j = R r j) (hD : ∀ i, i < 34 → D i = dk 0 0 (R1 3) (R1 4) z0 z0 z0 i) : offP y bl mm nq nh R1 D := by
  obtain ⟨d1, d2, d3, d4, d5, d6⟩ := hd
  refine ⟨d2, d3, d4.1, d4.2, fun r j hr hj => (r8 r j (by omega) (by omega)).trans (d5 r j (by omega) hj), fun r j h5 h8 hj => (r4 r j h5 h8 (by omega)).trans (d6 r j h5 h8 hj), fun i hi => (hD i (inD_34 hi hq hh)).trans (dk_in hq hh (fun j hj => ?_) (fun j hj => ?_) i hi)⟩
  · exact (r8 3 j (by decide) (by omega)).trans (d5 3 j (by decide) hj)
  · exact (r8 4 j (by decide) (by omega)).trans (d5 4 j (by decide) hj)
/-- of the reference: what was read, taken -/
theorem offP_m {y : RS} {st nq nh : Nat} {bl mm : Int32} {R R1 : Nat → Nat → Int32} {D : DD} (hd : dRel y st bl mm nq nh R) (hq : nq ≤ 8) (hh : nh ≤ 4) (r8 : ∀ r j, r < 3 → j < nq → R1 r j = R r j) (r4 : ∀ r j, 5 ≤ r → r < 8 → j < nh → R1 r j = R r j) (hD : ∀ i, i < 34 → D i = if i < nq then R 3 i else if 8 ≤ i ∧ i < 8 + nq then R 4 (i - 8) else 0) : offP y bl mm nq nh R1 D := by
  obtain ⟨d1, d2, d3, d4, d5, d6⟩ := hd
  refine ⟨d2, d3, d4.1, d4.2, fun r j hr hj => (r8 r j hr hj).trans (d5 r j (by omega) hj), fun r j h5 h8 hj => (r4 r j h5 h8 hj).trans (d6 r j h5 h8 hj), fun i hi => (hD i (inD_34 hi hq hh)).trans ?_⟩
  unfold inD at hi
  rcases hi with rfl | rfl | h | h | h | h | h
  · rw [if_neg (by omega), if_neg (by omega)]
    exact dk_rm.symm
  · rw [if_neg (by omega), if_neg (by omega)]
    exact dk_rc.symm
  · rw [if_pos h]
    exact (d5 3 i (by decide) h).trans (dk_r2 (by omega)).symm
  · obtain ⟨j, rfl⟩ : ∃ j, i = 8 + j := ⟨i - 8, by omega⟩
    rw [if_neg (by omega), if_pos h, show 8 + j - 8 = j from by omega]
    exact (d5 4 j (by decide) (by omega)).trans (dk_r3 (by omega)).symm
  · obtain ⟨j, rfl⟩ : ∃ j, i = 16 + j := ⟨i - 16, by omega⟩
    rw [if_neg (by omega), if_neg (by omega)]
    exact (dk_r4 (a4 := z0) (by omega)).symm
  · obtain ⟨j, rfl⟩ : ∃ j, i = 24 + j := ⟨i - 24, by omega⟩
    rw [if_neg (by omega), if_neg (by omega)]
    exact (dk_r5 (a5 := z0) (by omega)).symm
  · obtain ⟨j, rfl⟩ : ∃ j, i = 28 + j := ⟨i - 28, by omega⟩
    rw [if_neg (by omega), if_neg (by omega)]
    exact (dk_r6 (a6 := z0) (by omega)).symm
theorem tk_step {f a b : DD} {k : Nat} (hk : k < 8) (h : ∀ i, i < 34 → f i = if i < k then a i else if 8 ≤ i ∧ i < 8 + k then b (i - 8) else 0) : ∀ i, i < 34 → upd (upd f k (a k)) (8 + k) (b k) i = if i < k + 1 then a i else if 8 ≤ i ∧ i < 8 + (k + 1) then b (i - 8) else 0 := by
  intro i hi
  by_cases c : i = 8 + k
  · subst c
    have u : ¬ 8 + k < k + 1 := by omega
    have v : 8 ≤ 8 + k ∧ 8 + k < 8 + (k + 1) := ⟨by omega, by omega⟩
    rw [pk_us, if_neg u, if_pos v, show 8 + k - 8 = k from by omega]
  · rw [pk_un c]
    by_cases d : i = k
    · have u : i < k + 1 := by omega
      rw [if_pos u, d]
      exact pk_us
    · rw [pk_un d, h i hi]
      by_cases e : i < k
      · have e' : i < k + 1 := by omega
        rw [if_pos e, if_pos e']
      · have e' : ¬ i < k + 1 := by omega
        rw [if_neg e, if_neg e']
        by_cases u : 8 ≤ i ∧ i < 8 + k
        · have u' : 8 ≤ i ∧ i < 8 + (k + 1) := ⟨u.1, by omega⟩
          rw [if_pos u, if_pos u']
        · have u' : ¬ (8 ≤ i ∧ i < 8 + (k + 1)) := fun v => u ⟨v.1, by omega⟩
          rw [if_neg u, if_neg u']
theorem tk_0 {f a b : DD} (h : ∀ i, i < 34 → f i = 0) : ∀ i, i < 34 → f i = if i < 0 then a i else if 8 ≤ i ∧ i < 8 + 0 then b (i - 8) else 0 := by
  intro i hi
  rw [if_neg (by omega), if_neg (by omega)]
  exact h i hi
/-! the bounds of what is read -/
def bdT (y : RS) : Prop := (∀ j, j < y.1 4 → bN 9 (y.2.2 2 j) ∧ bN 99 (y.2.2 3 j) ∧ bN 9 (y.2.2 4 j)) ∧ (∀ j, j < y.1 5 → bN 9 (y.2.2 6 j) ∧ bN 9 (y.2.2 7 j))
theorem nmF_hi {T : Nat → Int32} {n p : Nat} {lo hi : Int32} (h : nmF T n p lo hi = 0) : nmV T n p ≤ hi := by
  unfold nmF at h
  split at h
  · exact absurd h (by decide)
  · split at h
    · exact absurd h (by decide)
    · next _ c => exact (Classical.byContradiction (fun d => c (Or.inr (fun k => d k.2))))
theorem rd_all {T : Nat → Int32} {n : Nat} {gl gm : Nat → Int32} : ∀ (d i p : Nat), (rd T n gl gm d i p).1 = 0 → ∀ k, k < d → nmF T n (rdP T n p k) (gl (i + k)) (gm (i + k)) = 0
  | 0, _, _, _, k, hk => absurd hk (by omega)
  | d + 1, i, p, h, k, hk => by
    by_cases c : nmF T n p (gl i) (gm i) = 0
    · have e : rd T n gl gm (d + 1) i p = rd T n gl gm d (i + 1) (nmE T n p) := if_pos c
      rw [e] at h
      cases k with
      | zero => exact c
      | succ k =>
        have h9 := rd_all d (i + 1) (nmE T n p) h k (by omega)
        have e2 : ∀ m, rdP T n (nmE T n p) m = rdP T n p (m + 1) := by
          intro m
          induction m with
          | zero => rfl
          | succ m ih =>
            show nmE T n (rdP T n (nmE T n p) m) = nmE T n (rdP T n p (m + 1))
            rw [ih]
        rw [e2 k, show i + 1 + k = i + (k + 1) from by omega] at h9
        exact h9
    · have e : rd T n gl gm (d + 1) i p = (nmF T n p (gl i) (gm i), nmQ T n p, p) := if_neg c
      rw [e] at h
      exact absurd h c
theorem bN_of {x : Int32} {m : Nat} (h0 : 0 ≤ x) (h1 : x ≤ nI m) (hm : m < 2 ^ 31) : bN m x := by
  obtain ⟨j, _, hj, e⟩ := x_rng (a := 0) (b := m) (by decide) hm ⟨h0, h1⟩
  exact ⟨j, hj, e⟩
theorem clN_rd {T : Nat → Int32} {n : Nat} {gl gm : Nat → Int32} {c p : Nat} (h : (clN T n gl gm c p).1 = 0) : (rd T n gl gm c 0 p).1 = 0 := by
  by_cases k : (rd T n gl gm c 0 p).1 = 0
  · exact k
  · have e : clN T n gl gm c p = rd T n gl gm c 0 p := if_neg k
    rw [e] at h
    exact h
/-- a clause without fault: its kind and its numbers' bounds -/
theorem clS_ok {T : Nat → Int32} {n p st nq nh : Nat} (h : (clS T n p st nq nh).1.1 = 0) : ((clS T n p st nq nh).2 = 1 → (rd T n gQL gQM 5 0 (p + 1)).1 = 0) ∧ ((clS T n p st nq nh).2 = 2 → (rd T n gHL gHM 3 0 (p + 1)).1 = 0) ∧ (clS T n p st nq nh).2 ≤ 2 := by
  unfold clS at h ⊢
  by_cases c1 : st = 0 ∧ ltr T n p ≠ 111
  · rw [if_pos c1] at h
    exact absurd (show (1 : Nat) = 0 from h) (by decide)
  · rw [if_neg c1] at h ⊢
    by_cases c2 : ltr T n p = 111
    · rw [if_pos c2] at h ⊢
      by_cases c3 : st = 0
      · rw [if_pos c3] at h ⊢
        exact ⟨fun k => absurd (show (0 : Nat) = 1 from k) (by decide), fun k => absurd (show (0 : Nat) = 2 from k) (by decide), (show (0 : Nat) ≤ 2 from by decide)⟩
      · rw [if_neg c3] at h
        exact absurd (show (3 : Nat) = 0 from h) (by decide)
    · rw [if_neg c2] at h ⊢
      by_cases c4 : ltr T n p = 113
      · rw [if_pos c4] at h ⊢
        by_cases c5 : nq < 8
        · rw [if_pos c5] at h ⊢
          exact ⟨fun _ => clN_rd h, fun k => absurd (show (1 : Nat) = 2 from k) (by decide), (show (1 : Nat) ≤ 2 from by decide)⟩
        · rw [if_neg c5] at h
          exact absurd (show (3 : Nat) = 0 from h) (by decide)
      · rw [if_neg c4] at h ⊢
        by_cases c6 : ltr T n p = 104
        · rw [if_pos c6] at h ⊢
          by_cases c7 : nh < 4
          · rw [if_pos c7] at h ⊢
            exact ⟨fun k => absurd (show (2 : Nat) = 1 from k) (by decide), fun _ => clN_rd h, (show (2 : Nat) ≤ 2 from by decide)⟩
          · rw [if_neg c7] at h
            exact absurd (show (3 : Nat) = 0 from h) (by decide)
        · rw [if_neg c6] at h
          exact absurd (show (1 : Nat) = 0 from h) (by decide)
theorem vA_b {T : Nat → Int32} {n p d i m : Nat} {gl gm : Nat → Int32} (h : (rd T n gl gm d 0 (p + 1)).1 = 0) (hi : i < d) (h0 : 0 ≤ gl i) (h1 : gm i = nI m) (hm : m < 2 ^ 31) : bN m (vA T n p i) := by
  have h9 := rd_all d 0 (p + 1) h i hi
  rw [Nat.zero_add] at h9
  have a := nmF_lo h9
  have b := nmF_hi h9
  rw [h1] at b
  exact bN_of (Int32.le_trans h0 a) b hm
theorem bdT_cl {T : Nat → Int32} {n : Nat} {x : RS} (h : bdT x) : bdT (clT T n x) := by
  unfold clT
  by_cases c : (clS T n (x.1 2) (x.1 3) (x.1 4) (x.1 5)).1.1 ≠ 0
  · rw [if_pos c]
    exact h
  · rw [if_neg c]
    have ok := clS_ok (Classical.byContradiction c)
    by_cases c0 : (clS T n (x.1 2) (x.1 3) (x.1 4) (x.1 5)).2 = 0
    · rw [if_pos c0]
      exact h
    · rw [if_neg c0]
      by_cases c1 : (clS T n (x.1 2) (x.1 3) (x.1 4) (x.1 5)).2 = 1
      · rw [if_pos c1]
        have hr := ok.1 c1
        refine ⟨fun j hj => ?_, h.2⟩
        have hj : j < x.1 4 + 1 := hj
        show bN 9 (upd (x.2.2 2) (x.1 4) (vA T n (x.1 2) 2) j) ∧ bN 99 (upd (x.2.2 3) (x.1 4) (vA T n (x.1 2) 3) j) ∧ bN 9 (upd (x.2.2 4) (x.1 4) (vA T n (x.1 2) 4) j)
        by_cases e : j = x.1 4
        · rw [e, pk_us, pk_us, pk_us]
          exact ⟨vA_b hr (by decide) (by decide) rfl (by decide), vA_b hr (by decide) (by decide) rfl (by decide), vA_b hr (by decide) (by decide) rfl (by decide)⟩
        · rw [pk_un e, pk_un e, pk_un e]
          exact h.1 j (by omega)
      · rw [if_neg c1]
        have hr := ok.2.1 (by have := ok.2.2; omega)
        refine ⟨h.1, fun j hj => ?_⟩
        have hj : j < x.1 5 + 1 := hj
        show bN 9 (upd (x.2.2 6) (x.1 5) (vA T n (x.1 2) 1) j) ∧ bN 9 (upd (x.2.2 7) (x.1 5) (vA T n (x.1 2) 2) j)
        by_cases e : j = x.1 5
        · rw [e, pk_us, pk_us]
          exact ⟨vA_b hr (by decide) (by decide) rfl (by decide), vA_b hr (by decide) (by decide) rfl (by decide)⟩
        · rw [pk_un e, pk_un e]
          exact h.2 j (by omega)
theorem bdT_rd {T : Nat → Int32} {n : Nat} : ∀ (d : Nat) (x : RS), bdT x → bdT (rdT T n d x)
  | 0, _, h => h
  | d + 1, x, h => by
    by_cases c : x.1 0 ≠ 0 ∨ n ≤ sk T n (x.1 2)
    · have e : rdT T n (d + 1) x = x := if_pos c
      rw [e]
      exact h
    · have e : rdT T n (d + 1) x = rdT T n d (clT T n (skT T n x)) := if_neg c
      rw [e]
      exact bdT_rd d _ (bdT_cl (x := skT T n x) h)
theorem bdT_0 {T : Nat → Int32} {n d : Nat} : bdT (rdT T n d rs0) := bdT_rd d rs0 ⟨fun j hj => absurd hj (Nat.not_lt_zero j), fun j hj => absurd hj (Nat.not_lt_zero j)⟩
/-- two new offices out of the same text -/
theorem offP_dR {y : RS} {nq nh : Nat} {bl mm b2 m2 : Int32} {n2 h2 : Nat} {R S : Nat → Nat → Int32} {D E : DD} (hb : bdT y) (h : offP y bl mm nq nh R D) (k : offP y b2 m2 n2 h2 S E) (hq : nq ≤ 8) (hh : nh ≤ 4) : bl = b2 ∧ mm = m2 ∧ nq = n2 ∧ nh = h2 ∧ (∀ r j, r < 3 → j < nq → R r j = S r j) ∧ (∀ r j, 5 ≤ r → r < 8 → j < nh → R r j = S r j) ∧ (∀ j, j < nq → bN 9 (R 2 j)) ∧ (∀ j, j < nh → bN 9 (R 6 j) ∧ bN 9 (R 7 j)) ∧ dR nq nh D E := by
  obtain ⟨a1, a2, a3, a4, a5, a6, a7⟩ := h
  obtain ⟨b1, b2, b3, b4, b5, b6, b7⟩ := k
  have e1 : nq = n2 := a1.trans b1.symm
  have e2 : nh = h2 := a2.trans b2.symm
  subst e1
  subst e2
  refine ⟨a3.trans b3.symm, a4.trans b4.symm, rfl, rfl, fun r j hr hj => (a5 r j hr hj).trans (b5 r j hr hj).symm, fun r j h5 h8 hj => (a6 r j h5 h8 hj).trans (b6 r j h5 h8 hj).symm, fun j hj => ?_, fun j hj => ?_, fun i hi => (a7 i hi).trans (b7 i hi).symm, fun j hj => ?_⟩
  · rw [a5 2 j (by decide) hj]
    exact (hb.1 j (by omega)).1
  · rw [a6 6 j (by decide) (by decide) hj, a6 7 j (by decide) (by decide) hj]
    exact hb.2 j (by omega)
  · rw [a7 (8 + j) (by unfold inD; omega), a7 j (by unfold inD; omega), dk_r3 (by omega), dk_r2 (by omega)]
    exact ⟨(hb.1 j (by omega)).2.2, (hb.1 j (by omega)).2.1⟩
/-! rows side by side -/
theorem x8_q {a b c d e f g h A B C D E F G K : Nat → Int32} (h0 : ∀ j, j < 8 → a j = A j) (h1 : ∀ j, j < 8 → b j = B j) (h2 : ∀ j, j < 8 → c j = C j) (h3 : ∀ j, j < 8 → d j = D j) (h4 : ∀ j, j < 8 → e j = E j) : ∀ r j, r < 5 → j < 8 → x8 a b c d e f g h r j = x8 A B C D E F G K r j := by
  intro r j hr hj
  rcases (show r = 0 ∨ r = 1 ∨ r = 2 ∨ r = 3 ∨ r = 4 by omega) with rfl | rfl | rfl | rfl | rfl
  · exact h0 j hj
  · exact h1 j hj
  · exact h2 j hj
  · exact h3 j hj
  · exact h4 j hj
theorem x8_h4 {n : Nat} {a b c d e f g h A B C D E F G K : Nat → Int32} (h5 : ∀ j, j < n → f j = F j) (h6 : ∀ j, j < n → g j = G j) (h7 : ∀ j, j < n → h j = K j) : ∀ r j, 5 ≤ r → r < 8 → j < n → x8 a b c d e f g h r j = x8 A B C D E F G K r j := by
  intro r j h5' h8 hj
  rcases (show r = 5 ∨ r = 6 ∨ r = 7 by omega) with rfl | rfl | rfl
  · exact h5 j hj
  · exact h6 j hj
  · exact h7 j hj
theorem x8_h {a b c d e f g h A B C D E F G K : Nat → Int32} (h5 : ∀ j, j < 4 → f j = F j) (h6 : ∀ j, j < 4 → g j = G j) (h7 : ∀ j, j < 4 → h j = K j) : ∀ r j, 5 ≤ r → r < 8 → j < 4 → x8 a b c d e f g h r j = x8 A B C D E F G K r j := x8_h4 h5 h6 h7
theorem x8_3 {n : Nat} {a b c d e f g h A B C D E F G K : Nat → Int32} (h0 : ∀ j, j < n → a j = A j) (h1 : ∀ j, j < n → b j = B j) (h2 : ∀ j, j < n → c j = C j) : ∀ r j, r < 3 → j < n → x8 a b c d e f g h r j = x8 A B C D E F G K r j := by
  intro r j hr hj
  rcases (show r = 0 ∨ r = 1 ∨ r = 2 by omega) with rfl | rfl | rfl
  · exact h0 j hj
  · exact h1 j hj
  · exact h2 j hj
theorem off_ne {y : RS} {r : Int32} (hr : r = nI (y.1 0)) (c : ¬ r = 0) : y.1 0 ≠ 0 := fun h0 => c (hr.trans (by rw [h0]; rfl))
