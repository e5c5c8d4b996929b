/-! the reader's own words: blanks, figures, numbers, clauses (T the letters, n how many) -/
abbrev isFg (c : Int32) : Prop := 48 ≤ c ∧ c ≤ 57
def skf (T : Nat → Int32) (n : Nat) : Nat → Nat → Nat
  | 0, p => p
  | d + 1, p => if p < n ∧ T p = 32 then skf T n d (p + 1) else p
def sk (T : Nat → Int32) (n p : Nat) : Nat := skf T n (n - p) p
def dgf (T : Nat → Int32) (n : Nat) : Nat → Nat → Nat
  | 0, p => p
  | d + 1, p => if p < n ∧ isFg (T p) then dgf T n d (p + 1) else p
def dg (T : Nat → Int32) (n p : Nat) : Nat := dgf T n (n - p) p
theorem sk_step {T : Nat → Int32} {n p : Nat} (h : p < n) (h2 : T p = 32) : sk T n (p + 1) = sk T n p := by
  unfold sk
  rw [show n - p = (n - (p + 1)) + 1 from by omega]
  exact (if_pos ⟨h, h2⟩).symm
theorem sk_stop {T : Nat → Int32} {n p : Nat} (h : ¬ (p < n ∧ T p = 32)) : sk T n p = p := by
  unfold sk
  cases n - p with
  | zero => rfl
  | succ d => exact if_neg h
theorem dg_step {T : Nat → Int32} {n p : Nat} (h : p < n) (h2 : isFg (T p)) : dg T n (p + 1) = dg T n p := by
  unfold dg
  rw [show n - p = (n - (p + 1)) + 1 from by omega]
  exact (if_pos ⟨h, h2⟩).symm
theorem dg_stop {T : Nat → Int32} {n p : Nat} (h : ¬ (p < n ∧ isFg (T p))) : dg T n p = p := by
  unfold dg
  cases n - p with
  | zero => rfl
  | succ d => exact if_neg h
theorem skf_ge {T : Nat → Int32} {n : Nat} : ∀ (d p : Nat), p ≤ skf T n d p
  | 0, p => Nat.le_refl p
  | d + 1, p => by
    show p ≤ (if p < n ∧ T p = 32 then skf T n d (p + 1) else p)
    split
    · exact Nat.le_trans (Nat.le_succ p) (skf_ge d (p + 1))
    · exact Nat.le_refl p
theorem skf_le {T : Nat → Int32} {n : Nat} : ∀ (d p : Nat), p ≤ n → skf T n d p ≤ n
  | 0, p, h => h
  | d + 1, p, h => by
    show (if p < n ∧ T p = 32 then skf T n d (p + 1) else p) ≤ n
    split
    · next c => exact skf_le d (p + 1) (by omega)
    · exact h
theorem dgf_ge {T : Nat → Int32} {n : Nat} : ∀ (d p : Nat), p ≤ dgf T n d p
  | 0, p => Nat.le_refl p
  | d + 1, p => by
    show p ≤ (if p < n ∧ isFg (T p) then dgf T n d (p + 1) else p)
    split
    · exact Nat.le_trans (Nat.le_succ p) (dgf_ge d (p + 1))
    · exact Nat.le_refl p
theorem dgf_le {T : Nat → Int32} {n : Nat} : ∀ (d p : Nat), p ≤ n → dgf T n d p ≤ n
  | 0, p, h => h
  | d + 1, p, h => by
    show (if p < n ∧ isFg (T p) then dgf T n d (p + 1) else p) ≤ n
    split
    · next c => exact dgf_le d (p + 1) (by omega)
    · exact h
theorem sk_ge {T : Nat → Int32} {n p : Nat} : p ≤ sk T n p := skf_ge _ _
theorem sk_le {T : Nat → Int32} {n p : Nat} (h : p ≤ n) : sk T n p ≤ n := skf_le _ _ h
theorem dg_ge {T : Nat → Int32} {n p : Nat} : p ≤ dg T n p := dgf_ge _ _
theorem dg_le {T : Nat → Int32} {n p : Nat} (h : p ≤ n) : dg T n p ≤ n := dgf_le _ _ h
theorem skf_end {T : Nat → Int32} {n : Nat} : ∀ (d p : Nat), n ≤ p + d → ¬ (skf T n d p < n ∧ T (skf T n d p) = 32)
  | 0, p, h => fun c => absurd c.1 (by show ¬ p < n; omega)
  | d + 1, p, h => by
    show ¬ ((if p < n ∧ T p = 32 then skf T n d (p + 1) else p) < n ∧ T (if p < n ∧ T p = 32 then skf T n d (p + 1) else p) = 32)
    by_cases c : p < n ∧ T p = 32
    · rw [if_pos c]; exact skf_end d (p + 1) (by omega)
    · rw [if_neg c]; exact c
theorem sk_idem {T : Nat → Int32} {n p : Nat} : sk T n (sk T n p) = sk T n p := sk_stop (skf_end _ _ (by omega))
/-- every letter of the figures is one -/
theorem dgf_fg {T : Nat → Int32} {n : Nat} : ∀ (d p j : Nat), p ≤ j → j < dgf T n d p → isFg (T j)
  | 0, p, j, h, h2 => absurd h2 (by show ¬ j < p; omega)
  | d + 1, p, j, h, h2 => by
    by_cases c : p < n ∧ isFg (T p)
    · have e : dgf T n (d + 1) p = dgf T n d (p + 1) := if_pos c
      rw [e] at h2
      rcases Nat.eq_or_lt_of_le h with g | g
      · rw [← g]; exact c.2
      · exact dgf_fg d (p + 1) j g h2
    · have e : dgf T n (d + 1) p = p := if_neg c
      rw [e] at h2
      omega
theorem dg_fg {T : Nat → Int32} {n p j : Nat} (h : p ≤ j) (h2 : j < dg T n p) : isFg (T j) := dgf_fg _ _ _ h h2
/-- the number of m figures from f on -/
def w3 (T : Nat → Int32) (f : Nat) : Nat → Int32
  | 0 => 0
  | m + 1 => w3 T f m * 10 + T (f + m) - 48
abbrev nmQ (T : Nat → Int32) (n p : Nat) : Nat := sk T n p
abbrev nmE (T : Nat → Int32) (n p : Nat) : Nat := dg T n (sk T n p)
abbrev nmV (T : Nat → Int32) (n p : Nat) : Int32 := w3 T (sk T n p) (nmE T n p - sk T n p)
/-- the fault of a number: none, none there, too long or out of its bounds -/
def nmF (T : Nat → Int32) (n p : Nat) (lo hi : Int32) : Nat :=
  if nmE T n p = nmQ T n p then 1 else if 3 < nmE T n p - nmQ T n p ∨ ¬ (lo ≤ nmV T n p ∧ nmV T n p ≤ hi) then 2 else 0
/-- c numbers, from the i-th on: fault, its place, where it stands behind them -/
def rd (T : Nat → Int32) (n : Nat) (gl gm : Nat → Int32) : Nat → Nat → Nat → Nat × Nat × Nat
  | 0, _, p => (0, 0, p)
  | d + 1, i, p => if nmF T n p (gl i) (gm i) = 0 then rd T n gl gm d (i + 1) (nmE T n p) else (nmF T n p (gl i) (gm i), nmQ T n p, p)
/-- where the i-th number begins to be sought -/
def rdP (T : Nat → Int32) (n p : Nat) : Nat → Nat
  | 0 => p
  | i + 1 => nmE T n (rdP T n p i)
abbrev ltr (T : Nat → Int32) (n p : Nat) : Int32 := if p < n then T p else -1
/-- the numbers of a clause and the ; behind them -/
def clN (T : Nat → Int32) (n : Nat) (gl gm : Nat → Int32) (c p : Nat) : Nat × Nat × Nat :=
  if (rd T n gl gm c 0 p).1 = 0 then (if ltr T n (sk T n (rd T n gl gm c 0 p).2.2) = 59 then (0, 0, sk T n (rd T n gl gm c 0 p).2.2 + 1) else (1, sk T n (rd T n gl gm c 0 p).2.2, p)) else rd T n gl gm c 0 p
theorem nm_1 {T : Nat → Int32} {n p q : Nat} {lo hi : Int32} (hq : q = sk T n p) (he : dg T n q = q) : nmF T n p lo hi = 1 := by
  subst hq
  exact if_pos he
theorem nm_2a {T : Nat → Int32} {n p q k : Nat} {lo hi : Int32} (hq : q = sk T n p) (he : dg T n q = k) (h : 3 < k - q) : nmF T n p lo hi = 2 := by
  subst hq
  subst he
  unfold nmF
  rw [if_neg (show ¬ dg T n (sk T n p) = sk T n p by omega), if_pos (Or.inl h)]
theorem nm_2b {T : Nat → Int32} {n p q k : Nat} {lo hi v : Int32} (hq : q = sk T n p) (he : dg T n q = k) (hn : k ≠ q) (h : ¬ 3 < k - q) (hv : v = w3 T q (min (k - q) 3)) (hb : ¬ (lo ≤ v ∧ v ≤ hi)) : nmF T n p lo hi = 2 := by
  subst hq
  subst he
  rw [Nat.min_eq_left (by omega)] at hv
  subst hv
  unfold nmF
  rw [if_neg hn, if_pos (Or.inr hb)]
theorem nm_0 {T : Nat → Int32} {n p q k : Nat} {lo hi v : Int32} (hq : q = sk T n p) (he : dg T n q = k) (hn : k ≠ q) (h : ¬ 3 < k - q) (hv : v = w3 T q (min (k - q) 3)) (hb : lo ≤ v ∧ v ≤ hi) : nmF T n p lo hi = 0 ∧ k = nmE T n p ∧ v = nmV T n p := by
  subst hq
  subst he
  rw [Nat.min_eq_left (by omega)] at hv
  subst hv
  refine ⟨?_, rfl, rfl⟩
  unfold nmF
  rw [if_neg hn, if_neg (fun c => c.elim h (fun d => d hb))]
theorem w3_min_lt {T : Nat → Int32} {q k : Nat} (hk : q ≤ k) (h : k - q < 3) : w3 T q (min (k + 1 - q) 3) = w3 T q (min (k - q) 3) * 10 + T k - 48 := by
  rw [Nat.min_eq_left (by omega), Nat.min_eq_left (by omega), show k + 1 - q = (k - q) + 1 from by omega]
  show w3 T q (k - q) * 10 + T (q + (k - q)) - 48 = _
  rw [show q + (k - q) = k from by omega]
theorem w3_min_ge {T : Nat → Int32} {q k : Nat} (h : ¬ k - q < 3) : w3 T q (min (k + 1 - q) 3) = w3 T q (min (k - q) 3) := by
  rw [Nat.min_eq_right (by omega), Nat.min_eq_right (by omega)]
theorem rd_step {T : Nat → Int32} {n : Nat} {gl gm : Nat → Int32} {c k p : Nat} (hk : k < c) (h : nmF T n p (gl k) (gm k) = 0) : rd T n gl gm (c - (k + 1)) (k + 1) (nmE T n p) = rd T n gl gm (c - k) k p := by
  rw [show c - k = (c - (k + 1)) + 1 from by omega]
  exact (if_pos h).symm
theorem rd_fail {T : Nat → Int32} {n : Nat} {gl gm : Nat → Int32} {c k p : Nat} (hk : k < c) (h : nmF T n p (gl k) (gm k) ≠ 0) : rd T n gl gm (c - k) k p = (nmF T n p (gl k) (gm k), nmQ T n p, p) := by
  rw [show c - k = (c - (k + 1)) + 1 from by omega]
  exact if_neg h
theorem cl_fail {T : Nat → Int32} {n : Nat} {gl gm : Nat → Int32} {c p f q x : Nat} (h : rd T n gl gm c 0 p = (f, q, x)) (hf : f ≠ 0) : clN T n gl gm c p = (f, q, x) := by
  unfold clN
  rw [h]
  exact if_neg hf
theorem cl_semi {T : Nat → Int32} {n : Nat} {gl gm : Nat → Int32} {c p e : Nat} (h : rd T n gl gm c 0 p = (0, 0, e)) (hs : ltr T n (sk T n e) = 59) : clN T n gl gm c p = (0, 0, sk T n e + 1) := by
  unfold clN
  rw [h]
  exact (if_pos rfl).trans (if_pos hs)
theorem cl_not {T : Nat → Int32} {n : Nat} {gl gm : Nat → Int32} {c p e : Nat} (h : rd T n gl gm c 0 p = (0, 0, e)) (hs : ¬ ltr T n (sk T n e) = 59) : clN T n gl gm c p = (1, sk T n e, p) := by
  unfold clN
  rw [h]
  exact (if_pos rfl).trans (if_neg hs)
theorem upd_all {f F : Nat → Int32} {k : Nat} {v : Int32} (h : ∀ j, j < k → f j = F j) (hv : v = F k) : ∀ j, j < k + 1 → upd f k v j = F j := by
  intro j hj
  by_cases c : j = k
  · rw [c]; exact pk_us.trans hv
  · rw [pk_un c]; exact h j (by omega)
/-- a clause at p: fault, its place, where it stands behind it; which kind -/
def clS (T : Nat → Int32) (n p st nq nh : Nat) : (Nat × Nat × Nat) × Nat :=
  if st = 0 ∧ ltr T n p ≠ 111 then ((1, p, p), 3)
  else if ltr T n p = 111 then (if st = 0 then (clN T n gBL gBM 2 (p + 1), 0) else ((3, p, p), 3))
  else if ltr T n p = 113 then (if nq < 8 then (clN T n gQL gQM 5 (p + 1), 1) else ((3, p, p), 3))
  else if ltr T n p = 104 then (if nh < 4 then (clN T n gHL gHM 3 (p + 1), 2) else ((3, p, p), 3))
  else ((1, p, p), 3)
/-- what is read so far: numbers 0 fault, 1 its place, 2 where it stands, 3 whether the office stands, 4 quills, 5 hands; the blade's two; the rows, 5 of quills, 3 of hands -/
abbrev RS : Type := (Nat → Nat) × (Nat → Int32) × (Nat → Nat → Int32)
abbrev vA (T : Nat → Int32) (n p i : Nat) : Int32 := nmV T n (rdP T n (p + 1) i)
def addQ (R : Nat → Nat → Int32) (k : Nat) (V : Nat → Int32) : Nat → Nat → Int32 := fun r => if r < 5 then upd (R r) k (V r) else R r
def addH (R : Nat → Nat → Int32) (k : Nat) (V : Nat → Int32) : Nat → Nat → Int32 := fun r => if 5 ≤ r then upd (R r) k (V (r - 5)) else R r
def clT (T : Nat → Int32) (n : Nat) (x : RS) : RS :=
  if (clS T n (x.1 2) (x.1 3) (x.1 4) (x.1 5)).1.1 ≠ 0 then (va_up (va_up x.1 0 (clS T n (x.1 2) (x.1 3) (x.1 4) (x.1 5)).1.1) 1 (clS T n (x.1 2) (x.1 3) (x.1 4) (x.1 5)).1.2.1, x.2)
  else if (clS T n (x.1 2) (x.1 3) (x.1 4) (x.1 5)).2 = 0 then (va_up (va_up x.1 2 (clS T n (x.1 2) (x.1 3) (x.1 4) (x.1 5)).1.2.2) 3 1, vA T n (x.1 2), x.2.2)
  else if (clS T n (x.1 2) (x.1 3) (x.1 4) (x.1 5)).2 = 1 then (va_up (va_up x.1 2 (clS T n (x.1 2) (x.1 3) (x.1 4) (x.1 5)).1.2.2) 4 (x.1 4 + 1), x.2.1, addQ x.2.2 (x.1 4) (vA T n (x.1 2)))
  else (va_up (va_up x.1 2 (clS T n (x.1 2) (x.1 3) (x.1 4) (x.1 5)).1.2.2) 5 (x.1 5 + 1), x.2.1, addH x.2.2 (x.1 5) (vA T n (x.1 2)))
def skT (T : Nat → Int32) (n : Nat) (x : RS) : RS := (va_up x.1 2 (sk T n (x.1 2)), x.2)
def rdT (T : Nat → Int32) (n : Nat) : Nat → RS → RS
  | 0, x => x
  | d + 1, x => if x.1 0 ≠ 0 ∨ n ≤ sk T n (x.1 2) then x else rdT T n d (clT T n (skT T n x))
def rs0 : RS := (fun _ => 0, fun _ => 0, fun _ _ => 0)
def dRel (x : RS) (st : Nat) (bl mm : Int32) (nq nh : Nat) (R : Nat → Nat → Int32) : Prop := st = x.1 3 ∧ nq = x.1 4 ∧ nh = x.1 5 ∧ (bl = x.2.1 0 ∧ mm = x.2.1 1) ∧ (∀ r j, r < 5 → j < nq → R r j = x.2.2 r j) ∧ (∀ r j, 5 ≤ r → r < 8 → j < nh → R r j = x.2.2 r j)
def cRel (y : RS) (fu fa : Int32) (at0 st : Nat) (bl mm : Int32) (nq nh : Nat) (R : Nat → Nat → Int32) : Prop := (y.1 0 ≠ 0 ∧ y.1 0 ≤ 3 ∧ fu = nI (y.1 0) ∧ fa = nI (y.1 1)) ∨ (y.1 0 = 0 ∧ fu = 0 ∧ fa = -1 ∧ at0 = y.1 2 ∧ dRel y st bl mm nq nh R)
def x8 (a b c d e f g h : Nat → Int32) : Nat → Nat → Int32 := fun r => match r with
  | 0 => a
  | 1 => b
  | 2 => c
  | 3 => d
  | 4 => e
  | 5 => f
  | 6 => g
  | _ => h
abbrev clX (T : Nat → Int32) (n : Nat) (x : RS) : (Nat × Nat × Nat) × Nat := clS T n (x.1 2) (x.1 3) (x.1 4) (x.1 5)
theorem clX_eq {T : Nat → Int32} {n p st nq nh : Nat} {x : RS} {bl mm : Int32} {R : Nat → Nat → Int32} (hp : p = x.1 2) (hd : dRel x st bl mm nq nh R) : clX T n x = clS T n p st nq nh := by
  unfold clX
  rw [← hp, ← hd.1, ← hd.2.1, ← hd.2.2.1]
theorem clT_fail {T : Nat → Int32} {n : Nat} {x : RS} {f q e k : Nat} {R0 : Nat → Nat → Int32} {p st0 nq0 nh0 : Nat} {bl0 mm0 : Int32} (hp : p = x.1 2) (hd : dRel x st0 bl0 mm0 nq0 nh0 R0) (h : clS T n p st0 nq0 nh0 = ((f, q, e), k)) (hf : f ≠ 0) : clT T n x = (va_up (va_up x.1 0 f) 1 q, x.2) := by
  have hX : clS T n (x.1 2) (x.1 3) (x.1 4) (x.1 5) = _ := (clX_eq hp hd).trans h
  unfold clT
  rw [hX]
  exact if_pos hf
theorem cR_fail {T : Nat → Int32} {n : Nat} {x : RS} {fu fa bl mm : Int32} {at0 st nq nh f q e k : Nat} {R R0 : Nat → Nat → Int32} {p st0 nq0 nh0 : Nat} {bl0 mm0 : Int32} (hp : p = x.1 2) (hd : dRel x st0 bl0 mm0 nq0 nh0 R0) (h : clS T n p st0 nq0 nh0 = ((f, q, e), k)) (hf : f ≠ 0) (h3 : f ≤ 3) (h1 : fu = nI f) (h2 : fa = nI q) : cRel (clT T n x) fu fa at0 st bl mm nq nh R := by
  have hX : clS T n (x.1 2) (x.1 3) (x.1 4) (x.1 5) = _ := (clX_eq hp hd).trans h
  subst hp
  have e1 : clT T n x = (va_up (va_up x.1 0 f) 1 q, x.2) := by
    unfold clT
    rw [hX]
    exact if_pos hf
  rw [e1]
  exact Or.inl ⟨hf, h3, h1, h2⟩
theorem cR_o {T : Nat → Int32} {n : Nat} {x : RS} {fu fa bl mm bl0 mm0 : Int32} {at0 st nq nh : Nat} {c : Nat × Nat × Nat} {R : Nat → Nat → Int32} {p : Nat} (hp : p = x.1 2) (hd : dRel x st bl0 mm0 nq nh R) (h : clS T n p st nq nh = (c, 0)) (hc : c.1 = 0) (h0 : x.1 0 = 0) (hfu : fu = 0) (hfa : fa = -1) (he : at0 = c.2.2) (hb : bl = vA T n p 0) (hm : mm = vA T n p 1) : cRel (clT T n x) fu fa at0 1 bl mm nq nh R := by
  have hX : clS T n (x.1 2) (x.1 3) (x.1 4) (x.1 5) = _ := (clX_eq hp hd).trans h
  subst hp
  have e1 : clT T n x = (va_up (va_up x.1 2 c.2.2) 3 1, vA T n (x.1 2), x.2.2) := by
    unfold clT
    rw [hX]
    refine Eq.trans (if_neg ?_) (if_pos rfl)
    exact fun k => k hc
  rw [e1]
  obtain ⟨d1, d2, d3, d4, d5, d6⟩ := hd
  exact Or.inr ⟨h0, hfu, hfa, he, rfl, d2, d3, ⟨hb, hm⟩, d5, d6⟩
theorem cR_q {T : Nat → Int32} {n : Nat} {x : RS} {fu fa bl mm : Int32} {at0 st nq nh : Nat} {c : Nat × Nat × Nat} {R R2 : Nat → Nat → Int32} {p : Nat} (hp : p = x.1 2) (hd : dRel x st bl mm nq nh R) (h : clS T n p st nq nh = (c, 1)) (hc : c.1 = 0) (h0 : x.1 0 = 0) (hfu : fu = 0) (hfa : fa = -1) (he : at0 = c.2.2) (hR : ∀ r, r < 5 → R2 r = upd (R r) nq (vA T n p r)) (hH : ∀ r, 5 ≤ r → r < 8 → R2 r = R r) : cRel (clT T n x) fu fa at0 st bl mm (nq + 1) nh R2 := by
  have hX : clS T n (x.1 2) (x.1 3) (x.1 4) (x.1 5) = _ := (clX_eq hp hd).trans h
  subst hp
  have e1 : clT T n x = (va_up (va_up x.1 2 c.2.2) 4 (x.1 4 + 1), x.2.1, addQ x.2.2 (x.1 4) (vA T n (x.1 2))) := by
    unfold clT
    rw [hX]
    refine Eq.trans (if_neg ?_) (Eq.trans (if_neg ?_) (if_pos rfl))
    · exact fun k => k hc
    · exact Nat.one_ne_zero
  rw [e1]
  obtain ⟨d1, d2, d3, d4, d5, d6⟩ := hd
  refine Or.inr ⟨h0, hfu, hfa, he, d1, congrArg (· + 1) d2, d3, d4, fun r j hr hj => ?_, fun r j h5 h8 hj => ?_⟩
  · rw [hR r hr]
    show _ = (if r < 5 then upd (x.2.2 r) (x.1 4) (vA T n (x.1 2) r) else x.2.2 r) j
    rw [if_pos hr, ← d2]
    by_cases g : j = nq
    · rw [g]; exact pk_us.trans pk_us.symm
    · rw [pk_un g, pk_un g]; exact d5 r j hr (by omega)
  · rw [hH r h5 h8]
    show _ = (if r < 5 then upd (x.2.2 r) (x.1 4) (vA T n (x.1 2) r) else x.2.2 r) j
    rw [if_neg (by omega)]
    exact d6 r j h5 h8 hj
theorem cR_h {T : Nat → Int32} {n : Nat} {x : RS} {fu fa bl mm : Int32} {at0 st nq nh : Nat} {c : Nat × Nat × Nat} {R R2 : Nat → Nat → Int32} {p : Nat} (hp : p = x.1 2) (hd : dRel x st bl mm nq nh R) (h : clS T n p st nq nh = (c, 2)) (hc : c.1 = 0) (h0 : x.1 0 = 0) (hfu : fu = 0) (hfa : fa = -1) (he : at0 = c.2.2) (hR : ∀ r, r < 5 → R2 r = R r) (hH : ∀ r, 5 ≤ r → r < 8 → R2 r = upd (R r) nh (vA T n p (r - 5))) : cRel (clT T n x) fu fa at0 st bl mm nq (nh + 1) R2 := by
  have hX : clS T n (x.1 2) (x.1 3) (x.1 4) (x.1 5) = _ := (clX_eq hp hd).trans h
  subst hp
  have e1 : clT T n x = (va_up (va_up x.1 2 c.2.2) 5 (x.1 5 + 1), x.2.1, addH x.2.2 (x.1 5) (vA T n (x.1 2))) := by
    unfold clT
    rw [hX]
    refine Eq.trans (if_neg ?_) (Eq.trans (if_neg ?_) (if_neg ?_))
    · exact fun k => k hc
    · exact (by decide : ¬ (2 : Nat) = 0)
    · exact (by decide : ¬ (2 : Nat) = 1)
  rw [e1]
  obtain ⟨d1, d2, d3, d4, d5, d6⟩ := hd
  refine Or.inr ⟨h0, hfu, hfa, he, d1, d2, congrArg (· + 1) d3, d4, fun r j hr hj => ?_, fun r j h5 h8 hj => ?_⟩
  · rw [hR r hr]
    show _ = (if 5 ≤ r then upd (x.2.2 r) (x.1 5) (vA T n (x.1 2) (r - 5)) else x.2.2 r) j
    rw [if_neg (by omega)]
    exact d5 r j hr hj
  · rw [hH r h5 h8]
    show _ = (if 5 ≤ r then upd (x.2.2 r) (x.1 5) (vA T n (x.1 2) (r - 5)) else x.2.2 r) j
    rw [if_pos h5, ← d3]
    by_cases g : j = nh
    · rw [g]; exact pk_us.trans pk_us.symm
    · rw [pk_un g, pk_un g]; exact d6 r j h5 h8 (by omega)
/-- the kinds of a clause -/
theorem cS_1 {T : Nat → Int32} {n p st nq nh : Nat} (h : st = 0) (h2 : ¬ ltr T n p = 111) : clS T n p st nq nh = ((1, p, p), 3) := if_pos ⟨h, h2⟩
theorem cS_o {T : Nat → Int32} {n p st nq nh : Nat} (h : st = 0) (h2 : ltr T n p = 111) : clS T n p st nq nh = (clN T n gBL gBM 2 (p + 1), 0) := by
  refine Eq.trans (if_neg ?_) (Eq.trans (if_pos h2) (if_pos h))
  exact fun c => c.2 h2
theorem cS_o3 {T : Nat → Int32} {n p st nq nh : Nat} (h : ¬ st = 0) (h2 : ltr T n p = 111) : clS T n p st nq nh = ((3, p, p), 3) := by
  refine Eq.trans (if_neg ?_) (Eq.trans (if_pos h2) (if_neg h))
  exact fun c => h c.1
theorem cS_q {T : Nat → Int32} {n p st nq nh : Nat} (h : ¬ st = 0) (h2 : ltr T n p = 113) (hq : nq < 8) : clS T n p st nq nh = (clN T n gQL gQM 5 (p + 1), 1) := by
  refine Eq.trans (if_neg ?_) (Eq.trans (if_neg ?_) (Eq.trans (if_pos h2) (if_pos hq)))
  · exact fun c => h c.1
  · rw [h2]; decide
theorem cS_q3 {T : Nat → Int32} {n p st nq nh : Nat} (h : ¬ st = 0) (h2 : ltr T n p = 113) (hq : ¬ nq < 8) : clS T n p st nq nh = ((3, p, p), 3) := by
  refine Eq.trans (if_neg ?_) (Eq.trans (if_neg ?_) (Eq.trans (if_pos h2) (if_neg hq)))
  · exact fun c => h c.1
  · rw [h2]; decide
theorem cS_h {T : Nat → Int32} {n p st nq nh : Nat} (h : ¬ st = 0) (h2 : ltr T n p = 104) (hq : nh < 4) : clS T n p st nq nh = (clN T n gHL gHM 3 (p + 1), 2) := by
  refine Eq.trans (if_neg ?_) (Eq.trans (if_neg ?_) (Eq.trans (if_neg ?_) (Eq.trans (if_pos h2) (if_pos hq))))
  · exact fun c => h c.1
  · rw [h2]; decide
  · rw [h2]; decide
theorem cS_h3 {T : Nat → Int32} {n p st nq nh : Nat} (h : ¬ st = 0) (h2 : ltr T n p = 104) (hq : ¬ nh < 4) : clS T n p st nq nh = ((3, p, p), 3) := by
  refine Eq.trans (if_neg ?_) (Eq.trans (if_neg ?_) (Eq.trans (if_neg ?_) (Eq.trans (if_pos h2) (if_neg hq))))
  · exact fun c => h c.1
  · rw [h2]; decide
  · rw [h2]; decide
theorem cS_x {T : Nat → Int32} {n p st nq nh : Nat} (h : ¬ st = 0) (h1 : ¬ ltr T n p = 111) (h2 : ¬ ltr T n p = 113) (h3 : ¬ ltr T n p = 104) : clS T n p st nq nh = ((1, p, p), 3) := by
  refine Eq.trans (if_neg ?_) (Eq.trans (if_neg h1) (Eq.trans (if_neg h2) (if_neg h3)))
  exact fun c => h c.1
theorem nmF_le {T : Nat → Int32} {n p : Nat} {lo hi : Int32} : nmF T n p lo hi ≤ 2 := by
  unfold nmF
  split
  · decide
  · split <;> decide
theorem rd_le {T : Nat → Int32} {n : Nat} {gl gm : Nat → Int32} : ∀ (d i p : Nat), (rd T n gl gm d i p).1 ≤ 2
  | 0, i, p => Nat.zero_le _
  | d + 1, i, p => by
    show (if nmF T n p (gl i) (gm i) = 0 then rd T n gl gm d (i + 1) (nmE T n p) else (nmF T n p (gl i) (gm i), nmQ T n p, p)).1 ≤ 2
    split
    · exact rd_le d (i + 1) (nmE T n p)
    · exact nmF_le
theorem clN_le {T : Nat → Int32} {n : Nat} {gl gm : Nat → Int32} {c p : Nat} : (clN T n gl gm c p).1 ≤ 2 := by
  unfold clN
  split
  · split
    · exact Nat.zero_le _
    · exact (by decide : 1 ≤ 2)
  · exact rd_le c 0 p
/-- what is known when the text is read -/
def fRel (y : RS) (fu fa : Int32) (st : Nat) (bl mm : Int32) (nq nh : Nat) (R : Nat → Nat → Int32) : Prop := (y.1 0 ≠ 0 ∧ y.1 0 ≤ 3 ∧ fu = nI (y.1 0) ∧ fa = nI (y.1 1)) ∨ (y.1 0 = 0 ∧ fu = 0 ∧ fa = -1 ∧ dRel y st bl mm nq nh R)
theorem cf {y : RS} {fu fa : Int32} {at0 st : Nat} {bl mm : Int32} {nq nh : Nat} {R : Nat → Nat → Int32} (h : cRel y fu fa at0 st bl mm nq nh R) : fRel y fu fa st bl mm nq nh R := by
  rcases h with h | ⟨h1, h2, h3, h4, h5⟩
  · exact Or.inl h
  · exact Or.inr ⟨h1, h2, h3, h5⟩
theorem fr_fu {y : RS} {fu fa : Int32} {st : Nat} {bl mm : Int32} {nq nh : Nat} {R : Nat → Nat → Int32} (h : fRel y fu fa st bl mm nq nh R) : fu = nI (y.1 0) := by
  rcases h with h | ⟨h1, h2, h3, h5⟩
  · exact h.2.2.1
  · rw [h2, h1]; rfl
/-- the fault is there, or not -/
theorem cr_no {y : RS} {fu fa : Int32} {at0 st : Nat} {bl mm : Int32} {nq nh : Nat} {R : Nat → Nat → Int32} (h : cRel y fu fa at0 st bl mm nq nh R) (c : ¬ fu = 0) : y.1 0 ≠ 0 := by
  rcases h with h | ⟨h1, h2, h3, h4, h5⟩
  · exact h.1
  · exact absurd h2 c
theorem cr_yes {y : RS} {fu fa : Int32} {at0 st : Nat} {bl mm : Int32} {nq nh : Nat} {R : Nat → Nat → Int32} (h : cRel y fu fa at0 st bl mm nq nh R) (c : fu = 0) : y.1 0 = 0 ∧ fa = -1 ∧ at0 = y.1 2 ∧ dRel y st bl mm nq nh R := by
  rcases h with ⟨h1, h2, h3, h4⟩ | ⟨h1, h2, h3, h4, h5⟩
  · rw [h3] at c
    exact absurd ((nI_eq (a := y.1 0) (b := 0) (by omega) (by omega)).mp c) h1
  · exact ⟨h1, h3, h4, h5⟩
theorem rdT_stop {T : Nat → Int32} {n d : Nat} {y : RS} (h : y.1 0 ≠ 0 ∨ n ≤ sk T n (y.1 2)) : rdT T n d y = y := by
  cases d with
  | zero => rfl
  | succ d => exact if_pos h
theorem rdT_step {T : Nat → Int32} {n k m : Nat} {y : RS} (hk : k < m) (h : ¬ (y.1 0 ≠ 0 ∨ n ≤ sk T n (y.1 2))) : rdT T n (m - (k + 1)) (clT T n (skT T n y)) = rdT T n (m - k) y := by
  rw [show m - k = (m - (k + 1)) + 1 from by omega]
  exact (if_neg h).symm
theorem cpy_lt {f g : Nat → Int32} {sp dp n : Int32} {m j : Nat} (h1 : sp.toNatClampNeg = 0) (h2 : dp.toNatClampNeg = 0) (h3 : n.toNatClampNeg = m) (hj : j < m) : va_cpy f g sp.toNatClampNeg dp.toNatClampNeg n.toNatClampNeg j = f j := by
  rw [h1, h2, h3]
  show (if 0 ≤ j ∧ j < 0 + m then f (0 + (j - 0)) else g j) = f j
  rw [if_pos ⟨Nat.zero_le _, by omega⟩, Nat.zero_add, Nat.sub_zero]
theorem cr_0 {st : Nat} {R : Nat → Nat → Int32} (h : st = 0) : cRel rs0 0 (-1) 0 st 0 0 0 0 R := Or.inr ⟨rfl, rfl, rfl, rfl, h, rfl, rfl, ⟨rfl, rfl⟩, fun r j _ hj => absurd hj (by omega), fun r j _ _ hj => absurd hj (by omega)⟩
theorem dg_ltr {T : Nat → Int32} {n q : Nat} (h : ¬ isFg (ltr T n q)) : dg T n q = q := dg_stop (fun c => h (by rw [show ltr T n q = T q from if_pos c.1]; exact c.2))
theorem ltr_lt {T : Nat → Int32} {n q : Nat} (h : isFg (ltr T n q)) : q < n ∧ isFg (T q) := by
  by_cases c : q < n
  · refine ⟨c, ?_⟩
    have e : ltr T n q = T q := if_pos c
    rw [e] at h
    exact h
  · have e : ltr T n q = -1 := if_neg c
    rw [e] at h
    exact absurd h (by decide)
theorem dg_ne {T : Nat → Int32} {n q : Nat} (h : isFg (ltr T n q)) : dg T n q ≠ q := by
  have h1 := ltr_lt h
  have h2 := dg_step h1.1 h1.2
  have h3 : q + 1 ≤ dg T n (q + 1) := dg_ge
  omega
theorem w3_s {T : Nat → Int32} {q k : Nat} (hk : q ≤ k) : w3 T q (k + 1 - q) = w3 T q (k - q) * 10 + T k - 48 := by
  rw [show k + 1 - q = (k - q) + 1 from by omega]
  show w3 T q (k - q) * 10 + T (q + (k - q)) - 48 = _
  rw [show q + (k - q) = k from by omega]
theorem w3_nat {T : Nat → Int32} {q : Nat} : ∀ (m : Nat), m ≤ 3 → (∀ j, q ≤ j → j < q + m → isFg (T j)) → ∃ v : Nat, v < 10 ^ m ∧ w3 T q m = nI v
  | 0, _, _ => ⟨0, by decide, rfl⟩
  | m + 1, hm, h => by
    obtain ⟨v, hv, e⟩ := w3_nat m (by omega) (fun j h1 h2 => h j h1 (by omega))
    have hf := h (q + m) (by omega) (by omega)
    obtain ⟨d, hd1, hd2, ed⟩ := x_rng (a := 48) (b := 57) (by decide) (by decide) hf
    refine ⟨v * 10 + d - 48, ?_, ?_⟩
    · rw [Nat.pow_succ]
      generalize 10 ^ m = P at hv ⊢
      omega
    · show w3 T q m * 10 + T (q + m) - 48 = _
      rw [e, ed]
      have e1 : nI v * 10 = nI (v * 10) := pk_mul v 10
      rw [e1, nI_add]
      exact pk_sub (a := v * 10 + d) (b := 48) (by omega)
theorem w3_big {T : Nat → Int32} {n q k : Nat} {x : Int32} (hk : q ≤ k) (h3 : k - q ≤ 3) (he : dg T n k = dg T n q) (hx : x = w3 T q (k - q)) : x ≤ 10000 := by
  obtain ⟨v, hv, e⟩ := w3_nat (T := T) (q := q) (k - q) h3 (fun j h1 h2 => dg_fg (n := n) h1 (by have := dg_ge (T := T) (n := n) (p := k); omega))
  have hp : 10 ^ (k - q) ≤ 10 ^ 3 := Nat.pow_le_pow_right (by decide) h3
  rw [hx, e]
  exact (nI_leI (a := v) (b := 10000) (by omega) (by omega)).mpr (by omega)
theorem nm_2c {T : Nat → Int32} {n p q k : Nat} {lo hi v : Int32} (hq : q = sk T n p) (he : dg T n q = k) (hn : k ≠ q) (h : ¬ 3 < k - q) (hv : v = w3 T q (k - q)) (hb : ¬ (lo ≤ v ∧ v ≤ hi)) : nmF T n p lo hi = 2 := nm_2b hq he hn h (hv.trans (by rw [Nat.min_eq_left (by omega)])) hb
theorem nm_0c {T : Nat → Int32} {n p q k : Nat} {lo hi v : Int32} (hq : q = sk T n p) (he : dg T n q = k) (hn : k ≠ q) (h : ¬ 3 < k - q) (hv : v = w3 T q (k - q)) (hb : lo ≤ v ∧ v ≤ hi) : nmF T n p lo hi = 0 ∧ k = nmE T n p ∧ v = nmV T n p := nm_0 hq he hn h (hv.trans (by rw [Nat.min_eq_left (by omega)])) hb
/-- the reference's numbers, as the words of what is read so far -/
def mRel (y : RS) (f : Nat) (fp : Int32) (at0 : Nat) (o : Nat → Int32) (rq rh : Nat) (R : Nat → Nat → Int32) : Prop := (y.1 0 ≠ 0 ∧ y.1 0 ≤ 3 ∧ f = y.1 0 ∧ fp = nI (y.1 1)) ∨ (y.1 0 = 0 ∧ f = 0 ∧ fp = -1 ∧ at0 = y.1 2 ∧ ((y.1 3 = 0 ∧ o 0 = 0) ∨ (y.1 3 = 1 ∧ 0 < o 0)) ∧ dRel y (y.1 3) (o 0) (o 1) rq rh R)
theorem m_of_c {y : RS} {f : Nat} {fp bl mm : Int32} {at0 st rq rh : Nat} {o : Nat → Int32} {R : Nat → Nat → Int32} (h : cRel y (nI f) fp at0 st bl mm rq rh R) (hf : f ≤ 3) (hb : bl = o 0) (hm : mm = o 1) (hs : (st = 0 ∧ o 0 = 0) ∨ (st = 1 ∧ 0 < o 0)) : mRel y f fp at0 o rq rh R := by
  subst hb
  subst hm
  rcases h with ⟨h1, h2, h3, h4⟩ | ⟨h1, h2, h3, h4, h5⟩
  · exact Or.inl ⟨h1, h2, (nI_eq (a := f) (b := y.1 0) (by omega) (by omega)).mp h3, h4⟩
  · have e := h5.1
    rw [e] at hs h5
    exact Or.inr ⟨h1, (nI_eq (a := f) (b := 0) (by omega) (by omega)).mp h2, h3, h4, hs, h5⟩
theorem nmF_lo {T : Nat → Int32} {n p : Nat} {lo hi : Int32} (h : nmF T n p lo hi = 0) : lo ≤ nmV T n p := by
  unfold nmF at h
  split at h
  · exact absurd h (by decide)
  · split at h
    · exact absurd h (by decide)
    · next _ c => exact (Classical.byContradiction (fun d => c (Or.inr (fun k => d k.1))))
theorem rd_first {T : Nat → Int32} {n d p : Nat} {gl gm : Nat → Int32} (h : (rd T n gl gm (d + 1) 0 p).1 = 0) : nmF T n p (gl 0) (gm 0) = 0 := by
  by_cases c : nmF T n p (gl 0) (gm 0) = 0
  · exact c
  · have e : rd T n gl gm (d + 1) 0 p = (nmF T n p (gl 0) (gm 0), nmQ T n p, p) := if_neg c
    rw [e] at h
    exact absurd h c
/-- a clause's numbers read, the ; there or not -/
theorem clN_r {T : Nat → Int32} {n : Nat} {gl gm : Nat → Int32} {c p : Nat} (h : (rd T n gl gm c 0 p).1 = 0) (hs : ltr T n (sk T n (rd T n gl gm c 0 p).2.2) = 59) : clN T n gl gm c p = (0, 0, sk T n (rd T n gl gm c 0 p).2.2 + 1) := (if_pos h).trans (if_pos hs)
theorem clN_n {T : Nat → Int32} {n : Nat} {gl gm : Nat → Int32} {c p : Nat} (h : (rd T n gl gm c 0 p).1 = 0) (hs : ¬ ltr T n (sk T n (rd T n gl gm c 0 p).2.2) = 59) : clN T n gl gm c p = (1, sk T n (rd T n gl gm c 0 p).2.2, p) := (if_pos h).trans (if_neg hs)
theorem clN_f {T : Nat → Int32} {n : Nat} {gl gm : Nat → Int32} {c p : Nat} (h : (rd T n gl gm c 0 p).1 ≠ 0) : clN T n gl gm c p = rd T n gl gm c 0 p := if_neg h
theorem mR_fail {T : Nat → Int32} {n : Nat} {x : RS} {fp : Int32} {at0 rq rh f f1 q e k : Nat} {o : Nat → Int32} {R R0 : Nat → Nat → Int32} {p st0 nq0 nh0 : Nat} {bl0 mm0 : Int32} (hp : p = x.1 2) (hd : dRel x st0 bl0 mm0 nq0 nh0 R0) (h : clS T n p st0 nq0 nh0 = ((f, q, e), k)) (hf : f ≠ 0) (h3 : f ≤ 3) (h1 : f1 = f) (h2 : fp = nI q) : mRel (clT T n x) f1 fp at0 o rq rh R := by
  rw [clT_fail hp hd h hf]
  exact Or.inl ⟨hf, h3, h1, h2⟩
theorem ltr_59 {T : Nat → Int32} {n q : Nat} (h : ltr T n q = 59) : q < n := by
  by_cases c : q < n
  · exact c
  · have e : ltr T n q = -1 := if_neg c
    rw [e] at h
    exact absurd h (by decide)
/-- what office answers, and the fault's place -/
def offR (y : RS) : Int32 := if y.1 0 ≠ 0 then -10 - nI (y.1 0) else nI (y.1 4)
def offF (y : RS) : Int32 := if y.1 0 ≠ 0 then nI (y.1 1) else -1
theorem fr_fa {y : RS} {fu fa : Int32} {st : Nat} {bl mm : Int32} {nq nh : Nat} {R : Nat → Nat → Int32} (h : fRel y fu fa st bl mm nq nh R) : fa = offF y := by
  rcases h with ⟨h1, h2, h3, h4⟩ | ⟨h1, h2, h3, h5⟩
  · exact h4.trans (if_pos h1).symm
  · exact h3.trans (if_neg (fun k => k h1)).symm
theorem fr_yes {y : RS} {fu fa r : Int32} {st : Nat} {bl mm : Int32} {nq nh : Nat} {R : Nat → Nat → Int32} (h : fRel y fu fa st bl mm nq nh R) (hr : r = nI (y.1 0)) (c : r = 0) : y.1 0 = 0 ∧ dRel y st bl mm nq nh R := by
  rcases h with ⟨h1, h2, h3, h4⟩ | ⟨h1, h2, h3, h5⟩
  · rw [hr] at c
    exact absurd ((nI_eq (a := y.1 0) (b := 0) (by omega) (by omega)).mp c) h1
  · exact ⟨h1, h5⟩
theorem off_no {y : RS} {r : Int32} (hr : r = nI (y.1 0)) (c : ¬ r = 0) : offR y = -10 - r := by
  have h : y.1 0 ≠ 0 := fun h0 => c (hr.trans (by rw [h0]; rfl))
  rw [hr]
  exact if_pos h
theorem off_yes {y : RS} {st : Nat} {bl mm : Int32} {nq nh : Nat} {R : Nat → Nat → Int32} (h : y.1 0 = 0 ∧ dRel y st bl mm nq nh R) : nI nq = offR y := by
  rw [h.2.2.1]
  exact (if_neg (fun k => k h.1)).symm
theorem mr_0 {o : Nat → Int32} {R : Nat → Nat → Int32} (h : o 0 = 0) (h1 : o 1 = 0) : mRel rs0 0 (-1) 0 o 0 0 R := Or.inr ⟨rfl, rfl, rfl, rfl, Or.inl ⟨rfl, h⟩, rfl, rfl, rfl, ⟨h, h1⟩, fun r j _ hj => absurd hj (by omega), fun r j _ _ hj => absurd hj (by omega)⟩
theorem mr_no {y : RS} {f : Nat} {fp : Int32} {at0 : Nat} {o : Nat → Int32} {rq rh : Nat} {R : Nat → Nat → Int32} (h : mRel y f fp at0 o rq rh R) (c : ¬ f = 0) : y.1 0 ≠ 0 ∧ f = y.1 0 := by
  rcases h with ⟨h1, h2, h3, h4⟩ | ⟨h1, h2, h3⟩
  · exact ⟨h1, h3⟩
  · exact absurd h2 c
theorem mr_yes {y : RS} {f : Nat} {fp : Int32} {at0 : Nat} {o : Nat → Int32} {rq rh : Nat} {R : Nat → Nat → Int32} (h : mRel y f fp at0 o rq rh R) (c : f = 0) : y.1 0 = 0 ∧ fp = -1 ∧ at0 = y.1 2 ∧ ((y.1 3 = 0 ∧ o 0 = 0) ∨ (y.1 3 = 1 ∧ 0 < o 0)) ∧ dRel y (y.1 3) (o 0) (o 1) rq rh R := by
  rcases h with ⟨h1, h2, h3, h4⟩ | ⟨h1, h2, h3, h4, h5, h6⟩
  · exact absurd (h3.symm.trans c) h1
  · exact ⟨h1, h3, h4, h5, h6⟩
theorem mr_fp {y : RS} {f : Nat} {fp : Int32} {at0 : Nat} {o : Nat → Int32} {rq rh : Nat} {R : Nat → Nat → Int32} (h : mRel y f fp at0 o rq rh R) : fp = offF y := by
  rcases h with ⟨h1, h2, h3, h4⟩ | ⟨h1, h2, h3, h4, h5, h6⟩
  · exact h4.trans (if_pos h1).symm
  · exact h3.trans (if_neg (fun k => k h1)).symm
theorem moff_no {y : RS} {f : Nat} {z : Int32} (h : y.1 0 ≠ 0 ∧ f = y.1 0) (hz : z = -10 - nI f) : z = offR y := by
  rw [hz, h.2]
  exact (if_pos h.1).symm
theorem ltr_neg {T : Nat → Int32} {n q : Nat} (hn : ∀ j, j < n → 0 ≤ T j) (h : ltr T n q < 0) : n ≤ q := by
  rcases Nat.lt_or_ge q n with c | c
  · have e : ltr T n q = T q := if_pos c
    rw [e] at h
    exact absurd h (Int32.not_lt.mpr (hn q c))
  · exact c
theorem ltr_pos {T : Nat → Int32} {n q : Nat} (h : ¬ ltr T n q < 0) : q < n := by
  rcases Nat.lt_or_ge q n with c | c
  · exact c
  · have e : ltr T n q = -1 := if_neg (by omega)
    rw [e] at h
    exact absurd (by decide) h
theorem rdT_go {T : Nat → Int32} {n d : Nat} {y : RS} (h : ¬ (y.1 0 ≠ 0 ∨ n ≤ sk T n (y.1 2))) : rdT T n d (clT T n (skT T n y)) = rdT T n (d + 1) y := (if_neg h).symm
def offN (y : RS) (a b : Nat) : Nat := if y.1 0 ≠ 0 then a else b
theorem offN_f {y : RS} {r : Int32} {a b : Nat} (hr : r = nI (y.1 0)) (c : ¬ r = 0) : a = offN y a b := (if_pos (fun h0 => c (hr.trans (by rw [h0]; rfl)))).symm
theorem offN_o {y : RS} {a b c : Nat} (h : y.1 0 = 0) (e : c = b) : c = offN y a b := e.trans (if_neg (fun k => k h)).symm
theorem moffN_f {y : RS} {f a b : Nat} (h : y.1 0 ≠ 0 ∧ f = y.1 0) : a = offN y a b := (if_pos h.1).symm
/-- worn and note: what they answer, and how many stand then -/
def wornR (q n s : Int32) (nq ne : Nat) : Int32 := if 0 ≤ q ∧ q < nI nq then (if 1 ≤ n ∧ n ≤ 9 then (if 0 ≤ s ∧ s ≤ 99 then (if ne < 6 then nI (ne + 1) else -1000000004) else -1000000002) else -1000000002) else -1000000001
def wornN (q n s : Int32) (nq ne : Nat) : Nat := if 0 ≤ q ∧ q < nI nq then (if 1 ≤ n ∧ n ≤ 9 then (if 0 ≤ s ∧ s ≤ 99 then (if ne < 6 then ne + 1 else ne) else ne) else ne) else ne
def noteR (q s : Int32) (nq nk : Nat) : Int32 := if 0 ≤ q ∧ q < nI nq then (if 0 ≤ s ∧ s ≤ 99 then (if nk < 15 then nI (nk + 1) else -1000000004) else -1000000002) else -1000000001
def noteN (q s : Int32) (nq nk : Nat) : Nat := if 0 ≤ q ∧ q < nI nq then (if 0 ≤ s ∧ s ≤ 99 then (if nk < 15 then nk + 1 else nk) else nk) else nk
/-- the images' marks: kept, and what goBack answers -/
def keptT (q : Int32) (f : Nat → Int32) : Nat → Int32 := if 0 ≤ q ∧ q ≤ 1 then upd f q.toNatClampNeg 1 else f
def goR (q : Int32) (f : Nat → Int32) : Int32 := if 0 ≤ q ∧ q ≤ 1 then (if f q.toNatClampNeg = 0 then -1000000003 else 1) else -1000000001
theorem kept_rel {q : Int32} {f g : Nat → Int32} (h : ∀ j, j < 2 → g j = f j) : ∀ j, j < 2 → keptT q g j = keptT q f j := by
  intro j hj
  unfold keptT
  by_cases c : 0 ≤ q ∧ q ≤ 1
  · rw [if_pos c, if_pos c]
    by_cases e : j = q.toNatClampNeg
    · rw [← e, pk_us, pk_us]
    · rw [pk_un e, pk_un e]
      exact h j hj
  · rw [if_neg c, if_neg c]
    exact h j hj
theorem go_rel {q : Int32} {f g : Nat → Int32} (h : ∀ j, j < 2 → g j = f j) : goR q g = goR q f := by
  unfold goR
  by_cases c : 0 ≤ q ∧ q ≤ 1
  · rw [if_pos c, if_pos c]
    rcases x_01 c with rfl | rfl
    · rw [show ((0 : Int32)).toNatClampNeg = 0 from by decide, h 0 (by decide)]
    · rw [show ((1 : Int32)).toNatClampNeg = 1 from by decide, h 1 (by decide)]
  · rw [if_neg c, if_neg c]
def offZ (y : RS) (a : Int32) : Int32 := if y.1 0 ≠ 0 then a else 0
theorem offZ_f {y : RS} {r a : Int32} (hr : r = nI (y.1 0)) (c : ¬ r = 0) : a = offZ y a := (if_pos (fun h0 => c (hr.trans (by rw [h0]; rfl)))).symm
theorem offZ_o {y : RS} {a b : Int32} (h : y.1 0 = 0) (e : b = 0) : b = offZ y a := e.trans (if_neg (fun k => k h)).symm
theorem moffZ_f {y : RS} {f : Nat} {a : Int32} (h : y.1 0 ≠ 0 ∧ f = y.1 0) : a = offZ y a := (if_pos h.1).symm
theorem z2 {f : Nat → Int32} : ∀ j, j < 2 → upd (upd f 0 0) 1 0 j = 0 := by
  intro j hj
  rcases (show j = 0 ∨ j = 1 by omega) with rfl | rfl
  · rw [pk_un (by decide)]
    exact pk_us
  · exact pk_us
