/-- a fact that is kept from the arithmetic's sight -/
def Hid (p : Prop) : Prop := p
theorem Hid.out {p : Prop} (h : Hid p) : p := h
theorem Hid.mk {p : Prop} (h : p) : Hid p := h
theorem rd_goP {T : Nat → Int32} {n p : Nat} {gl gm : Nat → Int32} {d d1 i i1 : Nat} (hd : d1 = d + 1) (hi : i1 = i + 1) (h : nmF T n (rdP T n p i) (gl i) (gm i) = 0) : rd T n gl gm d i1 (rdP T n p i1) = rd T n gl gm d1 i (rdP T n p i) := by
  subst hd
  subst hi
  exact (if_pos h).symm
theorem rd_fl {T : Nat → Int32} {n p : Nat} {gl gm : Nat → Int32} {d d1 i : Nat} (hd : d1 = d + 1) (h : nmF T n p (gl i) (gm i) ≠ 0) : rd T n gl gm d1 i p = (nmF T n p (gl i) (gm i), nmQ T n p, p) := by
  subst hd
  exact if_neg h
theorem rdP_s {T : Nat → Int32} {n p i i1 : Nat} (h : i1 = i + 1) : nmE T n (rdP T n p i) = rdP T n p i1 := by
  subst h
  rfl
theorem rdP_1 {T : Nat → Int32} {n p : Nat} : nmE T n p = rdP T n p 1 := rfl
theorem mR_failC {T : Nat → Int32} {n : Nat} {x : RS} {fp : Int32} {at0 rq rh f1 k : Nat} {c : Nat × Nat × Nat} {o : Nat → Int32} {R R0 : Nat → Nat → Int32} {p st0 nq0 nh0 : Nat} {bl0 mm0 : Int32} (hp : p = x.1 2) (hd : dRel x st0 bl0 mm0 nq0 nh0 R0) (h : clS T n p st0 nq0 nh0 = (c, k)) (hf : c.1 ≠ 0) (h3 : c.1 ≤ 3) (h1 : f1 = c.1) (h2 : fp = nI c.2.1) : mRel (clT T n x) f1 fp at0 o rq rh R := by
  obtain ⟨f, q, e⟩ := c
  exact mR_fail hp hd h hf h3 h1 h2
