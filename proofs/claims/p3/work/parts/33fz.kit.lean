/-- a fact that is kept from the arithmetic's sight -/
def Hid (p : Prop) : Prop := p
theorem Hid.out {p : Prop} (h : Hid p) : p := h
theorem Hid.mk {p : Prop} (h : p) : Hid p := h
theorem rd_goP {T : Nat → Int32} {n p : Nat} {gl gm : Nat → Int32} {d d1 i i1 : Nat} (hd : d1 = d + 1) (hi : i1 = i + 1) (h : nmF T n (rdP T n p i) (gl i) (gm i) = 0) : rd T n gl gm d i1 (rdP T n p i1) = rd T n gl gm d1 i (rdP T n p i) := by
  subst hd
  subst hi
  exact (if_pos h).symm
theorem rd_fl {T : Nat → Int32} {n p : Nat} {gl gm : Nat → Int32} {d d1 i : Nat} (hd : d1 = d + 1) (h : nmF T n p (gl i) (gm i) ≠ 0) : rd T n gl gm d1 i p = (nmF T n p (gl i) (gm i), nmQ T n p, p) := by
  subst hd
  exact if_neg h
theorem rdP_s {T : Nat → Int32} {n p i i1 : Nat} (h : i1 = i + 1) : nmE T n (rdP T n p i) = rdP T n p i1 := by
  subst h
  rfl
theorem rdP_1 {T : Nat → Int32} {n p : Nat} : nmE T n p = rdP T n p 1 := rfl
