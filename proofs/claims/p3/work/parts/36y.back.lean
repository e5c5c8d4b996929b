theorem his_back {cI : ClassId} {o : Nat} {a : Nat → Nat → Nat} {c : Nat → dskC} {j : Nat} {X : dskC} (hj : j < 20) : (dskW cI o (a j) X ++ hisR cI o a c j).Perm (hisW cI o a (va_up c j X)) := by
  have h := (his_perm (cI := cI) (o := o) (a := a) (c := va_up c j X) hj).symm
  rw [hisR_up, va_up_self] at h
  exact h
