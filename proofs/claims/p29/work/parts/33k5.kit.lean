/-! the whole state, side by side: what each call leaves -/
def rwR (nq nh : Nat) (a b c d e f A B C D E F : Nat → Int32) : Prop := (∀ j, j < nq → a j = A j ∧ b j = B j ∧ c j = C j ∧ bN 9 (c j)) ∧ (∀ j, j < nh → d j = D j ∧ e j = E j ∧ f j = F j ∧ bN 9 (e j) ∧ bN 9 (f j))
def rwX (nq nh : Nat) (R S : Nat → Nat → Int32) : Prop := rwR nq nh (R 0) (R 1) (R 2) (R 5) (R 6) (R 7) (S 0) (S 1) (S 2) (S 5) (S 6) (S 7)
theorem rw_W {nq nh : Nat} {a b c d e f A B C D E F : Nat → Int32} (h : rwR nq nh a b c d e f A B C D E F) : ∀ j k, j < nq → k < nh → wrF (a j) (b j) (c j) (d k) (e k) = wrF (A j) (B j) (C j) (D k) (E k) := by
  intro j k hj hk
  obtain ⟨h1, h2, h3, _⟩ := h.1 j hj
  obtain ⟨g1, g2, _⟩ := h.2 k hk
  rw [h1, h2, h3, g1, g2]
theorem rw_n {nq nh : Nat} {a b c d e f A B C D E F : Nat → Int32} (h : rwR nq nh a b c d e f A B C D E F) : ∀ k, k < nh → f k = F k ∧ bN 9 (f k) := fun k hk => ⟨(h.2 k hk).2.2.1, (h.2 k hk).2.2.2.2⟩
theorem hR_two {nq nh o n un o1 n1 u1 j : Nat} {cd : Nat → dskC} {past past1 D E : DD} {x : dskC} {ok okm : Prop} [Decidable ok] [Decidable okm] (hok : ok ↔ okm) (hD : dR nq nh D E) (h : hR nq nh o n cd past) (hcu : n = un) (hq : nq ≤ 8) (hh : nh ≤ 4) (ho : o ≤ 19) (hn : n ≤ 20) (hj : j = (o + n) % 20) (hx : ∀ i, i < 34 → dkc x i = if ok then D i else dkc (cd j) i) (e1 : o1 = if ok then (if n < 20 then o else (o + 1) % 20) else o) (e2 : n1 = if ok then (if n < 20 then n + 1 else n) else n) (hp : ∀ i, past1 i = if okm then rmF un E past i else past i) (e3 : u1 = if okm then (if un < 20 then un + 1 else un) else un) : n1 = u1 ∧ hR nq nh o1 n1 (va_up cd j x) past1 := by
  subst hcu
  subst hj
  refine ⟨?_, hR_op h hq hh ho hn hD hx e1 e2 (fun i => (hp i).trans ?_)⟩
  · rw [e2, e3]
    by_cases c : ok
    · rw [if_pos c, if_pos (hok.mp c)]
    · rw [if_neg c, if_neg (fun k => c (hok.mpr k))]
  · by_cases c : ok
    · rw [if_pos c, if_pos (hok.mp c)]
    · rw [if_neg c, if_neg (fun k => c (hok.mpr k))]
theorem hR_if {nq nh o n n1 : Nat} {cd : Nat → dskC} {past : DD} {ok : Prop} [Decidable ok] (h : hR nq nh o n cd past) (e : n1 = if ok then 0 else n) : hR nq nh o n1 cd past := by
  by_cases c : ok
  · rw [if_pos c] at e
    subst e
    exact hR_0
  · rw [if_neg c] at e
    subst e
    exact h
theorem hR_same {nq nh o n j : Nat} {cd : Nat → dskC} {past : DD} (h : hR nq nh o n cd past) : hR nq nh o n (va_up cd j ((cd j).1, (cd j).2.1, (cd j).2.2)) past := by
  intro k hk
  by_cases e : (o + k) % 20 = j
  · rw [e, va_up_self]
    have := h k hk
    rw [e] at this
    exact this
  · rw [va_up_ne _ _ e]
    exact h k hk
theorem L_write {nq nh nq2 nh2 o n un o1 n1 u1 j : Nat} {a b c d e f A B C A2 B2 C2 : Nat → Int32} {q h k : Int32} {D E D1 E1 past past1 : DD} {cd : Nat → dskC} {x : dskC}
    (d0 : D1 = wDD lcB nq nh (fun j k => wrF (a j) (b j) (c j) (d k) (e k)) f q h k D) (hx : ∀ i, i < 34 → dkc x i = if wOK nq nh q h k D then D i else dkc (cd j) i) (e1 : o1 = if wOK nq nh q h k D then (if n < 20 then o else (o + 1) % 20) else o) (e2 : n1 = if wOK nq nh q h k D then (if n < 20 then n + 1 else n) else n)
    (d1 : E1 = wDD lmB nq2 nh2 (fun j k => wrF (A j) (B j) (C j) (A2 k) (B2 k)) C2 q h k E) (hp : ∀ i, past1 i = if wOK nq2 nh2 q h k E then rmF un E past i else past i) (e3 : u1 = if wOK nq2 nh2 q h k E then (if un < 20 then un + 1 else un) else un)
    (hqq : nq = nq2) (hhh : nh = nh2) (hq : nq ≤ 8) (hh : nh ≤ 4) (hrw : rwR nq nh a b c d e f A B C A2 B2 C2) (hdk : dR nq nh D E) (hcu : n = un) (hhr : hR nq nh o n cd past) (ho : o ≤ 19) (hn : n ≤ 20) (hj : j = (o + n) % 20) :
    wRR lcB nq nh (fun j k => wrF (a j) (b j) (c j) (d k) (e k)) f q h k D = wRR lmB nq2 nh2 (fun j k => wrF (A j) (B j) (C j) (A2 k) (B2 k)) C2 q h k E ∧ dR nq nh D1 E1 ∧ n1 = u1 ∧ hR nq nh o1 n1 (va_up cd j x) past1 := by
  subst hqq
  subst hhh
  have w := dR_write (q := q) (h := h) (n := k) hdk hq hh (rw_W hrw) (rw_n hrw)
  subst d0
  subst d1
  exact ⟨w.2.2, w.2.1, hR_two w.1 hdk hhr hcu hq hh ho hn hj hx e1 e2 hp e3⟩
theorem L_dry {nq nh nq2 o n un o1 n1 u1 j : Nat} {q h : Int32} {D E D1 E1 past past1 : DD} {cd : Nat → dskC} {x : dskC}
    (d0 : D1 = yDD nq q h D) (hx : ∀ i, i < 34 → dkc x i = if yOK nq q h then D i else dkc (cd j) i) (e1 : o1 = if yOK nq q h then (if n < 20 then o else (o + 1) % 20) else o) (e2 : n1 = if yOK nq q h then (if n < 20 then n + 1 else n) else n)
    (d1 : E1 = yDD nq2 q h E) (hp : ∀ i, past1 i = if yOK nq2 q h then rmF un E past i else past i) (e3 : u1 = if yOK nq2 q h then (if un < 20 then un + 1 else un) else un)
    (hqq : nq = nq2) (hq : nq ≤ 8) (hh : nh ≤ 4) (hdk : dR nq nh D E) (hcu : n = un) (hhr : hR nq nh o n cd past) (ho : o ≤ 19) (hn : n ≤ 20) (hj : j = (o + n) % 20) :
    yRR nq q h D = yRR nq2 q h E ∧ dR nq nh D1 E1 ∧ n1 = u1 ∧ hR nq nh o1 n1 (va_up cd j x) past1 := by
  subst hqq
  have w := dR_dry (q := q) (h := h) hdk hq
  subst d0
  subst d1
  exact ⟨w.2, w.1, hR_two Iff.rfl hdk hhr hcu hq hh ho hn hj hx e1 e2 hp e3⟩
theorem L_mend {nq nh nq2 o n un o1 n1 u1 j : Nat} {bl mm b2 m2 q : Int32} {D E D1 E1 past past1 : DD} {cd : Nat → dskC} {x : dskC}
    (d0 : D1 = mDD bcF nq bl mm q D) (hx : ∀ i, i < 34 → dkc x i = if mOK nq bl q D then D i else dkc (cd j) i) (e1 : o1 = if mOK nq bl q D then (if n < 20 then o else (o + 1) % 20) else o) (e2 : n1 = if mOK nq bl q D then (if n < 20 then n + 1 else n) else n)
    (d1 : E1 = mDD bmF nq2 b2 m2 q E) (hp : ∀ i, past1 i = if mOK nq2 b2 q E then rmF un E past i else past i) (e3 : u1 = if mOK nq2 b2 q E then (if un < 20 then un + 1 else un) else un)
    (hqq : nq = nq2) (hbl : bl = b2) (hmm : mm = m2) (hq : nq ≤ 8) (hh : nh ≤ 4) (hdk : dR nq nh D E) (hcu : n = un) (hhr : hR nq nh o n cd past) (ho : o ≤ 19) (hn : n ≤ 20) (hj : j = (o + n) % 20) :
    mRR nq bl q D = mRR nq2 b2 q E ∧ dR nq nh D1 E1 ∧ n1 = u1 ∧ hR nq nh o1 n1 (va_up cd j x) past1 := by
  subst hqq
  subst hbl
  subst hmm
  have w := dR_mend (bl := bl) (mm := mm) (q := q) hdk hq
  subst d0
  subst d1
  exact ⟨w.2.2, w.2.1, hR_two w.1 hdk hhr hcu hq hh ho hn hj hx e1 e2 hp e3⟩
theorem L_broaden {nq nh nq2 o n un o1 n1 u1 j : Nat} {q : Int32} {D E D1 E1 past past1 : DD} {cd : Nat → dskC} {x : dskC}
    (d0 : D1 = bDD (· + 1) nq q D) (hx : ∀ i, i < 34 → dkc x i = if bOK nq q D then D i else dkc (cd j) i) (e1 : o1 = if bOK nq q D then (if n < 20 then o else (o + 1) % 20) else o) (e2 : n1 = if bOK nq q D then (if n < 20 then n + 1 else n) else n)
    (d1 : E1 = bDM nq2 q E) (hp : ∀ i, past1 i = if bOM nq2 q E then rmF un E past i else past i) (e3 : u1 = if bOM nq2 q E then (if un < 20 then un + 1 else un) else un)
    (hqq : nq = nq2) (hq : nq ≤ 8) (hh : nh ≤ 4) (hdk : dR nq nh D E) (hcu : n = un) (hhr : hR nq nh o n cd past) (ho : o ≤ 19) (hn : n ≤ 20) (hj : j = (o + n) % 20) :
    bRR (· + 1) nq q D = bRM nq2 q E ∧ dR nq nh D1 E1 ∧ n1 = u1 ∧ hR nq nh o1 n1 (va_up cd j x) past1 := by
  subst hqq
  have w := dR_broad (q := q) hdk hq
  subst d0
  subst d1
  exact ⟨w.2.2, w.2.1, hR_two w.1 hdk hhr hcu hq hh ho hn hj hx e1 e2 hp e3⟩
theorem st_iff {st : Nat} {b : Int32} (h : (st = 0 ∧ b = 0) ∨ (st = 1 ∧ 0 < b)) : (¬ nI st = 0) ↔ (¬ b = 0) := by
  rcases h with ⟨rfl, rfl⟩ | ⟨rfl, h⟩
  · exact ⟨fun k => absurd (rfl : nI 0 = 0) k, fun k => absurd rfl k⟩
  · exact ⟨fun _ e => absurd h (by rw [e]; decide), fun _ => by decide⟩
theorem L_whet {nq nh o n un o1 n1 u1 j st : Nat} {b2 : Int32} {D E D1 E1 past past1 : DD} {cd : Nat → dskC} {x : dskC}
    (d0 : D1 = hDD (¬ nI st = 0) D) (hx : ∀ i, i < 34 → dkc x i = if hOK (¬ nI st = 0) D then D i else dkc (cd j) i) (e1 : o1 = if hOK (¬ nI st = 0) D then (if n < 20 then o else (o + 1) % 20) else o) (e2 : n1 = if hOK (¬ nI st = 0) D then (if n < 20 then n + 1 else n) else n)
    (d1 : E1 = hDD (¬ b2 = 0) E) (hp : ∀ i, past1 i = if hOK (¬ b2 = 0) E then rmF un E past i else past i) (e3 : u1 = if hOK (¬ b2 = 0) E then (if un < 20 then un + 1 else un) else un)
    (hst : (st = 0 ∧ b2 = 0) ∨ (st = 1 ∧ 0 < b2)) (hq : nq ≤ 8) (hh : nh ≤ 4) (hdk : dR nq nh D E) (hcu : n = un) (hhr : hR nq nh o n cd past) (ho : o ≤ 19) (hn : n ≤ 20) (hj : j = (o + n) % 20) :
    hRR (¬ nI st = 0) D = hRR (¬ b2 = 0) E ∧ dR nq nh D1 E1 ∧ n1 = u1 ∧ hR nq nh o1 n1 (va_up cd j x) past1 := by
  have w := dR_whet (s1 := ¬ nI st = 0) (s2 := ¬ b2 = 0) hdk hq (st_iff hst)
  subst d0
  subst d1
  exact ⟨w.2.2, w.2.1, hR_two w.1 hdk hhr hcu hq hh ho hn hj hx e1 e2 hp e3⟩
theorem L_drift {nq nh nq2 nh2 o n un o1 n1 u1 j st sd sm sd1 sm1 : Nat} {a b c d e f A B C A2 B2 C2 : Nat → Int32} {bl mm b2 m2 q : Int32} {D E D1 E1 past past1 : DD} {cd : Nat → dskC} {x : dskC}
    (s0 : sd1 = (fX (d1X lcB bcF nq nh bl mm (fun j k => wrF (a j) (b j) (c j) (d k) (e k)) f) (¬ nI st = 0) nq nh q (sd, D)).1) (d0 : D1 = (fX (d1X lcB bcF nq nh bl mm (fun j k => wrF (a j) (b j) (c j) (d k) (e k)) f) (¬ nI st = 0) nq nh q (sd, D)).2) (hx : ∀ i, i < 34 → dkc x i = if fOK (¬ nI st = 0) q D then D i else dkc (cd j) i) (e1 : o1 = if fOK (¬ nI st = 0) q D then (if n < 20 then o else (o + 1) % 20) else o) (e2 : n1 = if fOK (¬ nI st = 0) q D then (if n < 20 then n + 1 else n) else n)
    (s1 : sm1 = (fX (d1X lmB bmF nq2 nh2 b2 m2 (fun j k => wrF (A j) (B j) (C j) (A2 k) (B2 k)) C2) (¬ b2 = 0) nq2 nh2 q (sm, E)).1) (d1 : E1 = (fX (d1X lmB bmF nq2 nh2 b2 m2 (fun j k => wrF (A j) (B j) (C j) (A2 k) (B2 k)) C2) (¬ b2 = 0) nq2 nh2 q (sm, E)).2) (hp : ∀ i, past1 i = if fOK (¬ b2 = 0) q E then rmF un E past i else past i) (e3 : u1 = if fOK (¬ b2 = 0) q E then (if un < 20 then un + 1 else un) else un)
    (hqq : nq = nq2) (hhh : nh = nh2) (hbl : bl = b2) (hmm : mm = m2) (hsd : sd = sm) (hst : (st = 0 ∧ b2 = 0) ∨ (st = 1 ∧ 0 < b2)) (hq : nq ≤ 8) (hh : nh ≤ 4) (hrw : rwR nq nh a b c d e f A B C A2 B2 C2) (hdk : dR nq nh D E) (hcu : n = un) (hhr : hR nq nh o n cd past) (ho : o ≤ 19) (hn : n ≤ 20) (hj : j = (o + n) % 20) :
    fRR (d1X lcB bcF nq nh bl mm (fun j k => wrF (a j) (b j) (c j) (d k) (e k)) f) (¬ nI st = 0) nq nh q (sd, D) = fRR (d1X lmB bmF nq2 nh2 b2 m2 (fun j k => wrF (A j) (B j) (C j) (A2 k) (B2 k)) C2) (¬ b2 = 0) nq2 nh2 q (sm, E) ∧ dR nq nh D1 E1 ∧ n1 = u1 ∧ hR nq nh o1 n1 (va_up cd j x) past1 ∧ sd1 = sm1 := by
  subst hqq
  subst hhh
  subst hbl
  subst hmm
  subst hsd
  have w := dR_drift (s1 := ¬ nI st = 0) (s2 := ¬ bl = 0) (bl := bl) (mm := mm) (n := q) (x := (sd, D)) (y := (sd, E)) rfl hdk hq hh (st_iff hst) (rw_W hrw) (rw_n hrw)
  have t := hR_two w.1 hdk hhr hcu hq hh ho hn hj hx e1 e2 hp e3
  refine ⟨w.2.2.2, ?_, t.1, t.2, ?_⟩
  · rw [d0, d1]
    exact w.2.2.1
  · rw [s0, s1]
    exact w.2.1
theorem L_undo {nq nh o n un n1 u1 j : Nat} {D E D1 E1 past : DD} {cd : Nat → dskC}
    (d0 : ∀ i, i < 34 → D1 i = if n = 0 then D i else dkc (cd j) i) (e2 : n1 = n - 1) (d1 : ∀ i, i < 34 → E1 i = if un = 0 then E i else past (34 * (un - 1) + i)) (e3 : u1 = un - 1)
    (hq : nq ≤ 8) (hh : nh ≤ 4) (hdk : dR nq nh D E) (hcu : n = un) (hhr : hR nq nh o n cd past) (hj : j = (o + (n - 1)) % 20) :
    (if n = 0 then (-1000000003 : Int32) else nI (n - 1)) = (if un = 0 then (-1000000003 : Int32) else nI (un - 1)) ∧ dR nq nh D1 E1 ∧ n1 = u1 ∧ hR nq nh o n1 (va_up cd j ((cd j).1, (cd j).2.1, (cd j).2.2)) past := by
  subst hcu
  refine ⟨rfl, ?_, e2.trans e3.symm, hR_same (hR_le hhr (by omega))⟩
  by_cases c : n = 0
  · exact dR_congL (dR_congr hdk hq hh (fun i hi => (d1 i hi).trans (if_pos c))) hq hh (fun i hi => (d0 i hi).trans (if_pos c))
  · have h := hhr (n - 1) (by omega)
    rw [← hj] at h
    exact dR_congL (dR_congr h hq hh (fun i hi => (d1 i hi).trans (if_neg c))) hq hh (fun i hi => (d0 i hi).trans (if_neg c))
theorem L_seed {sd sm sd1 sm1 : Nat} {q : Int32} (s0 : sd1 = if q < 0 then sd else q.toNatClampNeg) (s1 : sm1 = if q < 0 then sm else q.toNatClampNeg) (hsd : sd = sm) : (if q < 0 then (-1000000002 : Int32) else nI sd) = (if q < 0 then (-1000000002 : Int32) else nI sm) ∧ sd1 = sm1 := by
  subst hsd
  exact ⟨rfl, s0.trans s1.symm⟩
theorem L_keep {nq nh o n un n1 u1 sd sm : Nat} {q : Int32} {i1 i2 j1 j2 : Nat → Int32} {T V g D E T1 V1 g1 past : DD} {cd : Nat → dskC}
    (t1 : j1 = kpS q sd i1) (t2 : j2 = keptT q i2) (t3 : ∀ i, i < 34 → T1 i = if q = 0 then D i else T i) (t4 : ∀ i, i < 34 → V1 i = if q = 1 then D i else V i) (e2 : n1 = if 0 ≤ q ∧ q ≤ 1 then 0 else n) (t5 : ∀ i, g1 i = kpM q E sm g i) (e3 : u1 = if 0 ≤ q ∧ q ≤ 1 then 0 else un)
    (hsd : sd = sm) (hq : nq ≤ 8) (hh : nh ≤ 4) (hdk : dR nq nh D E) (hcu : n = un) (hhr : hR nq nh o n cd past) (him : imR nq nh i1 i2 T V g) : n1 = u1 ∧ hR nq nh o n1 cd past ∧ imR nq nh j1 j2 T1 V1 g1 := by
  subst hsd
  subst hcu
  exact ⟨e2.trans e3.symm, hR_if hhr e2, imR_keep him hq hh hdk t1 t2 t3 t4 t5⟩
theorem L_goBack {nq nh o n un n1 u1 sd sm sd1 sm1 : Nat} {q : Int32} {i1 i2 m5 : Nat → Int32} {T V g D E D1 E1 past : DD} {cd : Nat → dskC}
    (t1 : ∀ i, i < 34 → D1 i = if goP q i2 then (if q = 0 then T i else V i) else D i) (s1 : nI sd1 = if goP q i2 then i1 q.toNatClampNeg else nI sd) (e2 : n1 = if goP q i2 then 0 else n) (t2 : ∀ i, i < 34 → E1 i = if goP q m5 then (if q = 0 then g i else g (35 + i)) else E i) (s2 : nI sm1 = if goP q m5 then (if q = 0 then g 34 else g 69) else nI sm) (e3 : u1 = if goP q m5 then 0 else un)
    (hz : ∀ j, j < 2 → i2 j = m5 j) (hsd : sd = sm) (b1 : sd1 ≤ 2147483647) (b2 : sm1 ≤ 2147483647) (hq : nq ≤ 8) (hh : nh ≤ 4) (hdk : dR nq nh D E) (hcu : n = un) (hhr : hR nq nh o n cd past) (him : imR nq nh i1 i2 T V g) : dR nq nh D1 E1 ∧ sd1 = sm1 ∧ n1 = u1 ∧ hR nq nh o n1 cd past := by
  have w := imR_go him hq hh hdk hz hsd b1 b2 t1 t2 s1 s2
  subst hcu
  refine ⟨w.2.1, w.2.2, ?_, hR_if hhr e2⟩
  rw [e2, e3]
  by_cases c : goP q i2
  · rw [if_pos c, if_pos (w.1.mp c)]
  · rw [if_neg c, if_neg (fun k => c (w.1.mpr k))]
theorem L_office {y y2 : RS} {nq nh nq2 nh2 nq1 nh1 nq3 nh3 st st1 o n un n1 u1 : Nat} {bl mm b2 m2 bl1 mm1 b3 m3 : Int32} {R S R1 S1 : Nat → Nat → Int32} {i1 i2 j2 : Nat → Int32} {T V g D E D1 E1 past : DD} {cd : Nat → dskC}
    (a1 : nq1 = offN y nq (y.1 4)) (a2 : ∀ j, j < 2 → j2 j = offZ y (i2 j)) (a3 : st1 = offN y st (y.1 3)) (a4 : nh1 = offN y nh (y.1 5)) (a5 : n1 = offN y n 0) (a6 : (y.1 0 ≠ 0 ∧ bl1 = bl ∧ mm1 = mm ∧ R1 = R ∧ D1 = D) ∨ (y.1 0 = 0 ∧ offP y bl1 mm1 nq1 nh1 R1 D1))
    (c1 : nq3 = offN y2 nq2 (y2.1 4)) (c4 : nh3 = offN y2 nh2 (y2.1 5)) (c5 : u1 = offN y2 un 0) (c6 : (y2.1 0 ≠ 0 ∧ b3 = b2 ∧ m3 = m2 ∧ S1 = S ∧ E1 = E) ∨ (y2.1 0 = 0 ∧ ((y2.1 3 = 0 ∧ b3 = 0) ∨ (y2.1 3 = 1 ∧ 0 < b3)) ∧ offP y2 b3 m3 nq3 nh3 S1 E1))
    (hy : y = y2) (hbd : bdT y) (hq1 : nq1 ≤ 8) (hh1 : nh1 ≤ 4) (hqq : nq = nq2) (hhh : nh = nh2) (hbl : bl = b2) (hmm : mm = m2) (hst : (st = 0 ∧ b2 = 0) ∨ (st = 1 ∧ 0 < b2)) (hrw : rwX nq nh R S) (hdk : dR nq nh D E) (hcu : n = un) (hhr : hR nq nh o n cd past) (him : imR nq nh i1 i2 T V g) :
    bl1 = b3 ∧ mm1 = m3 ∧ ((st1 = 0 ∧ b3 = 0) ∨ (st1 = 1 ∧ 0 < b3)) ∧ nh1 = nh3 ∧ n1 = u1 ∧ rwX nq1 nh1 R1 S1 ∧ dR nq1 nh1 D1 E1 ∧ hR nq1 nh1 o n1 cd past ∧ imR nq1 nh1 i1 j2 T V g := by
  subst hy
  by_cases c : y.1 0 ≠ 0
  · have a1 : nq1 = nq := a1.trans (if_pos c)
    have a3 : st1 = st := a3.trans (if_pos c)
    have a4 : nh1 = nh := a4.trans (if_pos c)
    have a5 : n1 = n := a5.trans (if_pos c)
    have c4 : nh3 = nh2 := c4.trans (if_pos c)
    have c5 : u1 = un := c5.trans (if_pos c)
    rcases a6 with ⟨_, p1, p2, p3, p4⟩ | ⟨k, _⟩
    · rcases c6 with ⟨_, q1, q2, q3, q4⟩ | ⟨k, _⟩
      · rw [a1, a3, a4, a5, c4, c5, p1, p2, p3, p4, q1, q2, q3, q4]
        exact ⟨hbl, hmm, hst, hhh, hcu, hrw, hdk, hhr, imR_c him (fun j hj => (a2 j hj).trans (if_pos c))⟩
      · exact absurd k c
    · exact absurd k c
  · have a3 : st1 = y.1 3 := a3.trans (if_neg c)
    have a5 : n1 = 0 := a5.trans (if_neg c)
    have c5 : u1 = 0 := c5.trans (if_neg c)
    rcases a6 with ⟨k, _⟩ | ⟨_, p0⟩
    · exact absurd k c
    · rcases c6 with ⟨k, _⟩ | ⟨_, s1, p1⟩
      · exact absurd k c
      · obtain ⟨w1, w2, w3, w4, w5, w6, w7, w8, w9⟩ := offP_dR hbd p0 p1 hq1 hh1
        rw [a3, a5, c5]
        exact ⟨w1, w2, s1, w4, rfl, ⟨fun j hj => ⟨w5 0 j (by decide) hj, w5 1 j (by decide) hj, w5 2 j (by decide) hj, w7 j hj⟩, fun j hj => ⟨w6 5 j (by decide) (by decide) hj, w6 6 j (by decide) (by decide) hj, w6 7 j (by decide) (by decide) hj, (w8 j hj).1, (w8 j hj).2⟩⟩, w9, hR_0, imR_0 (fun j hj => (a2 j hj).trans (if_neg c))⟩
theorem dR_start : dR 0 0 (dk 0 0 (fun _ => 0) (fun _ => 0) (fun _ => 0) (fun _ => 0) (fun _ => 0)) (fun _ => 0) := by
  refine ⟨fun i hi => ?_, fun j hj => absurd hj (Nat.not_lt_zero j)⟩
  unfold inD at hi
  rcases (show i = 32 ∨ i = 33 by omega) with rfl | rfl <;> rfl
