/-! what the calls that are done answer, whether they are, and the desk behind them -/
abbrev ixP (q : Int32) (n : Nat) : Prop := 0 ≤ q ∧ q < nI n
abbrev btP (a q b : Int32) : Prop := a ≤ q ∧ q ≤ b
abbrev ltP (D : DD) : Prop := 90000 < D 32
abbrev wOK (nq nh : Nat) (q h n : Int32) (D : DD) : Prop := (ixP q nq ∧ ixP h nh) ∧ btP 1 n 40 ∧ ¬ ltP D
def wF (lk : Int32 → Int32 → Bool) (W : Nat → Nat → Int32) (n9 : Nat → Int32) (j k : Nat) : DD → DD := pgX lk (W j k) (n9 k) j k
def wDD (lk : Int32 → Int32 → Bool) (nq nh : Nat) (W : Nat → Nat → Int32) (n9 : Nat → Int32) (q h n : Int32) (D : DD) : DD := if wOK nq nh q h n D then itX (wF lk W n9 q.toNatClampNeg h.toNatClampNeg) n.toNatClampNeg D else D
def wRR (lk : Int32 → Int32 → Bool) (nq nh : Nat) (W : Nat → Nat → Int32) (n9 : Nat → Int32) (q h n : Int32) (D : DD) : Int32 := if ixP q nq ∧ ixP h nh then (if btP 1 n 40 then (if ltP D then -1000000004 else itX (wF lk W n9 q.toNatClampNeg h.toNatClampNeg) n.toNatClampNeg D (28 + h.toNatClampNeg) - D (28 + h.toNatClampNeg)) else -1000000002) else -1000000001
abbrev yOK (nq : Nat) (q h : Int32) : Prop := ixP q nq ∧ btP 1 h 9
def yDD (nq : Nat) (q h : Int32) (D : DD) : DD := if yOK nq q h then dyX h q.toNatClampNeg D else D
def yRR (nq : Nat) (q h : Int32) (D : DD) : Int32 := if ixP q nq then (if btP 1 h 9 then dsF (D (16 + q.toNatClampNeg)) h else -1000000002) else -1000000001
abbrev mOK (nq : Nat) (bl q : Int32) (D : DD) : Prop := ixP q nq ∧ cmP bl q.toNatClampNeg D ∧ ¬ ltP D
def mDD (bf : Int32 → Int32) (nq : Nat) (bl mm q : Int32) (D : DD) : DD := if mOK nq bl q D then mdX bf bl mm q.toNatClampNeg D else D
def mRR (nq : Nat) (bl q : Int32) (D : DD) : Int32 := if ixP q nq then (if cmP bl q.toNatClampNeg D then (if ltP D then -1000000004 else D q.toNatClampNeg - (if bl ≤ D 33 then 9 else 5)) else -1000000003) else -1000000001
abbrev bOK (nq : Nat) (q : Int32) (D : DD) : Prop := ixP q nq ∧ ¬ 9 ≤ D (8 + q.toNatClampNeg)
def bDD (bf : Int32 → Int32) (nq : Nat) (q : Int32) (D : DD) : DD := if bOK nq q D then brX bf q.toNatClampNeg D else D
def bRR (bf : Int32 → Int32) (nq : Nat) (q : Int32) (D : DD) : Int32 := if ixP q nq then (if 9 ≤ D (8 + q.toNatClampNeg) then -1000000003 else bf (D (8 + q.toNatClampNeg))) else -1000000001
abbrev bOM (nq : Nat) (q : Int32) (D : DD) : Prop := ixP q nq ∧ ¬ D (8 + q.toNatClampNeg) = 9
def bDM (nq : Nat) (q : Int32) (D : DD) : DD := if bOM nq q D then brX bmF q.toNatClampNeg D else D
def bRM (nq : Nat) (q : Int32) (D : DD) : Int32 := if ixP q nq then (if D (8 + q.toNatClampNeg) = 9 then -1000000003 else bmF (D (8 + q.toNatClampNeg))) else -1000000001
theorem bN_9 {x : Int32} (h : bN 9 x) : 9 ≤ x ↔ x = 9 := by
  obtain ⟨a, ha, rfl⟩ := h
  have e : (9 : Int32) = nI 9 := rfl
  rw [e, nI_leI (by omega) (by omega), nI_eq (by omega) (by omega)]
  omega
abbrev hOK (st : Prop) (D : DD) : Prop := st ∧ ¬ ltP D
/-- the history behind a call that was done (ok) or refused -/
theorem hR_op {nq nh o n o1 n1 : Nat} {cd : Nat → dskC} {past now past1 D : DD} {x : dskC} {ok : Prop} [Decidable ok] (h : hR nq nh o n cd past) (hq : nq ≤ 8) (hh : nh ≤ 4) (ho : o ≤ 19) (hn : n ≤ 20) (hD : dR nq nh D now)
    (hx : ∀ i, i < 34 → dkc x i = if ok then D i else dkc (cd ((o + n) % 20)) i) (e1 : o1 = if ok then (if n < 20 then o else (o + 1) % 20) else o) (e2 : n1 = if ok then (if n < 20 then n + 1 else n) else n) (hp : ∀ i, past1 i = if ok then rmF n now past i else past i) : hR nq nh o1 n1 (va_up cd ((o + n) % 20) x) past1 := by
  by_cases c : ok
  · rw [if_pos c] at e1 e2
    have hp2 : past1 = rmF n now past := funext (fun i => (hp i).trans (if_pos c))
    subst e1
    subst e2
    subst hp2
    exact hR_push h hq hh ho hn (dR_congL hD hq hh (fun i hi => (hx i hi).trans (if_pos c)))
  · rw [if_neg c] at e1 e2
    have hp2 : past1 = past := funext (fun i => (hp i).trans (if_neg c))
    rw [e1, e2, hp2]
    intro k hk
    by_cases e : (o + k) % 20 = (o + n) % 20
    · rw [e, va_up_self]
      have := h k hk
      rw [e] at this
      exact dR_congL this hq hh (fun i hi => (hx i hi).trans (if_neg c))
    · rw [va_up_ne _ _ e]
      exact h k hk
theorem x_ixn {q : Int32} {n : Nat} (h : ixP q n) (hn : n < 2 ^ 31) : q.toNatClampNeg < n := by
  obtain ⟨j, hj, rfl⟩ := x_ix h hn
  rw [nI_clamp (by omega)]
  exact hj
/-- write, side by side -/
theorem dR_write {nq nh : Nat} {W V : Nat → Nat → Int32} {n9 m9 : Nat → Int32} {q h n : Int32} {D E : DD} (hR : dR nq nh D E) (hq : nq ≤ 8) (hh : nh ≤ 4) (hW : ∀ j k, j < nq → k < nh → W j k = V j k) (hn : ∀ k, k < nh → n9 k = m9 k ∧ bN 9 (n9 k)) :
    (wOK nq nh q h n D ↔ wOK nq nh q h n E) ∧ dR nq nh (wDD lcB nq nh W n9 q h n D) (wDD lmB nq nh V m9 q h n E) ∧ wRR lcB nq nh W n9 q h n D = wRR lmB nq nh V m9 q h n E := by
  have e32 : D 32 = E 32 := hR.1 _ (by unfold inD; omega)
  have eok : wOK nq nh q h n D ↔ wOK nq nh q h n E := by
    unfold wOK ltP
    rw [e32]
  have step : ∀ (c : ixP q nq ∧ ixP h nh) (m : Nat), dR nq nh (itX (wF lcB W n9 q.toNatClampNeg h.toNatClampNeg) m D) (itX (wF lmB V m9 q.toNatClampNeg h.toNatClampNeg) m E) := by
    intro c m
    have hj := x_ixn c.1 (by omega)
    have hk := x_ixn c.2 (by omega)
    refine dR_it (fun A B hAB => ?_) m D E hR
    unfold wF
    rw [← hW _ _ hj hk, ← (hn _ hk).1]
    exact (dR_pg hAB hq hh hj hk (hn _ hk).2).2
  refine ⟨eok, ?_, ?_⟩
  · unfold wDD
    by_cases c : wOK nq nh q h n D
    · rw [if_pos c, if_pos (eok.mp c)]
      exact step c.1 _
    · rw [if_neg c, if_neg (fun k => c (eok.mpr k))]
      exact hR
  · unfold wRR ltP
    rw [e32]
    by_cases c : ixP q nq ∧ ixP h nh
    · rw [if_pos c, if_pos c]
      have hk := x_ixn c.2 (by omega)
      rw [(step c _).1 (28 + h.toNatClampNeg) (by unfold inD; omega), hR.1 (28 + h.toNatClampNeg) (by unfold inD; omega)]
    · rw [if_neg c, if_neg c]
theorem dR_dry {nq nh : Nat} {q h : Int32} {D E : DD} (hR : dR nq nh D E) (hq : nq ≤ 8) : dR nq nh (yDD nq q h D) (yDD nq q h E) ∧ yRR nq q h D = yRR nq q h E := by
  refine ⟨?_, ?_⟩
  · unfold yDD
    by_cases c : yOK nq q h
    · rw [if_pos c, if_pos c]
      exact dR_dy hR hq (x_ixn c.1 (by omega))
    · rw [if_neg c, if_neg c]
      exact hR
  · unfold yRR
    by_cases c : ixP q nq
    · have hj := x_ixn c (by omega)
      rw [if_pos c, if_pos c, hR.1 (16 + q.toNatClampNeg) (by unfold inD; omega)]
    · rw [if_neg c, if_neg c]
theorem dR_mend {nq nh : Nat} {bl mm q : Int32} {D E : DD} (hR : dR nq nh D E) (hq : nq ≤ 8) : (mOK nq bl q D ↔ mOK nq bl q E) ∧ dR nq nh (mDD bcF nq bl mm q D) (mDD bmF nq bl mm q E) ∧ mRR nq bl q D = mRR nq bl q E := by
  have e32 : D 32 = E 32 := hR.1 _ (by unfold inD; omega)
  have e33 : D 33 = E 33 := hR.1 _ (by unfold inD; omega)
  have eok : mOK nq bl q D ↔ mOK nq bl q E := by
    constructor
    · intro c
      have hj := x_ixn c.1 (by omega)
      exact ⟨c.1, (dR_cm hR hj).mp c.2.1, by unfold ltP; rw [← e32]; exact c.2.2⟩
    · intro c
      have hj := x_ixn c.1 (by omega)
      exact ⟨c.1, (dR_cm hR hj).mpr c.2.1, by unfold ltP; rw [e32]; exact c.2.2⟩
  refine ⟨eok, ?_, ?_⟩
  · unfold mDD
    by_cases c : mOK nq bl q D
    · rw [if_pos c, if_pos (eok.mp c)]
      exact dR_md hR hq (x_ixn c.1 (by omega)) c.2.1
    · rw [if_neg c, if_neg (fun k => c (eok.mpr k))]
      exact hR
  · unfold mRR
    by_cases c : ixP q nq
    · have hj := x_ixn c (by omega)
      rw [if_pos c, if_pos c]
      unfold cmP ltP
      rw [e32, e33, hR.1 q.toNatClampNeg (by unfold inD; omega)]
    · rw [if_neg c, if_neg c]
theorem dR_broad {nq nh : Nat} {q : Int32} {D E : DD} (hR : dR nq nh D E) (hq : nq ≤ 8) : (bOK nq q D ↔ bOM nq q E) ∧ dR nq nh (bDD (· + 1) nq q D) (bDM nq q E) ∧ bRR (· + 1) nq q D = bRM nq q E := by
  have k9 : ∀ (_ : ixP q nq), 9 ≤ D (8 + q.toNatClampNeg) ↔ E (8 + q.toNatClampNeg) = 9 := by
    intro c
    have hj := x_ixn c (by omega)
    rw [← hR.1 (8 + q.toNatClampNeg) (by unfold inD; omega)]
    exact bN_9 (hR.2 _ hj).1
  have eok : bOK nq q D ↔ bOM nq q E := ⟨fun c => ⟨c.1, fun e => c.2 ((k9 c.1).mpr e)⟩, fun c => ⟨c.1, fun e => c.2 ((k9 c.1).mp e)⟩⟩
  refine ⟨eok, ?_, ?_⟩
  · unfold bDD bDM
    by_cases c : bOK nq q D
    · rw [if_pos c, if_pos (eok.mp c)]
      exact dR_br hR hq (x_ixn c.1 (by omega)) c.2
    · rw [if_neg c, if_neg (fun k => c (eok.mpr k))]
      exact hR
  · unfold bRR bRM
    by_cases c : ixP q nq
    · have hj := x_ixn c (by omega)
      rw [if_pos c, if_pos c]
      by_cases d : 9 ≤ D (8 + q.toNatClampNeg)
      · rw [if_pos d, if_pos ((k9 c).mp d)]
      · rw [if_neg d, if_neg (fun k => d ((k9 c).mpr k)), ← hR.1 (8 + q.toNatClampNeg) (by unfold inD; omega)]
        exact (if_pos (fa_nle d)).symm
    · rw [if_neg c, if_neg c]
/-- whet and drift; st: an office stands -/
def hDD (st : Prop) [Decidable st] (D : DD) : DD := if hOK st D then whX D else D
def hRR (st : Prop) [Decidable st] (D : DD) : Int32 := if st then (if ltP D then -1000000004 else D 33) else -1000000003
theorem dR_whet {nq nh : Nat} {s1 s2 : Prop} [Decidable s1] [Decidable s2] {D E : DD} (hR : dR nq nh D E) (hq : nq ≤ 8) (hs : s1 ↔ s2) : (hOK s1 D ↔ hOK s2 E) ∧ dR nq nh (hDD s1 D) (hDD s2 E) ∧ hRR s1 D = hRR s2 E := by
  have e32 : D 32 = E 32 := hR.1 _ (by unfold inD; omega)
  have e33 : D 33 = E 33 := hR.1 _ (by unfold inD; omega)
  have eok : hOK s1 D ↔ hOK s2 E := by
    unfold hOK ltP
    rw [e32, hs]
  refine ⟨eok, ?_, ?_⟩
  · unfold hDD
    by_cases c : hOK s1 D
    · rw [if_pos c, if_pos (eok.mp c)]
      exact dR_wh hR hq
    · rw [if_neg c, if_neg (fun k => c (eok.mpr k))]
      exact hR
  · unfold hRR ltP
    rw [e32, e33]
    by_cases c : s1
    · rw [if_pos c, if_pos (hs.mp c)]
    · rw [if_neg c, if_neg (fun k => c (hs.mpr k))]
abbrev fOK (st : Prop) (n : Int32) (D : DD) : Prop := btP 1 n 60 ∧ st ∧ ¬ ltP D
def fX (F : Nat × DD → Nat × DD) (st : Prop) [Decidable st] (nq nh : Nat) (n : Int32) (x : Nat × DD) : Nat × DD := if fOK st n x.2 ∧ 0 < nq ∧ 0 < nh then dIt F n.toNatClampNeg x else x
def fRR (F : Nat × DD → Nat × DD) (st : Prop) [Decidable st] (nq nh : Nat) (n : Int32) (x : Nat × DD) : Int32 := if btP 1 n 60 then (if st then (if ltP x.2 then -1000000004 else (fX F st nq nh n x).2 32) else -1000000003) else -1000000002
theorem dR_drift {nq nh : Nat} {s1 s2 : Prop} [Decidable s1] [Decidable s2] {bl mm n : Int32} {W V : Nat → Nat → Int32} {n9 m9 : Nat → Int32} {x y : Nat × DD} (hs : x.1 = y.1) (hR : dR nq nh x.2 y.2) (hq : nq ≤ 8) (hh : nh ≤ 4) (hst : s1 ↔ s2) (hW : ∀ j k, j < nq → k < nh → W j k = V j k) (hn : ∀ k, k < nh → n9 k = m9 k ∧ bN 9 (n9 k)) :
    (fOK s1 n x.2 ↔ fOK s2 n y.2) ∧ (fX (d1X lcB bcF nq nh bl mm W n9) s1 nq nh n x).1 = (fX (d1X lmB bmF nq nh bl mm V m9) s2 nq nh n y).1 ∧ dR nq nh (fX (d1X lcB bcF nq nh bl mm W n9) s1 nq nh n x).2 (fX (d1X lmB bmF nq nh bl mm V m9) s2 nq nh n y).2 ∧ fRR (d1X lcB bcF nq nh bl mm W n9) s1 nq nh n x = fRR (d1X lmB bmF nq nh bl mm V m9) s2 nq nh n y := by
  have e32 : x.2 32 = y.2 32 := hR.1 _ (by unfold inD; omega)
  have eok : fOK s1 n x.2 ↔ fOK s2 n y.2 := by
    unfold fOK ltP
    rw [e32, hst]
  have hX : (fX (d1X lcB bcF nq nh bl mm W n9) s1 nq nh n x).1 = (fX (d1X lmB bmF nq nh bl mm V m9) s2 nq nh n y).1 ∧ dR nq nh (fX (d1X lcB bcF nq nh bl mm W n9) s1 nq nh n x).2 (fX (d1X lmB bmF nq nh bl mm V m9) s2 nq nh n y).2 := by
    unfold fX
    by_cases c : fOK s1 n x.2 ∧ 0 < nq ∧ 0 < nh
    · rw [if_pos c, if_pos ⟨eok.mp c.1, c.2⟩]
      exact dR_dIt hq hh c.2.1 c.2.2 hW hn _ x y hs hR
    · rw [if_neg c, if_neg (fun k => c ⟨eok.mpr k.1, k.2⟩)]
      exact ⟨hs, hR⟩
  refine ⟨eok, hX.1, hX.2, ?_⟩
  unfold fRR
  rw [hX.2.1 32 (by unfold inD; omega)]
  unfold ltP
  rw [e32]
  by_cases c : s1
  · rw [if_pos c, if_pos (hst.mp c)]
  · rw [if_neg c, if_neg (fun k => c (hst.mpr k))]
/-! how the calls come to these words -/
theorem i_sub {x g d : Int32} : x + g - d = x - d + g := by
  rw [Int32.sub_eq_add_neg, Int32.sub_eq_add_neg, Int32.add_assoc, Int32.add_assoc, Int32.add_comm g]
theorem pg_28 {lk : Int32 → Int32 → Bool} {w n : Int32} {j k : Nat} {D : DD} (hk : k < 4) : pgX lk w n j k D (28 + k) = D (28 + k) + gdX lk w n j D := by
  unfold pgX
  rw [pk_un (by omega), pk_us]
theorem it_s {F : DD → DD} {n : Nat} {D E G : DD} (h : G = F E) (e : E = itX F n D) : G = itX F (n + 1) D := by
  rw [h, e]
  rfl
theorem it_g {lk : Int32 → Int32 → Bool} {W : Nat → Nat → Int32} {n9 : Nat → Int32} {j k m : Nat} {D E : DD} {a g : Int32} (hk : k < 4) (e : E = itX (wF lk W n9 j k) m D) (ha : a = itX (wF lk W n9 j k) m D (28 + k) - D (28 + k)) (hg : g = gdX lk (W j k) (n9 k) j E) : a + g = itX (wF lk W n9 j k) (m + 1) D (28 + k) - D (28 + k) := by
  have h : itX (wF lk W n9 j k) (m + 1) D (28 + k) = itX (wF lk W n9 j k) m D (28 + k) + gdX lk (W j k) (n9 k) j (itX (wF lk W n9 j k) m D) := pg_28 hk
  rw [h, i_sub, ← ha, hg, e]
theorem w_done {lk : Int32 → Int32 → Bool} {nq nh j k m : Nat} {W : Nat → Nat → Int32} {n9 : Nat → Int32} {D : DD} (ok : wOK nq nh (nI j) (nI k) (nI m) D) (hj : j < 2 ^ 31) (hk : k < 2 ^ 31) (hm : m < 2 ^ 31) : itX (wF lk W n9 j k) m D = wDD lk nq nh W n9 (nI j) (nI k) (nI m) D := by
  unfold wDD
  rw [if_pos ok, nI_clamp hj, nI_clamp hk, nI_clamp hm]
theorem w_ret {lk : Int32 → Int32 → Bool} {nq nh j k m : Nat} {W : Nat → Nat → Int32} {n9 : Nat → Int32} {D : DD} (ok : wOK nq nh (nI j) (nI k) (nI m) D) (hj : j < 2 ^ 31) (hk : k < 2 ^ 31) (hm : m < 2 ^ 31) : itX (wF lk W n9 j k) m D (28 + k) - D (28 + k) = wRR lk nq nh W n9 (nI j) (nI k) (nI m) D := by
  unfold wRR
  rw [if_pos ok.1, if_pos ok.2.1, if_neg ok.2.2, nI_clamp hj, nI_clamp hk, nI_clamp hm]
theorem y_done {nq j : Nat} {h mi cu : Int32} {a2 a3 a4 a5 a6 : Nat → Int32} (ok : yOK nq (nI j) h) (hj : j < 8) : dk mi cu a2 a3 (upd a4 j (dsF (a4 j) h)) a5 a6 = yDD nq (nI j) h (dk mi cu a2 a3 a4 a5 a6) := by
  unfold yDD dyX
  rw [if_pos ok, nI_clamp (by omega), dk_r4 hj, ← dk_4 hj]
theorem y_ret {nq j : Nat} {h mi cu : Int32} {a2 a3 a4 a5 a6 : Nat → Int32} (ok : yOK nq (nI j) h) (hj : j < 8) : dsF (a4 j) h = yRR nq (nI j) h (dk mi cu a2 a3 a4 a5 a6) := by
  unfold yRR
  rw [if_pos ok.1, if_pos ok.2, nI_clamp (by omega), dk_r4 hj]
theorem cm_dk {bl mi cu : Int32} {j : Nat} {a2 a3 a4 a5 a6 : Nat → Int32} (hj : j < 8) : cmP bl (nI j).toNatClampNeg (dk mi cu a2 a3 a4 a5 a6) ↔ (if bl ≤ cu then (9 : Int32) else 5) ≤ a2 j := by
  unfold cmP
  rw [nI_clamp (by omega), dk_rc, dk_r2 hj]
theorem md_j {bf : Int32 → Int32} {bl mm : Int32} {j : Nat} {D : DD} (hj : j < 8) : mdX bf bl mm j D j = D j - (if bl ≤ D 33 then 9 else 5) := by
  unfold mdX
  rw [pk_un (by omega), pk_un (by omega), pk_un (by omega), pk_un (by omega), pk_us]
theorem m_done {bf : Int32 → Int32} {nq j : Nat} {bl mm : Int32} {D G : DD} (ok : mOK nq bl (nI j) D) (hj : j < 8) (h : G = mdX bf bl mm j D) : G = mDD bf nq bl mm (nI j) D := by
  unfold mDD
  rw [if_pos ok, nI_clamp (by omega)]
  exact h
theorem m_ret {bf : Int32 → Int32} {nq j : Nat} {bl mm mi cu x : Int32} {D : DD} {a2 a3 a4 a5 a6 : Nat → Int32} (ok : mOK nq bl (nI j) D) (hj : j < 8) (h : dk mi cu a2 a3 a4 a5 a6 = mdX bf bl mm j D) (hx : x = a2 j) : x = mRR nq bl (nI j) D := by
  have e : a2 j = mdX bf bl mm j D j := (dk_r2 hj).symm.trans (congrFun h j)
  unfold mRR
  rw [if_pos ok.1, if_pos ok.2.1, if_neg ok.2.2, nI_clamp (by omega), hx, e]
  exact md_j hj
theorem b_done {nq j : Nat} {mi cu : Int32} {a2 a3 a4 a5 a6 : Nat → Int32} (ok : bOK nq (nI j) (dk mi cu a2 a3 a4 a5 a6)) (hj : j < 8) : dk mi (cu + 1) a2 (upd a3 j (a3 j + 1)) a4 a5 a6 = bDD (· + 1) nq (nI j) (dk mi cu a2 a3 a4 a5 a6) := by
  unfold bDD brX
  rw [if_pos ok, nI_clamp (by omega), dk_r3 hj, dk_rc, ← dk_3 hj]
  exact dk_cu
theorem b_dk {j : Nat} {mi cu : Int32} {a2 a3 a4 a5 a6 : Nat → Int32} (hj : j < 8) : 9 ≤ dk mi cu a2 a3 a4 a5 a6 (8 + (nI j).toNatClampNeg) ↔ 9 ≤ a3 j := by
  rw [nI_clamp (by omega), dk_r3 hj]
theorem b_ret {nq j : Nat} {mi cu : Int32} {a2 a3 a4 a5 a6 : Nat → Int32} (ok : bOK nq (nI j) (dk mi cu a2 a3 a4 a5 a6)) (hj : j < 8) : a3 j + 1 = bRR (· + 1) nq (nI j) (dk mi cu a2 a3 a4 a5 a6) := by
  unfold bRR
  rw [if_pos ok.1, if_neg ok.2, nI_clamp (by omega), dk_r3 hj]
theorem h_done {st : Prop} [Decidable st] {mi cu : Int32} {a2 a3 a4 a5 a6 : Nat → Int32} (ok : hOK st (dk mi cu a2 a3 a4 a5 a6)) : dk (mi + 5) 0 a2 a3 a4 a5 a6 = hDD st (dk mi cu a2 a3 a4 a5 a6) := by
  unfold hDD whX
  rw [if_pos ok, dk_rm, ← dk_cu]
  exact dk_mi
theorem cm_dkj {bl mi cu : Int32} {j : Nat} {a2 a3 a4 a5 a6 : Nat → Int32} (hj : j < 8) : cmP bl j (dk mi cu a2 a3 a4 a5 a6) ↔ (if bl ≤ cu then (9 : Int32) else 5) ≤ a2 j := by
  unfold cmP
  rw [dk_rc, dk_r2 hj]
theorem dy_dk {j : Nat} {h mi cu : Int32} {a2 a3 a4 a5 a6 : Nat → Int32} (hj : j < 8) : dk mi cu a2 a3 (upd a4 j (dsF (a4 j) h)) a5 a6 = dyX h j (dk mi cu a2 a3 a4 a5 a6) := by
  unfold dyX
  rw [dk_r4 hj, ← dk_4 hj]
theorem dIt_s {F : Nat × DD → Nat × DD} {n s s1 : Nat} {x : Nat × DD} {D D1 : DD} (h1 : s = (dIt F n x).1) (h2 : D = (dIt F n x).2) (g1 : s1 = (F (s, D)).1) (g2 : D1 = (F (s, D)).2) : s1 = (dIt F (n + 1) x).1 ∧ D1 = (dIt F (n + 1) x).2 := by
  have e : (s, D) = dIt F n x := Prod.ext h1 h2
  rw [e] at g1 g2
  exact ⟨g1, g2⟩
theorem f_done {F : Nat × DD → Nat × DD} {st : Prop} [Decidable st] {nq nh k m : Nat} {x : Nat × DD} (hk : k = m) (ok : fOK st (nI m) x.2) (hq : 0 < nq) (hh : 0 < nh) (hm : m < 2 ^ 31) : dIt F k x = fX F st nq nh (nI m) x := by
  unfold fX
  rw [if_pos ⟨ok, hq, hh⟩, nI_clamp hm, hk]
theorem f_none {F : Nat × DD → Nat × DD} {st : Prop} [Decidable st] {nq nh : Nat} {n : Int32} {x : Nat × DD} (h : ¬ (fOK st n x.2 ∧ 0 < nq ∧ 0 < nh)) : x = fX F st nq nh n x := (if_neg h).symm
theorem f_ret {F : Nat × DD → Nat × DD} {st : Prop} [Decidable st] {nq nh : Nat} {n : Int32} {x : Nat × DD} (ok : fOK st n x.2) : (fX F st nq nh n x).2 32 = fRR F st nq nh n x := by
  unfold fRR
  rw [if_pos ok.1, if_pos ok.2.1, if_neg ok.2.2]
/-- the past behind a call of the reference -/
theorem rm_ok {ok : Prop} [Decidable ok] {f past now : DD} {un : Nat} (c : ok) (h : ∀ i, f i = rmF un now past i) : ∀ i, f i = if ok then rmF un now past i else past i := fun i => (h i).trans (if_pos c).symm
theorem rm_no {ok : Prop} [Decidable ok] {past now : DD} {un : Nat} (c : ¬ ok) : ∀ i, past i = if ok then rmF un now past i else past i := fun i => (if_neg c).symm
theorem w_mret {lk : Int32 → Int32 → Bool} {nq nh j k m q : Nat} {W : Nat → Nat → Int32} {n9 : Nat → Int32} {D G : DD} (hq : q = m) (ok : wOK nq nh (nI j) (nI k) (nI m) D) (hj : j < 2 ^ 31) (hk : k < 2 ^ 31) (hm : m < 2 ^ 31) (h : G = itX (wF lk W n9 j k) q D) : G (28 + k) - D (28 + k) = wRR lk nq nh W n9 (nI j) (nI k) (nI m) D := by
  rw [h, hq]
  exact w_ret ok hj hk hm
theorem y_mdone {nq j : Nat} {h : Int32} {D : DD} (ok : yOK nq (nI j) h) (hj : j < 2 ^ 31) : upd D (16 + j) (dsF (D (16 + j)) h) = yDD nq (nI j) h D := by
  unfold yDD dyX
  rw [if_pos ok, nI_clamp hj]
theorem y_mret {nq j : Nat} {h : Int32} {D : DD} (ok : yOK nq (nI j) h) (hj : j < 2 ^ 31) : dsF (D (16 + j)) h = yRR nq (nI j) h D := by
  unfold yRR
  rw [if_pos ok.1, if_pos ok.2, nI_clamp hj]
theorem m_mret {bf : Int32 → Int32} {nq j : Nat} {bl mm : Int32} {D G : DD} (ok : mOK nq bl (nI j) D) (hj : j < 8) (h : G = mdX bf bl mm j D) : G j = mRR nq bl (nI j) D := by
  unfold mRR
  rw [if_pos ok.1, if_pos ok.2.1, if_neg ok.2.2, nI_clamp (by omega), h]
  exact md_j hj
theorem cm_ix {bl : Int32} {j : Nat} {D : DD} (hj : j < 2 ^ 31) : cmP bl (nI j).toNatClampNeg D ↔ cmP bl j D := by rw [nI_clamp hj]
theorem b_mdone {nq j : Nat} {D : DD} (ok : bOM nq (nI j) D) (hj : j < 8) : upd (upd D (8 + j) (bmF (D (8 + j)))) 33 (upd D (8 + j) (bmF (D (8 + j))) 33 + 1) = bDM nq (nI j) D := by
  unfold bDM brX
  rw [if_pos ok, nI_clamp (by omega), pk_un (show 33 ≠ 8 + j by omega)]
theorem b_mret {nq j : Nat} {D : DD} (ok : bOM nq (nI j) D) (hj : j < 8) : bmF (D (8 + j)) = bRM nq (nI j) D := by
  unfold bRM
  rw [if_pos ok.1, if_neg ok.2, nI_clamp (by omega)]
theorem b_ix {j : Nat} {D : DD} (hj : j < 2 ^ 31) : D (8 + (nI j).toNatClampNeg) = 9 ↔ D (8 + j) = 9 := by rw [nI_clamp hj]
theorem h_mdone {st : Prop} [Decidable st] {D : DD} (ok : hOK st D) : upd (upd D 33 0) 32 (upd D 33 0 32 + 5) = hDD st D := by
  unfold hDD whX
  rw [if_pos ok, pk_un (show 32 ≠ 33 by decide)]
