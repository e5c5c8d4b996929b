/-! what is looked at, side by side -/
def qlV (m nq : Nat) (q w : Int32) (V : Nat → Nat → Int32) : Int32 := if ixP q nq then pkV m w (V q.toNatClampNeg) else -1000000001
theorem ql_n {m nq : Nat} {q w : Int32} {V : Nat → Nat → Int32} (h : ¬ ixP q nq) : -1000000001 = qlV m nq q w V := (if_neg h).symm
theorem ql_o {m nq : Nat} {q w : Int32} {V : Nat → Nat → Int32} (h : ixP q nq) (c : w.toInt < 0 ∨ (m : Int) < w.toInt) : -1000000002 = qlV m nq q w V := (pk_o c).trans (if_pos h).symm
theorem ql_k {m nq j k : Nat} {w : Int32} {V : Nat → Nat → Int32} (h : ixP (nI j) nq) (hj : j < 2 ^ 31) (hk : k ≤ m) (hm : m < 100) (e : w = nI k) : V j k = qlV m nq (nI j) w V := by
  unfold qlV
  rw [if_pos h, nI_clamp hj]
  exact pk_k (v := V j) hk hm e
theorem L_quill {nq nq2 nh : Nat} {a b c d e f A B C A2 B2 C2 a2 a3 a4 a5 a6 : Nat → Int32} {mi cu q w : Int32} {E : DD} (hqq : nq = nq2) (hq : nq ≤ 8) (hrw : rwR nq nh a b c d e f A B C A2 B2 C2) (hdk : dR nq nh (dk mi cu a2 a3 a4 a5 a6) E) :
    qlV 6 nq q w (fun j k => ([a j, b j, c j, a2 j, a3 j, hdF (b j) (c j), a4 j] : List Int32).getD k 0) = qlV 6 nq2 q w (fun j k => ([A j, B j, C j, E j, E (8 + j), hdF (B j) (C j), E (16 + j)] : List Int32).getD k 0) := by
  subst hqq
  unfold qlV
  by_cases k : ixP q nq
  · rw [if_pos k, if_pos k]
    have hj := x_ixn k (by omega)
    obtain ⟨h1, h2, h3, _⟩ := hrw.1 _ hj
    have e2 : a2 q.toNatClampNeg = E q.toNatClampNeg := (dk_r2 (by omega)).symm.trans (hdk.1 _ (by unfold inD; omega))
    have e3 : a3 q.toNatClampNeg = E (8 + q.toNatClampNeg) := (dk_r3 (by omega)).symm.trans (hdk.1 _ (by unfold inD; omega))
    have e4 : a4 q.toNatClampNeg = E (16 + q.toNatClampNeg) := (dk_r4 (by omega)).symm.trans (hdk.1 _ (by unfold inD; omega))
    show pkV 6 w (fun k => ([a q.toNatClampNeg, b q.toNatClampNeg, c q.toNatClampNeg, a2 q.toNatClampNeg, a3 q.toNatClampNeg, hdF (b q.toNatClampNeg) (c q.toNatClampNeg), a4 q.toNatClampNeg] : List Int32).getD k 0) = _
    rw [h1, h2, h3, e2, e3, e4]
  · rw [if_neg k, if_neg k]
theorem L_hand {nh nh2 nq : Nat} {a b c d e f A B C A2 B2 C2 a2 a3 a4 a5 a6 : Nat → Int32} {mi cu q w : Int32} {E : DD} (hhh : nh = nh2) (hh : nh ≤ 4) (hrw : rwR nq nh a b c d e f A B C A2 B2 C2) (hdk : dR nq nh (dk mi cu a2 a3 a4 a5 a6) E) :
    qlV 4 nh q w (fun j k => ([d j, e j, f j, a5 j, a6 j] : List Int32).getD k 0) = qlV 4 nh2 q w (fun j k => ([A2 j, B2 j, C2 j, E (24 + j), E (28 + j)] : List Int32).getD k 0) := by
  subst hhh
  unfold qlV
  by_cases k : ixP q nh
  · rw [if_pos k, if_pos k]
    have hj := x_ixn k (by omega)
    obtain ⟨h1, h2, h3, _⟩ := hrw.2 _ hj
    have e5 : a5 q.toNatClampNeg = E (24 + q.toNatClampNeg) := (dk_r5 (by omega)).symm.trans (hdk.1 _ (by unfold inD; omega))
    have e6 : a6 q.toNatClampNeg = E (28 + q.toNatClampNeg) := (dk_r6 (by omega)).symm.trans (hdk.1 _ (by unfold inD; omega))
    show pkV 4 w (fun k => ([d q.toNatClampNeg, e q.toNatClampNeg, f q.toNatClampNeg, a5 q.toNatClampNeg, a6 q.toNatClampNeg] : List Int32).getD k 0) = _
    rw [h1, h2, h3, e5, e6]
  · rw [if_neg k, if_neg k]
theorem L_told {nq nq2 nh nh2 tl tx ne wm nk bk n un : Nat} {a2 a3 a4 a5 a6 : Nat → Int32} {bl mm b2 m2 mi cu q : Int32} {E : DD} (hbl : bl = b2) (hmm : mm = m2) (hqq : nq = nq2) (hhh : nh = nh2) (htl : tl = tx) (hee : ne = wm) (hbb : nk = bk) (hcu : n = un) (hq : nq ≤ 8) (hh : nh ≤ 4) (hdk : dR nq nh (dk mi cu a2 a3 a4 a5 a6) E) :
    pkV 12 q (fun k => ([bl, mm, nI nq, nI nh, nI tl, mi, cu, smF a5 nh, smF a6 nh, sfF a4 nq, nI ne, nI nk, nI n] : List Int32).getD k 0) = pkV 12 q (fun k => ([b2, m2, nI nq2, nI nh2, nI tx, E 32, E 33, smF (fun i => E (24 + i)) nh2, smF (fun i => E (28 + i)) nh2, sfF (fun i => E (16 + i)) nq2, nI wm, nI bk, nI un] : List Int32).getD k 0) := by
  subst hbl
  subst hmm
  subst hqq
  subst hhh
  subst htl
  subst hee
  subst hbb
  subst hcu
  have e1 : mi = E 32 := hdk.1 32 (by unfold inD; omega)
  have e2 : cu = E 33 := hdk.1 33 (by unfold inD; omega)
  have e5 : smF a5 nh = smF (fun i => E (24 + i)) nh := smF_c nh (fun i hi => (dk_r5 (by omega)).symm.trans (hdk.1 _ (by unfold inD; omega)))
  have e6 : smF a6 nh = smF (fun i => E (28 + i)) nh := smF_c nh (fun i hi => (dk_r6 (by omega)).symm.trans (hdk.1 _ (by unfold inD; omega)))
  have e4 : sfF a4 nq = sfF (fun i => E (16 + i)) nq := sfF_c nq (fun i hi => (dk_r4 (by omega)).symm.trans (hdk.1 _ (by unfold inD; omega)))
  rw [e1, e2, e4, e5, e6]
/-! crooked slits -/
def m1F (x : Int32) : Int32 := if x < 100 then x else 100
def ckR (n q cu : Int32) : Int32 := if btP 0 n 60 then (if btP 0 q 100 then (ckF (100 - m1F (q + 3 * cu)) n.toNatClampNeg).toInt32 else -1000000002) else -1000000002
theorem ck_n {n q cu : Int32} (h : ¬ btP 0 n 60) : -1000000002 = ckR n q cu := (if_neg h).symm
theorem ck_q {n q cu : Int32} (h : btP 0 n 60) (c : ¬ btP 0 q 100) : -1000000002 = ckR n q cu := ((if_pos h).trans (if_neg c)).symm
theorem ck_y {m : Nat} {q cu s : Int32} (h : btP 0 (nI m) 60) (c : btP 0 q 100) (hm : m < 2 ^ 31) (es : s = m1F (q + 3 * cu)) {k : Nat} {a : Int64} (hk : k = m) (ha : a = ckF (100 - s) k) : a.toInt32 = ckR (nI m) q cu := by
  unfold ckR
  rw [if_pos h, if_pos c, nI_clamp hm, ha, hk, es]
/-! good pages -/
theorem nat_ix {r : Int32} {x m : Nat} (hx : x ≤ m) (h : r = nI x) : ∃ w : Nat, w ≤ m ∧ Hid (w = x) ∧ r = nI w := ⟨x, hx, Hid.mk rfl, h⟩
def gpR (nq nh : Nat) (q h : Int32) (G : Nat → Nat → Nat) : Int32 := if ixP q nq ∧ ixP h nh then nI (G q.toNatClampNeg h.toNatClampNeg) else -1000000001
theorem gp_n0 {nq nh : Nat} {q h : Int32} {G : Nat → Nat → Nat} (c : ¬ ixP q nq) : -1000000001 = gpR nq nh q h G := (if_neg (fun k => c k.1)).symm
theorem gp_n1 {nq nh : Nat} {q h : Int32} {G : Nat → Nat → Nat} (c : ¬ ixP h nh) : -1000000001 = gpR nq nh q h G := (if_neg (fun k => c k.2)).symm
theorem gp_y {nq nh j k : Nat} {r : Int32} {G : Nat → Nat → Nat} (c : ixP (nI j) nq) (d : ixP (nI k) nh) (hj : j < 2 ^ 31) (hk : k < 2 ^ 31) (e : r = nI (G j k)) : r = gpR nq nh (nI j) (nI k) G := by
  unfold gpR
  rw [if_pos ⟨c, d⟩, nI_clamp hj, nI_clamp hk]
  exact e
theorem gpR_c {nq nh nq2 nh2 : Nat} {q h : Int32} {G K : Nat → Nat → Nat} (hqq : nq = nq2) (hhh : nh = nh2) (hq : nq ≤ 8) (hh : nh ≤ 4) (e : ∀ j k, j < nq → k < nh → G j k = K j k) : gpR nq nh q h G = gpR nq2 nh2 q h K := by
  subst hqq
  subst hhh
  unfold gpR
  by_cases c : ixP q nq ∧ ixP h nh
  · rw [if_pos c, if_pos c, e _ _ (x_ixn c.1 (by omega)) (x_ixn c.2 (by omega))]
  · rw [if_neg c, if_neg c]
def gdM (lk : Int32 → Int32 → Bool) (w n b s : Int32) (mo : Nat) : Nat := if lk b n = true then gpN w mo (sbF s w) else 0
theorem gdM_le {lk : Int32 → Int32 → Bool} {w n b s : Int32} {mo : Nat} : gdM lk w n b s mo ≤ mo := by
  unfold gdM
  split
  · exact gpN_le _ _
  · omega
theorem gd_x {lk : Int32 → Int32 → Bool} {w n b s v : Int32} {k mo : Nat} (h0 : Hid (lk b n = true → k + gpN w (mo - k) v = gpN w mo (sbF s w))) (h1 : Hid (¬ lk b n = true → k = 0)) (c : mo ≤ k ∨ ¬ v ≤ 50 ∨ ¬ lk b n = true) : nI k = nI (gdM lk w n b s mo) := by
  unfold gdM
  by_cases d : lk b n = true
  · rw [if_pos d]
    rcases c with c | c | c
    · exact congrArg nI (gp_full c (h0.out d))
    · exact congrArg nI (gp_end c (h0.out d))
    · exact absurd d c
  · rw [if_neg d, h1.out d]
theorem gd_c {nq nh j k : Nat} {a b c d e f A B C A2 B2 C2 a2 a3 a4 a5 a6 : Nat → Int32} {mi cu : Int32} {E : DD} (hrw : rwR nq nh a b c d e f A B C A2 B2 C2) (hdk : dR nq nh (dk mi cu a2 a3 a4 a5 a6) E) (hq : nq ≤ 8) (hh : nh ≤ 4) (hj : j < nq) (hk : k < nh) (s : Int32) :
    gdM lcB (wrF (a j) (b j) (c j) (d k) (e k)) (f k) (a3 j) s 999 = gdM lmB (wrF (A j) (B j) (C j) (A2 k) (B2 k)) (C2 k) (E (8 + j)) s 999 := by
  have e3 : a3 j = E (8 + j) := (dk_r3 (by omega)).symm.trans (hdk.1 _ (by unfold inD; omega))
  have b9 : bN 9 (a3 j) := by
    have h := (hdk.2 j hj).1
    rw [dk_r3 (by omega)] at h
    exact h
  have n9 := rw_n hrw k hk
  unfold gdM
  rw [bN_lk b9 n9.2, rw_W hrw j k hj hk, n9.1, e3]
theorem L_good {nq nh nq2 nh2 : Nat} {q h : Int32} {a b c d e f A B C A2 B2 C2 a2 a3 a4 a5 a6 : Nat → Int32} {mi cu : Int32} {E : DD} (hqq : nq = nq2) (hhh : nh = nh2) (hq : nq ≤ 8) (hh : nh ≤ 4) (hrw : rwR nq nh a b c d e f A B C A2 B2 C2) (hdk : dR nq nh (dk mi cu a2 a3 a4 a5 a6) E) :
    gpR nq nh q h (fun j k => gdM lcB (wrF (a j) (b j) (c j) (d k) (e k)) (f k) (a3 j) (a4 j) 999) = gpR nq2 nh2 q h (fun j k => gdM lmB (wrF (A j) (B j) (C j) (A2 k) (B2 k)) (C2 k) (E (8 + j)) (E (16 + j)) 999) := by
  refine gpR_c hqq hhh hq hh (fun j k hj hk => ?_)
  have e4 : a4 j = E (16 + j) := (dk_r4 (by omega)).symm.trans (hdk.1 _ (by unfold inD; omega))
  exact (gd_c hrw hdk hq hh hj hk (a4 j)).trans (by rw [e4])
/-! a whole life -/
def lfM (g t l : Nat) : Nat := min 999 (g + l / 5 * t)
theorem lf_end {x y t l g : Nat} (hx : x < 5) (h : Hid (y + x / 5 * t = g + l / 5 * t)) : nI (min 999 y) = nI (lfM g t l) := by
  have h := h.out
  rw [show x / 5 = 0 from by omega, Nat.zero_mul, Nat.add_zero] at h
  rw [h]
  rfl
theorem lf_step {x y t l g : Nat} (hx : 5 ≤ x) (h : Hid (y + x / 5 * t = g + l / 5 * t)) : Hid (y + t + (x - 5) / 5 * t = g + l / 5 * t) := by
  have h := h.out
  refine Hid.mk ?_
  rw [show x / 5 = (x - 5) / 5 + 1 from by omega, Nat.add_mul, Nat.one_mul] at h
  omega
theorem x_inc5 {a : Nat} (h : 5 ≤ a) : nI a + Int32.ofInt (-5) = nI (a - 5) := by
  rw [show Int32.ofInt (-5) = -(nI 5) from by decide, ← Int32.sub_eq_add_neg]
  exact pk_sub h
theorem lf_full {x y t l g : Nat} (hy : 999 ≤ y) (h : Hid (y + x / 5 * t = g + l / 5 * t)) : (999 : Int32) = nI (lfM g t l) := by
  have h := h.out
  have e : lfM g t l = 999 := by
    unfold lfM
    rw [← h]
    exact Nat.min_eq_left (Nat.le_trans hy (Nat.le_add_right _ _))
  rw [e]
  rfl
theorem lf_none {x y t l g : Nat} (ht : t = 0) (hy : y < 999) (h : Hid (y + x / 5 * t = g + l / 5 * t)) : nI y = nI (lfM g t l) := by
  have h := h.out
  rw [ht, Nat.mul_zero, Nat.add_zero] at h
  have e : lfM g t l = y := by
    unfold lfM
    rw [ht, ← h]
    exact Nat.min_eq_right (Nat.le_of_lt hy)
  rw [e]
theorem lf_less {x y t l g : Nat} (hx : x < 5) (hy : y < 999) (h : Hid (y + x / 5 * t = g + l / 5 * t)) : nI y = nI (lfM g t l) := by
  rw [← lf_end hx h, Nat.min_eq_right (Nat.le_of_lt hy)]
theorem lfM_le {g t l : Nat} : lfM g t l ≤ 999 := Nat.min_le_left _ _
theorem bN_len {nq nh j : Nat} {D E : DD} (h : dR nq nh D E) (hj : j < nq) : ∃ l : Nat, l ≤ 99 ∧ D j = nI l := (h.2 j hj).2
theorem i_nat {a : Int32} {l : Nat} (h : a = nI l) (hl : l < 2 ^ 31) : a.toNatClampNeg = l := by
  rw [h, nI_clamp hl]
theorem L_life {nq nh nq2 nh2 : Nat} {q h : Int32} {a b c d e f A B C A2 B2 C2 a2 a3 a4 a5 a6 : Nat → Int32} {mi cu : Int32} {E : DD} (hqq : nq = nq2) (hhh : nh = nh2) (hq : nq ≤ 8) (hh : nh ≤ 4) (hrw : rwR nq nh a b c d e f A B C A2 B2 C2) (hdk : dR nq nh (dk mi cu a2 a3 a4 a5 a6) E) : ∀ j k, j < nq → k < nh →
    lfM (gdM lcB (wrF (a j) (b j) (c j) (d k) (e k)) (f k) (a3 j) (a4 j) 999) (gdM lcB (wrF (a j) (b j) (c j) (d k) (e k)) (f k) (a3 j) 0 999) (a2 j).toNatClampNeg = lfM (gdM lmB (wrF (A j) (B j) (C j) (A2 k) (B2 k)) (C2 k) (E (8 + j)) (E (16 + j)) 999) (gdM lmB (wrF (A j) (B j) (C j) (A2 k) (B2 k)) (C2 k) (E (8 + j)) 0 999) (E j).toNatClampNeg := by
  intro j k hj hk
  have e4 : a4 j = E (16 + j) := (dk_r4 (by omega)).symm.trans (hdk.1 _ (by unfold inD; omega))
  have e2 : a2 j = E j := (dk_r2 (by omega)).symm.trans (hdk.1 _ (by unfold inD; omega))
  rw [gd_c hrw hdk hq hh hj hk (a4 j), gd_c hrw hdk hq hh hj hk 0, e4, e2]
theorem len_c {nq nh : Nat} {mi cu : Int32} {a2 a3 a4 a5 a6 : Nat → Int32} {E : DD} (h : dR nq nh (dk mi cu a2 a3 a4 a5 a6) E) (hq : nq ≤ 8) : ∀ j, j < nq → ∃ l : Nat, l ≤ 99 ∧ a2 j = nI l := by
  intro j hj
  have h9 := (h.2 j hj).2
  rw [dk_r2 (by omega)] at h9
  exact h9
theorem len_m {nq nh nq2 : Nat} {D E : DD} (h : dR nq nh D E) (hqq : nq = nq2) : ∀ j, j < nq2 → ∃ l : Nat, l ≤ 99 ∧ E j = nI l := by
  subst hqq
  intro j hj
  have h9 := (h.2 j hj).2
  rw [h.1 j (by unfold inD; omega)] at h9
  exact h9
/-! geese -/
def gsN (l n : Nat) : Int32 := if l = 0 then -1 else nI ((n + 10 * l - 1) / (10 * l))
def gsR (nq nh : Nat) (q h n : Int32) (G : Nat → Nat → Nat) : Int32 := if ixP q nq ∧ ixP h nh then (if btP 1 n 99999 then gsN (G q.toNatClampNeg h.toNatClampNeg) n.toNatClampNeg else -1000000002) else -1000000001
theorem gs_n0 {nq nh : Nat} {q h n : Int32} {G : Nat → Nat → Nat} (c : ¬ ixP q nq) : -1000000001 = gsR nq nh q h n G := (if_neg (fun k => c k.1)).symm
theorem gs_n1 {nq nh : Nat} {q h n : Int32} {G : Nat → Nat → Nat} (c : ¬ ixP h nh) : -1000000001 = gsR nq nh q h n G := (if_neg (fun k => c k.2)).symm
theorem gs_o {nq nh : Nat} {q h n : Int32} {G : Nat → Nat → Nat} (c : ixP q nq) (d : ixP h nh) (e : ¬ btP 1 n 99999) : -1000000002 = gsR nq nh q h n G := ((if_pos ⟨c, d⟩).trans (if_neg e)).symm
theorem gs_y {nq nh j k m w : Nat} {r : Int32} {G : Nat → Nat → Nat} (c : ixP (nI j) nq) (d : ixP (nI k) nh) (e : btP 1 (nI m) 99999) (hj : j < 2 ^ 31) (hk : k < 2 ^ 31) (hm : m < 2 ^ 31) (hw : w = G j k) (hr : r = gsN w m) : r = gsR nq nh (nI j) (nI k) (nI m) G := by
  unfold gsR
  rw [if_pos ⟨c, d⟩, if_pos e, nI_clamp hj, nI_clamp hk, nI_clamp hm, ← hw]
  exact hr
theorem gs_0 {w m : Nat} (h : w = 0) : -1 = gsN w m := (if_pos h).symm
theorem gs_1 {w m : Nat} (h : ¬ w = 0) : nI ((m + 10 * w - 1) / (10 * w)) = gsN w m := (if_neg h).symm
theorem gs_m {w m : Nat} (h : ¬ w = 0) : nI (((m + w - 1) / w + 9) / 10) = gsN w m := by
  rw [← gs_1 h]
  have e : (m + w - 1) / w + 9 = (m + w - 1 + 9 * w) / w := (Nat.add_mul_div_right _ 9 (by omega)).symm
  rw [e, Nat.div_div_eq_div_mul, Nat.mul_comm w 10, show m + w - 1 + 9 * w = m + 10 * w - 1 from by omega]
theorem gsR_c {nq nh nq2 nh2 : Nat} {q h n : Int32} {G K : Nat → Nat → Nat} (hqq : nq = nq2) (hhh : nh = nh2) (hq : nq ≤ 8) (hh : nh ≤ 4) (e : ∀ j k, j < nq → k < nh → G j k = K j k) : gsR nq nh q h n G = gsR nq2 nh2 q h n K := by
  subst hqq
  subst hhh
  unfold gsR
  by_cases c : ixP q nq ∧ ixP h nh
  · rw [if_pos c, if_pos c, e _ _ (x_ixn c.1 (by omega)) (x_ixn c.2 (by omega))]
  · rw [if_neg c, if_neg c]
/-! what a wing is dearer -/
def spF (V : Nat → Nat → Int32) (nh : Nat) : Nat → Int32
  | 0 => 0
  | q + 1 => spF V nh q + smF (V q) nh
theorem spF_c {V U : Nat → Nat → Int32} {nh : Nat} : ∀ (n : Nat), (∀ j k, j < n → k < nh → V j k = U j k) → spF V nh n = spF U nh n
  | 0, _ => rfl
  | n + 1, h => by
    show spF V nh n + smF (V n) nh = spF U nh n + smF (U n) nh
    rw [spF_c n (fun j k hj hk => h j k (by omega) hk), smF_c nh (fun k hk => h n k (by omega) hk)]
def drV (w : Int32) (g : Nat) : Int32 := if w = 0 then nI g else -(nI g)
theorem dr_in {V : Nat → Nat → Int32} {nh q k : Nat} {a v : Int32} (h : a = spF V nh q + smF (V q) k) (e : v = V q k) : a + v = spF V nh q + smF (V q) (k + 1) := by
  rw [h, e, Int32.add_assoc]
  rfl
theorem dr_out {V : Nat → Nat → Int32} {nh q k : Nat} {a : Int32} (h : a = spF V nh q + smF (V q) k) (e : k = nh) : a = spF V nh (q + 1) := by
  rw [h, e]
  rfl
theorem dr_new {V : Nat → Nat → Int32} {nh q : Nat} {a : Int32} (h : a = spF V nh q) : a = spF V nh q + smF (V q) 0 := by
  rw [h]
  exact (Int32.add_zero _).symm
theorem dm_in {V : Nat → Nat → Int32} {nh q k : Nat} {a v : Int32} (h : a = 100000 + (spF V nh q + smF (V q) k)) (e : v = V q k) : a + v = 100000 + (spF V nh q + smF (V q) (k + 1)) := by
  rw [h, e, Int32.add_assoc, Int32.add_assoc]
  rfl
theorem dm_out {V : Nat → Nat → Int32} {nh q k : Nat} {a : Int32} (h : a = 100000 + (spF V nh q + smF (V q) k)) (e : k = nh) : a = 100000 + spF V nh (q + 1) := by
  rw [h, e]
  rfl
theorem dm_new {V : Nat → Nat → Int32} {nh q : Nat} {a : Int32} (h : a = 100000 + spF V nh q) : a = 100000 + (spF V nh q + smF (V q) 0) := by
  rw [h]
  exact congrArg (100000 + ·) (Int32.add_zero _).symm
theorem L_dear {nq nh nq2 nh2 : Nat} {a b c d e f A B C A2 B2 C2 a2 a3 a4 a5 a6 : Nat → Int32} {mi cu : Int32} {E : DD} (hqq : nq = nq2) (hhh : nh = nh2) (hq : nq ≤ 8) (hh : nh ≤ 4) (hrw : rwR nq nh a b c d e f A B C A2 B2 C2) (hdk : dR nq nh (dk mi cu a2 a3 a4 a5 a6) E) :
    100000 + spF (fun j k => drV (a j) (gdM lcB (wrF (a j) (b j) (c j) (d k) (e k)) (f k) (a3 j) (a4 j) 999)) nh nq = 100000 + spF (fun j k => drV (A j) (gdM lmB (wrF (A j) (B j) (C j) (A2 k) (B2 k)) (C2 k) (E (8 + j)) (E (16 + j)) 999)) nh2 nq2 := by
  subst hqq
  subst hhh
  refine congrArg (100000 + ·) (spF_c nq (fun j k hj hk => ?_))
  have e4 : a4 j = E (16 + j) := (dk_r4 (by omega)).symm.trans (hdk.1 _ (by unfold inD; omega))
  rw [gd_c hrw hdk hq hh hj hk (a4 j), e4, (hrw.1 j hj).1]
/-! pages judged: the first entry that is wrong -/
def fwP (n : Nat) (A B : Nat → Int32) (r : Int32) : Prop := (r = -1 ∧ ∀ i, i < n → A i = B i) ∨ (∃ k : Nat, k < n ∧ r = nI k ∧ (∀ i, i < k → A i = B i) ∧ ¬ A k = B k)
theorem fwP_c {n m : Nat} {A B C D : Nat → Int32} {r s : Int32} (hn : n = m) (hAC : ∀ i, i < n → A i = C i) (hBD : ∀ i, i < n → B i = D i) (h : fwP n A B r) (k : fwP m C D s) : r = s := by
  subst hn
  rcases h with ⟨h1, h2⟩ | ⟨x, hx, h1, h2, h3⟩
  · rcases k with ⟨k1, k2⟩ | ⟨y, hy, k1, k2, k3⟩
    · rw [h1, k1]
    · exact absurd ((hAC y hy).symm.trans ((h2 y hy).trans (hBD y hy))) k3
  · rcases k with ⟨k1, k2⟩ | ⟨y, hy, k1, k2, k3⟩
    · exact absurd ((hAC x hx).trans ((k2 x hx).trans (hBD x hx).symm)) h3
    · rcases Nat.lt_trichotomy x y with c | c | c
      · exact absurd ((hAC x hx).trans ((k2 x c).trans (hBD x hx).symm)) h3
      · rw [h1, k1, c]
      · exact absurd ((hAC y hy).symm.trans ((h2 y c).trans (hBD y hy))) k3
theorem fw_step {k : Nat} {A B : Nat → Int32} (h : ∀ i, i < k → A i = B i) (e : A k = B k) : ∀ i, i < k + 1 → A i = B i := by
  intro i hi
  by_cases c : i = k
  · rw [c]; exact e
  · exact h i (by omega)
