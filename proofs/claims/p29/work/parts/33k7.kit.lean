/-! the book and what is worn, side by side -/
def jdA (a b : Nat → Int32) (i : Nat) : Int32 := a (b i).toNatClampNeg
theorem jd_e {a b : Nat → Int32} {i c : Nat} (h : b i = nI c) (hc : c < 2 ^ 31) : jdA a b i = a c := congrArg a (i_nat h hc)
theorem jd_y {a b B : Nat → Int32} {k c : Nat} (h : b k = nI c) (hc : c < 2 ^ 31) (e : a c = B k) : jdA a b k = B k := (jd_e h hc).trans e
theorem jd_x {a b B : Nat → Int32} {k c : Nat} (h : b k = nI c) (hc : c < 2 ^ 31) (e : ¬ a c = B k) : ¬ jdA a b k = B k := fun q => e ((jd_e h hc).symm.trans q)
abbrev ntP (q s : Int32) (nq n : Nat) : Prop := ixP q nq ∧ btP 0 s 99 ∧ n < 15
def bkR (nq n : Nat) (a b A B : Nat → Int32) : Prop := ∀ i, i < n → a i = A i ∧ b i = B i ∧ ∃ c : Nat, c < nq ∧ a i = nI c
theorem bkR_0 {nq : Nat} {a b A B : Nat → Int32} : bkR nq 0 a b A B := fun i hi => absurd hi (Nat.not_lt_zero i)
theorem noteN_y {q s : Int32} {nq n : Nat} (h : ntP q s nq n) : noteN q s nq n = n + 1 := (if_pos h.1).trans ((if_pos h.2.1).trans (if_pos h.2.2))
theorem noteN_n {q s : Int32} {nq n : Nat} (h : ¬ ntP q s nq n) : noteN q s nq n = n := by
  unfold noteN
  by_cases c : 0 ≤ q ∧ q < nI nq
  · rw [if_pos c]
    by_cases d : 0 ≤ s ∧ s ≤ 99
    · rw [if_pos d, if_neg (fun e => h ⟨c, d, e⟩)]
    · rw [if_neg d]
  · rw [if_neg c]
theorem L_note {nq nq2 n m n1 : Nat} {q s : Int32} {a b A B a1 b1 A1 B1 : Nat → Int32} (hn1 : n1 = noteN q s nq n) (e1 : a1 = if ntP q s nq n then upd a n q else a) (e2 : b1 = if ntP q s nq n then upd b n s else b) (e3 : A1 = if ntP q s nq2 m then upd A m q else A) (e4 : B1 = if ntP q s nq2 m then upd B m s else B) (hqq : nq = nq2) (hbb : n = m) (hq : nq ≤ 8) (h : bkR nq n a b A B) : bkR nq n1 a1 b1 A1 B1 := by
  subst hqq
  subst hbb
  by_cases c : ntP q s nq n
  · rw [if_pos c] at e1 e2 e3 e4
    rw [noteN_y c] at hn1
    rw [hn1, e1, e2, e3, e4]
    intro i hi
    by_cases d : i = n
    · rw [d, pk_us, pk_us, pk_us, pk_us]
      obtain ⟨j, hj, e⟩ := x_ix c.1 (by omega)
      exact ⟨rfl, rfl, j, hj, e⟩
    · rw [pk_un d, pk_un d, pk_un d, pk_un d]
      exact h i (by omega)
  · rw [if_neg c] at e1 e2 e3 e4
    rw [noteN_n c] at hn1
    rw [hn1, e1, e2, e3, e4]
    exact h
theorem L_bk {y : RS} {nq nq1 n n1 z : Nat} {a b A B : Nat → Int32} (e1 : nq1 = offN y nq z) (e2 : n1 = offN y n 0) (h : bkR nq n a b A B) : bkR nq1 n1 a b A B := by
  by_cases c : y.1 0 ≠ 0
  · rw [e1.trans (if_pos c), e2.trans (if_pos c)]
    exact h
  · rw [e2.trans (if_neg c)]
    exact bkR_0
theorem L_judge {nq nh n m : Nat} {mi cu r s : Int32} {a b A B a2 a3 a4 a5 a6 : Nat → Int32} {E : DD} (hb : bkR nq n a b A B) (hdk : dR nq nh (dk mi cu a2 a3 a4 a5 a6) E) (hq : nq ≤ 8) (hn : n = m) (h : fwP n (jdA a4 a) b r) (k : fwP m (jdA (fun i => E (16 + i)) A) B s) : r = s := by
  refine fwP_c hn (fun i hi => ?_) (fun i hi => (hb i hi).2.1) h k
  obtain ⟨h1, h2, c, hc, e⟩ := hb i hi
  rw [jd_e e (by omega), jd_e (h1.symm.trans e) (by omega)]
  exact (dk_r4 (by omega)).symm.trans (hdk.1 _ (by unfold inD; omega))
/-! how soft a quill is behind so many pages -/
def saF (w : Int32) : Nat → Int32
  | 0 => 0
  | n + 1 => sbF (saF w n) w
theorem sb_nat {a x : Nat} (ha : a ≤ 1000000) (hx : x ≤ 1000000) : sbF (nI a) (nI x) = nI (min 99 (a + x)) := by
  unfold sbF
  have e99 : (99 : Int32) = nI 99 := rfl
  rw [show nI a + nI x = nI (a + x) from (nI_add a x), e99]
  by_cases d : a + x < 99
  · rw [if_pos ((nI_ltI (by omega) (by omega)).mpr d), Nat.min_eq_right (by omega)]
  · rw [if_neg (fun k => d ((nI_ltI (by omega) (by omega)).mp k)), Nat.min_eq_left (by omega)]
theorem sa_nat {x : Nat} (hx : x ≤ 1000) : ∀ (c : Nat), saF (nI x) c = nI (min 99 (c * x))
  | 0 => by
    rw [Nat.zero_mul]
    rfl
  | c + 1 => by
    show sbF (saF (nI x) c) (nI x) = _
    rw [sa_nat hx c, sb_nat (by omega) (by omega), Nat.add_mul, Nat.one_mul]
    congr 1
    omega
theorem wr_b {w p c s r : Int32} (hc : bN 9 c) (hr : bN 9 r) : ∃ x : Nat, x ≤ 40 ∧ wrF w p c s r = nI x := by
  obtain ⟨k, h3, h14, e⟩ := hd_ix (p := p) hc
  obtain ⟨a, ha, rfl⟩ := hr
  have e1 : 12 * nI a / hdF p c = nI (12 * a / k) := by
    rw [e, show (12 : Int32) = nI 12 from rfl, pk_mul, pk_div (by omega) (by omega) (by omega)]
  have h9 : 12 * a / k ≤ 36 := Nat.div_le_of_le_mul (Nat.le_trans (show 12 * a ≤ 3 * 36 by omega) (Nat.mul_le_mul_right 36 h3))
  have e2 : ∃ y : Nat, y ≤ 36 ∧ mxF (12 * nI a / hdF p c) = nI y := by
    rw [e1]
    unfold mxF
    by_cases d : 1 < nI (12 * a / k)
    · exact ⟨_, h9, if_pos d⟩
    · exact ⟨1, by omega, if_neg d⟩
  obtain ⟨y, hy, e3⟩ := e2
  rw [wr_m hc, e3]
  by_cases d : w = s
  · exact ⟨y, by omega, if_pos d⟩
  · exact ⟨y + 4, by omega, (if_neg d).trans (nI_add y 4)⟩
/-- told worn, by the class and by the reference: the same -/
theorem wn_eq {w n : Int32} {x c : Nat} (hw : w = nI x) (hx : x ≤ 200) (hn : n = nI c) (hc : c ≤ 9) : sbF 0 (n * w) = saF w n.toNatClampNeg := by
  subst hw
  subst hn
  rw [pk_mul, show (0 : Int32) = nI 0 from rfl, sb_nat (by omega) (Nat.le_trans (Nat.mul_le_mul hc hx) (by decide)), nI_clamp (by omega), sa_nat (by omega), Nat.zero_add]
def wnA (W : Nat → Nat → Int32) (q n : Nat → Int32) (k i : Nat) : Int32 := sbF 0 (n i * W (q i).toNatClampNeg k)
def wnM (W : Nat → Nat → Int32) (q n : Nat → Int32) (k i : Nat) : Int32 := saF (W (q i).toNatClampNeg k) (n i).toNatClampNeg
def evR (nq n : Nat) (a b c A B C : Nat → Int32) : Prop := ∀ i, i < n → a i = A i ∧ b i = B i ∧ c i = C i ∧ (∃ k : Nat, k < nq ∧ a i = nI k) ∧ (∃ k : Nat, k ≤ 9 ∧ b i = nI k)
theorem evR_0 {nq : Nat} {a b c A B C : Nat → Int32} : evR nq 0 a b c A B C := fun i hi => absurd hi (Nat.not_lt_zero i)
/-- which of some hold, as a set -/
def fhP (P : Nat → Prop) : Nat → Int32 → Prop
  | 0, r => r = 0
  | n + 1, r => ∃ s, fhP P n s ∧ ((P n ∧ r = s ||| 1 <<< (nI n &&& 31)) ∨ (¬ P n ∧ r = s))
theorem fhP_c {P Q : Nat → Prop} : ∀ (n : Nat) (r s : Int32), (∀ k, k < n → (P k ↔ Q k)) → fhP P n r → fhP Q n s → r = s
  | 0, _, _, _, h, k => h.trans k.symm
  | n + 1, r, s, e, h, k => by
    obtain ⟨a, ha, h⟩ := h
    obtain ⟨b, hb, k⟩ := k
    have e0 := fhP_c n a b (fun k hk => e k (by omega)) ha hb
    subst e0
    rcases h with ⟨p, h⟩ | ⟨p, h⟩
    · rcases k with ⟨q, k⟩ | ⟨q, k⟩
      · rw [h, k]
      · exact absurd ((e n (by omega)).mp p) q
    · rcases k with ⟨q, k⟩ | ⟨q, k⟩
      · exact absurd ((e n (by omega)).mpr q) p
      · rw [h, k]
theorem fh_y {P : Nat → Prop} {n : Nat} {a : Int32} (h : fhP P n a) (p : P n) : fhP P (n + 1) (a ||| 1 <<< (nI n &&& 31)) := ⟨a, h, Or.inl ⟨p, rfl⟩⟩
theorem fh_n {P : Nat → Prop} {n : Nat} {a : Int32} (h : fhP P n a) (p : ¬ P n) : fhP P (n + 1) a := ⟨a, h, Or.inr ⟨p, rfl⟩⟩
abbrev wnP (W : Nat → Nat → Int32) (q n s : Nat → Int32) (m : Nat) (k : Nat) : Prop := ∀ i, i < m → wnA W q n k i = s i
abbrev wnQ (W : Nat → Nat → Int32) (q n s : Nat → Int32) (m : Nat) (k : Nat) : Prop := ∀ i, i < m → wnM W q n k i = s i
theorem wn_iff {nq nh ne wm k : Nat} {a b c d e f A B C A2 B2 C2 q n s Q N S : Nat → Int32} (hrw : rwR nq nh a b c d e f A B C A2 B2 C2) (hev : evR nq ne q n s Q N S) (hne : ne = wm) (hk : k < nh) (hq : nq ≤ 8) :
    wnP (fun j k => wrF (a j) (b j) (c j) (d k) (e k)) q n s ne k ↔ wnQ (fun j k => wrF (A j) (B j) (C j) (A2 k) (B2 k)) Q N S wm k := by
  subst hne
  have key : ∀ i, i < ne → (wnA (fun j k => wrF (a j) (b j) (c j) (d k) (e k)) q n k i = wnM (fun j k => wrF (A j) (B j) (C j) (A2 k) (B2 k)) Q N k i) := by
    intro i hi
    obtain ⟨h1, h2, h3, ⟨j, hj, e1⟩, ⟨m, hm, e2⟩⟩ := hev i hi
    unfold wnA wnM
    rw [← h1, ← h2, i_nat e1 (by omega)]
    dsimp only
    rw [← rw_W hrw j k hj hk]
    obtain ⟨x, hx, ex⟩ := wr_b (w := a j) (p := b j) (s := d k) (hrw.1 j hj).2.2.2 (hrw.2 k hk).2.2.2.1
    exact wn_eq ex (by omega) e2 hm
  constructor
  · intro h i hi
    exact (key i hi).symm.trans ((h i hi).trans (hev i hi).2.2.1)
  · intro h i hi
    exact (key i hi).trans ((h i hi).trans (hev i hi).2.2.1.symm)
theorem L_whose {nq nh nh2 ne wm : Nat} {r t : Int32} {a b c d e f A B C A2 B2 C2 q n s Q N S : Nat → Int32} (hrw : rwR nq nh a b c d e f A B C A2 B2 C2) (hev : evR nq ne q n s Q N S) (hne : ne = wm) (hhh : nh = nh2) (hq : nq ≤ 8)
    (h : fhP (wnP (fun j k => wrF (a j) (b j) (c j) (d k) (e k)) q n s ne) nh r) (k : fhP (wnQ (fun j k => wrF (A j) (B j) (C j) (A2 k) (B2 k)) Q N S wm) nh2 t) : r = t := by
  subst hhh
  exact fhP_c nh r t (fun k hk => wn_iff hrw hev hne hk hq) h k
abbrev woP (q n s : Int32) (nq m : Nat) : Prop := ixP q nq ∧ btP 1 n 9 ∧ btP 0 s 99 ∧ m < 6
theorem wornN_y {q n s : Int32} {nq m : Nat} (h : woP q n s nq m) : wornN q n s nq m = m + 1 := (if_pos h.1).trans ((if_pos h.2.1).trans ((if_pos h.2.2.1).trans (if_pos h.2.2.2)))
theorem wornN_n {q n s : Int32} {nq m : Nat} (h : ¬ woP q n s nq m) : wornN q n s nq m = m := by
  unfold wornN
  by_cases c : 0 ≤ q ∧ q < nI nq
  · rw [if_pos c]
    by_cases d : 1 ≤ n ∧ n ≤ 9
    · rw [if_pos d]
      by_cases e : 0 ≤ s ∧ s ≤ 99
      · rw [if_pos e, if_neg (fun k => h ⟨c, d, e, k⟩)]
      · rw [if_neg e]
    · rw [if_neg d]
  · rw [if_neg c]
theorem L_worn {nq nq2 m m2 m1 : Nat} {q n s : Int32} {a b c A B C a1 b1 c1 A1 B1 C1 : Nat → Int32} (hm1 : m1 = wornN q n s nq m) (e1 : a1 = if woP q n s nq m then upd a m q else a) (e2 : b1 = if woP q n s nq m then upd b m n else b) (e3 : c1 = if woP q n s nq m then upd c m s else c) (f1 : A1 = if woP q n s nq2 m2 then upd A m2 q else A) (f2 : B1 = if woP q n s nq2 m2 then upd B m2 n else B) (f3 : C1 = if woP q n s nq2 m2 then upd C m2 s else C) (hqq : nq = nq2) (hee : m = m2) (hq : nq ≤ 8) (h : evR nq m a b c A B C) : evR nq m1 a1 b1 c1 A1 B1 C1 := by
  subst hqq
  subst hee
  by_cases k : woP q n s nq m
  · rw [if_pos k] at e1 e2 e3 f1 f2 f3
    rw [wornN_y k] at hm1
    rw [hm1, e1, e2, e3, f1, f2, f3]
    intro i hi
    by_cases d : i = m
    · rw [d, pk_us, pk_us, pk_us, pk_us, pk_us, pk_us]
      obtain ⟨j, hj, e⟩ := x_ix k.1 (by omega)
      obtain ⟨t, _, ht, e9⟩ := x_rng (a := 1) (b := 9) (by decide) (by decide) k.2.1
      exact ⟨rfl, rfl, rfl, ⟨j, hj, e⟩, t, ht, e9⟩
    · rw [pk_un d, pk_un d, pk_un d, pk_un d, pk_un d, pk_un d]
      exact h i (by omega)
  · rw [if_neg k] at e1 e2 e3 f1 f2 f3
    rw [wornN_n k] at hm1
    rw [hm1, e1, e2, e3, f1, f2, f3]
    exact h
theorem L_ev {y : RS} {nq nq1 n n1 z : Nat} {a b c A B C : Nat → Int32} (e1 : nq1 = offN y nq z) (e2 : n1 = offN y n 0) (h : evR nq n a b c A B C) : evR nq1 n1 a b c A B C := by
  by_cases k : y.1 0 ≠ 0
  · rw [e1.trans (if_pos k), e2.trans (if_pos k)]
    exact h
  · rw [e2.trans (if_neg k)]
    exact evR_0
theorem wa_e {W : Nat → Nat → Int32} {q n : Nat → Int32} {k i c : Nat} (h : q i = nI c) (hc : c < 2 ^ 31) : wnA W q n k i = sbF 0 (n i * W c k) := by
  unfold wnA
  rw [i_nat h hc]
theorem wm_e {W : Nat → Nat → Int32} {q n : Nat → Int32} {k i c d : Nat} (h : q i = nI c) (hc : c < 2 ^ 31) (hn : n i = nI d) (hd : d < 2 ^ 31) : wnM W q n k i = saF (W c k) d := by
  unfold wnM
  rw [i_nat h hc, i_nat hn hd]
theorem b_iff1 {x m : Nat} {A B : Nat → Int32} (h : Hid (x = 1 ↔ ∀ i, i < m → A i = B i)) (c : ¬ x = 0) (hx : x ≤ 1) (e : A m = B m) : Hid (1 = 1 ↔ ∀ i, i < m + 1 → A i = B i) := Hid.mk ⟨fun _ => fw_step (h.out.mp (by omega)) e, fun _ => rfl⟩
theorem b_iff0 {x m : Nat} {A B : Nat → Int32} (h : Hid (x = 1 ↔ ∀ i, i < m → A i = B i)) (e : ¬ A m = B m) : Hid (0 = 1 ↔ ∀ i, i < m + 1 → A i = B i) := Hid.mk ⟨fun k => absurd k (by decide), fun k => absurd (k m (by omega)) e⟩
theorem b_iffn {x m : Nat} {A B : Nat → Int32} (h : Hid (x = 1 ↔ ∀ i, i < m → A i = B i)) (c : x = 0) : Hid (0 = 1 ↔ ∀ i, i < m + 1 → A i = B i) := Hid.mk ⟨fun k => absurd k (by decide), fun k => absurd (h.out.mpr (fun i hi => k i (by omega))) (by omega)⟩
theorem wa_x {W : Nat → Nat → Int32} {q n s : Nat → Int32} {m k i c : Nat} (h : q i = nI c) (hc : c < 2 ^ 31) (hi : i < m) (e : ¬ sbF 0 (n i * W c k) = s i) : ¬ wnP W q n s m k := fun h9 => e ((wa_e h hc).symm.trans (h9 i hi))
