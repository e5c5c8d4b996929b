/-! which quill to look at next -/
theorem or_bit : ∀ n, n < 4 → ∀ s, s < 8 → s < 2 ^ n → nI s ||| 1 <<< (nI n &&& 31) = nI (s + 2 ^ n) := by decide +kernel
theorem tb_add : ∀ n, n < 4 → ∀ s, s < 8 → s < 2 ^ n → ∀ k, k < 4 → (s + 2 ^ n).testBit k = if k = n then true else s.testBit k := by decide +kernel
theorem tb_lt : ∀ n, n < 4 → ∀ s, s < 8 → s < 2 ^ n → s.testBit n = false := by decide +kernel
theorem fh_nat {P : Nat → Prop} : ∀ (n : Nat), n ≤ 4 → ∀ r, fhP P n r → ∃ s : Nat, s < 2 ^ n ∧ r = nI s ∧ ∀ k, k < n → (s.testBit k = true ↔ P k)
  | 0, _, r, h => ⟨0, by decide, h, fun k hk => absurd hk (by omega)⟩
  | n + 1, hn, r, h => by
    obtain ⟨a, ha, h⟩ := h
    obtain ⟨s, hs, e, hb⟩ := fh_nat n (by omega) a ha
    have h8 : s < 8 := by
      have : 2 ^ n ≤ 2 ^ 3 := Nat.pow_le_pow_right (by decide) (by omega)
      omega
    have hp : 2 ^ (n + 1) = 2 ^ n + 2 ^ n := by rw [Nat.pow_succ]; omega
    rcases h with ⟨p, h⟩ | ⟨p, h⟩
    · refine ⟨s + 2 ^ n, by omega, by rw [h, e]; exact or_bit n (by omega) s h8 hs, fun k hk => ?_⟩
      rw [tb_add n (by omega) s h8 hs k (by omega)]
      by_cases c : k = n
      · rw [if_pos c, c]
        exact ⟨fun _ => p, fun _ => rfl⟩
      · rw [if_neg c]
        exact hb k (by omega)
    · refine ⟨s, by omega, by rw [h, e], fun k hk => ?_⟩
      by_cases c : k = n
      · rw [c, tb_lt n (by omega) s h8 hs]
        exact ⟨fun q => absurd q (by decide), fun q => absurd q p⟩
      · exact hb k (by omega)
/-- the bits, as each side takes them -/
theorem bt_c : ∀ s, s < 16 → ∀ n, n < 4 → (nI s &&& 1 <<< (nI n &&& 31) = 0 ↔ s.testBit n = false) := by decide +kernel
theorem bt_m : ∀ s, s < 16 → ∀ n, n < 4 → (nI s >>> (nI n &&& 31) &&& 1 = 1 ↔ s.testBit n = true) := by decide +kernel
def pcN (s : Nat) : Nat := s % 2 + s / 2 % 2 + s / 4 % 2 + s / 8 % 2
/-- alike ones among the hands of a set, the greatest part of it -/
def alN (W : Nat → Int32) (s h : Nat) : Nat → Nat
  | 0 => 0
  | n + 1 => alN W s h n + (if s.testBit n = true ∧ W n = W h then 1 else 0)
def gaN (W : Nat → Int32) (s m : Nat) : Nat → Nat
  | 0 => 0
  | n + 1 => if s.testBit n = true then max (gaN W s m n) (alN W s n m) else gaN W s m n
theorem alN_le {W : Nat → Int32} {s h : Nat} : ∀ n, alN W s h n ≤ n
  | 0 => Nat.le_refl 0
  | n + 1 => by
    have := alN_le (W := W) (s := s) (h := h) n
    show alN W s h n + (if s.testBit n = true ∧ W n = W h then 1 else 0) ≤ n + 1
    split <;> omega
theorem gaN_le {W : Nat → Int32} {s m : Nat} : ∀ n, gaN W s m n ≤ m
  | 0 => Nat.zero_le _
  | n + 1 => by
    have h1 := gaN_le (W := W) (s := s) (m := m) n
    have h2 := alN_le (W := W) (s := s) (h := n) m
    show (if s.testBit n = true then max (gaN W s m n) (alN W s n m) else gaN W s m n) ≤ m
    split <;> omega
theorem alN_c {W V : Nat → Int32} {s h : Nat} : ∀ n, (∀ k, k < n → (W k = W h ↔ V k = V h)) → alN W s h n = alN V s h n
  | 0, _ => rfl
  | n + 1, e => by
    show alN W s h n + (if s.testBit n = true ∧ W n = W h then 1 else 0) = alN V s h n + (if s.testBit n = true ∧ V n = V h then 1 else 0)
    rw [alN_c n (fun k hk => e k (by omega))]
    by_cases c : W n = W h
    · have d := (e n (by omega)).mp c
      by_cases b : s.testBit n = true
      · rw [if_pos ⟨b, c⟩, if_pos ⟨b, d⟩]
      · rw [if_neg (fun q => b q.1), if_neg (fun q => b q.1)]
    · have d : ¬ V n = V h := fun q => c ((e n (by omega)).mpr q)
      rw [if_neg (fun q => c q.2), if_neg (fun q => d q.2)]
theorem gaN_c {W V : Nat → Int32} {s m : Nat} (e : ∀ k h, k < m → h < m → (W k = W h ↔ V k = V h)) : ∀ n, n ≤ m → gaN W s m n = gaN V s m n
  | 0, _ => rfl
  | n + 1, hn => by
    show (if s.testBit n = true then max (gaN W s m n) (alN W s n m) else gaN W s m n) = (if s.testBit n = true then max (gaN V s m n) (alN V s n m) else gaN V s m n)
    rw [gaN_c e n (by omega), alN_c m (fun k hk => e k n hk (by omega))]
/-- the quill to look at -/
def laS (G : Nat → Nat) (p : Nat) : Nat → Int32 × Nat
  | 0 => (-1, p)
  | q + 1 => if G q < (laS G p q).2 then (nI q, G q) else laS G p q
theorem laS_c {G K : Nat → Nat} {p : Nat} : ∀ n, (∀ q, q < n → G q = K q) → laS G p n = laS K p n
  | 0, _ => rfl
  | n + 1, e => by
    show (if G n < (laS G p n).2 then (nI n, G n) else laS G p n) = (if K n < (laS K p n).2 then (nI n, K n) else laS K p n)
    rw [laS_c n (fun q hq => e q (by omega)), e n (by omega)]
theorem sb_inj {x y : Nat} (hx : x ≤ 40) (hy : y ≤ 40) : saF (nI x) 1 = saF (nI y) 1 ↔ nI x = nI y := by
  rw [sa_nat (by omega), sa_nat (by omega), Nat.one_mul, Nat.one_mul, Nat.min_eq_right (by omega), Nat.min_eq_right (by omega)]
theorem al_y {W : Nat → Int32} {s h n a : Nat} (e : a = alN W s h n) (b : s.testBit n = true) (c : W n = W h) : a + 1 = alN W s h (n + 1) := by
  show a + 1 = alN W s h n + (if s.testBit n = true ∧ W n = W h then 1 else 0)
  rw [if_pos ⟨b, c⟩, e]
theorem al_b {W : Nat → Int32} {s h n a : Nat} (e : a = alN W s h n) (b : ¬ s.testBit n = true) : a = alN W s h (n + 1) := by
  show a = alN W s h n + (if s.testBit n = true ∧ W n = W h then 1 else 0)
  rw [if_neg (fun q => b q.1), e]
  rfl
theorem al_w {W : Nat → Int32} {s h n a : Nat} (e : a = alN W s h n) (c : ¬ W n = W h) : a = alN W s h (n + 1) := by
  show a = alN W s h n + (if s.testBit n = true ∧ W n = W h then 1 else 0)
  rw [if_neg (fun q => c q.2), e]
  rfl
theorem ga_y {W : Nat → Int32} {s m n a b : Nat} (e : a = gaN W s m n) (t : s.testBit n = true) (hb : b = alN W s n m) : max a b = gaN W s m (n + 1) := by
  show max a b = (if s.testBit n = true then max (gaN W s m n) (alN W s n m) else gaN W s m n)
  rw [if_pos t, e, hb]
theorem ga_n {W : Nat → Int32} {s m n a : Nat} (e : a = gaN W s m n) (t : ¬ s.testBit n = true) : a = gaN W s m (n + 1) := by
  show a = (if s.testBit n = true then max (gaN W s m n) (alN W s n m) else gaN W s m n)
  rw [if_neg t, e]
theorem la_y {G : Nat → Nat} {p n g : Nat} {b : Int32} {l : Nat} (e : (b, l) = laS G p n) (hg : g = G n) (c : g < l) : (nI n, g) = laS G p (n + 1) := by
  show (nI n, g) = (if G n < (laS G p n).2 then (nI n, G n) else laS G p n)
  rw [← e, if_pos (by rw [← hg]; exact c), hg]
theorem la_n {G : Nat → Nat} {p n g : Nat} {b : Int32} {l : Nat} (e : (b, l) = laS G p n) (hg : g = G n) (c : ¬ g < l) : (b, l) = laS G p (n + 1) := by
  show (b, l) = (if G n < (laS G p n).2 then (nI n, G n) else laS G p n)
  rw [← e, if_neg (by rw [← hg]; exact c)]
/-- one answer: the set's bits s, so many of them, the greatest parts -/
def lkP (nq nh : Nat) (P : Nat → Prop) (W : Nat → Nat → Int32) (r : Int32) : Prop := ∃ s : Nat, s < 16 ∧ (∃ a, fhP P nh a ∧ a = nI s) ∧ r = (laS (fun q => gaN (W q) s nh nh) (pcN s) nq).1
theorem lkP_c {nq nh nq2 nh2 : Nat} {P Q : Nat → Prop} {W V : Nat → Nat → Int32} {r t : Int32} (hqq : nq = nq2) (hhh : nh = nh2) (hP : ∀ k, k < nh → (P k ↔ Q k)) (hW : ∀ q k h, q < nq → k < nh → h < nh → (W q k = W q h ↔ V q k = V q h)) (x : lkP nq nh P W r) (y : lkP nq2 nh2 Q V t) : r = t := by
  subst hqq
  subst hhh
  obtain ⟨s, hs, ⟨a, ha, ea⟩, er⟩ := x
  obtain ⟨s2, hs2, ⟨b, hb, eb⟩, et⟩ := y
  have e := fhP_c nh a b hP ha hb
  rw [ea, eb] at e
  have e2 : s = s2 := (nI_eq (by omega) (by omega)).mp e
  subst e2
  rw [er, et, laS_c nq (fun q hq => gaN_c (fun k h hk hh => hW q k h hq hk hh) nh (Nat.le_refl nh))]
theorem bt_y {s n : Nat} (hs : s < 16) (hn : n < 4) (c : ¬ nI s &&& 1 <<< (nI n &&& 31) = 0) : s.testBit n = true := by
  cases h : s.testBit n with
  | true => rfl
  | false => exact absurd ((bt_c s hs n hn).mpr h) c
theorem bt_n {s n : Nat} (hs : s < 16) (hn : n < 4) (c : nI s &&& 1 <<< (nI n &&& 31) = 0) : ¬ s.testBit n = true := by
  rw [(bt_c s hs n hn).mp c]
  decide
theorem bm_y {s n w : Nat} (hs : s < 16) (hn : n < 4) (e : nI s >>> (nI n &&& 31) &&& 1 = nI w) (c : w = 1) : s.testBit n = true := (bt_m s hs n hn).mp (e.trans (by rw [c]; rfl))
theorem bm_n {s n w : Nat} (hs : s < 16) (hn : n < 4) (hw : w < 2) (e : nI s >>> (nI n &&& 31) &&& 1 = nI w) (c : ¬ w = 1) : ¬ s.testBit n = true := fun h => c ((nI_eq (a := w) (b := 1) (by omega) (by omega)).mp (e.symm.trans ((bt_m s hs n hn).mpr h)))
def bsN (s : Nat) : Nat → Nat
  | 0 => 0
  | n + 1 => bsN s n + (if s.testBit n = true then 1 else 0)
theorem bs_4 : ∀ s, s < 16 → bsN s 4 = pcN s := by decide +kernel
theorem bs_s {s n w a : Nat} (hs : s < 16) (hn : n < 4) (hw : w < 2) (e : nI s >>> (nI n &&& 31) &&& 1 = nI w) (h : a = bsN s n) : a + w = bsN s (n + 1) := by
  show a + w = bsN s n + (if s.testBit n = true then 1 else 0)
  by_cases c : w = 1
  · rw [if_pos (bm_y hs hn e c), h, c]
  · rw [if_neg (bm_n hs hn hw e c), h, show w = 0 from by omega]
theorem pc_le {s : Nat} : pcN s ≤ 4 := by
  unfold pcN
  omega
theorem gi_h {W : Nat → Int32} {s h n a : Nat} (e : Hid (a = if s.testBit h = true then alN W s h n else 0)) (b : ¬ s.testBit h = true) : Hid (a + 0 = if s.testBit h = true then alN W s h (n + 1) else 0) := by
  have e := e.out
  refine Hid.mk ?_
  rw [if_neg b] at e ⊢
  omega
theorem gi_g {W : Nat → Int32} {s h n a : Nat} (e : Hid (a = if s.testBit h = true then alN W s h n else 0)) (b : ¬ s.testBit n = true) : Hid (a + 0 = if s.testBit h = true then alN W s h (n + 1) else 0) := by
  have e := e.out
  refine Hid.mk ?_
  by_cases c : s.testBit h = true
  · rw [if_pos c] at e ⊢
    rw [← al_b e b]
    rfl
  · rw [if_neg c] at e ⊢
    omega
theorem gi_w {W : Nat → Int32} {s h n a : Nat} (e : Hid (a = if s.testBit h = true then alN W s h n else 0)) (b : ¬ W h = W n) : Hid (a + 0 = if s.testBit h = true then alN W s h (n + 1) else 0) := by
  have e := e.out
  refine Hid.mk ?_
  by_cases c : s.testBit h = true
  · rw [if_pos c] at e ⊢
    rw [← al_w e (fun q => b q.symm)]
    rfl
  · rw [if_neg c] at e ⊢
    omega
theorem gi_y {W : Nat → Int32} {s h n a : Nat} (e : Hid (a = if s.testBit h = true then alN W s h n else 0)) (b : s.testBit h = true) (t : s.testBit n = true) (c : W h = W n) : Hid (a + 1 = if s.testBit h = true then alN W s h (n + 1) else 0) := by
  have e := e.out
  refine Hid.mk ?_
  rw [if_pos b] at e ⊢
  exact al_y e t c.symm
theorem gp_m {W : Nat → Int32} {s m n k a b : Nat} (e : a = gaN W s m n) (h : Hid (b = if s.testBit n = true then alN W s n k else 0)) (hk : k = m) (c : ¬ b ≤ a) : b = gaN W s m (n + 1) := by
  have h := h.out
  rw [hk] at h
  by_cases t : s.testBit n = true
  · rw [if_pos t] at h
    rw [← ga_y e t h]
    omega
  · rw [if_neg t] at h
    omega
theorem gp_k {W : Nat → Int32} {s m n k a b : Nat} (e : a = gaN W s m n) (h : Hid (b = if s.testBit n = true then alN W s n k else 0)) (hk : k = m) (c : b ≤ a) : a = gaN W s m (n + 1) := by
  have h := h.out
  rw [hk] at h
  by_cases t : s.testBit n = true
  · rw [if_pos t] at h
    rw [← ga_y e t h]
    omega
  · exact ga_n e t
theorem L_look {nq nh nq2 nh2 ne wm : Nat} {r t : Int32} {a b c d e f A B C A2 B2 C2 q n s Q N S : Nat → Int32} (hqq : nq = nq2) (hhh : nh = nh2) (hrw : rwR nq nh a b c d e f A B C A2 B2 C2) (hev : evR nq ne q n s Q N S) (hne : ne = wm) (hq : nq ≤ 8)
    (x : lkP nq nh (wnP (fun j k => wrF (a j) (b j) (c j) (d k) (e k)) q n s ne) (fun q h => wrF (a q) (b q) (c q) (d h) (e h)) r) (y : lkP nq2 nh2 (wnQ (fun j k => wrF (A j) (B j) (C j) (A2 k) (B2 k)) Q N S wm) (fun q h => saF (wrF (A q) (B q) (C q) (A2 h) (B2 h)) 1) t) : r = t := by
  refine lkP_c hqq hhh (fun k hk => wn_iff hrw hev hne hk hq) (fun j k h hj hk hh => ?_) x y
  obtain ⟨v, hv, e1⟩ := wr_b (w := a j) (p := b j) (s := d k) (hrw.1 j hj).2.2.2 (hrw.2 k hk).2.2.2.1
  obtain ⟨u, hu, e2⟩ := wr_b (w := a j) (p := b j) (s := d h) (hrw.1 j hj).2.2.2 (hrw.2 h hh).2.2.2.1
  have f1 := rw_W hrw j k hj hk
  have f2 := rw_W hrw j h hj hh
  rw [← f1, ← f2, e1, e2]
  exact (sb_inj hv hu).symm
