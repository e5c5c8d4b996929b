/-- a row's k-th, by a word: the notation of brackets costs half a second each time it is read -/
abbrev fAt (f : List Value) (k : Nat) : Option Value := f[k]?
abbrev lAt {α : Type} (f : List α) (k : Nat) : Option α := f[k]?
/-! order of ints (out of laws/NUMBERS.to-paste) -/
theorem fa_lt (a b : Int32) : a < b ↔ a.toInt < b.toInt := Int32.lt_iff_toInt_lt
theorem fa_le (a b : Int32) : a ≤ b ↔ a.toInt ≤ b.toInt := Int32.le_iff_toInt_le
theorem fa_eq (a b : Int32) : a = b ↔ a.toInt = b.toInt := Int32.toInt_inj.symm
theorem fa_lt64 (a b : Int64) : a < b ↔ a.toInt < b.toInt := Int64.lt_iff_toInt_lt
theorem fa_le64 (a b : Int64) : a ≤ b ↔ a.toInt ≤ b.toInt := Int64.le_iff_toInt_le
theorem fa_eq64 (a b : Int64) : a = b ↔ a.toInt = b.toInt := Int64.toInt_inj.symm
theorem fa_wide_lt (a b : Int32) : a.toInt64 < b.toInt64 ↔ a < b := by rw [fa_lt64, fa_lt, Int32.toInt_toInt64, Int32.toInt_toInt64]
theorem fa_wide_le (a b : Int32) : a.toInt64 ≤ b.toInt64 ↔ a ≤ b := by rw [fa_le64, fa_le, Int32.toInt_toInt64, Int32.toInt_toInt64]
/-! the array classes that the worlds speak of, addresses as a function -/
abbrev tys0 (cI cZ cQ : ClassId) : List (ClassId × FieldType) := [(cI, .int), (cZ, .boolean), (cQ, .object RX1)]
abbrev vn (l : List Nat) : Nat → Nat := fun k => l.getD k 0
theorem xcI {D : va_G} {cl : List vw_C} {cI cZ cQ cA : ClassId} {s : State} (h : va_K D cl (tys0 cI cZ cQ ++ [(cA, .int)]) s) : cI = cA := by
  have h1 : s.vm.findClass ("[" ++ FieldType.int.toString) = some cI := (h.2 0 (cI, .int) rfl).2
  have h2 : s.vm.findClass ("[" ++ FieldType.int.toString) = some cA := (h.2 3 (cA, .int) rfl).2
  exact Option.some.inj (h1.symm.trans h2)
theorem xcZ {D : va_G} {cl : List vw_C} {cI cZ cQ cA : ClassId} {s : State} (h : va_K D cl (tys0 cI cZ cQ ++ [(cA, .boolean)]) s) : cZ = cA := by
  have h1 : s.vm.findClass ("[" ++ FieldType.boolean.toString) = some cZ := (h.2 1 (cZ, .boolean) rfl).2
  have h2 : s.vm.findClass ("[" ++ FieldType.boolean.toString) = some cA := (h.2 3 (cA, .boolean) rfl).2
  exact Option.some.inj (h1.symm.trans h2)
theorem xcQ {D : va_G} {cl : List vw_C} {cI cZ cQ cA : ClassId} {s : State} (h : va_K D cl (tys0 cI cZ cQ ++ [(cA, .object RX1)]) s) : cQ = cA := by
  obtain ⟨_, _, _, _, _, h1⟩ := (h.2 2 (cQ, .object RX1) rfl).2
  obtain ⟨_, _, _, _, _, h2⟩ := (h.2 3 (cA, .object RX1) rfl).2
  exact Option.some.inj (h1.symm.trans h2)
theorem xjoin0 {A0 : Nat → Prop} {D : va_G} {cl : List vw_C} {ws wc wr : va_W} {H H1 : Heap} (hP : va_P D cl ws H) (hD : va_D A0 ws) (isC isR : List Nat) (hC : isC.map (fun i => ws[i]?) = wc.map some) (hR : isR.map (fun i => ws[i]?) = wr.map some) (hn : va_nd isR = true) (hdis : ∀ i ∈ isR, i ∉ isC)
    (hk : ∀ q : Nat, q < H.size → ¬ va_A wc H.size q → H1[q]? = H[q]?) (hF : ∀ q, va_A wc H.size q → A0 q) : va_P D cl wr H1 ∧ va_D A0 wr := by
  have h := va_join (w1 := []) (H1 := H1) hP hD isC isR hC hR hn hdis hk hF (fun k q h => by simp at h) ⟨fun i j p q h => by simp at h, fun k q h => by simp at h⟩
  rw [List.append_nil] at h
  exact h
/-- the links among nest mates, and the class of arrays of desks -/
def xN (U : State) : Prop := va_AO RX1 U ∧ va_Nw (.methodLinkNest RX10 25 yX5_init RX10) U ∧ va_Nw (.methodLinkNest RX10 32 yX7_init RX10) U ∧ va_Nw (.methodLinkNest RX10 94 yX0_init RX10) U ∧ va_Nw (.methodLinkNest RX7 11 yX5_init RX10) U ∧ va_Nw (.methodLinkNest RX1 56 yX10_softerBy RX10) U ∧ va_Nw (.methodLinkNest RX2 42 yX10_softerBy RX10) U ∧ va_Nw (.methodLinkNest RX7 124 yX10_within RX10) U ∧ va_Nw (.methodLinkNest RX9 45 yX10_softerBy RX10) U ∧ va_Nw (.methodLinkNest RX9 63 yX10_driedSoftness RX10) U
theorem xN.n_X10_25 {U : State} (h : xN U) : va_Nw (.methodLinkNest RX10 25 yX5_init RX10) U := h.2.1
theorem xN.n_X10_32 {U : State} (h : xN U) : va_Nw (.methodLinkNest RX10 32 yX7_init RX10) U := h.2.2.1
theorem xN.n_X10_94 {U : State} (h : xN U) : va_Nw (.methodLinkNest RX10 94 yX0_init RX10) U := h.2.2.2.1
theorem xN.n_X7_11 {U : State} (h : xN U) : va_Nw (.methodLinkNest RX7 11 yX5_init RX10) U := h.2.2.2.2.1
theorem xN.n_X1_56 {U : State} (h : xN U) : va_Nw (.methodLinkNest RX1 56 yX10_softerBy RX10) U := h.2.2.2.2.2.1
theorem xN.n_X2_42 {U : State} (h : xN U) : va_Nw (.methodLinkNest RX2 42 yX10_softerBy RX10) U := h.2.2.2.2.2.2.1
theorem xN.n_X7_124 {U : State} (h : xN U) : va_Nw (.methodLinkNest RX7 124 yX10_within RX10) U := h.2.2.2.2.2.2.2.1
theorem xN.n_X9_45 {U : State} (h : xN U) : va_Nw (.methodLinkNest RX9 45 yX10_softerBy RX10) U := h.2.2.2.2.2.2.2.2.1
theorem xN.n_X9_63 {U : State} (h : xN U) : va_Nw (.methodLinkNest RX9 63 yX10_driedSoftness RX10) U := h.2.2.2.2.2.2.2.2.2
theorem xN.warm {s U : State} (h : xN s) (hW : s.WarmedH U.vm) : xN U := ⟨va_AO.moved hW.alike h.1, va_Nw.warmM hW h.2.1, va_Nw.warmM hW h.2.2.1, va_Nw.warmM hW h.2.2.2.1, va_Nw.warmM hW h.2.2.2.2.1, va_Nw.warmM hW h.2.2.2.2.2.1, va_Nw.warmM hW h.2.2.2.2.2.2.1, va_Nw.warmM hW h.2.2.2.2.2.2.2.1, va_Nw.warmM hW h.2.2.2.2.2.2.2.2.1, va_Nw.warmM hW h.2.2.2.2.2.2.2.2.2⟩
theorem xN.calling {U : State} {g : JFrame} {mk : MethodId} {a : Array Value} (h : xN U) : xN (U.calling g mk a) := ⟨va_AO.moved (u := U) (Vm.Alike.refl U.vm) h.1, va_Nw.same rfl (u := U) rfl h.2.1, va_Nw.same rfl (u := U) rfl h.2.2.1, va_Nw.same rfl (u := U) rfl h.2.2.2.1, va_Nw.same rfl (u := U) rfl h.2.2.2.2.1, va_Nw.same rfl (u := U) rfl h.2.2.2.2.2.1, va_Nw.same rfl (u := U) rfl h.2.2.2.2.2.2.1, va_Nw.same rfl (u := U) rfl h.2.2.2.2.2.2.2.1, va_Nw.same rfl (u := U) rfl h.2.2.2.2.2.2.2.2.1, va_Nw.same rfl (u := U) rfl h.2.2.2.2.2.2.2.2.2⟩
/-- an answer of 'is it a number of one of none' -/
theorem x_no {r q : Int32} (h : (r = 1 ∧ 0 ≤ q ∧ q < 0) ∨ (r = 0 ∧ ¬ (0 ≤ q ∧ q < 0))) : r = 0 := by
  rcases h with ⟨_, h1, h2⟩ | ⟨h, _⟩
  · rw [fa_le] at h1; rw [fa_lt] at h2; omega
  · exact h
theorem x_toInt0 : (0 : Int32).toInt = 0 := by decide
/-- quills - 1 as the most -/
theorem x_pred {q n : Int32} (hn : 0 ≤ n) : (0 ≤ q ∧ q ≤ n - 1) ↔ (0 ≤ q ∧ q < n) := by
  have h1 : (n - 1).toInt = n.toInt - 1 := by
    rw [fa_le, x_toInt0] at hn
    have h2 := n.toInt_lt
    rw [Int32.toInt_sub]
    have h3 : (1 : Int32).toInt = 1 := by decide
    rw [h3, Int.bmod_def]
    omega
  rw [fa_le, fa_le, fa_lt, h1]
  omega
theorem fa_nlt {a b : Int32} (h : ¬ a < b) : b ≤ a := by rw [fa_lt] at h; rw [fa_le]; omega
theorem fa_ltn {a b : Int32} (h : a < b) : ¬ b ≤ a := by rw [fa_lt] at h; rw [fa_le]; omega
theorem fa_nle {a b : Int32} (h : ¬ a ≤ b) : b < a := by rw [fa_le] at h; rw [fa_lt]; omega
theorem fa_len {a b : Int32} (h : a ≤ b) : ¬ b < a := by rw [fa_le] at h; rw [fa_lt]; omega
theorem fw_nlt {a b : Int32} (h : ¬ lg_cmp a.toInt64 b.toInt64 < 0) : b ≤ a := fa_nlt (fun k => h ((lg_cmp_lt _ _).mpr ((fa_wide_lt _ _).mpr k)))
theorem fw_ltn {a b : Int32} (h : lg_cmp a.toInt64 b.toInt64 < 0) : ¬ b ≤ a := fa_ltn ((fa_wide_lt _ _).mp ((lg_cmp_lt _ _).mp h))
theorem fw_ngt {a b : Int32} (h : ¬ 0 < lg_cmp a.toInt64 b.toInt64) : a ≤ b := fa_nlt (fun k => h ((lg_cmp_gt _ _).mpr ((fa_wide_lt _ _).mpr k)))
theorem fw_gtn {a b : Int32} (h : 0 < lg_cmp a.toInt64 b.toInt64) : ¬ a ≤ b := fa_ltn ((fa_wide_lt _ _).mp ((lg_cmp_gt _ _).mp h))
theorem x_upd0 (k : Nat) : upd (fun _ => (0 : Int32)) k 0 = fun _ => 0 := by
  funext j
  unfold upd
  split <;> rfl
theorem x_updz0 (k : Nat) : upd (fun _ => (0 : Int32)) k (vp_nar .boolean 0) = fun _ => 0 := x_upd0 k
theorem x_t1 : (1 : Int32).toInt = 1 := by decide
theorem x_t12 : (12 : Int32).toInt = 12 := by decide
theorem x_out12 {w : Int32} (c : w.toInt < 0 ∨ 12 < w.toInt) : ¬ (0 ≤ w ∧ w ≤ 12) := by
  rw [fa_le, fa_le, x_toInt0, x_t12]
  omega
theorem x_in12 {w : Int32} (c : ¬ (w.toInt < 0 ∨ 12 < w.toInt)) : w = 0 ∨ w = 1 ∨ w = 2 ∨ w = 3 ∨ w = 4 ∨ w = 5 ∨ w = 6 ∨ w = 7 ∨ w = 8 ∨ w = 9 ∨ w = 10 ∨ w = 11 ∨ w = 12 := by
  have h : w.toInt = 0 ∨ w.toInt = 1 ∨ w.toInt = 2 ∨ w.toInt = 3 ∨ w.toInt = 4 ∨ w.toInt = 5 ∨ w.toInt = 6 ∨ w.toInt = 7 ∨ w.toInt = 8 ∨ w.toInt = 9 ∨ w.toInt = 10 ∨ w.toInt = 11 ∨ w.toInt = 12 := by omega
  simp only [fa_eq]
  exact h
theorem x_in2 {i : Int32} (h : 0 ≤ i ∧ i ≤ 1) : vp_in i 2 := by
  rw [fa_le, fa_le, x_toInt0, x_t1] at h
  exact vp_in_iff.mpr ⟨h.1, by omega⟩
theorem x_01 {i : Int32} (h : 0 ≤ i ∧ i ≤ 1) : i = 0 ∨ i = 1 := by
  rw [fa_le, fa_le, x_toInt0, x_t1] at h
  rw [fa_eq, fa_eq, x_toInt0, x_t1]
  omega
/-- odds of straight slits: from a billion, each time the part, a hundredth part left out -/
def ckI (st : Int32) : Nat → Int64
  | 0 => 1000000000
  | n + 1 => ckI st n * st.toInt64 / 100
def ckst (q : Int32) : Int32 := 100 - (if q < 100 then q else 100)
theorem x_nI60 {a : Int32} (h : 0 ≤ a ∧ a ≤ 60) : ∃ n : Nat, n ≤ 60 ∧ a = nI n := nI_of2 (M := 60) (by decide) (fa_len h.1) h.2
theorem x_ckc {a z y w : Int32} (e1 : z = a + 0) (e2 : y = if z < 100 then z else 100) (e3 : w = 100 - y) : w = ckst a := by
  rw [e3, e2, e1, Int32.add_zero]
  rfl
theorem x_ckm1 {a z : Int32} (e1 : z = a + 0) (h : 100 ≤ z) : 100 - (100 : Int32) = ckst a := by
  rw [e1, Int32.add_zero] at h
  unfold ckst
  rw [if_neg (fa_len h)]
theorem x_ckm2 {a z y : Int32} (e1 : z = a + 0) (h : ¬ 100 ≤ z) (e2 : y = a + 0) : 100 - y = ckst a := by
  rw [e1, Int32.add_zero] at h
  rw [e2, Int32.add_zero]
  unfold ckst
  rw [if_pos (fa_nle h)]
theorem x_sw_0_12 {w : Int32} (c : ¬ (w.toInt < 0 ∨ 12 < w.toInt)) : w = 0 ∨ w = 1 ∨ w = 2 ∨ w = 3 ∨ w = 4 ∨ w = 5 ∨ w = 6 ∨ w = 7 ∨ w = 8 ∨ w = 9 ∨ w = 10 ∨ w = 11 ∨ w = 12 := by
  have h : w.toInt = 0 ∨ w.toInt = 1 ∨ w.toInt = 2 ∨ w.toInt = 3 ∨ w.toInt = 4 ∨ w.toInt = 5 ∨ w.toInt = 6 ∨ w.toInt = 7 ∨ w.toInt = 8 ∨ w.toInt = 9 ∨ w.toInt = 10 ∨ w.toInt = 11 ∨ w.toInt = 12 := by omega
  simp only [fa_eq]
  exact h
theorem x_sw_0_6 {w : Int32} (c : ¬ (w.toInt < 0 ∨ 6 < w.toInt)) : w = 0 ∨ w = 1 ∨ w = 2 ∨ w = 3 ∨ w = 4 ∨ w = 5 ∨ w = 6 := by
  have h : w.toInt = 0 ∨ w.toInt = 1 ∨ w.toInt = 2 ∨ w.toInt = 3 ∨ w.toInt = 4 ∨ w.toInt = 5 ∨ w.toInt = 6 := by omega
  simp only [fa_eq]
  exact h
theorem x_sw_0_4 {w : Int32} (c : ¬ (w.toInt < 0 ∨ 4 < w.toInt)) : w = 0 ∨ w = 1 ∨ w = 2 ∨ w = 3 ∨ w = 4 := by
  have h : w.toInt = 0 ∨ w.toInt = 1 ∨ w.toInt = 2 ∨ w.toInt = 3 ∨ w.toInt = 4 := by omega
  simp only [fa_eq]
  exact h
theorem x_sw_2_4 {w : Int32} (c : ¬ (w.toInt < 2 ∨ 4 < w.toInt)) : w = 2 ∨ w = 3 ∨ w = 4 := by
  have h : w.toInt = 2 ∨ w.toInt = 3 ∨ w.toInt = 4 := by omega
  simp only [fa_eq]
  exact h
theorem x_sw_0_29 {w : Int32} (c : ¬ (w.toInt < 0 ∨ 29 < w.toInt)) : w = 0 ∨ w = 1 ∨ w = 2 ∨ w = 3 ∨ w = 4 ∨ w = 5 ∨ w = 6 ∨ w = 7 ∨ w = 8 ∨ w = 9 ∨ w = 10 ∨ w = 11 ∨ w = 12 ∨ w = 13 ∨ w = 14 ∨ w = 15 ∨ w = 16 ∨ w = 17 ∨ w = 18 ∨ w = 19 ∨ w = 20 ∨ w = 21 ∨ w = 22 ∨ w = 23 ∨ w = 24 ∨ w = 25 ∨ w = 26 ∨ w = 27 ∨ w = 28 ∨ w = 29 := by
  have h : w.toInt = 0 ∨ w.toInt = 1 ∨ w.toInt = 2 ∨ w.toInt = 3 ∨ w.toInt = 4 ∨ w.toInt = 5 ∨ w.toInt = 6 ∨ w.toInt = 7 ∨ w.toInt = 8 ∨ w.toInt = 9 ∨ w.toInt = 10 ∨ w.toInt = 11 ∨ w.toInt = 12 ∨ w.toInt = 13 ∨ w.toInt = 14 ∨ w.toInt = 15 ∨ w.toInt = 16 ∨ w.toInt = 17 ∨ w.toInt = 18 ∨ w.toInt = 19 ∨ w.toInt = 20 ∨ w.toInt = 21 ∨ w.toInt = 22 ∨ w.toInt = 23 ∨ w.toInt = 24 ∨ w.toInt = 25 ∨ w.toInt = 26 ∨ w.toInt = 27 ∨ w.toInt = 28 ∨ w.toInt = 29 := by omega
  simp only [fa_eq]
  exact h
/-! rows on indices and small answers -/
theorem x_ix {q : Int32} {n : Nat} (h : 0 ≤ q ∧ q < nI n) (hn : n < 2 ^ 31) : ∃ j : Nat, j < n ∧ q = nI j := by
  obtain ⟨j, hj, rfl⟩ := nI_of (fa_len h.1)
  exact ⟨j, (nI_ltI hj hn).mp h.2, rfl⟩
theorem x_rng {q : Int32} {a b : Nat} (ha : a < 2 ^ 31) (hb : b < 2 ^ 31) (h : nI a ≤ q ∧ q ≤ nI b) : ∃ j : Nat, a ≤ j ∧ j ≤ b ∧ q = nI j := by
  have h1 := h.1
  rw [fa_le, nI_toInt ha] at h1
  have h0 : ¬ q < 0 := by
    rw [fa_lt, x_toInt0]
    omega
  obtain ⟨j, hj, rfl⟩ := nI_of h0
  exact ⟨j, (nI_leI ha hj).mp h.1, (nI_leI hj hb).mp h.2, rfl⟩
theorem x_mx1 {x z : Int32} (e : z = if 1 < x then x else 1) : ¬ z = 0 := by
  intro h
  rw [h] at e
  by_cases c : 1 < x
  · rw [if_pos c] at e
    rw [← e] at c
    exact absurd c (by decide)
  · rw [if_neg c] at e
    exact absurd e (by decide)
/-- a row of numbers of quills -/
def qIn (f : Nat → Int32) (n : Nat) : Prop := ∀ i, i < n → ∃ j : Nat, j < 8 ∧ f i = nI j
theorem qIn_add {f : Nat → Int32} {n j : Nat} (h : qIn f n) (hj : j < 8) : qIn (upd f n (nI j)) (n + 1) := by
  intro i hi
  by_cases e : i = n
  · subst e
    exact ⟨j, hj, pk_us⟩
  · obtain ⟨k, hk, ek⟩ := h i (by omega)
    exact ⟨k, hk, (pk_un e).trans ek⟩
theorem qIn_0 {f : Nat → Int32} : qIn f 0 := fun i hi => absurd hi (by omega)
theorem x_t5 : (5 : Int32).toInt = 5 := by decide
theorem x_m5 {z y : Int32} {d : Nat} (e : y = z + (-5)) (c : ¬ z < 5) (h : z.toInt < 5 + 5 * ((d : Int) + 1)) : y.toInt < 5 + 5 * (d : Int) := by
  rw [fa_lt, x_t5] at c
  have h2 := z.toInt_lt
  have h3 : ((-5 : Int32)).toInt = -5 := by decide
  have h1 : y.toInt = z.toInt - 5 := by
    rw [e, Int32.toInt_add, h3, Int.bmod_def]
    omega
  omega
theorem x_d5 {z : Int32} (c : ¬ z < 5) (h : z.toInt < 5 + 5 * ((0 : Nat) : Int)) : False := by
  rw [fa_lt, x_t5] at c
  omega
theorem x_min4 {m : Nat} (h : m ≤ 4) {z : Int32} (e : z = if (4 : Int32) < nI m then 4 else nI m) : z = nI m := by
  rw [e, if_neg]
  intro c
  have := (nI_ltI (a := 4) (b := m) (by omega) (by omega)).mp c
  omega
theorem wmx {w : Cond} {ws : List Cond} (k : Nat) (h : wnth ws k = some w) : w ∈ ws := wm k h
theorem ob_x {α : Type} {p : α → Prop} {c : Prop} (h : ∃ x, p x) (f : ∀ x, p x → c) : c := h.elim f
theorem ob_a {a b c : Prop} (h : a ∧ b) (f : a → b → c) : c := f h.1 h.2
def pdW (D : va_G) (cl : List vw_C) (A : Nat → Prop) (W : va_W) (H : Heap) : Prop := va_P D cl W H ∧ va_D A W
theorem pv_R {s : State} {H : Heap} {C : String} {b : Addr} {As : List Value} {D : va_G} {cl : List vw_C} {W : va_W} {tys : List (ClassId × FieldType)} (hr : ∃ cellB : Cell, H[b]? = some cellB ∧ cellB.vm.isStatics = false ∧ s.vm.findClass C = some cellB.cls) (hK : va_K D cl tys s) (hP : va_P D cl W H) : PreV s H C b (va_Pc (.ref b :: As) (fun U => U.heap.size = H.size ∧ va_P D cl W U.heap ∧ va_K D cl tys U)) As := ⟨fun a U g mk q => ⟨q.1, q.2.1, q.2.2.1, va_K.moved (u := U) (U := U.calling g mk a) (Vm.Alike.refl U.vm) q.2.2.2⟩, hr, fun U hU hW => ⟨rfl, by rw [hU], by rw [hU]; exact hP, va_K.moved hW.alike hK⟩⟩
theorem pv_D {s : State} {H : Heap} {C : String} {b : Addr} {As : List Value} {A : Nat → Prop} {D : va_G} {cl : List vw_C} {W : va_W} {tys : List (ClassId × FieldType)} (hr : ∃ cellB : Cell, H[b]? = some cellB ∧ cellB.vm.isStatics = false ∧ s.vm.findClass C = some cellB.cls) (hK : va_K D cl tys s) (hP : va_P D cl W H) (hD : va_D A W) : PreV s H C b (va_Pc (.ref b :: As) (fun U => U.heap.size = H.size ∧ va_P D cl W U.heap ∧ va_K D cl tys U ∧ va_D (fun _ => True) W)) As := ⟨fun a U g mk q => ⟨q.1, q.2.1, q.2.2.1, va_K.moved (u := U) (U := U.calling g mk a) (Vm.Alike.refl U.vm) q.2.2.2.1, q.2.2.2.2⟩, hr, fun U hU hW => ⟨rfl, by rw [hU], by rw [hU]; exact hP, va_K.moved hW.alike hK, hD.weaken (fun _ _ _ _ => trivial)⟩⟩
theorem ps_R {s : State} {H : Heap} {As : List Value} {D : va_G} {cl : List vw_C} {W : va_W} {tys : List (ClassId × FieldType)} (hK : va_K D cl tys s) (hP : va_P D cl W H) : PreS s H (va_Pc As (fun U => U.heap.size = H.size ∧ va_P D cl W U.heap ∧ va_K D cl tys U)) As := ⟨fun a U g mk q => ⟨q.1, q.2.1, q.2.2.1, va_K.moved (u := U) (U := U.calling g mk a) (Vm.Alike.refl U.vm) q.2.2.2⟩, fun U hU hW => ⟨rfl, by rw [hU], by rw [hU]; exact hP, va_K.moved hW.alike hK⟩⟩
theorem ps_D {s : State} {H : Heap} {As : List Value} {A : Nat → Prop} {D : va_G} {cl : List vw_C} {W : va_W} {tys : List (ClassId × FieldType)} (hK : va_K D cl tys s) (hP : va_P D cl W H) (hD : va_D A W) : PreS s H (va_Pc As (fun U => U.heap.size = H.size ∧ va_P D cl W U.heap ∧ va_K D cl tys U ∧ va_D (fun _ => True) W)) As := ⟨fun a U g mk q => ⟨q.1, q.2.1, q.2.2.1, va_K.moved (u := U) (U := U.calling g mk a) (Vm.Alike.refl U.vm) q.2.2.2.1, q.2.2.2.2⟩, fun U hU hW => ⟨rfl, by rw [hU], by rw [hU]; exact hP, va_K.moved hW.alike hK, hD.weaken (fun _ _ _ _ => trivial)⟩⟩
theorem va_hp {D : va_G} {cl : List vw_C} {W : va_W} {t : State} {H : Heap} (ht : t.heap = H) (h : va_P D cl W t.heap) : va_P D cl W H := ht ▸ h
theorem va_hq {D : va_G} {cl : List vw_C} {W : va_W} {t : State} {H : Heap} (ht : t.heap = H) (h : va_P D cl W H) : va_P D cl W t.heap := by rw [ht]; exact h
theorem va_cut {A : Nat → Prop} {D : va_G} {cl : List vw_C} {W W' : va_W} {H0 H : Heap} {locs : List Loc} (hP : va_P D cl W H) (hD : va_D A W) (hS : va_S A H0 H locs) (hA : ∀ q, H0.size ≤ q → A q) (is : List Nat) (hn : va_nd is = true) (hs : is.map (fun i => W[i]?) = W'.map some) : va_P D cl W' H ∧ va_D A W' ∧ ∀ q, va_A W' H.size q → A q := ⟨hP.sub is (by
  have e : is.filterMap (fun i => W[i]?) = (is.map (fun i => W[i]?)).filterMap id := by rw [List.filterMap_map]; rfl
  rw [e, hs, List.filterMap_map]
  exact List.filterMap_some), hD.sub is hn hs, va_free hD hS hA is hs⟩
theorem hd_X5_hardness_RX5 : yX5_hardness.cls = RX5 ∧ yX5_hardness.cls ≠ "java/lang/invoke/MethodHandle" ∧ yX5_hardness.cls ≠ "java/lang/invoke/VarHandle" ∧ (parseMethodDescriptor yX5_hardness.desc).map (fun d => d.parameters.length) = some 1 := by decide +kernel
theorem hd_X5_fits_RX5 : yX5_fits.cls = RX5 ∧ yX5_fits.cls ≠ "java/lang/invoke/MethodHandle" ∧ yX5_fits.cls ≠ "java/lang/invoke/VarHandle" ∧ (parseMethodDescriptor yX5_fits.desc).map (fun d => d.parameters.length) = some 2 := by decide +kernel
theorem hd_X1_isBlunt_RX1 : yX1_isBlunt.cls = RX1 ∧ yX1_isBlunt.cls ≠ "java/lang/invoke/MethodHandle" ∧ yX1_isBlunt.cls ≠ "java/lang/invoke/VarHandle" ∧ (parseMethodDescriptor yX1_isBlunt.desc).map (fun d => d.parameters.length) = some 0 := by decide +kernel
theorem hd_X5_wear_RX5 : yX5_wear.cls = RX5 ∧ yX5_wear.cls ≠ "java/lang/invoke/MethodHandle" ∧ yX5_wear.cls ≠ "java/lang/invoke/VarHandle" ∧ (parseMethodDescriptor yX5_wear.desc).map (fun d => d.parameters.length) = some 2 := by decide +kernel
theorem hd_X5_likesNib_RX5 : yX5_likesNib.cls = RX5 ∧ yX5_likesNib.cls ≠ "java/lang/invoke/MethodHandle" ∧ yX5_likesNib.cls ≠ "java/lang/invoke/VarHandle" ∧ (parseMethodDescriptor yX5_likesNib.desc).map (fun d => d.parameters.length) = some 2 := by decide +kernel
theorem hd_X2_allFits_RX2 : yX2_allFits.cls = RX2 ∧ yX2_allFits.cls ≠ "java/lang/invoke/MethodHandle" ∧ yX2_allFits.cls ≠ "java/lang/invoke/VarHandle" ∧ (parseMethodDescriptor yX2_allFits.desc).map (fun d => d.parameters.length) = some 1 := by decide +kernel
theorem hd_X2_alikeTo_RX2 : yX2_alikeTo.cls = RX2 ∧ yX2_alikeTo.cls ≠ "java/lang/invoke/MethodHandle" ∧ yX2_alikeTo.cls ≠ "java/lang/invoke/VarHandle" ∧ (parseMethodDescriptor yX2_alikeTo.desc).map (fun d => d.parameters.length) = some 3 := by decide +kernel
theorem hd_X2_fittingHands_RX2 : yX2_fittingHands.cls = RX2 ∧ yX2_fittingHands.cls ≠ "java/lang/invoke/MethodHandle" ∧ yX2_fittingHands.cls ≠ "java/lang/invoke/VarHandle" ∧ (parseMethodDescriptor yX2_fittingHands.desc).map (fun d => d.parameters.length) = some 0 := by decide +kernel
theorem hd_X2_greatestAlike_RX2 : yX2_greatestAlike.cls = RX2 ∧ yX2_greatestAlike.cls ≠ "java/lang/invoke/MethodHandle" ∧ yX2_greatestAlike.cls ≠ "java/lang/invoke/VarHandle" ∧ (parseMethodDescriptor yX2_greatestAlike.desc).map (fun d => d.parameters.length) = some 2 := by decide +kernel
theorem hd_X9_goodFrom_RX9 : yX9_goodFrom.cls = RX9 ∧ yX9_goodFrom.cls ≠ "java/lang/invoke/MethodHandle" ∧ yX9_goodFrom.cls ≠ "java/lang/invoke/VarHandle" ∧ (parseMethodDescriptor yX9_goodFrom.desc).map (fun d => d.parameters.length) = some 3 := by decide +kernel
theorem hd_X9_goodNow_RX9 : yX9_goodNow.cls = RX9 ∧ yX9_goodNow.cls ≠ "java/lang/invoke/MethodHandle" ∧ yX9_goodNow.cls ≠ "java/lang/invoke/VarHandle" ∧ (parseMethodDescriptor yX9_goodNow.desc).map (fun d => d.parameters.length) = some 2 := by decide +kernel
theorem hd_X9_turnsDo_RX9 : yX9_turnsDo.cls = RX9 ∧ yX9_turnsDo.cls ≠ "java/lang/invoke/MethodHandle" ∧ yX9_turnsDo.cls ≠ "java/lang/invoke/VarHandle" ∧ (parseMethodDescriptor yX9_turnsDo.desc).map (fun d => d.parameters.length) = some 3 := by decide +kernel
theorem hd_X8_keepIfBetter_RX8 : yX8_keepIfBetter.cls = RX8 ∧ yX8_keepIfBetter.cls ≠ "java/lang/invoke/MethodHandle" ∧ yX8_keepIfBetter.cls ≠ "java/lang/invoke/VarHandle" ∧ (parseMethodDescriptor yX8_keepIfBetter.desc).map (fun d => d.parameters.length) = some 1 := by decide +kernel
theorem hd_X8_giveFrom_RX8 : yX8_giveFrom.cls = RX8 ∧ yX8_giveFrom.cls ≠ "java/lang/invoke/MethodHandle" ∧ yX8_giveFrom.cls ≠ "java/lang/invoke/VarHandle" ∧ (parseMethodDescriptor yX8_giveFrom.desc).map (fun d => d.parameters.length) = some 3 := by decide +kernel
theorem hd_X8_giveQuill_RX8 : yX8_giveQuill.cls = RX8 ∧ yX8_giveQuill.cls ≠ "java/lang/invoke/MethodHandle" ∧ yX8_giveQuill.cls ≠ "java/lang/invoke/VarHandle" ∧ (parseMethodDescriptor yX8_giveQuill.desc).map (fun d => d.parameters.length) = some 4 := by decide +kernel
theorem hd_X1_writePage_RX1 : yX1_writePage.cls = RX1 ∧ yX1_writePage.cls ≠ "java/lang/invoke/MethodHandle" ∧ yX1_writePage.cls ≠ "java/lang/invoke/VarHandle" ∧ (parseMethodDescriptor yX1_writePage.desc).map (fun d => d.parameters.length) = some 2 := by decide +kernel
theorem hd_X6_tryPage_RX6 : yX6_tryPage.cls = RX6 ∧ yX6_tryPage.cls ≠ "java/lang/invoke/MethodHandle" ∧ yX6_tryPage.cls ≠ "java/lang/invoke/VarHandle" ∧ (parseMethodDescriptor yX6_tryPage.desc).map (fun d => d.parameters.length) = some 3 := by decide +kernel
theorem hd_X1_mendQuill_RX1 : yX1_mendQuill.cls = RX1 ∧ yX1_mendQuill.cls ≠ "java/lang/invoke/MethodHandle" ∧ yX1_mendQuill.cls ≠ "java/lang/invoke/VarHandle" ∧ (parseMethodDescriptor yX1_mendQuill.desc).map (fun d => d.parameters.length) = some 1 := by decide +kernel
theorem hd_X1_canMend_RX1 : yX1_canMend.cls = RX1 ∧ yX1_canMend.cls ≠ "java/lang/invoke/MethodHandle" ∧ yX1_canMend.cls ≠ "java/lang/invoke/VarHandle" ∧ (parseMethodDescriptor yX1_canMend.desc).map (fun d => d.parameters.length) = some 1 := by decide +kernel
theorem hd_X6_tryQuill_RX6 : yX6_tryQuill.cls = RX6 ∧ yX6_tryQuill.cls ≠ "java/lang/invoke/MethodHandle" ∧ yX6_tryQuill.cls ≠ "java/lang/invoke/VarHandle" ∧ (parseMethodDescriptor yX6_tryQuill.desc).map (fun d => d.parameters.length) = some 4 := by decide +kernel
theorem hd_X1_copyFrom_RX1 : yX1_copyFrom.cls = RX1 ∧ yX1_copyFrom.cls ≠ "java/lang/invoke/MethodHandle" ∧ yX1_copyFrom.cls ≠ "java/lang/invoke/VarHandle" ∧ (parseMethodDescriptor yX1_copyFrom.desc).map (fun d => d.parameters.length) = some 1 := by decide +kernel
theorem hd_X1_allPages_RX1 : yX1_allPages.cls = RX1 ∧ yX1_allPages.cls ≠ "java/lang/invoke/MethodHandle" ∧ yX1_allPages.cls ≠ "java/lang/invoke/VarHandle" ∧ (parseMethodDescriptor yX1_allPages.desc).map (fun d => d.parameters.length) = some 0 := by decide +kernel
theorem hd_X1_allGood_RX1 : yX1_allGood.cls = RX1 ∧ yX1_allGood.cls ≠ "java/lang/invoke/MethodHandle" ∧ yX1_allGood.cls ≠ "java/lang/invoke/VarHandle" ∧ (parseMethodDescriptor yX1_allGood.desc).map (fun d => d.parameters.length) = some 0 := by decide +kernel
theorem hd_X1_softQuills_RX1 : yX1_softQuills.cls = RX1 ∧ yX1_softQuills.cls ≠ "java/lang/invoke/MethodHandle" ∧ yX1_softQuills.cls ≠ "java/lang/invoke/VarHandle" ∧ (parseMethodDescriptor yX1_softQuills.desc).map (fun d => d.parameters.length) = some 0 := by decide +kernel
theorem hd_X10_isQuill_RX10 : yX10_isQuill.cls = RX10 ∧ yX10_isQuill.cls ≠ "java/lang/invoke/MethodHandle" ∧ yX10_isQuill.cls ≠ "java/lang/invoke/VarHandle" ∧ (parseMethodDescriptor yX10_isQuill.desc).map (fun d => d.parameters.length) = some 1 := by decide +kernel
theorem hd_X10_isHand_RX10 : yX10_isHand.cls = RX10 ∧ yX10_isHand.cls ≠ "java/lang/invoke/MethodHandle" ∧ yX10_isHand.cls ≠ "java/lang/invoke/VarHandle" ∧ (parseMethodDescriptor yX10_isHand.desc).map (fun d => d.parameters.length) = some 1 := by decide +kernel
theorem hd_X9_goodInLife_RX9 : yX9_goodInLife.cls = RX9 ∧ yX9_goodInLife.cls ≠ "java/lang/invoke/MethodHandle" ∧ yX9_goodInLife.cls ≠ "java/lang/invoke/VarHandle" ∧ (parseMethodDescriptor yX9_goodInLife.desc).map (fun d => d.parameters.length) = some 2 := by decide +kernel
theorem hd_X9_leftAheadOfRight_RX9 : yX9_leftAheadOfRight.cls = RX9 ∧ yX9_leftAheadOfRight.cls ≠ "java/lang/invoke/MethodHandle" ∧ yX9_leftAheadOfRight.cls ≠ "java/lang/invoke/VarHandle" ∧ (parseMethodDescriptor yX9_leftAheadOfRight.desc).map (fun d => d.parameters.length) = some 0 := by decide +kernel
theorem hd_X9_fewestByTurns_RX9 : yX9_fewestByTurns.cls = RX9 ∧ yX9_fewestByTurns.cls ≠ "java/lang/invoke/MethodHandle" ∧ yX9_fewestByTurns.cls ≠ "java/lang/invoke/VarHandle" ∧ (parseMethodDescriptor yX9_fewestByTurns.desc).map (fun d => d.parameters.length) = some 2 := by decide +kernel
theorem hd_X2_bestToLookAt_RX2 : yX2_bestToLookAt.cls = RX2 ∧ yX2_bestToLookAt.cls ≠ "java/lang/invoke/MethodHandle" ∧ yX2_bestToLookAt.cls ≠ "java/lang/invoke/VarHandle" ∧ (parseMethodDescriptor yX2_bestToLookAt.desc).map (fun d => d.parameters.length) = some 0 := by decide +kernel
theorem hd_X0_firstWrong_RX0 : yX0_firstWrong.cls = RX0 ∧ yX0_firstWrong.cls ≠ "java/lang/invoke/MethodHandle" ∧ yX0_firstWrong.cls ≠ "java/lang/invoke/VarHandle" ∧ (parseMethodDescriptor yX0_firstWrong.desc).map (fun d => d.parameters.length) = some 1 := by decide +kernel
theorem hd_X8_find_RX8 : yX8_find.cls = RX8 ∧ yX8_find.cls ≠ "java/lang/invoke/MethodHandle" ∧ yX8_find.cls ≠ "java/lang/invoke/VarHandle" ∧ (parseMethodDescriptor yX8_find.desc).map (fun d => d.parameters.length) = some 0 := by decide +kernel
theorem hd_X6_find_RX6 : yX6_find.cls = RX6 ∧ yX6_find.cls ≠ "java/lang/invoke/MethodHandle" ∧ yX6_find.cls ≠ "java/lang/invoke/VarHandle" ∧ (parseMethodDescriptor yX6_find.desc).map (fun d => d.parameters.length) = some 3 := by decide +kernel
theorem hd_X11_hard_RX11 : yX11_hard.cls = RX11 ∧ yX11_hard.cls ≠ "java/lang/invoke/MethodHandle" ∧ yX11_hard.cls ≠ "java/lang/invoke/VarHandle" ∧ (parseMethodDescriptor yX11_hard.desc).map (fun d => d.parameters.length) = some 1 := by decide +kernel
theorem hd_X11_wears_RX11 : yX11_wears.cls = RX11 ∧ yX11_wears.cls ≠ "java/lang/invoke/MethodHandle" ∧ yX11_wears.cls ≠ "java/lang/invoke/VarHandle" ∧ (parseMethodDescriptor yX11_wears.desc).map (fun d => d.parameters.length) = some 2 := by decide +kernel
theorem hd_X11_softBehind_RX11 : yX11_softBehind.cls = RX11 ∧ yX11_softBehind.cls ≠ "java/lang/invoke/MethodHandle" ∧ yX11_softBehind.cls ≠ "java/lang/invoke/VarHandle" ∧ (parseMethodDescriptor yX11_softBehind.desc).map (fun d => d.parameters.length) = some 3 := by decide +kernel
theorem hd_X11_suits_RX11 : yX11_suits.cls = RX11 ∧ yX11_suits.cls ≠ "java/lang/invoke/MethodHandle" ∧ yX11_suits.cls ≠ "java/lang/invoke/VarHandle" ∧ (parseMethodDescriptor yX11_suits.desc).map (fun d => d.parameters.length) = some 2 := by decide +kernel
theorem hd_X11_isBlunt_RX11 : yX11_isBlunt.cls = RX11 ∧ yX11_isBlunt.cls ≠ "java/lang/invoke/MethodHandle" ∧ yX11_isBlunt.cls ≠ "java/lang/invoke/VarHandle" ∧ (parseMethodDescriptor yX11_isBlunt.desc).map (fun d => d.parameters.length) = some 0 := by decide +kernel
theorem hd_X11_broadenNow_RX11 : yX11_broadenNow.cls = RX11 ∧ yX11_broadenNow.cls ≠ "java/lang/invoke/MethodHandle" ∧ yX11_broadenNow.cls ≠ "java/lang/invoke/VarHandle" ∧ (parseMethodDescriptor yX11_broadenNow.desc).map (fun d => d.parameters.length) = some 1 := by decide +kernel
theorem hd_X11_sumOf_RX11 : yX11_sumOf.cls = RX11 ∧ yX11_sumOf.cls ≠ "java/lang/invoke/MethodHandle" ∧ yX11_sumOf.cls ≠ "java/lang/invoke/VarHandle" ∧ (parseMethodDescriptor yX11_sumOf.desc).map (fun d => d.parameters.length) = some 1 := by decide +kernel
theorem hd_X11_softOnes_RX11 : yX11_softOnes.cls = RX11 ∧ yX11_softOnes.cls ≠ "java/lang/invoke/MethodHandle" ∧ yX11_softOnes.cls ≠ "java/lang/invoke/VarHandle" ∧ (parseMethodDescriptor yX11_softOnes.desc).map (fun d => d.parameters.length) = some 0 := by decide +kernel
theorem hd_X11_isQuill_RX11 : yX11_isQuill.cls = RX11 ∧ yX11_isQuill.cls ≠ "java/lang/invoke/MethodHandle" ∧ yX11_isQuill.cls ≠ "java/lang/invoke/VarHandle" ∧ (parseMethodDescriptor yX11_isQuill.desc).map (fun d => d.parameters.length) = some 1 := by decide +kernel
theorem hd_X11_isHand_RX11 : yX11_isHand.cls = RX11 ∧ yX11_isHand.cls ≠ "java/lang/invoke/MethodHandle" ∧ yX11_isHand.cls ≠ "java/lang/invoke/VarHandle" ∧ (parseMethodDescriptor yX11_isHand.desc).map (fun d => d.parameters.length) = some 1 := by decide +kernel
theorem hd_X11_pagesFrom_RX11 : yX11_pagesFrom.cls = RX11 ∧ yX11_pagesFrom.cls ≠ "java/lang/invoke/MethodHandle" ∧ yX11_pagesFrom.cls ≠ "java/lang/invoke/VarHandle" ∧ (parseMethodDescriptor yX11_pagesFrom.desc).map (fun d => d.parameters.length) = some 4 := by decide +kernel
theorem hd_X11_goodNow_RX11 : yX11_goodNow.cls = RX11 ∧ yX11_goodNow.cls ≠ "java/lang/invoke/MethodHandle" ∧ yX11_goodNow.cls ≠ "java/lang/invoke/VarHandle" ∧ (parseMethodDescriptor yX11_goodNow.desc).map (fun d => d.parameters.length) = some 2 := by decide +kernel
theorem hd_X11_lifeOf_RX11 : yX11_lifeOf.cls = RX11 ∧ yX11_lifeOf.cls ≠ "java/lang/invoke/MethodHandle" ∧ yX11_lifeOf.cls ≠ "java/lang/invoke/VarHandle" ∧ (parseMethodDescriptor yX11_lifeOf.desc).map (fun d => d.parameters.length) = some 2 := by decide +kernel
theorem hd_X11_doTurns_RX11 : yX11_doTurns.cls = RX11 ∧ yX11_doTurns.cls ≠ "java/lang/invoke/MethodHandle" ∧ yX11_doTurns.cls ≠ "java/lang/invoke/VarHandle" ∧ (parseMethodDescriptor yX11_doTurns.desc).map (fun d => d.parameters.length) = some 3 := by decide +kernel
theorem hd_X11_softAfter_RX11 : yX11_softAfter.cls = RX11 ∧ yX11_softAfter.cls ≠ "java/lang/invoke/MethodHandle" ∧ yX11_softAfter.cls ≠ "java/lang/invoke/VarHandle" ∧ (parseMethodDescriptor yX11_softAfter.desc).map (fun d => d.parameters.length) = some 3 := by decide +kernel
theorem hd_X11_handsThatFit_RX11 : yX11_handsThatFit.cls = RX11 ∧ yX11_handsThatFit.cls ≠ "java/lang/invoke/MethodHandle" ∧ yX11_handsThatFit.cls ≠ "java/lang/invoke/VarHandle" ∧ (parseMethodDescriptor yX11_handsThatFit.desc).map (fun d => d.parameters.length) = some 0 := by decide +kernel
theorem hd_X11_greatestPart_RX11 : yX11_greatestPart.cls = RX11 ∧ yX11_greatestPart.cls ≠ "java/lang/invoke/MethodHandle" ∧ yX11_greatestPart.cls ≠ "java/lang/invoke/VarHandle" ∧ (parseMethodDescriptor yX11_greatestPart.desc).map (fun d => d.parameters.length) = some 2 := by decide +kernel
theorem hd_X11_page_RX11 : yX11_page.cls = RX11 ∧ yX11_page.cls ≠ "java/lang/invoke/MethodHandle" ∧ yX11_page.cls ≠ "java/lang/invoke/VarHandle" ∧ (parseMethodDescriptor yX11_page.desc).map (fun d => d.parameters.length) = some 2 := by decide +kernel
theorem hd_X11_mayMend_RX11 : yX11_mayMend.cls = RX11 ∧ yX11_mayMend.cls ≠ "java/lang/invoke/MethodHandle" ∧ yX11_mayMend.cls ≠ "java/lang/invoke/VarHandle" ∧ (parseMethodDescriptor yX11_mayMend.desc).map (fun d => d.parameters.length) = some 1 := by decide +kernel
theorem hd_X11_mendNow_RX11 : yX11_mendNow.cls = RX11 ∧ yX11_mendNow.cls ≠ "java/lang/invoke/MethodHandle" ∧ yX11_mendNow.cls ≠ "java/lang/invoke/VarHandle" ∧ (parseMethodDescriptor yX11_mendNow.desc).map (fun d => d.parameters.length) = some 1 := by decide +kernel
theorem hd_X11_findGiven_RX11 : yX11_findGiven.cls = RX11 ∧ yX11_findGiven.cls ≠ "java/lang/invoke/MethodHandle" ∧ yX11_findGiven.cls ≠ "java/lang/invoke/VarHandle" ∧ (parseMethodDescriptor yX11_findGiven.desc).map (fun d => d.parameters.length) = some 0 := by decide +kernel
theorem hd_X7_skipBlanks_RX7 : yX7_skipBlanks.cls = RX7 ∧ yX7_skipBlanks.cls ≠ "java/lang/invoke/MethodHandle" ∧ yX7_skipBlanks.cls ≠ "java/lang/invoke/VarHandle" ∧ (parseMethodDescriptor yX7_skipBlanks.desc).map (fun d => d.parameters.length) = some 0 := by decide +kernel
theorem hd_X7_fail_RX7 : yX7_fail.cls = RX7 ∧ yX7_fail.cls ≠ "java/lang/invoke/MethodHandle" ∧ yX7_fail.cls ≠ "java/lang/invoke/VarHandle" ∧ (parseMethodDescriptor yX7_fail.desc).map (fun d => d.parameters.length) = some 2 := by decide +kernel
theorem hd_X7_letterHere_RX7 : yX7_letterHere.cls = RX7 ∧ yX7_letterHere.cls ≠ "java/lang/invoke/MethodHandle" ∧ yX7_letterHere.cls ≠ "java/lang/invoke/VarHandle" ∧ (parseMethodDescriptor yX7_letterHere.desc).map (fun d => d.parameters.length) = some 0 := by decide +kernel
theorem hd_X7_readNumber_RX7 : yX7_readNumber.cls = RX7 ∧ yX7_readNumber.cls ≠ "java/lang/invoke/MethodHandle" ∧ yX7_readNumber.cls ≠ "java/lang/invoke/VarHandle" ∧ (parseMethodDescriptor yX7_readNumber.desc).map (fun d => d.parameters.length) = some 3 := by decide +kernel
theorem hd_X7_startWord_RX7 : yX7_startWord.cls = RX7 ∧ yX7_startWord.cls ≠ "java/lang/invoke/MethodHandle" ∧ yX7_startWord.cls ≠ "java/lang/invoke/VarHandle" ∧ (parseMethodDescriptor yX7_startWord.desc).map (fun d => d.parameters.length) = some 1 := by decide +kernel
theorem hd_X7_readNumbers_RX7 : yX7_readNumbers.cls = RX7 ∧ yX7_readNumbers.cls ≠ "java/lang/invoke/MethodHandle" ∧ yX7_readNumbers.cls ≠ "java/lang/invoke/VarHandle" ∧ (parseMethodDescriptor yX7_readNumbers.desc).map (fun d => d.parameters.length) = some 2 := by decide +kernel
theorem hd_X5_addHand_RX5 : yX5_addHand.cls = RX5 ∧ yX5_addHand.cls ≠ "java/lang/invoke/MethodHandle" ∧ yX5_addHand.cls ≠ "java/lang/invoke/VarHandle" ∧ (parseMethodDescriptor yX5_addHand.desc).map (fun d => d.parameters.length) = some 1 := by decide +kernel
theorem hd_X5_addQuill_RX5 : yX5_addQuill.cls = RX5 ∧ yX5_addQuill.cls ≠ "java/lang/invoke/MethodHandle" ∧ yX5_addQuill.cls ≠ "java/lang/invoke/VarHandle" ∧ (parseMethodDescriptor yX5_addQuill.desc).map (fun d => d.parameters.length) = some 1 := by decide +kernel
theorem hd_X5_setBlade_RX5 : yX5_setBlade.cls = RX5 ∧ yX5_setBlade.cls ≠ "java/lang/invoke/MethodHandle" ∧ yX5_setBlade.cls ≠ "java/lang/invoke/VarHandle" ∧ (parseMethodDescriptor yX5_setBlade.desc).map (fun d => d.parameters.length) = some 1 := by decide +kernel
theorem hd_X5_clear_RX5 : yX5_clear.cls = RX5 ∧ yX5_clear.cls ≠ "java/lang/invoke/MethodHandle" ∧ yX5_clear.cls ≠ "java/lang/invoke/VarHandle" ∧ (parseMethodDescriptor yX5_clear.desc).map (fun d => d.parameters.length) = some 0 := by decide +kernel
theorem hd_X7_readClause_RX7 : yX7_readClause.cls = RX7 ∧ yX7_readClause.cls ≠ "java/lang/invoke/MethodHandle" ∧ yX7_readClause.cls ≠ "java/lang/invoke/VarHandle" ∧ (parseMethodDescriptor yX7_readClause.desc).map (fun d => d.parameters.length) = some 0 := by decide +kernel
theorem hd_X11_here_RX11 : yX11_here.cls = RX11 ∧ yX11_here.cls ≠ "java/lang/invoke/MethodHandle" ∧ yX11_here.cls ≠ "java/lang/invoke/VarHandle" ∧ (parseMethodDescriptor yX11_here.desc).map (fun d => d.parameters.length) = some 0 := by decide +kernel
theorem hd_X11_fails_RX11 : yX11_fails.cls = RX11 ∧ yX11_fails.cls ≠ "java/lang/invoke/MethodHandle" ∧ yX11_fails.cls ≠ "java/lang/invoke/VarHandle" ∧ (parseMethodDescriptor yX11_fails.desc).map (fun d => d.parameters.length) = some 2 := by decide +kernel
theorem hd_X11_takeNumber_RX11 : yX11_takeNumber.cls = RX11 ∧ yX11_takeNumber.cls ≠ "java/lang/invoke/MethodHandle" ∧ yX11_takeNumber.cls ≠ "java/lang/invoke/VarHandle" ∧ (parseMethodDescriptor yX11_takeNumber.desc).map (fun d => d.parameters.length) = some 2 := by decide +kernel
theorem hd_X11_into_RX11 : yX11_into.cls = RX11 ∧ yX11_into.cls ≠ "java/lang/invoke/MethodHandle" ∧ yX11_into.cls ≠ "java/lang/invoke/VarHandle" ∧ (parseMethodDescriptor yX11_into.desc).map (fun d => d.parameters.length) = some 4 := by decide +kernel
theorem hd_X11_takeOffice_RX11 : yX11_takeOffice.cls = RX11 ∧ yX11_takeOffice.cls ≠ "java/lang/invoke/MethodHandle" ∧ yX11_takeOffice.cls ≠ "java/lang/invoke/VarHandle" ∧ (parseMethodDescriptor yX11_takeOffice.desc).map (fun d => d.parameters.length) = some 0 := by decide +kernel
theorem hd_X11_takeHand_RX11 : yX11_takeHand.cls = RX11 ∧ yX11_takeHand.cls ≠ "java/lang/invoke/MethodHandle" ∧ yX11_takeHand.cls ≠ "java/lang/invoke/VarHandle" ∧ (parseMethodDescriptor yX11_takeHand.desc).map (fun d => d.parameters.length) = some 0 := by decide +kernel
theorem hd_X11_takeQuill_RX11 : yX11_takeQuill.cls = RX11 ∧ yX11_takeQuill.cls ≠ "java/lang/invoke/MethodHandle" ∧ yX11_takeQuill.cls ≠ "java/lang/invoke/VarHandle" ∧ (parseMethodDescriptor yX11_takeQuill.desc).map (fun d => d.parameters.length) = some 0 := by decide +kernel
theorem hd_X2_add_RX2 : yX2_add.cls = RX2 ∧ yX2_add.cls ≠ "java/lang/invoke/MethodHandle" ∧ yX2_add.cls ≠ "java/lang/invoke/VarHandle" ∧ (parseMethodDescriptor yX2_add.desc).map (fun d => d.parameters.length) = some 3 := by decide +kernel
theorem hd_X0_add_RX0 : yX0_add.cls = RX0 ∧ yX0_add.cls ≠ "java/lang/invoke/MethodHandle" ∧ yX0_add.cls ≠ "java/lang/invoke/VarHandle" ∧ (parseMethodDescriptor yX0_add.desc).map (fun d => d.parameters.length) = some 2 := by decide +kernel
theorem hd_X11_draw_RX11 : yX11_draw.cls = RX11 ∧ yX11_draw.cls ≠ "java/lang/invoke/MethodHandle" ∧ yX11_draw.cls ≠ "java/lang/invoke/VarHandle" ∧ (parseMethodDescriptor yX11_draw.desc).map (fun d => d.parameters.length) = some 1 := by decide +kernel
theorem hd_X11_pageOf_RX11 : yX11_pageOf.cls = RX11 ∧ yX11_pageOf.cls ≠ "java/lang/invoke/MethodHandle" ∧ yX11_pageOf.cls ≠ "java/lang/invoke/VarHandle" ∧ (parseMethodDescriptor yX11_pageOf.desc).map (fun d => d.parameters.length) = some 2 := by decide +kernel
theorem hd_X10_isOverTime_RX10 : yX10_isOverTime.cls = RX10 ∧ yX10_isOverTime.cls ≠ "java/lang/invoke/MethodHandle" ∧ yX10_isOverTime.cls ≠ "java/lang/invoke/VarHandle" ∧ (parseMethodDescriptor yX10_isOverTime.desc).map (fun d => d.parameters.length) = some 0 := by decide +kernel
theorem hd_X3_push_RX3 : yX3_push.cls = RX3 ∧ yX3_push.cls ≠ "java/lang/invoke/MethodHandle" ∧ yX3_push.cls ≠ "java/lang/invoke/VarHandle" ∧ (parseMethodDescriptor yX3_push.desc).map (fun d => d.parameters.length) = some 1 := by decide +kernel
theorem hd_X3_popInto_RX3 : yX3_popInto.cls = RX3 ∧ yX3_popInto.cls ≠ "java/lang/invoke/MethodHandle" ∧ yX3_popInto.cls ≠ "java/lang/invoke/VarHandle" ∧ (parseMethodDescriptor yX3_popInto.desc).map (fun d => d.parameters.length) = some 1 := by decide +kernel
theorem hd_X10_draw_RX10 : yX10_draw.cls = RX10 ∧ yX10_draw.cls ≠ "java/lang/invoke/MethodHandle" ∧ yX10_draw.cls ≠ "java/lang/invoke/VarHandle" ∧ (parseMethodDescriptor yX10_draw.desc).map (fun d => d.parameters.length) = some 1 := by decide +kernel
theorem hd_X10_driftOnce_RX10 : yX10_driftOnce.cls = RX10 ∧ yX10_driftOnce.cls ≠ "java/lang/invoke/MethodHandle" ∧ yX10_driftOnce.cls ≠ "java/lang/invoke/VarHandle" ∧ (parseMethodDescriptor yX10_driftOnce.desc).map (fun d => d.parameters.length) = some 0 := by decide +kernel
theorem hd_X11_remember_RX11 : yX11_remember.cls = RX11 ∧ yX11_remember.cls ≠ "java/lang/invoke/MethodHandle" ∧ yX11_remember.cls ≠ "java/lang/invoke/VarHandle" ∧ (parseMethodDescriptor yX11_remember.desc).map (fun d => d.parameters.length) = some 0 := by decide +kernel
theorem hd_X11_drawn_RX11 : yX11_drawn.cls = RX11 ∧ yX11_drawn.cls ≠ "java/lang/invoke/MethodHandle" ∧ yX11_drawn.cls ≠ "java/lang/invoke/VarHandle" ∧ (parseMethodDescriptor yX11_drawn.desc).map (fun d => d.parameters.length) = some 0 := by decide +kernel
theorem hd_X3_forget_RX3 : yX3_forget.cls = RX3 ∧ yX3_forget.cls ≠ "java/lang/invoke/MethodHandle" ∧ yX3_forget.cls ≠ "java/lang/invoke/VarHandle" ∧ (parseMethodDescriptor yX3_forget.desc).map (fun d => d.parameters.length) = some 0 := by decide +kernel
theorem hd_X7_readText_RX7 : yX7_readText.cls = RX7 ∧ yX7_readText.cls ≠ "java/lang/invoke/MethodHandle" ∧ yX7_readText.cls ≠ "java/lang/invoke/VarHandle" ∧ (parseMethodDescriptor yX7_readText.desc).map (fun d => d.parameters.length) = some 2 := by decide +kernel
theorem hd_X5_copyFrom_RX5 : yX5_copyFrom.cls = RX5 ∧ yX5_copyFrom.cls ≠ "java/lang/invoke/MethodHandle" ∧ yX5_copyFrom.cls ≠ "java/lang/invoke/VarHandle" ∧ (parseMethodDescriptor yX5_copyFrom.desc).map (fun d => d.parameters.length) = some 1 := by decide +kernel
theorem hd_X1_layOut_RX1 : yX1_layOut.cls = RX1 ∧ yX1_layOut.cls ≠ "java/lang/invoke/MethodHandle" ∧ yX1_layOut.cls ≠ "java/lang/invoke/VarHandle" ∧ (parseMethodDescriptor yX1_layOut.desc).map (fun d => d.parameters.length) = some 0 := by decide +kernel
theorem hd_X4_forget_RX4 : yX4_forget.cls = RX4 ∧ yX4_forget.cls ≠ "java/lang/invoke/MethodHandle" ∧ yX4_forget.cls ≠ "java/lang/invoke/VarHandle" ∧ (parseMethodDescriptor yX4_forget.desc).map (fun d => d.parameters.length) = some 0 := by decide +kernel
theorem hd_X11_takeRead_RX11 : yX11_takeRead.cls = RX11 ∧ yX11_takeRead.cls ≠ "java/lang/invoke/MethodHandle" ∧ yX11_takeRead.cls ≠ "java/lang/invoke/VarHandle" ∧ (parseMethodDescriptor yX11_takeRead.desc).map (fun d => d.parameters.length) = some 0 := by decide +kernel
theorem hd_X11_takeClause_RX11 : yX11_takeClause.cls = RX11 ∧ yX11_takeClause.cls ≠ "java/lang/invoke/MethodHandle" ∧ yX11_takeClause.cls ≠ "java/lang/invoke/VarHandle" ∧ (parseMethodDescriptor yX11_takeClause.desc).map (fun d => d.parameters.length) = some 0 := by decide +kernel
theorem hd_X11_minutesOf_RX11 : yX11_minutesOf.cls = RX11 ∧ yX11_minutesOf.cls ≠ "java/lang/invoke/MethodHandle" ∧ yX11_minutesOf.cls ≠ "java/lang/invoke/VarHandle" ∧ (parseMethodDescriptor yX11_minutesOf.desc).map (fun d => d.parameters.length) = some 3 := by decide +kernel
theorem hd_X11_putBack_RX11 : yX11_putBack.cls = RX11 ∧ yX11_putBack.cls ≠ "java/lang/invoke/MethodHandle" ∧ yX11_putBack.cls ≠ "java/lang/invoke/VarHandle" ∧ (parseMethodDescriptor yX11_putBack.desc).map (fun d => d.parameters.length) = some 0 := by decide +kernel
theorem hd_X11_findFastest_RX11 : yX11_findFastest.cls = RX11 ∧ yX11_findFastest.cls ≠ "java/lang/invoke/MethodHandle" ∧ yX11_findFastest.cls ≠ "java/lang/invoke/VarHandle" ∧ (parseMethodDescriptor yX11_findFastest.desc).map (fun d => d.parameters.length) = some 2 := by decide +kernel
theorem hd_X10_feed_RX10 : yX10_feed.cls = RX10 ∧ yX10_feed.cls ≠ "java/lang/invoke/MethodHandle" ∧ yX10_feed.cls ≠ "java/lang/invoke/VarHandle" ∧ (parseMethodDescriptor yX10_feed.desc).map (fun d => d.parameters.length) = some 1 := by decide +kernel
theorem hd_X11_feed_RX11 : yX11_feed.cls = RX11 ∧ yX11_feed.cls ≠ "java/lang/invoke/MethodHandle" ∧ yX11_feed.cls ≠ "java/lang/invoke/VarHandle" ∧ (parseMethodDescriptor yX11_feed.desc).map (fun d => d.parameters.length) = some 1 := by decide +kernel
theorem hd_X10_office_RX10 : yX10_office.cls = RX10 ∧ yX10_office.cls ≠ "java/lang/invoke/MethodHandle" ∧ yX10_office.cls ≠ "java/lang/invoke/VarHandle" ∧ (parseMethodDescriptor yX10_office.desc).map (fun d => d.parameters.length) = some 0 := by decide +kernel
theorem hd_X11_office_RX11 : yX11_office.cls = RX11 ∧ yX11_office.cls ≠ "java/lang/invoke/MethodHandle" ∧ yX11_office.cls ≠ "java/lang/invoke/VarHandle" ∧ (parseMethodDescriptor yX11_office.desc).map (fun d => d.parameters.length) = some 0 := by decide +kernel
theorem hd_X10_fault_RX10 : yX10_fault.cls = RX10 ∧ yX10_fault.cls ≠ "java/lang/invoke/MethodHandle" ∧ yX10_fault.cls ≠ "java/lang/invoke/VarHandle" ∧ (parseMethodDescriptor yX10_fault.desc).map (fun d => d.parameters.length) = some 0 := by decide +kernel
theorem hd_X11_fault_RX11 : yX11_fault.cls = RX11 ∧ yX11_fault.cls ≠ "java/lang/invoke/MethodHandle" ∧ yX11_fault.cls ≠ "java/lang/invoke/VarHandle" ∧ (parseMethodDescriptor yX11_fault.desc).map (fun d => d.parameters.length) = some 0 := by decide +kernel
theorem hd_X10_told_RX10 : yX10_told.cls = RX10 ∧ yX10_told.cls ≠ "java/lang/invoke/MethodHandle" ∧ yX10_told.cls ≠ "java/lang/invoke/VarHandle" ∧ (parseMethodDescriptor yX10_told.desc).map (fun d => d.parameters.length) = some 1 := by decide +kernel
theorem hd_X11_told_RX11 : yX11_told.cls = RX11 ∧ yX11_told.cls ≠ "java/lang/invoke/MethodHandle" ∧ yX11_told.cls ≠ "java/lang/invoke/VarHandle" ∧ (parseMethodDescriptor yX11_told.desc).map (fun d => d.parameters.length) = some 1 := by decide +kernel
theorem hd_X10_quill_RX10 : yX10_quill.cls = RX10 ∧ yX10_quill.cls ≠ "java/lang/invoke/MethodHandle" ∧ yX10_quill.cls ≠ "java/lang/invoke/VarHandle" ∧ (parseMethodDescriptor yX10_quill.desc).map (fun d => d.parameters.length) = some 2 := by decide +kernel
theorem hd_X11_quill_RX11 : yX11_quill.cls = RX11 ∧ yX11_quill.cls ≠ "java/lang/invoke/MethodHandle" ∧ yX11_quill.cls ≠ "java/lang/invoke/VarHandle" ∧ (parseMethodDescriptor yX11_quill.desc).map (fun d => d.parameters.length) = some 2 := by decide +kernel
theorem hd_X10_hand_RX10 : yX10_hand.cls = RX10 ∧ yX10_hand.cls ≠ "java/lang/invoke/MethodHandle" ∧ yX10_hand.cls ≠ "java/lang/invoke/VarHandle" ∧ (parseMethodDescriptor yX10_hand.desc).map (fun d => d.parameters.length) = some 2 := by decide +kernel
theorem hd_X11_hand_RX11 : yX11_hand.cls = RX11 ∧ yX11_hand.cls ≠ "java/lang/invoke/MethodHandle" ∧ yX11_hand.cls ≠ "java/lang/invoke/VarHandle" ∧ (parseMethodDescriptor yX11_hand.desc).map (fun d => d.parameters.length) = some 2 := by decide +kernel
theorem hd_X10_goodPages_RX10 : yX10_goodPages.cls = RX10 ∧ yX10_goodPages.cls ≠ "java/lang/invoke/MethodHandle" ∧ yX10_goodPages.cls ≠ "java/lang/invoke/VarHandle" ∧ (parseMethodDescriptor yX10_goodPages.desc).map (fun d => d.parameters.length) = some 2 := by decide +kernel
theorem hd_X11_goodPages_RX11 : yX11_goodPages.cls = RX11 ∧ yX11_goodPages.cls ≠ "java/lang/invoke/MethodHandle" ∧ yX11_goodPages.cls ≠ "java/lang/invoke/VarHandle" ∧ (parseMethodDescriptor yX11_goodPages.desc).map (fun d => d.parameters.length) = some 2 := by decide +kernel
theorem hd_X10_life_RX10 : yX10_life.cls = RX10 ∧ yX10_life.cls ≠ "java/lang/invoke/MethodHandle" ∧ yX10_life.cls ≠ "java/lang/invoke/VarHandle" ∧ (parseMethodDescriptor yX10_life.desc).map (fun d => d.parameters.length) = some 2 := by decide +kernel
theorem hd_X11_life_RX11 : yX11_life.cls = RX11 ∧ yX11_life.cls ≠ "java/lang/invoke/MethodHandle" ∧ yX11_life.cls ≠ "java/lang/invoke/VarHandle" ∧ (parseMethodDescriptor yX11_life.desc).map (fun d => d.parameters.length) = some 2 := by decide +kernel
theorem hd_X10_toWhom_RX10 : yX10_toWhom.cls = RX10 ∧ yX10_toWhom.cls ≠ "java/lang/invoke/MethodHandle" ∧ yX10_toWhom.cls ≠ "java/lang/invoke/VarHandle" ∧ (parseMethodDescriptor yX10_toWhom.desc).map (fun d => d.parameters.length) = some 1 := by decide +kernel
theorem hd_X11_toWhom_RX11 : yX11_toWhom.cls = RX11 ∧ yX11_toWhom.cls ≠ "java/lang/invoke/MethodHandle" ∧ yX11_toWhom.cls ≠ "java/lang/invoke/VarHandle" ∧ (parseMethodDescriptor yX11_toWhom.desc).map (fun d => d.parameters.length) = some 1 := by decide +kernel
theorem hd_X10_fastest_RX10 : yX10_fastest.cls = RX10 ∧ yX10_fastest.cls ≠ "java/lang/invoke/MethodHandle" ∧ yX10_fastest.cls ≠ "java/lang/invoke/VarHandle" ∧ (parseMethodDescriptor yX10_fastest.desc).map (fun d => d.parameters.length) = some 3 := by decide +kernel
theorem hd_X11_fastest_RX11 : yX11_fastest.cls = RX11 ∧ yX11_fastest.cls ≠ "java/lang/invoke/MethodHandle" ∧ yX11_fastest.cls ≠ "java/lang/invoke/VarHandle" ∧ (parseMethodDescriptor yX11_fastest.desc).map (fun d => d.parameters.length) = some 3 := by decide +kernel
theorem hd_X10_byTurns_RX10 : yX10_byTurns.cls = RX10 ∧ yX10_byTurns.cls ≠ "java/lang/invoke/MethodHandle" ∧ yX10_byTurns.cls ≠ "java/lang/invoke/VarHandle" ∧ (parseMethodDescriptor yX10_byTurns.desc).map (fun d => d.parameters.length) = some 2 := by decide +kernel
theorem hd_X11_byTurns_RX11 : yX11_byTurns.cls = RX11 ∧ yX11_byTurns.cls ≠ "java/lang/invoke/MethodHandle" ∧ yX11_byTurns.cls ≠ "java/lang/invoke/VarHandle" ∧ (parseMethodDescriptor yX11_byTurns.desc).map (fun d => d.parameters.length) = some 2 := by decide +kernel
theorem hd_X10_dearer_RX10 : yX10_dearer.cls = RX10 ∧ yX10_dearer.cls ≠ "java/lang/invoke/MethodHandle" ∧ yX10_dearer.cls ≠ "java/lang/invoke/VarHandle" ∧ (parseMethodDescriptor yX10_dearer.desc).map (fun d => d.parameters.length) = some 0 := by decide +kernel
theorem hd_X11_dearer_RX11 : yX11_dearer.cls = RX11 ∧ yX11_dearer.cls ≠ "java/lang/invoke/MethodHandle" ∧ yX11_dearer.cls ≠ "java/lang/invoke/VarHandle" ∧ (parseMethodDescriptor yX11_dearer.desc).map (fun d => d.parameters.length) = some 0 := by decide +kernel
theorem hd_X10_geese_RX10 : yX10_geese.cls = RX10 ∧ yX10_geese.cls ≠ "java/lang/invoke/MethodHandle" ∧ yX10_geese.cls ≠ "java/lang/invoke/VarHandle" ∧ (parseMethodDescriptor yX10_geese.desc).map (fun d => d.parameters.length) = some 3 := by decide +kernel
theorem hd_X11_geese_RX11 : yX11_geese.cls = RX11 ∧ yX11_geese.cls ≠ "java/lang/invoke/MethodHandle" ∧ yX11_geese.cls ≠ "java/lang/invoke/VarHandle" ∧ (parseMethodDescriptor yX11_geese.desc).map (fun d => d.parameters.length) = some 3 := by decide +kernel
theorem hd_X10_crooked_RX10 : yX10_crooked.cls = RX10 ∧ yX10_crooked.cls ≠ "java/lang/invoke/MethodHandle" ∧ yX10_crooked.cls ≠ "java/lang/invoke/VarHandle" ∧ (parseMethodDescriptor yX10_crooked.desc).map (fun d => d.parameters.length) = some 2 := by decide +kernel
theorem hd_X11_crooked_RX11 : yX11_crooked.cls = RX11 ∧ yX11_crooked.cls ≠ "java/lang/invoke/MethodHandle" ∧ yX11_crooked.cls ≠ "java/lang/invoke/VarHandle" ∧ (parseMethodDescriptor yX11_crooked.desc).map (fun d => d.parameters.length) = some 2 := by decide +kernel
theorem hd_X10_worn_RX10 : yX10_worn.cls = RX10 ∧ yX10_worn.cls ≠ "java/lang/invoke/MethodHandle" ∧ yX10_worn.cls ≠ "java/lang/invoke/VarHandle" ∧ (parseMethodDescriptor yX10_worn.desc).map (fun d => d.parameters.length) = some 3 := by decide +kernel
theorem hd_X11_worn_RX11 : yX11_worn.cls = RX11 ∧ yX11_worn.cls ≠ "java/lang/invoke/MethodHandle" ∧ yX11_worn.cls ≠ "java/lang/invoke/VarHandle" ∧ (parseMethodDescriptor yX11_worn.desc).map (fun d => d.parameters.length) = some 3 := by decide +kernel
theorem hd_X10_whose_RX10 : yX10_whose.cls = RX10 ∧ yX10_whose.cls ≠ "java/lang/invoke/MethodHandle" ∧ yX10_whose.cls ≠ "java/lang/invoke/VarHandle" ∧ (parseMethodDescriptor yX10_whose.desc).map (fun d => d.parameters.length) = some 0 := by decide +kernel
theorem hd_X11_whose_RX11 : yX11_whose.cls = RX11 ∧ yX11_whose.cls ≠ "java/lang/invoke/MethodHandle" ∧ yX11_whose.cls ≠ "java/lang/invoke/VarHandle" ∧ (parseMethodDescriptor yX11_whose.desc).map (fun d => d.parameters.length) = some 0 := by decide +kernel
theorem hd_X10_lookAt_RX10 : yX10_lookAt.cls = RX10 ∧ yX10_lookAt.cls ≠ "java/lang/invoke/MethodHandle" ∧ yX10_lookAt.cls ≠ "java/lang/invoke/VarHandle" ∧ (parseMethodDescriptor yX10_lookAt.desc).map (fun d => d.parameters.length) = some 0 := by decide +kernel
theorem hd_X11_lookAt_RX11 : yX11_lookAt.cls = RX11 ∧ yX11_lookAt.cls ≠ "java/lang/invoke/MethodHandle" ∧ yX11_lookAt.cls ≠ "java/lang/invoke/VarHandle" ∧ (parseMethodDescriptor yX11_lookAt.desc).map (fun d => d.parameters.length) = some 0 := by decide +kernel
theorem hd_X10_note_RX10 : yX10_note.cls = RX10 ∧ yX10_note.cls ≠ "java/lang/invoke/MethodHandle" ∧ yX10_note.cls ≠ "java/lang/invoke/VarHandle" ∧ (parseMethodDescriptor yX10_note.desc).map (fun d => d.parameters.length) = some 2 := by decide +kernel
theorem hd_X11_note_RX11 : yX11_note.cls = RX11 ∧ yX11_note.cls ≠ "java/lang/invoke/MethodHandle" ∧ yX11_note.cls ≠ "java/lang/invoke/VarHandle" ∧ (parseMethodDescriptor yX11_note.desc).map (fun d => d.parameters.length) = some 2 := by decide +kernel
theorem hd_X10_tear_RX10 : yX10_tear.cls = RX10 ∧ yX10_tear.cls ≠ "java/lang/invoke/MethodHandle" ∧ yX10_tear.cls ≠ "java/lang/invoke/VarHandle" ∧ (parseMethodDescriptor yX10_tear.desc).map (fun d => d.parameters.length) = some 0 := by decide +kernel
theorem hd_X11_tear_RX11 : yX11_tear.cls = RX11 ∧ yX11_tear.cls ≠ "java/lang/invoke/MethodHandle" ∧ yX11_tear.cls ≠ "java/lang/invoke/VarHandle" ∧ (parseMethodDescriptor yX11_tear.desc).map (fun d => d.parameters.length) = some 0 := by decide +kernel
theorem hd_X10_judge_RX10 : yX10_judge.cls = RX10 ∧ yX10_judge.cls ≠ "java/lang/invoke/MethodHandle" ∧ yX10_judge.cls ≠ "java/lang/invoke/VarHandle" ∧ (parseMethodDescriptor yX10_judge.desc).map (fun d => d.parameters.length) = some 0 := by decide +kernel
theorem hd_X11_judge_RX11 : yX11_judge.cls = RX11 ∧ yX11_judge.cls ≠ "java/lang/invoke/MethodHandle" ∧ yX11_judge.cls ≠ "java/lang/invoke/VarHandle" ∧ (parseMethodDescriptor yX11_judge.desc).map (fun d => d.parameters.length) = some 0 := by decide +kernel
theorem hd_X10_seed_RX10 : yX10_seed.cls = RX10 ∧ yX10_seed.cls ≠ "java/lang/invoke/MethodHandle" ∧ yX10_seed.cls ≠ "java/lang/invoke/VarHandle" ∧ (parseMethodDescriptor yX10_seed.desc).map (fun d => d.parameters.length) = some 1 := by decide +kernel
theorem hd_X11_seed_RX11 : yX11_seed.cls = RX11 ∧ yX11_seed.cls ≠ "java/lang/invoke/MethodHandle" ∧ yX11_seed.cls ≠ "java/lang/invoke/VarHandle" ∧ (parseMethodDescriptor yX11_seed.desc).map (fun d => d.parameters.length) = some 1 := by decide +kernel
theorem hd_X10_keep_RX10 : yX10_keep.cls = RX10 ∧ yX10_keep.cls ≠ "java/lang/invoke/MethodHandle" ∧ yX10_keep.cls ≠ "java/lang/invoke/VarHandle" ∧ (parseMethodDescriptor yX10_keep.desc).map (fun d => d.parameters.length) = some 1 := by decide +kernel
theorem hd_X11_keep_RX11 : yX11_keep.cls = RX11 ∧ yX11_keep.cls ≠ "java/lang/invoke/MethodHandle" ∧ yX11_keep.cls ≠ "java/lang/invoke/VarHandle" ∧ (parseMethodDescriptor yX11_keep.desc).map (fun d => d.parameters.length) = some 1 := by decide +kernel
theorem hd_X10_goBack_RX10 : yX10_goBack.cls = RX10 ∧ yX10_goBack.cls ≠ "java/lang/invoke/MethodHandle" ∧ yX10_goBack.cls ≠ "java/lang/invoke/VarHandle" ∧ (parseMethodDescriptor yX10_goBack.desc).map (fun d => d.parameters.length) = some 1 := by decide +kernel
theorem hd_X11_goBack_RX11 : yX11_goBack.cls = RX11 ∧ yX11_goBack.cls ≠ "java/lang/invoke/MethodHandle" ∧ yX11_goBack.cls ≠ "java/lang/invoke/VarHandle" ∧ (parseMethodDescriptor yX11_goBack.desc).map (fun d => d.parameters.length) = some 1 := by decide +kernel
theorem hd_X10_write_RX10 : yX10_write.cls = RX10 ∧ yX10_write.cls ≠ "java/lang/invoke/MethodHandle" ∧ yX10_write.cls ≠ "java/lang/invoke/VarHandle" ∧ (parseMethodDescriptor yX10_write.desc).map (fun d => d.parameters.length) = some 3 := by decide +kernel
theorem hd_X11_write_RX11 : yX11_write.cls = RX11 ∧ yX11_write.cls ≠ "java/lang/invoke/MethodHandle" ∧ yX11_write.cls ≠ "java/lang/invoke/VarHandle" ∧ (parseMethodDescriptor yX11_write.desc).map (fun d => d.parameters.length) = some 3 := by decide +kernel
theorem hd_X10_dry_RX10 : yX10_dry.cls = RX10 ∧ yX10_dry.cls ≠ "java/lang/invoke/MethodHandle" ∧ yX10_dry.cls ≠ "java/lang/invoke/VarHandle" ∧ (parseMethodDescriptor yX10_dry.desc).map (fun d => d.parameters.length) = some 2 := by decide +kernel
theorem hd_X11_dry_RX11 : yX11_dry.cls = RX11 ∧ yX11_dry.cls ≠ "java/lang/invoke/MethodHandle" ∧ yX11_dry.cls ≠ "java/lang/invoke/VarHandle" ∧ (parseMethodDescriptor yX11_dry.desc).map (fun d => d.parameters.length) = some 2 := by decide +kernel
theorem hd_X10_mend_RX10 : yX10_mend.cls = RX10 ∧ yX10_mend.cls ≠ "java/lang/invoke/MethodHandle" ∧ yX10_mend.cls ≠ "java/lang/invoke/VarHandle" ∧ (parseMethodDescriptor yX10_mend.desc).map (fun d => d.parameters.length) = some 1 := by decide +kernel
theorem hd_X11_mend_RX11 : yX11_mend.cls = RX11 ∧ yX11_mend.cls ≠ "java/lang/invoke/MethodHandle" ∧ yX11_mend.cls ≠ "java/lang/invoke/VarHandle" ∧ (parseMethodDescriptor yX11_mend.desc).map (fun d => d.parameters.length) = some 1 := by decide +kernel
theorem hd_X10_broaden_RX10 : yX10_broaden.cls = RX10 ∧ yX10_broaden.cls ≠ "java/lang/invoke/MethodHandle" ∧ yX10_broaden.cls ≠ "java/lang/invoke/VarHandle" ∧ (parseMethodDescriptor yX10_broaden.desc).map (fun d => d.parameters.length) = some 1 := by decide +kernel
theorem hd_X11_broaden_RX11 : yX11_broaden.cls = RX11 ∧ yX11_broaden.cls ≠ "java/lang/invoke/MethodHandle" ∧ yX11_broaden.cls ≠ "java/lang/invoke/VarHandle" ∧ (parseMethodDescriptor yX11_broaden.desc).map (fun d => d.parameters.length) = some 1 := by decide +kernel
theorem hd_X10_whet_RX10 : yX10_whet.cls = RX10 ∧ yX10_whet.cls ≠ "java/lang/invoke/MethodHandle" ∧ yX10_whet.cls ≠ "java/lang/invoke/VarHandle" ∧ (parseMethodDescriptor yX10_whet.desc).map (fun d => d.parameters.length) = some 0 := by decide +kernel
theorem hd_X11_whet_RX11 : yX11_whet.cls = RX11 ∧ yX11_whet.cls ≠ "java/lang/invoke/MethodHandle" ∧ yX11_whet.cls ≠ "java/lang/invoke/VarHandle" ∧ (parseMethodDescriptor yX11_whet.desc).map (fun d => d.parameters.length) = some 0 := by decide +kernel
theorem hd_X10_drift_RX10 : yX10_drift.cls = RX10 ∧ yX10_drift.cls ≠ "java/lang/invoke/MethodHandle" ∧ yX10_drift.cls ≠ "java/lang/invoke/VarHandle" ∧ (parseMethodDescriptor yX10_drift.desc).map (fun d => d.parameters.length) = some 1 := by decide +kernel
theorem hd_X11_drift_RX11 : yX11_drift.cls = RX11 ∧ yX11_drift.cls ≠ "java/lang/invoke/MethodHandle" ∧ yX11_drift.cls ≠ "java/lang/invoke/VarHandle" ∧ (parseMethodDescriptor yX11_drift.desc).map (fun d => d.parameters.length) = some 1 := by decide +kernel
theorem hd_X10_undo_RX10 : yX10_undo.cls = RX10 ∧ yX10_undo.cls ≠ "java/lang/invoke/MethodHandle" ∧ yX10_undo.cls ≠ "java/lang/invoke/VarHandle" ∧ (parseMethodDescriptor yX10_undo.desc).map (fun d => d.parameters.length) = some 0 := by decide +kernel
theorem hd_X11_undo_RX11 : yX11_undo.cls = RX11 ∧ yX11_undo.cls ≠ "java/lang/invoke/MethodHandle" ∧ yX11_undo.cls ≠ "java/lang/invoke/VarHandle" ∧ (parseMethodDescriptor yX11_undo.desc).map (fun d => d.parameters.length) = some 0 := by decide +kernel
