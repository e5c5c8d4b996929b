/-- a row's k-th, by a word: the notation of brackets costs half a second each time it is read -/
abbrev fAt (f : List Value) (k : Nat) : Option Value := f[k]?
abbrev lAt {α : Type} (f : List α) (k : Nat) : Option α := f[k]?
/-! order of ints (out of laws/NUMBERS.to-paste) -/
theorem fa_lt (a b : Int32) : a < b ↔ a.toInt < b.toInt := Int32.lt_iff_toInt_lt
theorem fa_le (a b : Int32) : a ≤ b ↔ a.toInt ≤ b.toInt := Int32.le_iff_toInt_le
theorem fa_eq (a b : Int32) : a = b ↔ a.toInt = b.toInt := Int32.toInt_inj.symm
theorem fa_lt64 (a b : Int64) : a < b ↔ a.toInt < b.toInt := Int64.lt_iff_toInt_lt
theorem fa_le64 (a b : Int64) : a ≤ b ↔ a.toInt ≤ b.toInt := Int64.le_iff_toInt_le
theorem fa_eq64 (a b : Int64) : a = b ↔ a.toInt = b.toInt := Int64.toInt_inj.symm
theorem fa_wide_lt (a b : Int32) : a.toInt64 < b.toInt64 ↔ a < b := by rw [fa_lt64, fa_lt, Int32.toInt_toInt64, Int32.toInt_toInt64]
theorem fa_wide_le (a b : Int32) : a.toInt64 ≤ b.toInt64 ↔ a ≤ b := by rw [fa_le64, fa_le, Int32.toInt_toInt64, Int32.toInt_toInt64]
/-! the array classes that the worlds speak of, addresses as a function -/
abbrev tys0 (cI cZ cQ : ClassId) : List (ClassId × FieldType) := [(cI, .int), (cZ, .boolean), (cQ, .object RX1)]
abbrev vn (l : List Nat) : Nat → Nat := fun k => l.getD k 0
theorem xcI {D : va_G} {cl : List vw_C} {cI cZ cQ cA : ClassId} {s : State} (h : va_K D cl (tys0 cI cZ cQ ++ [(cA, .int)]) s) : cI = cA := by
  have h1 : s.vm.findClass ("[" ++ FieldType.int.toString) = some cI := (h.2 0 (cI, .int) rfl).2
  have h2 : s.vm.findClass ("[" ++ FieldType.int.toString) = some cA := (h.2 3 (cA, .int) rfl).2
  exact Option.some.inj (h1.symm.trans h2)
theorem xcZ {D : va_G} {cl : List vw_C} {cI cZ cQ cA : ClassId} {s : State} (h : va_K D cl (tys0 cI cZ cQ ++ [(cA, .boolean)]) s) : cZ = cA := by
  have h1 : s.vm.findClass ("[" ++ FieldType.boolean.toString) = some cZ := (h.2 1 (cZ, .boolean) rfl).2
  have h2 : s.vm.findClass ("[" ++ FieldType.boolean.toString) = some cA := (h.2 3 (cA, .boolean) rfl).2
  exact Option.some.inj (h1.symm.trans h2)
theorem xcQ {D : va_G} {cl : List vw_C} {cI cZ cQ cA : ClassId} {s : State} (h : va_K D cl (tys0 cI cZ cQ ++ [(cA, .object RX1)]) s) : cQ = cA := by
  obtain ⟨_, _, _, _, _, h1⟩ := (h.2 2 (cQ, .object RX1) rfl).2
  obtain ⟨_, _, _, _, _, h2⟩ := (h.2 3 (cA, .object RX1) rfl).2
  exact Option.some.inj (h1.symm.trans h2)
theorem xjoin0 {A0 : Nat → Prop} {D : va_G} {cl : List vw_C} {ws wc wr : va_W} {H H1 : Heap} (hP : va_P D cl ws H) (hD : va_D A0 ws) (isC isR : List Nat) (hC : isC.map (fun i => ws[i]?) = wc.map some) (hR : isR.map (fun i => ws[i]?) = wr.map some) (hn : va_nd isR = true) (hdis : ∀ i ∈ isR, i ∉ isC)
    (hk : ∀ q : Nat, q < H.size → ¬ va_A wc H.size q → H1[q]? = H[q]?) (hF : ∀ q, va_A wc H.size q → A0 q) : va_P D cl wr H1 ∧ va_D A0 wr := by
  have h := va_join (w1 := []) (H1 := H1) hP hD isC isR hC hR hn hdis hk hF (fun k q h => by simp at h) ⟨fun i j p q h => by simp at h, fun k q h => by simp at h⟩
  rw [List.append_nil] at h
  exact h
/-- the links among nest mates, and the class of arrays of desks -/
def xN (U : State) : Prop := va_AO RX1 U ∧ va_Nw (.methodLinkNest RX10 25 yX5_init RX10) U ∧ va_Nw (.methodLinkNest RX10 32 yX7_init RX10) U ∧ va_Nw (.methodLinkNest RX10 94 yX0_init RX10) U ∧ va_Nw (.methodLinkNest RX7 11 yX5_init RX10) U ∧ va_Nw (.methodLinkNest RX1 56 yX10_softerBy RX10) U ∧ va_Nw (.methodLinkNest RX2 42 yX10_softerBy RX10) U ∧ va_Nw (.methodLinkNest RX7 124 yX10_within RX10) U ∧ va_Nw (.methodLinkNest RX9 45 yX10_softerBy RX10) U ∧ va_Nw (.methodLinkNest RX9 63 yX10_driedSoftness RX10) U
theorem xN.n_X10_25 {U : State} (h : xN U) : va_Nw (.methodLinkNest RX10 25 yX5_init RX10) U := h.2.1
theorem xN.n_X10_32 {U : State} (h : xN U) : va_Nw (.methodLinkNest RX10 32 yX7_init RX10) U := h.2.2.1
theorem xN.n_X10_94 {U : State} (h : xN U) : va_Nw (.methodLinkNest RX10 94 yX0_init RX10) U := h.2.2.2.1
theorem xN.n_X7_11 {U : State} (h : xN U) : va_Nw (.methodLinkNest RX7 11 yX5_init RX10) U := h.2.2.2.2.1
theorem xN.n_X1_56 {U : State} (h : xN U) : va_Nw (.methodLinkNest RX1 56 yX10_softerBy RX10) U := h.2.2.2.2.2.1
theorem xN.n_X2_42 {U : State} (h : xN U) : va_Nw (.methodLinkNest RX2 42 yX10_softerBy RX10) U := h.2.2.2.2.2.2.1
theorem xN.n_X7_124 {U : State} (h : xN U) : va_Nw (.methodLinkNest RX7 124 yX10_within RX10) U := h.2.2.2.2.2.2.2.1
theorem xN.n_X9_45 {U : State} (h : xN U) : va_Nw (.methodLinkNest RX9 45 yX10_softerBy RX10) U := h.2.2.2.2.2.2.2.2.1
theorem xN.n_X9_63 {U : State} (h : xN U) : va_Nw (.methodLinkNest RX9 63 yX10_driedSoftness RX10) U := h.2.2.2.2.2.2.2.2.2
theorem xN.warm {s U : State} (h : xN s) (hW : s.WarmedH U.vm) : xN U := ⟨va_AO.moved hW.alike h.1, va_Nw.warmM hW h.2.1, va_Nw.warmM hW h.2.2.1, va_Nw.warmM hW h.2.2.2.1, va_Nw.warmM hW h.2.2.2.2.1, va_Nw.warmM hW h.2.2.2.2.2.1, va_Nw.warmM hW h.2.2.2.2.2.2.1, va_Nw.warmM hW h.2.2.2.2.2.2.2.1, va_Nw.warmM hW h.2.2.2.2.2.2.2.2.1, va_Nw.warmM hW h.2.2.2.2.2.2.2.2.2⟩
theorem xN.calling {U : State} {g : JFrame} {mk : MethodId} {a : Array Value} (h : xN U) : xN (U.calling g mk a) := ⟨va_AO.moved (u := U) (Vm.Alike.refl U.vm) h.1, va_Nw.same rfl (u := U) rfl h.2.1, va_Nw.same rfl (u := U) rfl h.2.2.1, va_Nw.same rfl (u := U) rfl h.2.2.2.1, va_Nw.same rfl (u := U) rfl h.2.2.2.2.1, va_Nw.same rfl (u := U) rfl h.2.2.2.2.2.1, va_Nw.same rfl (u := U) rfl h.2.2.2.2.2.2.1, va_Nw.same rfl (u := U) rfl h.2.2.2.2.2.2.2.1, va_Nw.same rfl (u := U) rfl h.2.2.2.2.2.2.2.2.1, va_Nw.same rfl (u := U) rfl h.2.2.2.2.2.2.2.2.2⟩
/-- an answer of 'is it a number of one of none' -/
theorem x_no {r q : Int32} (h : (r = 1 ∧ 0 ≤ q ∧ q < 0) ∨ (r = 0 ∧ ¬ (0 ≤ q ∧ q < 0))) : r = 0 := by
  rcases h with ⟨_, h1, h2⟩ | ⟨h, _⟩
  · rw [fa_le] at h1; rw [fa_lt] at h2; omega
  · exact h
theorem x_toInt0 : (0 : Int32).toInt = 0 := by decide
/-- quills - 1 as the most -/
theorem x_pred {q n : Int32} (hn : 0 ≤ n) : (0 ≤ q ∧ q ≤ n - 1) ↔ (0 ≤ q ∧ q < n) := by
  have h1 : (n - 1).toInt = n.toInt - 1 := by
    rw [fa_le, x_toInt0] at hn
    have h2 := n.toInt_lt
    rw [Int32.toInt_sub]
    have h3 : (1 : Int32).toInt = 1 := by decide
    rw [h3, Int.bmod_def]
    omega
  rw [fa_le, fa_le, fa_lt, h1]
  omega
theorem fa_nlt {a b : Int32} (h : ¬ a < b) : b ≤ a := by rw [fa_lt] at h; rw [fa_le]; omega
theorem fa_ltn {a b : Int32} (h : a < b) : ¬ b ≤ a := by rw [fa_lt] at h; rw [fa_le]; omega
theorem fa_nle {a b : Int32} (h : ¬ a ≤ b) : b < a := by rw [fa_le] at h; rw [fa_lt]; omega
theorem fa_len {a b : Int32} (h : a ≤ b) : ¬ b < a := by rw [fa_le] at h; rw [fa_lt]; omega
theorem fw_nlt {a b : Int32} (h : ¬ lg_cmp a.toInt64 b.toInt64 < 0) : b ≤ a := fa_nlt (fun k => h ((lg_cmp_lt _ _).mpr ((fa_wide_lt _ _).mpr k)))
theorem fw_ltn {a b : Int32} (h : lg_cmp a.toInt64 b.toInt64 < 0) : ¬ b ≤ a := fa_ltn ((fa_wide_lt _ _).mp ((lg_cmp_lt _ _).mp h))
theorem fw_ngt {a b : Int32} (h : ¬ 0 < lg_cmp a.toInt64 b.toInt64) : a ≤ b := fa_nlt (fun k => h ((lg_cmp_gt _ _).mpr ((fa_wide_lt _ _).mpr k)))
theorem fw_gtn {a b : Int32} (h : 0 < lg_cmp a.toInt64 b.toInt64) : ¬ a ≤ b := fa_ltn ((fa_wide_lt _ _).mp ((lg_cmp_gt _ _).mp h))
theorem x_upd0 (k : Nat) : upd (fun _ => (0 : Int32)) k 0 = fun _ => 0 := by
  funext j
  unfold upd
  split <;> rfl
theorem x_updz0 (k : Nat) : upd (fun _ => (0 : Int32)) k (vp_nar .boolean 0) = fun _ => 0 := x_upd0 k
theorem x_t1 : (1 : Int32).toInt = 1 := by decide
theorem x_t12 : (12 : Int32).toInt = 12 := by decide
theorem x_out12 {w : Int32} (c : w.toInt < 0 ∨ 12 < w.toInt) : ¬ (0 ≤ w ∧ w ≤ 12) := by
  rw [fa_le, fa_le, x_toInt0, x_t12]
  omega
theorem x_in12 {w : Int32} (c : ¬ (w.toInt < 0 ∨ 12 < w.toInt)) : w = 0 ∨ w = 1 ∨ w = 2 ∨ w = 3 ∨ w = 4 ∨ w = 5 ∨ w = 6 ∨ w = 7 ∨ w = 8 ∨ w = 9 ∨ w = 10 ∨ w = 11 ∨ w = 12 := by
  have h : w.toInt = 0 ∨ w.toInt = 1 ∨ w.toInt = 2 ∨ w.toInt = 3 ∨ w.toInt = 4 ∨ w.toInt = 5 ∨ w.toInt = 6 ∨ w.toInt = 7 ∨ w.toInt = 8 ∨ w.toInt = 9 ∨ w.toInt = 10 ∨ w.toInt = 11 ∨ w.toInt = 12 := by omega
  simp only [fa_eq]
  exact h
theorem x_in2 {i : Int32} (h : 0 ≤ i ∧ i ≤ 1) : vp_in i 2 := by
  rw [fa_le, fa_le, x_toInt0, x_t1] at h
  exact vp_in_iff.mpr ⟨h.1, by omega⟩
theorem x_01 {i : Int32} (h : 0 ≤ i ∧ i ≤ 1) : i = 0 ∨ i = 1 := by
  rw [fa_le, fa_le, x_toInt0, x_t1] at h
  rw [fa_eq, fa_eq, x_toInt0, x_t1]
  omega
/-- odds of straight slits: from a billion, each time the part, a hundredth part left out -/
def ckI (st : Int32) : Nat → Int64
  | 0 => 1000000000
  | n + 1 => ckI st n * st.toInt64 / 100
def ckst (q : Int32) : Int32 := 100 - (if q < 100 then q else 100)
theorem x_nI60 {a : Int32} (h : 0 ≤ a ∧ a ≤ 60) : ∃ n : Nat, n ≤ 60 ∧ a = nI n := nI_of2 (M := 60) (by decide) (fa_len h.1) h.2
theorem x_ckc {a z y w : Int32} (e1 : z = a + 0) (e2 : y = if z < 100 then z else 100) (e3 : w = 100 - y) : w = ckst a := by
  rw [e3, e2, e1, Int32.add_zero]
  rfl
theorem x_ckm1 {a z : Int32} (e1 : z = a + 0) (h : 100 ≤ z) : 100 - (100 : Int32) = ckst a := by
  rw [e1, Int32.add_zero] at h
  unfold ckst
  rw [if_neg (fa_len h)]
theorem x_ckm2 {a z y : Int32} (e1 : z = a + 0) (h : ¬ 100 ≤ z) (e2 : y = a + 0) : 100 - y = ckst a := by
  rw [e1, Int32.add_zero] at h
  rw [e2, Int32.add_zero]
  unfold ckst
  rw [if_pos (fa_nle h)]
theorem x_sw_0_12 {w : Int32} (c : ¬ (w.toInt < 0 ∨ 12 < w.toInt)) : w = 0 ∨ w = 1 ∨ w = 2 ∨ w = 3 ∨ w = 4 ∨ w = 5 ∨ w = 6 ∨ w = 7 ∨ w = 8 ∨ w = 9 ∨ w = 10 ∨ w = 11 ∨ w = 12 := by
  have h : w.toInt = 0 ∨ w.toInt = 1 ∨ w.toInt = 2 ∨ w.toInt = 3 ∨ w.toInt = 4 ∨ w.toInt = 5 ∨ w.toInt = 6 ∨ w.toInt = 7 ∨ w.toInt = 8 ∨ w.toInt = 9 ∨ w.toInt = 10 ∨ w.toInt = 11 ∨ w.toInt = 12 := by omega
  simp only [fa_eq]
  exact h
theorem x_sw_0_6 {w : Int32} (c : ¬ (w.toInt < 0 ∨ 6 < w.toInt)) : w = 0 ∨ w = 1 ∨ w = 2 ∨ w = 3 ∨ w = 4 ∨ w = 5 ∨ w = 6 := by
  have h : w.toInt = 0 ∨ w.toInt = 1 ∨ w.toInt = 2 ∨ w.toInt = 3 ∨ w.toInt = 4 ∨ w.toInt = 5 ∨ w.toInt = 6 := by omega
  simp only [fa_eq]
  exact h
theorem x_sw_0_4 {w : Int32} (c : ¬ (w.toInt < 0 ∨ 4 < w.toInt)) : w = 0 ∨ w = 1 ∨ w = 2 ∨ w = 3 ∨ w = 4 := by
  have h : w.toInt = 0 ∨ w.toInt = 1 ∨ w.toInt = 2 ∨ w.toInt = 3 ∨ w.toInt = 4 := by omega
  simp only [fa_eq]
  exact h
theorem x_sw_2_4 {w : Int32} (c : ¬ (w.toInt < 2 ∨ 4 < w.toInt)) : w = 2 ∨ w = 3 ∨ w = 4 := by
  have h : w.toInt = 2 ∨ w.toInt = 3 ∨ w.toInt = 4 := by omega
  simp only [fa_eq]
  exact h
theorem x_sw_0_29 {w : Int32} (c : ¬ (w.toInt < 0 ∨ 29 < w.toInt)) : w = 0 ∨ w = 1 ∨ w = 2 ∨ w = 3 ∨ w = 4 ∨ w = 5 ∨ w = 6 ∨ w = 7 ∨ w = 8 ∨ w = 9 ∨ w = 10 ∨ w = 11 ∨ w = 12 ∨ w = 13 ∨ w = 14 ∨ w = 15 ∨ w = 16 ∨ w = 17 ∨ w = 18 ∨ w = 19 ∨ w = 20 ∨ w = 21 ∨ w = 22 ∨ w = 23 ∨ w = 24 ∨ w = 25 ∨ w = 26 ∨ w = 27 ∨ w = 28 ∨ w = 29 := by
  have h : w.toInt = 0 ∨ w.toInt = 1 ∨ w.toInt = 2 ∨ w.toInt = 3 ∨ w.toInt = 4 ∨ w.toInt = 5 ∨ w.toInt = 6 ∨ w.toInt = 7 ∨ w.toInt = 8 ∨ w.toInt = 9 ∨ w.toInt = 10 ∨ w.toInt = 11 ∨ w.toInt = 12 ∨ w.toInt = 13 ∨ w.toInt = 14 ∨ w.toInt = 15 ∨ w.toInt = 16 ∨ w.toInt = 17 ∨ w.toInt = 18 ∨ w.toInt = 19 ∨ w.toInt = 20 ∨ w.toInt = 21 ∨ w.toInt = 22 ∨ w.toInt = 23 ∨ w.toInt = 24 ∨ w.toInt = 25 ∨ w.toInt = 26 ∨ w.toInt = 27 ∨ w.toInt = 28 ∨ w.toInt = 29 := by omega
  simp only [fa_eq]
  exact h
/-! rows on indices and small answers -/
theorem x_ix {q : Int32} {n : Nat} (h : 0 ≤ q ∧ q < nI n) (hn : n < 2 ^ 31) : ∃ j : Nat, j < n ∧ q = nI j := by
  obtain ⟨j, hj, rfl⟩ := nI_of (fa_len h.1)
  exact ⟨j, (nI_ltI hj hn).mp h.2, rfl⟩
theorem x_rng {q : Int32} {a b : Nat} (ha : a < 2 ^ 31) (hb : b < 2 ^ 31) (h : nI a ≤ q ∧ q ≤ nI b) : ∃ j : Nat, a ≤ j ∧ j ≤ b ∧ q = nI j := by
  have h1 := h.1
  rw [fa_le, nI_toInt ha] at h1
  have h0 : ¬ q < 0 := by
    rw [fa_lt, x_toInt0]
    omega
  obtain ⟨j, hj, rfl⟩ := nI_of h0
  exact ⟨j, (nI_leI ha hj).mp h.1, (nI_leI hj hb).mp h.2, rfl⟩
theorem x_mx1 {x z : Int32} (e : z = if 1 < x then x else 1) : ¬ z = 0 := by
  intro h
  rw [h] at e
  by_cases c : 1 < x
  · rw [if_pos c] at e
    rw [← e] at c
    exact absurd c (by decide)
  · rw [if_neg c] at e
    exact absurd e (by decide)
/-- a row of numbers of quills -/
def qIn (f : Nat → Int32) (n : Nat) : Prop := ∀ i, i < n → ∃ j : Nat, j < 8 ∧ f i = nI j
theorem qIn_add {f : Nat → Int32} {n j : Nat} (h : qIn f n) (hj : j < 8) : qIn (upd f n (nI j)) (n + 1) := by
  intro i hi
  by_cases e : i = n
  · subst e
    exact ⟨j, hj, pk_us⟩
  · obtain ⟨k, hk, ek⟩ := h i (by omega)
    exact ⟨k, hk, (pk_un e).trans ek⟩
theorem qIn_0 {f : Nat → Int32} : qIn f 0 := fun i hi => absurd hi (by omega)
theorem x_t5 : (5 : Int32).toInt = 5 := by decide
theorem x_m5 {z y : Int32} {d : Nat} (e : y = z + (-5)) (c : ¬ z < 5) (h : z.toInt < 5 + 5 * ((d : Int) + 1)) : y.toInt < 5 + 5 * (d : Int) := by
  rw [fa_lt, x_t5] at c
  have h2 := z.toInt_lt
  have h3 : ((-5 : Int32)).toInt = -5 := by decide
  have h1 : y.toInt = z.toInt - 5 := by
    rw [e, Int32.toInt_add, h3, Int.bmod_def]
    omega
  omega
theorem x_d5 {z : Int32} (c : ¬ z < 5) (h : z.toInt < 5 + 5 * ((0 : Nat) : Int)) : False := by
  rw [fa_lt, x_t5] at c
  omega
theorem x_min4 {m : Nat} (h : m ≤ 4) {z : Int32} (e : z = if (4 : Int32) < nI m then 4 else nI m) : z = nI m := by
  rw [e, if_neg]
  intro c
  have := (nI_ltI (a := 4) (b := m) (by omega) (by omega)).mp c
  omega
theorem wmx {w : Cond} {ws : List Cond} (k : Nat) (h : wnth ws k = some w) : w ∈ ws := wm k h
theorem ob_x {α : Type} {p : α → Prop} {c : Prop} (h : ∃ x, p x) (f : ∀ x, p x → c) : c := h.elim f
theorem ob_a {a b c : Prop} (h : a ∧ b) (f : a → b → c) : c := f h.1 h.2
def pdW (D : va_G) (cl : List vw_C) (A : Nat → Prop) (W : va_W) (H : Heap) : Prop := va_P D cl W H ∧ va_D A W
