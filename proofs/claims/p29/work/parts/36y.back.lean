theorem his_back {cI : ClassId} {o : Nat} {a : Nat → Nat → Nat} {c : Nat → dskC} {j : Nat} {X : dskC} (hj : j < 20) : (dskW cI o (a j) X ++ hisR cI o a c j).Perm (hisW cI o a (va_up c j X)) := by
  have h := (his_perm (cI := cI) (o := o) (a := a) (c := va_up c j X) hj).symm
  rw [hisR_up, va_up_self] at h
  exact h
/-! a world with some of its cells anew, each at its place -/
def wlk : Nat → List Nat → va_W → Option (Nat × va_E)
  | _, [], _ => none
  | _, _ :: _, [] => none
  | k, i :: is, x :: xs => if i = k then some x else wlk k is xs
def wmix (is : List Nat) (w : va_W) : Nat → va_W → va_W
  | _, [] => []
  | k, c :: t => (wlk k is w).getD c :: wmix is w (k + 1) t
theorem wlk_some {k : Nat} {x : Nat × va_E} : ∀ {is : List Nat} {w : va_W}, wlk k is w = some x → ∃ j : Nat, is[j]? = some k ∧ w[j]? = some x
  | [], _, h => by cases h
  | _ :: _, [], h => by cases h
  | i :: is, y :: w, h => by
    by_cases c : i = k
    · have e : wlk k (i :: is) (y :: w) = some y := if_pos c
      rw [e] at h
      cases h
      exact ⟨0, by rw [c]; rfl, rfl⟩
    · have e : wlk k (i :: is) (y :: w) = wlk k is w := if_neg c
      rw [e] at h
      obtain ⟨j, h1, h2⟩ := wlk_some h
      exact ⟨j + 1, h1, h2⟩
theorem wlk_none {k : Nat} : ∀ {is : List Nat} {w : va_W}, wlk k is w = none → is.length ≤ w.length → k ∉ is
  | [], _, _, _ => by simp
  | _ :: _, [], _, h => absurd h (by simp)
  | i :: is, y :: w, h, hl => by
    by_cases c : i = k
    · have e : wlk k (i :: is) (y :: w) = some y := if_pos c
      rw [e] at h
      cases h
    · have e : wlk k (i :: is) (y :: w) = wlk k is w := if_neg c
      rw [e] at h
      have := wlk_none h (by simpa using hl)
      simp only [List.mem_cons, not_or]
      exact ⟨fun q => c q.symm, this⟩
theorem wlk_ne {k : Nat} : ∀ {is : List Nat} {w : va_W}, k ∉ is → wlk k is w = none
  | [], _, _ => rfl
  | _ :: _, [], _ => rfl
  | i :: is, y :: w, h => by
    have c : ¬ i = k := fun e => h (by rw [e]; exact List.mem_cons_self)
    have e : wlk k (i :: is) (y :: w) = wlk k is w := if_neg c
    rw [e]
    exact wlk_ne (fun q => h (List.mem_cons_of_mem _ q))
theorem wmix_at {is : List Nat} {w : va_W} : ∀ (X : va_W) (k n : Nat), (wmix is w k X)[n]? = (X[n]?).map (fun c => (wlk (k + n) is w).getD c)
  | [], _, _ => by simp [wmix]
  | c :: t, k, 0 => by simp [wmix]
  | c :: t, k, n + 1 => by
    have h := wmix_at t (k + 1) n (is := is) (w := w)
    rw [show k + 1 + n = k + (n + 1) from by omega] at h
    simpa [wmix] using h
theorem vx_lift {X wc pl : va_W} {is : List Nat} (hC : is.map (fun i => X[i]?) = wc.map some) : is.map (fun i => (X ++ pl)[i]?) = wc.map some := by
  rw [← hC]
  apply List.map_congr_left
  intro i hi
  have h : X[i]? ∈ wc.map some := by
    rw [← hC]
    exact List.mem_map.mpr ⟨i, hi, rfl⟩
  obtain ⟨c, _, e⟩ := List.mem_map.mp h
  exact List.getElem?_append_left (List.getElem?_eq_some_iff.mp e.symm).1
theorem vx_sub {D : va_G} {cl : List vw_C} {X wc pl : va_W} {H : Heap} (hP : va_P D cl (X ++ pl) H) (is : List Nat) (hC : is.map (fun i => X[i]?) = wc.map some) : va_P D cl wc H := by
  intro k q hk
  obtain ⟨i, _, h⟩ := va_in_of is (vx_lift hC) hk
  exact hP i q h
theorem vx_D {A0 : Nat → Prop} {X wc pl : va_W} (hD : va_D A0 (X ++ pl)) (is : List Nat) (hn : va_nd is = true) (hC : is.map (fun i => X[i]?) = wc.map some) : va_D A0 wc := hD.sub is hn (vx_lift hC)
theorem vx_free {A0 : Nat → Prop} {X wc pl : va_W} {H0 H : Heap} {locs : List Loc} (hD : va_D A0 (X ++ pl)) (hS : va_S A0 H0 H locs) (hA : ∀ q, H0.size ≤ q → A0 q) (is : List Nat) (hC : is.map (fun i => X[i]?) = wc.map some) : ∀ q, va_A wc H.size q → A0 q := va_free hD hS hA is (vx_lift hC)
theorem vx_mix {A0 : Nat → Prop} {D : va_G} {cl : List vw_C} {X wc w1 pl : va_W} {H H1 : Heap} (hP : va_P D cl (X ++ pl) H) (hD : va_D A0 (X ++ pl)) (is : List Nat) (hC : is.map (fun i => X[i]?) = wc.map some) (hk : ∀ q : Nat, q < H.size → ¬ va_A wc H.size q → H1[q]? = H[q]?) (hP1 : va_P D cl w1 H1) (ha : w1.map Prod.fst = wc.map Prod.fst) : va_P D cl (wmix is w1 0 X ++ pl) H1 ∧ va_D A0 (wmix is w1 0 X ++ pl) := by
  have l1 : is.length = wc.length := by
    have := congrArg List.length hC
    simpa using this
  have l2 : w1.length = wc.length := by
    have := congrArg List.length ha
    simpa using this
  have l3 : (wmix is w1 0 X).length = X.length := by
    have h : ∀ (t : va_W) (k : Nat), (wmix is w1 k t).length = t.length := by
      intro t
      induction t with
      | nil => intro k; rfl
      | cons c t ih => intro k; show (wmix is w1 (k + 1) t).length + 1 = t.length + 1; rw [ih]
    exact h X 0
  have out : ∀ (k : Nat) (q : Nat × va_E), (X ++ pl)[k]? = some q → k ∉ is → va_at D cl q H1 := by
    intro k q hq hn
    have hl := (hP k q hq).lt
    refine (hP k q hq).kept (hk q.1 hl (fun h => ?_))
    rcases h with ⟨k2, e, h⟩ | h
    · obtain ⟨i, h1, h2⟩ := va_in_of is (vx_lift (pl := pl) hC) h
      have hij := hD.1 k i q (q.1, e) hq h2 rfl
      subst hij
      exact hn (List.mem_of_getElem? h1)
    · omega
  have key : ∀ (k : Nat) (q : Nat × va_E), (wmix is w1 0 X ++ pl)[k]? = some q → ∃ q0, (X ++ pl)[k]? = some q0 ∧ q0.1 = q.1 ∧ va_at D cl q H1 := by
    intro k q hq
    by_cases hl : k < X.length
    · rw [List.getElem?_append_left (by rw [l3]; exact hl), wmix_at, Nat.zero_add] at hq
      obtain ⟨c, hc⟩ : ∃ c, X[k]? = some c := ⟨_, List.getElem?_eq_getElem hl⟩
      have hc' : (X ++ pl)[k]? = some c := by rw [List.getElem?_append_left hl]; exact hc
      rw [hc] at hq
      have hq : (wlk k is w1).getD c = q := Option.some.inj hq
      cases hw : wlk k is w1 with
      | none =>
        rw [hw] at hq
        have hq : c = q := hq
        subst hq
        exact ⟨c, hc', rfl, out k c hc' (wlk_none hw (by omega))⟩
      | some x =>
        rw [hw] at hq
        have hq : x = q := hq
        subst hq
        obtain ⟨j, h1, h2⟩ := wlk_some hw
        have h3 : (is.map (fun i => X[i]?))[j]? = some (some c) := by rw [List.getElem?_map, h1]; exact congrArg some hc
        rw [hC, List.getElem?_map] at h3
        have h4 : (w1.map Prod.fst)[j]? = some x.1 := by rw [List.getElem?_map, h2]; rfl
        rw [ha, List.getElem?_map] at h4
        cases hw2 : wc[j]? with
        | none => rw [hw2] at h3; cases h3
        | some y =>
          rw [hw2] at h3 h4
          have e1 : y = c := Option.some.inj (Option.some.inj h3)
          have e2 : y.1 = x.1 := Option.some.inj h4
          exact ⟨c, hc', by rw [← e1]; exact e2, hP1 j x h2⟩
    · rw [List.getElem?_append_right (by rw [l3]; omega), l3] at hq
      have hq' : (X ++ pl)[k]? = some q := by rw [List.getElem?_append_right (by omega)]; exact hq
      refine ⟨q, hq', rfl, out k q hq' (fun hin => ?_)⟩
      have h : X[k]? ∈ wc.map some := by
        rw [← hC]
        exact List.mem_map.mpr ⟨k, hin, rfl⟩
      obtain ⟨c, _, e⟩ := List.mem_map.mp h
      exact hl (List.getElem?_eq_some_iff.mp e.symm).1
  refine ⟨fun k q hq => ?_, fun i j x y hx hy hxy => ?_, fun k q hq => ?_⟩
  · obtain ⟨_, _, _, h⟩ := key k q hq
    exact h
  · obtain ⟨x0, h1, h2, _⟩ := key i x hx
    obtain ⟨y0, h3, h4, _⟩ := key j y hy
    exact hD.1 i j x0 y0 h1 h3 (h2.trans (hxy.trans h4.symm))
  · obtain ⟨q0, h1, h2, _⟩ := key k q hq
    rw [← h2]
    exact hD.2 k q0 h1
theorem wmix_map {X V w1 : va_W} {is1 is2 : List Nat} (hd : ∀ i ∈ is2, i ∉ is1) (h0 : is2.map (fun i => X[i]?) = V.map some) : is2.map (fun i => (wmix is1 w1 0 X)[i]?) = V.map some := by
  rw [← h0]
  apply List.map_congr_left
  intro i hi
  rw [wmix_at, Nat.zero_add, wlk_ne (hd i hi)]
  cases X[i]? <;> rfl
