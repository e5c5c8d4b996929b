/-! THE CLAIM OUT OF ONE WALK OF THE LAW'S BODY. Your part is whole_start (and what it stands on); all else here is the same for every law, but numbers. -/
def R_law : String := "LeftQuillsLaw"
def lw_P (b : Addr) (xs : List Int32) (args : Array Value) (s : State) : Prop := args = #[.ref b] ∧ s.IntsAt b xs ∧ xs.length ≤ 4 ∧ (Jvm.Cond.and given_1 narrow_1).before args s = true
def lw_Q (_ : Array Value) (s : State) (o : Outcome) (t : State) : Prop := o = .returned (some (.int 1)) ∧ Framed s o t [] 600000 7302250
def lw_Z (below : List Frame) (a : Array Value) (s : State) : State → Prop := fun t => ∃ o, t.status = .running ∧ Ended t below o ∧ lw_Q a s o t
/-- the law's own end, with 1 on the stack, nothing written that was there before, its room as the claim has it -/
theorem lw_ret {p : Program} {l : Launch} {e : Env} {s : State} {m : MethodId} {below : List Frame} {meth : Method} {c : Code} {b : Nat} (hx : p.tables.exec = Jvm.exec) (hb : c.code = code) (hr : meth.sig.returnType = ret) (hlocks : meth.locks = false) {pc : Nat} {H : Heap} {ls : Array Slot} (hdg : decode code pc = .ok (.ireturn, 1)) : W p l e room_1 s m #[Value.ref b] below meth c H [] 600000 7302250 (lw_Z below #[Value.ref b] s) (F0 m pc ls [.int 1]) := by
  intro T hT X
  obtain ⟨fs, hret, hrun, hended, hW, hframe⟩ := X.leave (v := some (.int 1)) (hlocks := hlocks) (fun h => by rw [hr] at h; cases h)
  have hmeth' : T.vm.method? m = some meth := X.method'
  refine ⟨T.setFrames fs, ?_, .returned (some (.int 1)), hrun, hended, rfl, ⟨_, rfl⟩, hW, hframe⟩
  jvm_step X.here [X.here.top, hx, hb, hdg, hmeth', hr, ret, narrow_b1]
  (try refine ⟨rfl, ?_⟩); (try refine ⟨rfl, ?_⟩)
  first | (intro acts; rw [hret _ acts rfl rfl rfl]) | rw [hret _ _ rfl rfl rfl]
  exact Steps.refl _
/-- what holds at the law's entry: the machine, the code, the tables' words (any of lw_tbl by 'hts w (by decide +kernel)'), the script of L ints xs at the cell b, what the Statement gives of the start (any of its parts by flat_of_before) -/
def lw_At (p : Program) (s : State) (m : MethodId) (meth : Method) (c : Code) (b L : Nat) (xs : Nat → Int32) : Prop :=
  p.tables.exec = Jvm.exec ∧ c.code = code ∧ meth.sig.returnType = ret ∧ c.maxLocals = 4 ∧ s.vm.findClass R_law = some m.cls ∧ (∀ w ∈ lw_tbl, w.before #[Value.ref b] s = true) ∧ va_X b L xs s s.heap ∧ b < s.heap.size ∧ meth.locks = false ∧ (Jvm.Cond.and given_1 narrow_1).before #[Value.ref b] s = true
theorem x_in29 {w : Int32} (c : ¬ (w.toInt < 0 ∨ 29 < w.toInt)) : w = 0 ∨ w = 1 ∨ w = 2 ∨ w = 3 ∨ w = 4 ∨ w = 5 ∨ w = 6 ∨ w = 7 ∨ w = 8 ∨ w = 9 ∨ w = 10 ∨ w = 11 ∨ w = 12 ∨ w = 13 ∨ w = 14 ∨ w = 15 ∨ w = 16 ∨ w = 17 ∨ w = 18 ∨ w = 19 ∨ w = 20 ∨ w = 21 ∨ w = 22 ∨ w = 23 ∨ w = 24 ∨ w = 25 ∨ w = 26 ∨ w = 27 ∨ w = 28 ∨ w = 29 := by
  have h : w.toInt = 0 ∨ w.toInt = 1 ∨ w.toInt = 2 ∨ w.toInt = 3 ∨ w.toInt = 4 ∨ w.toInt = 5 ∨ w.toInt = 6 ∨ w.toInt = 7 ∨ w.toInt = 8 ∨ w.toInt = 9 ∨ w.toInt = 10 ∨ w.toInt = 11 ∨ w.toInt = 12 ∨ w.toInt = 13 ∨ w.toInt = 14 ∨ w.toInt = 15 ∨ w.toInt = 16 ∨ w.toInt = 17 ∨ w.toInt = 18 ∨ w.toInt = 19 ∨ w.toInt = 20 ∨ w.toInt = 21 ∨ w.toInt = 22 ∨ w.toInt = 23 ∨ w.toInt = 24 ∨ w.toInt = 25 ∨ w.toInt = 26 ∨ w.toInt = 27 ∨ w.toInt = 28 ∨ w.toInt = 29 := by omega
  simp only [fa_eq]
  exact h
set_option maxRecDepth 20000 in
theorem law_K {s : State} {b : Nat} (hts : ∀ w ∈ lw_tbl, w.before #[Value.ref b] s = true) : ∃ (dC : Nat → ClassId) (dI : Nat → Nat → Nat) (cI cZ cQ : ClassId), va_K (dC, dI) vwCl (tys0 cI cZ cQ) s ∧ xN s := by
  obtain ⟨c0, iS0, hKn0⟩ := u_known (C := RX0) (T := TX0) (N := 3) (n := 3) hts inX0 (hts (.instantiable RX0 3) (wsL_law_in _ (by decide +kernel)))
  obtain ⟨c1, iS1, hKn1⟩ := u_known (C := RX1) (T := TX1) (N := 8) (n := 8) hts inX1 (hts (.instantiable RX1 8) (wsL_law_in _ (by decide +kernel)))
  obtain ⟨c2, iS2, hKn2⟩ := u_known (C := RX2) (T := TX2) (N := 5) (n := 5) hts inX2 (hts (.instantiable RX2 5) (wsL_law_in _ (by decide +kernel)))
  obtain ⟨c3, iS3, hKn3⟩ := u_known (C := RX3) (T := TX3) (N := 3) (n := 3) hts inX3 (hts (.instantiable RX3 3) (wsL_law_in _ (by decide +kernel)))
  obtain ⟨c4, iS4, hKn4⟩ := u_known (C := RX4) (T := TX4) (N := 3) (n := 3) hts inX4 (hts (.instantiable RX4 3) (wsL_law_in _ (by decide +kernel)))
  obtain ⟨c5, iS5, hKn5⟩ := u_known (C := RX5) (T := TX5) (N := 13) (n := 13) hts inX5 (hts (.instantiable RX5 13) (wsL_law_in _ (by decide +kernel)))
  obtain ⟨c6, iS6, hKn6⟩ := u_known (C := RX6) (T := TX6) (N := 7) (n := 7) hts inX6 (hts (.instantiable RX6 7) (wsL_law_in _ (by decide +kernel)))
  obtain ⟨c7, iS7, hKn7⟩ := u_known (C := RX7) (T := TX7) (N := 7) (n := 7) hts inX7 (hts (.instantiable RX7 7) (wsL_law_in _ (by decide +kernel)))
  obtain ⟨c8, iS8, hKn8⟩ := u_known (C := RX8) (T := TX8) (N := 6) (n := 6) hts inX8 (hts (.instantiable RX8 6) (wsL_law_in _ (by decide +kernel)))
  obtain ⟨c9, iS9, hKn9⟩ := u_known (C := RX9) (T := TX9) (N := 3) (n := 3) hts inX9 (hts (.instantiable RX9 3) (wsL_law_in _ (by decide +kernel)))
  obtain ⟨c10, iS10, hKn10⟩ := u_known (C := RX10) (T := TX10) (N := 14) (n := 14) hts inX10 (hts (.instantiable RX10 14) (wsL_law_in _ (by decide +kernel)))
  obtain ⟨c11, iS11, hKn11⟩ := u_known (C := RX11) (T := TX11) (N := 46) (n := 46) hts inX11 (hts (.instantiable RX11 46) (wsL_law_in _ (by decide +kernel)))
  obtain ⟨cI, kI, pI, i1, i2, i3⟩ := Cond.arrayClass_spec (hts (.arrayClass .int) (List.mem_of_getElem? (i := 158) (by decide +kernel)))
  obtain ⟨cZ, kZ, pZ, z1, z2, z3⟩ := Cond.arrayClass_spec (hts (.arrayClass .boolean) (List.mem_of_getElem? (i := 278) (by decide +kernel)))
  have hao : (Cond.arrayOver (.object RX1)).before #[Value.ref b] s = true := hts _ (List.mem_of_getElem? (i := 244) (by decide +kernel))
  obtain ⟨pQ, cQ, kQ, q1, q2, q3, q4, q5⟩ := Cond.arrayOver_spec hao
  refine ⟨fun k => match k with | 0 => c0 | 1 => c1 | 2 => c2 | 3 => c3 | 4 => c4 | 5 => c5 | 6 => c6 | 7 => c7 | 8 => c8 | 9 => c9 | 10 => c10 | _ => c11, fun k => match k with | 0 => iS0 | 1 => iS1 | 2 => iS2 | 3 => iS3 | 4 => iS4 | 5 => iS5 | 6 => iS6 | 7 => iS7 | 8 => iS8 | 9 => iS9 | 10 => iS10 | _ => iS11, cI, cZ, cQ, ⟨?_, ?_⟩, ?_⟩
  · intro k q hq
    match k, hq with
    | 0, hq => cases hq; exact hKn0
    | 1, hq => cases hq; exact hKn1
    | 2, hq => cases hq; exact hKn2
    | 3, hq => cases hq; exact hKn3
    | 4, hq => cases hq; exact hKn4
    | 5, hq => cases hq; exact hKn5
    | 6, hq => cases hq; exact hKn6
    | 7, hq => cases hq; exact hKn7
    | 8, hq => cases hq; exact hKn8
    | 9, hq => cases hq; exact hKn9
    | 10, hq => cases hq; exact hKn10
    | 11, hq => cases hq; exact hKn11
    | k + 12, hq => simp [vwCl] at hq
  · intro k q hq
    match k, hq with
    | 0, hq => cases hq; exact ⟨fun n z => ⟨(fun k h => by cases h), kI, i2, pI, i3⟩, i1⟩
    | 1, hq => cases hq; exact ⟨fun n z => ⟨(fun k h => by cases h), kZ, z2, pZ, z3⟩, z1⟩
    | 2, hq => cases hq; exact ⟨fun n z => ⟨(fun k h => by cases h), kQ, q3, pQ, q4⟩, kQ, pQ, q3, q4, q1, q5⟩
    | k + 3, hq => simp [tys0] at hq
  · exact ⟨va_AO.of hao, va_Nw.of rfl (hts (.methodLinkNest RX10 25 yX5_init RX10) (List.mem_of_getElem? (i := 85) (by decide +kernel))), va_Nw.of rfl (hts (.methodLinkNest RX10 32 yX7_init RX10) (List.mem_of_getElem? (i := 161) (by decide +kernel))), va_Nw.of rfl (hts (.methodLinkNest RX10 94 yX0_init RX10) (List.mem_of_getElem? (i := 380) (by decide +kernel))), va_Nw.of rfl (hts (.methodLinkNest RX7 11 yX5_init RX10) (List.mem_of_getElem? (i := 166) (by decide +kernel)))⟩
/-- behind the call: the script is at its end, the law answers 1 -/
theorem law_end {p : Program} {e : Env} {s : State} {m : MethodId} {below : List Frame} {meth : Method} {c : Code} (l : Launch) {b : Nat} {xs : Nat → Int32} (C0 : lw_At p s m meth c b 4 xs) {H : Heap} {locs : List Loc} {cells slots : Nat} (hc : cells ≤ 600000) (hs : slots ≤ 7302250) (hS : va_S (fun q : Nat => s.heap.size ≤ q) s.heap H locs) {ls : Array Slot} (hl : lv_has ls 4 [(3, .int 0), (0, .ref b)]) : W p l e room_1 s m #[Value.ref b] below meth c H locs cells slots (lw_Z below #[Value.ref b] s) (F0 m 928 ls []) := by
  obtain ⟨hx, hb, hr, hml, hown, hts, hX, hbl, hlocks, hgv⟩ := id C0
  have hbA : ¬ (fun q : Nat => s.heap.size ≤ q) b := Nat.not_le.mpr hbl
  refine lv_iinc (v := 4) (lv' := [(3, .int 4), (0, .ref b)]) hx hb dL_law_928 hl (k := 0) rfl (by decide) (by decide) rfl (fun ls hl => ?_)
  refine lv_goto (tgt := 18) hx hb dL_law_931 (by decide) ?_
  refine lv_iload_n hx hb dL_law_18 rfl (lv_at hl 0 rfl) ?_
  refine lv_aload_n hx hb dL_law_19 rfl (lv_at hl 1 rfl) ?_
  refine va_slen hx hb hX hbl hbA hS dL_law_20 ?_
  refine lv_iconst (v := 4) hx hb dL_law_21 (by decide) ?_
  refine lv_isub hx hb dL_law_22 ?_
  refine lv_topi (fun z ez => ?_)
  obtain rfl : z = 0 := ez.trans (by decide)
  refine lv_icmp_gt (tgt := 934) hx hb dL_law_23 (by decide) (fun c1 => ?_) (fun c1 => absurd (by decide) c1)
  refine lv_iconst (v := 1) hx hb dL_law_934 (by decide) ?_
  refine va_forget (fun q hq => hS.2.2 q hq) ?_
  refine W.widen (k := 600000) (n := 7302250) hc hs ?_
  exact lw_ret hx hb hr hlocks dL_law_935
/-- the cells of the class and of the reference, as they are when made -/
abbrev lawW (cI cZ cQ : ClassId) (h0 h1 : Nat) (u w : Nat → Nat) : va_W := [(h0, .inr (10, [.ref (u 0), .int 0, .int (-1), .int 0, .ref (u 1), .ref (u 2), .ref (u 3), .ref (u 4), .ref (u 5), .ref (u 6), .ref (u 7), .ref (u 8), .ref (u 9), .ref (u 10)])), ((u 0), .inl (cI, 220, .inl (fun _ => 0))), ((u 1), .inr (5, [.int 0, .int 0, .int 0, .int 0, .int 0, .ref (u 11), .ref (u 12), .ref (u 13), .ref (u 14), .ref (u 15), .ref (u 16), .ref (u 17), .ref (u 18)])), ((u 11), .inl (cI, 8, .inl (fun _ => 0))), ((u 12), .inl (cI, 8, .inl (fun _ => 0))), ((u 13), .inl (cI, 8, .inl (fun _ => 0))), ((u 14), .inl (cI, 8, .inl (fun _ => 0))), ((u 15), .inl (cI, 8, .inl (fun _ => 0))), ((u 16), .inl (cI, 4, .inl (fun _ => 0))), ((u 17), .inl (cI, 4, .inl (fun _ => 0))), ((u 18), .inl (cI, 4, .inl (fun _ => 0))), ((u 2), .inr (7, [.ref (u 19), .int (-1), .ref (u 20), .ref (u 21), .int 0, .int 0, .int 0])), ((u 21), .inl (cI, 220, .inl (fun _ => 0))), ((u 19), .inr (5, [.int 0, .int 0, .int 0, .int 0, .int 0, .ref (u 22), .ref (u 23), .ref (u 24), .ref (u 25), .ref (u 26), .ref (u 27), .ref (u 28), .ref (u 29)])), ((u 22), .inl (cI, 8, .inl (fun _ => 0))), ((u 23), .inl (cI, 8, .inl (fun _ => 0))), ((u 24), .inl (cI, 8, .inl (fun _ => 0))), ((u 25), .inl (cI, 8, .inl (fun _ => 0))), ((u 26), .inl (cI, 8, .inl (fun _ => 0))), ((u 27), .inl (cI, 4, .inl (fun _ => 0))), ((u 28), .inl (cI, 4, .inl (fun _ => 0))), ((u 29), .inl (cI, 4, .inl (fun _ => 0))), ((u 3), .inr (1, [.int 0, .int 0, .ref (u 30), .ref (u 31), .ref (u 32), .ref (u 33), .ref (u 34), .ref (u 1)])), ((u 30), .inl (cI, 8, .inl (fun _ => 0))), ((u 31), .inl (cI, 8, .inl (fun _ => 0))), ((u 32), .inl (cI, 8, .inl (fun _ => 0))), ((u 33), .inl (cI, 4, .inl (fun _ => 0))), ((u 34), .inl (cI, 4, .inl (fun _ => 0))), ((u 4), .inr (3, [.ref (u 35), .int 0, .int 0])), ((u 5), .inr (4, [.ref (u 36), .ref (u 37), .ref (u 38)])), ((u 36), .inl (cQ, 2, .inr (.inr (.inr (.inr (va_up (va_up (fun _ => none) (0 : Int32).toNatClampNeg (some (u 39))) (1 : Int32).toNatClampNeg (some (u 40)))))))), ((u 37), .inl (cI, 2, .inl (fun _ => 0))), ((u 38), .inl (cZ, 2, .inl (fun _ => 0))), ((u 39), .inr (1, [.int 0, .int 0, .ref (u 41), .ref (u 42), .ref (u 43), .ref (u 44), .ref (u 45), .ref (u 1)])), ((u 41), .inl (cI, 8, .inl (fun _ => 0))), ((u 42), .inl (cI, 8, .inl (fun _ => 0))), ((u 43), .inl (cI, 8, .inl (fun _ => 0))), ((u 44), .inl (cI, 4, .inl (fun _ => 0))), ((u 45), .inl (cI, 4, .inl (fun _ => 0))), ((u 40), .inr (1, [.int 0, .int 0, .ref (u 46), .ref (u 47), .ref (u 48), .ref (u 49), .ref (u 50), .ref (u 1)])), ((u 46), .inl (cI, 8, .inl (fun _ => 0))), ((u 47), .inl (cI, 8, .inl (fun _ => 0))), ((u 48), .inl (cI, 8, .inl (fun _ => 0))), ((u 49), .inl (cI, 4, .inl (fun _ => 0))), ((u 50), .inl (cI, 4, .inl (fun _ => 0))), ((u 6), .inr (9, [.ref (u 1), .ref (u 3), .ref (u 51)])), ((u 7), .inr (8, [.int (-1), .ref (u 52), .ref (u 1), .ref (u 6), .ref (u 53), .ref (u 54)])), ((u 52), .inl (cI, 4, .inl (fun _ => 0))), ((u 53), .inl (cI, 4, .inl (fun _ => 0))), ((u 9), .inr (2, [.int 0, .ref (u 1), .ref (u 55), .ref (u 56), .ref (u 57)])), ((u 10), .inr (0, [.int 0, .ref (u 58), .ref (u 59)])), (h1, .inr (11, [.int 0, .int 0, .int 0, .ref (w 0), .ref (w 1), .ref (w 2), .int 0, .ref (w 3), .ref (w 4), .ref (w 5), .ref (w 6), .int 0, .ref (w 7), .int 0, .int (-1), .int 0, .int 0, .int 0, .ref (w 8), .int 0, .ref (w 9), .ref (w 10), .ref (w 11), .ref (w 12), .ref (w 13), .int 0, .ref (w 14), .ref (w 15), .ref (w 16), .int 0, .ref (w 17), .int 0, .int 0, .ref (w 18), .int 0, .int 0, .ref (w 19), .int 0, .ref (w 20), .ref (w 21), .ref (w 22), .int 0, .ref (w 23), .ref (w 24), .ref (w 25), .ref (w 26)])), ((w 6), .inl (cI, 34, .inl (fun _ => 0))), ((w 7), .inl (cI, 220, .inl (fun _ => 0))), ((w 8), .inl (cI, 2, .inl (fun _ => 0))), ((w 25), .inl (cI, 70, .inl (fun _ => 0))), ((w 26), .inl (cZ, 2, .inl (fun _ => 0)))]
