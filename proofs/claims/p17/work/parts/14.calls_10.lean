set_option maxHeartbeats 4000000 in
set_option maxRecDepth 100000 in
theorem c_X10_judge (l : Launch) (dC : Nat → ClassId) (dI : Nat → Nat → Nat) (cI cZ cQ : ClassId) (h0 : Nat) (x6 : Nat) (x13 : Nat) (f_h0 : List Value) (n : Nat) (b1 : Nat) (b2 : Nat) (f_x13 : List Value) (fb1 : Nat → Int32) (fb2 : Nat → Int32) (a4 : Nat) (f_x6 : List Value) (fa4 : Nat → Int32) (sz : Nat) (e_h0_6 : f_h0[6]? = some (.ref x6)) (e_h0_13 : f_h0[13]? = some (.ref x13)) (e_x13_0 : f_x13[0]? = some (.int (nI n))) (e_x13_1 : f_x13[1]? = some (.ref b1)) (e_x13_2 : f_x13[2]? = some (.ref b2)) (e_x6_4 : f_x6[4]? = some (.ref a4)) (hn : n ≤ 15) (hqi : qIn fb1 n) : Met l yX10_judge wsX10_judge ({ frames := 1, cells := 0, slots := 0, locals := 62 }) (va_Pc [.ref h0] (fun U => U.heap.size = sz ∧ va_P (dC, dI) vwCl [(h0, .inr (10, f_h0)), (x13, .inr (0, f_x13)), (b1, .inl (cI, 15, .inl fb1)), (b2, .inl (cI, 15, .inl fb2)), (x6, .inr (1, f_x6)), (a4, .inl (cI, 8, .inl fa4))] U.heap ∧ va_K (dC, dI) vwCl (tys0 cI cZ cQ) U)) (va_Qi (fun (r : Int32) (u : Nat → Nat) => True) (fun (_ : Nat → Nat) (_ : State) => True) (fun _ : Nat => False)) 0 0 (fun _ : Nat => False) := by
  refine Met.ofW (cc := cX10_judge) (maxL := 1) (ret := (some .int)) (by decide) rfl ?_
  intro p e s m args below meth c s₁ B hml hv
  obtain ⟨rfl, hsz, hP, hK⟩ := hv
  have hx := B.exec
  have hb := B.bytes
  have hr := B.returns
  have hts := atoms_spec (ws := wsX10_judge) B.pre
  have hown : s.vm.findClass RX10 = some m.cls := findClass_of_methodNamed B.named
  have hlocks := B.notSynchronized
  have hi_X10 : ∀ w ∈ u_ws RX10 TX10 14, w ∈ wsX10_judge := fun _ h => List.mem_cons_of_mem _ (List.mem_append_left _ (List.mem_append_left _ (List.mem_append_right _ (h))))
  subst hsz
  have hS : va_S (fun _ : Nat => False) s.heap s.heap [] := va_S.rf
  have hl := lv_entry ([.ref h0]) (n := 1) (Nat.le_of_ble_eq_true rfl)
  rw [lg_entry_eq]
  generalize (lg_sl ([.ref h0]) ++ List.replicate (1 - (lg_sl ([.ref h0])).length) Slot.unset).toArray = ls at hl ⊢
  have hl : lv_has ls 1 [(0, .ref h0)] := hl
  refine lv_aload_n hx hb dX10_judge_0 rfl (lv_at hl 0 rfl) ?_
  refine va_get (D := (dC, dI)) (ci := 10) (v := .ref x13) (C := RX10) (T := TX10) (N := 14) hx hb hts hi_X10 hown hK hP 0 rfl rfl 13 (by decide) (hts (.fieldLink RX10 95 "LeftQuills" "book" "LLeftQuills$Book;") (wmx 1 rfl)) (fun _ h9 => h9) e_h0_13 dX10_judge_1 ?_
  refine lv_aload_n hx hb dX10_judge_4 rfl (lv_at hl 0 rfl) ?_
  refine va_get (D := (dC, dI)) (ci := 10) (v := .ref x6) (C := RX10) (T := TX10) (N := 14) hx hb hts hi_X10 hown hK hP 0 rfl rfl 6 (by decide) (hts (.fieldLink RX10 42 "LeftQuills" "desk" "LLeftQuills$Desk;") (wmx 2 rfl)) (fun _ h9 => h9) e_h0_6 dX10_judge_5 ?_
  have hPc := hP.sub (ws' := [(x13, .inr (0, f_x13)), (b1, .inl (cI, 15, .inl fb1)), (b2, .inl (cI, 15, .inl fb2)), (x6, .inr (1, f_x6)), (a4, .inl (cI, 8, .inl fa4))]) [1, 2, 3, 4, 5] rfl
  refine va_calli (va_runV (As := [.ref x6]) (rest := []) ⟨hx, hb, hml, hown, hts⟩ (c_X0_firstWrong l dC dI cI cZ cQ x13 n b1 b2 f_x13 fb1 fb2 x6 a4 f_x6 fa4 s.heap.size e_x13_0 e_x13_1 e_x13_2 e_x6_4 (by omega) (by first | assumption | decide)) (cwV 1 hts gX10_judge_X0_firstWrong rfl rfl rfl (by decide +kernel) ⟨Nat.le_of_ble_eq_true rfl, Nat.le_of_ble_eq_true rfl⟩) ⟨fun a U g mk q => by obtain ⟨q0, q1, qP, qK⟩ := q; exact ⟨q0, q1, qP, va_K.moved (u := U) (U := U.calling g mk a) (Vm.Alike.refl U.vm) qK⟩, va_recv hK hP (ci := 0) (q0 := 1) rfl rfl, fun U hU hW => ⟨rfl, by rw [hU], by rw [hU]; exact hPc, va_K.moved hW.alike hK⟩⟩ rfl rfl hl.1 rfl (lv_room (Nat.le_of_ble_eq_true rfl)) dX10_judge_8 ⟨Nat.le_of_ble_eq_true rfl, Nat.le_of_ble_eq_true rfl⟩) hS (fun q _ h => False.elim h) (fun q h => False.elim h) (fun r1 u2 t H1 locs ht hvm hw3 hB hz1 hk1 hS => ?_)
  have hP := hP.kept (fun k q hk => hk1 q.1 (hP k q hk).lt (fun h => h))
  clear hz1 hk1 hPc
  generalize H1 = H at hP hS ht ⊢
  try dsimp only at hw3
  exact W.iret (v := r1) hx hb hr (fun t ht hW => ⟨⟨r1, (fun _ => 0), rfl, trivial, trivial⟩, hS.F ht⟩) hS.2.2 dX10_judge_11

