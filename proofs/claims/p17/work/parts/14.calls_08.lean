set_option maxHeartbeats 4000000 in
set_option maxRecDepth 100000 in
theorem c_X10_whose (l : Launch) (dC : Nat → ClassId) (dI : Nat → Nat → Nat) (cI cZ cQ : ClassId) (h0 : Nat) (x12 : Nat) (f_h0 : List Value) (n : Nat) (x4 : Nat) (e2 : Nat) (e3 : Nat) (e4 : Nat) (f_x12 : List Value) (fe2 : Nat → Int32) (fe3 : Nat → Int32) (fe4 : Nat → Int32) (o5 : Nat) (o6 : Nat) (o7 : Nat) (o10 : Nat) (o11 : Nat) (o12 : Nat) (nq : Nat) (nh : Nat) (f_x4 : List Value) (fo5 : Nat → Int32) (fo6 : Nat → Int32) (fo7 : Nat → Int32) (fo10 : Nat → Int32) (fo11 : Nat → Int32) (sz : Nat) (e_h0_12 : f_h0[12]? = some (.ref x12)) (e_x12_0 : f_x12[0]? = some (.int (nI n))) (e_x12_1 : f_x12[1]? = some (.ref x4)) (e_x12_2 : f_x12[2]? = some (.ref e2)) (e_x12_3 : f_x12[3]? = some (.ref e3)) (e_x12_4 : f_x12[4]? = some (.ref e4)) (e_x4_5 : f_x4[5]? = some (.ref o5)) (e_x4_6 : f_x4[6]? = some (.ref o6)) (e_x4_7 : f_x4[7]? = some (.ref o7)) (e_x4_10 : f_x4[10]? = some (.ref o10)) (e_x4_11 : f_x4[11]? = some (.ref o11)) (e_x4_12 : f_x4[12]? = some (.ref o12)) (e_x4_3 : f_x4[3]? = some (.int (nI nq))) (e_x4_4 : f_x4[4]? = some (.int (nI nh))) (hnq : nq ≤ 8) (hnh : nh ≤ 4) (hn : n ≤ 6) (hqi : qIn fe2 n) : Met l yX10_whose wsX10_whose ({ frames := 4, cells := 0, slots := 0, locals := 129 }) (va_Pc [.ref h0] (fun U => U.heap.size = sz ∧ va_P (dC, dI) vwCl [(h0, .inr (10, f_h0)), (x12, .inr (2, f_x12)), (e2, .inl (cI, 6, .inl fe2)), (e3, .inl (cI, 6, .inl fe3)), (e4, .inl (cI, 6, .inl fe4)), (x4, .inr (5, f_x4)), (o5, .inl (cI, 8, .inl fo5)), (o6, .inl (cI, 8, .inl fo6)), (o7, .inl (cI, 8, .inl fo7)), (o10, .inl (cI, 4, .inl fo10)), (o11, .inl (cI, 4, .inl fo11))] U.heap ∧ va_K (dC, dI) vwCl (tys0 cI cZ cQ) U ∧ xN U)) (va_Qi (fun (r : Int32) (u : Nat → Nat) => True) (fun (_ : Nat → Nat) (_ : State) => True) (fun _ : Nat => False)) 0 0 (fun _ : Nat => False) := by
  refine Met.ofW (cc := cX10_whose) (maxL := 1) (ret := (some .int)) (by decide) rfl ?_
  intro p e s m args below meth c s₁ B hml hv
  obtain ⟨rfl, hsz, hP, hK, hN⟩ := hv
  have hx := B.exec
  have hb := B.bytes
  have hr := B.returns
  have hts := atoms_spec (ws := wsX10_whose) B.pre
  have hown : s.vm.findClass RX10 = some m.cls := findClass_of_methodNamed B.named
  have hlocks := B.notSynchronized
  have hi_X10 : ∀ w ∈ u_ws RX10 TX10 14, w ∈ wsX10_whose := fun _ h => List.mem_cons_of_mem _ (List.mem_append_left _ (List.mem_append_left _ (List.mem_append_right _ (h))))
  subst hsz
  have hS : va_S (fun _ : Nat => False) s.heap s.heap [] := va_S.rf
  have hl := lv_entry ([.ref h0]) (n := 1) (Nat.le_of_ble_eq_true rfl)
  rw [lg_entry_eq]
  generalize (lg_sl ([.ref h0]) ++ List.replicate (1 - (lg_sl ([.ref h0])).length) Slot.unset).toArray = ls at hl ⊢
  have hl : lv_has ls 1 [(0, .ref h0)] := hl
  refine lv_aload_n hx hb dX10_whose_0 rfl (lv_at hl 0 rfl) ?_
  refine va_get (D := (dC, dI)) (ci := 10) (v := .ref x12) (C := RX10) (T := TX10) (N := 14) hx hb hts hi_X10 hown hK hP 0 rfl rfl 12 (by decide) (hts (.fieldLink RX10 88 "LeftQuills" "evidence" "LLeftQuills$Evidence;") (wmx 1 rfl)) (fun _ h9 => h9) e_h0_12 dX10_whose_1 ?_
  have hPc := hP.sub (ws' := [(x12, .inr (2, f_x12)), (e2, .inl (cI, 6, .inl fe2)), (e3, .inl (cI, 6, .inl fe3)), (e4, .inl (cI, 6, .inl fe4)), (x4, .inr (5, f_x4)), (o5, .inl (cI, 8, .inl fo5)), (o6, .inl (cI, 8, .inl fo6)), (o7, .inl (cI, 8, .inl fo7)), (o10, .inl (cI, 4, .inl fo10)), (o11, .inl (cI, 4, .inl fo11))]) [1, 2, 3, 4, 5, 6, 7, 8, 9, 10] rfl
  refine va_calli (va_runV (As := []) (rest := []) ⟨hx, hb, hml, hown, hts⟩ (c_X2_fittingHands l dC dI cI cZ cQ x12 n x4 e2 e3 e4 f_x12 fe2 fe3 fe4 o5 o6 o7 o10 o11 o12 nh f_x4 fo5 fo6 fo7 fo10 fo11 s.heap.size e_x12_0 e_x12_1 e_x12_2 e_x12_3 e_x12_4 e_x4_5 e_x4_6 e_x4_7 e_x4_10 e_x4_11 e_x4_12 e_x4_4 (by omega) (by omega) (by first | assumption | decide)) (cwV 0 hts gX10_whose_X2_fittingHands rfl rfl rfl (by decide +kernel) ⟨Nat.le_of_ble_eq_true rfl, Nat.le_of_ble_eq_true rfl⟩) ⟨fun a U g mk q => by obtain ⟨q0, q1, qP, qK, qN⟩ := q; exact ⟨q0, q1, qP, va_K.moved (u := U) (U := U.calling g mk a) (Vm.Alike.refl U.vm) qK, qN.calling⟩, va_recv hK hP (ci := 2) (q0 := 1) rfl rfl, fun U hU hW => ⟨rfl, by rw [hU], by rw [hU]; exact hPc, va_K.moved hW.alike hK, hN.warm hW⟩⟩ rfl rfl hl.1 rfl (lv_room (Nat.le_of_ble_eq_true rfl)) dX10_whose_4 ⟨Nat.le_of_ble_eq_true rfl, Nat.le_of_ble_eq_true rfl⟩) hS (fun q _ h => False.elim h) (fun q h => False.elim h) (fun r1 u2 t H1 locs ht hvm hw3 hB hz1 hk1 hS => ?_)
  have hP := hP.kept (fun k q hk => hk1 q.1 (hP k q hk).lt (fun h => h))
  clear hz1 hk1 hPc
  generalize H1 = H at hP hS ht ⊢
  try dsimp only at hw3
  exact W.iret (v := r1) hx hb hr (fun t ht hW => ⟨⟨r1, (fun _ => 0), rfl, trivial, trivial⟩, hS.F ht⟩) hS.2.2 dX10_whose_7
