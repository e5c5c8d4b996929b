set_option maxHeartbeats 4000000 in
set_option maxRecDepth 100000 in
theorem c_X11_softBehindD (l : Launch) (dC : Nat → ClassId) (dI : Nat → Nat → Nat) (cI cZ cQ : ClassId) (h0 : Nat) (m3 : Nat) (m4 : Nat) (m5 : Nat) (m7 : Nat) (m8 : Nat) (f_h0 : List Value) (fm3 : Nat → Int32) (fm4 : Nat → Int32) (fm5 : Nat → Int32) (fm7 : Nat → Int32) (fm8 : Nat → Int32) (a0 : Int32) (j : Nat) (k : Nat) (nq : Nat) (sz : Nat) (e_h0_3 : f_h0[3]? = some (.ref m3)) (e_h0_4 : f_h0[4]? = some (.ref m4)) (e_h0_5 : f_h0[5]? = some (.ref m5)) (e_h0_7 : f_h0[7]? = some (.ref m7)) (e_h0_8 : f_h0[8]? = some (.ref m8)) (hnq : nq ≤ 8) (hci : cIn fm5 nq) (hj : j < nq) (hk : k < 4) : Met l yX11_softBehind wsX11_softBehind ({ frames := 2, cells := 0, slots := 0, locals := 85 }) (va_Pc [.ref h0, .int a0, .int (nI j), .int (nI k)] (fun U => U.heap.size = sz ∧ va_P (dC, dI) vwCl [(h0, .inr (11, f_h0)), (m3, .inl (cI, 8, .inl fm3)), (m4, .inl (cI, 8, .inl fm4)), (m5, .inl (cI, 8, .inl fm5)), (m7, .inl (cI, 4, .inl fm7)), (m8, .inl (cI, 4, .inl fm8))] U.heap ∧ va_K (dC, dI) vwCl (tys0 cI cZ cQ) U)) (va_Qi (fun (r : Int32) (u : Nat → Nat) => r = sbF a0 (wrF (fm3 j) (fm4 j) (fm5 j) (fm7 k) (fm8 k))) (fun (_ : Nat → Nat) (_ : State) => True) (fun _ : Nat => False)) 0 0 (fun _ : Nat => False) := by
  refine Met.ofW (cc := cX11_softBehind) (maxL := 5) (ret := (some .int)) (by decide) rfl ?_
  intro p e s m args below meth c s₁ B hml hv
  obtain ⟨rfl, hsz, hP, hK⟩ := hv
  have hx := B.exec
  have hb := B.bytes
  have hr := B.returns
  have hts := atoms_spec (ws := wsX11_softBehind) B.pre
  have hown : s.vm.findClass RX11 = some m.cls := findClass_of_methodNamed B.named
  have hlocks := B.notSynchronized
  subst hsz
  have hS : va_S (fun _ : Nat => False) s.heap s.heap [] := va_S.rf
  have hl := lv_entry ([.ref h0, .int a0, .int (nI j), .int (nI k)]) (n := 5) (Nat.le_of_ble_eq_true rfl)
  rw [lg_entry_eq]
  generalize (lg_sl ([.ref h0, .int a0, .int (nI j), .int (nI k)]) ++ List.replicate (5 - (lg_sl ([.ref h0, .int a0, .int (nI j), .int (nI k)])).length) Slot.unset).toArray = ls at hl ⊢
  have hl : lv_has ls 5 [(0, .ref h0), (1, .int a0), (2, .int (nI j)), (3, .int (nI k))] := hl
  refine lv_iload_n hx hb dX11_softBehind_0 rfl (lv_at hl 1 rfl) ?_
  refine lv_aload_n hx hb dX11_softBehind_1 rfl (lv_at hl 0 rfl) ?_
  refine lv_iload_n hx hb dX11_softBehind_2 rfl (lv_at hl 2 rfl) ?_
  refine lv_iload_n hx hb dX11_softBehind_3 rfl (lv_at hl 3 rfl) ?_
  have hPc := hP.sub (ws' := [(h0, .inr (11, f_h0)), (m3, .inl (cI, 8, .inl fm3)), (m4, .inl (cI, 8, .inl fm4)), (m5, .inl (cI, 8, .inl fm5)), (m7, .inl (cI, 4, .inl fm7)), (m8, .inl (cI, 4, .inl fm8))]) [0, 1, 2, 3, 4, 5] rfl
  refine va_calli (va_runV (As := [.int (nI j), .int (nI k)]) (rest := [.int a0]) ⟨hx, hb, hml, hown, hts⟩ (c_X11_wearsD l dC dI cI cZ cQ h0 m3 m4 m5 m7 m8 f_h0 fm3 fm4 fm5 fm7 fm8 j k nq s.heap.size e_h0_3 e_h0_4 e_h0_5 e_h0_7 e_h0_8 (by omega) (by first | assumption | decide) (by omega) (by omega)) (cwV 2 hts gX11_softBehind_X11_wears rfl rfl rfl (by decide +kernel) ⟨Nat.le_of_ble_eq_true rfl, Nat.le_of_ble_eq_true rfl⟩) ⟨fun a U g mk q => by obtain ⟨q0, q1, qP, qK⟩ := q; exact ⟨q0, q1, qP, va_K.moved (u := U) (U := U.calling g mk a) (Vm.Alike.refl U.vm) qK⟩, va_recv hK hP (ci := 11) (q0 := 0) rfl rfl, fun U hU hW => ⟨rfl, by rw [hU], by rw [hU]; exact hPc, va_K.moved hW.alike hK⟩⟩ rfl rfl hl.1 rfl (lv_room (Nat.le_of_ble_eq_true rfl)) dX11_softBehind_4 ⟨Nat.le_of_ble_eq_true rfl, Nat.le_of_ble_eq_true rfl⟩) hS (fun q _ h => False.elim h) (fun q h => False.elim h) (fun r1 u2 t H1 locs ht hvm hw3 hB hz1 hk1 hS => ?_)
  have hP := hP.kept (fun k q hk => hk1 q.1 (hP k q hk).lt (fun h => h))
  clear hz1 hk1 hPc
  generalize H1 = H at hP hS ht ⊢
  try dsimp only at hw3
  subst hw3
  refine lv_iadd hx hb dX11_softBehind_7 ?_
  refine lv_istore (lv' := [(4, .int (a0 + (wrF (fm3 j) (fm4 j) (fm5 j) (fm7 k) (fm8 k)))), (0, .ref h0), (1, .int a0), (2, .int (nI j)), (3, .int (nI k))]) hx hb dX11_softBehind_8 hl (by decide) rfl (fun ls hl => ?_)
  refine lv_iload hx hb dX11_softBehind_10 (lv_at hl 0 rfl) ?_
  refine lv_bipush (v := 99) hx hb dX11_softBehind_12 (by decide) ?_
  refine lv_icmp_ge (tgt := 22) hx hb dX11_softBehind_14 (by decide) (fun c4 => ?_) (fun c4 => ?_)
  ·
    refine lv_bipush (v := 99) hx hb dX11_softBehind_22 (by decide) ?_
    exact W.iret (v := 99) hx hb hr (fun t ht hW => ⟨⟨99, (fun _ => 0), rfl, ((if_neg (fa_len c4)).symm), trivial⟩, hS.F ht⟩) hS.2.2 dX11_softBehind_24
  ·
    refine lv_iload hx hb dX11_softBehind_17 (lv_at hl 0 rfl) ?_
    refine lv_goto (tgt := 24) hx hb dX11_softBehind_19 (by decide) ?_
    exact W.iret (v := a0 + (wrF (fm3 j) (fm4 j) (fm5 j) (fm7 k) (fm8 k))) hx hb hr (fun t ht hW => ⟨⟨a0 + (wrF (fm3 j) (fm4 j) (fm5 j) (fm7 k) (fm8 k)), (fun _ => 0), rfl, ((if_pos (fa_nle c4)).symm), trivial⟩, hS.F ht⟩) hS.2.2 dX11_softBehind_24
