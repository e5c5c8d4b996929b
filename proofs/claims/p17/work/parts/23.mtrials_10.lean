set_option maxHeartbeats 4000000 in
set_option maxRecDepth 100000 in
theorem c_X11_softAfter (l : Launch) (dC : Nat → ClassId) (dI : Nat → Nat → Nat) (cI cZ cQ : ClassId) (h0 : Nat) (m3 : Nat) (m4 : Nat) (m5 : Nat) (m7 : Nat) (m8 : Nat) (f_h0 : List Value) (fm3 : Nat → Int32) (fm4 : Nat → Int32) (fm5 : Nat → Int32) (fm7 : Nat → Int32) (fm8 : Nat → Int32) (j : Nat) (k : Nat) (mo : Nat) (nq : Nat) (sz : Nat) (e_h0_3 : f_h0[3]? = some (.ref m3)) (e_h0_4 : f_h0[4]? = some (.ref m4)) (e_h0_5 : f_h0[5]? = some (.ref m5)) (e_h0_7 : f_h0[7]? = some (.ref m7)) (e_h0_8 : f_h0[8]? = some (.ref m8)) (hnq : nq ≤ 8) (hci : cIn fm5 nq) (hj : j < nq) (hk : k < 4) (hmo : mo ≤ 9) : Met l yX11_softAfter wsX11_softAfter ({ frames := 3, cells := 0, slots := 0, locals := 109 }) (va_Pc [.ref h0, .int (nI j), .int (nI k), .int (nI mo)] (fun U => U.heap.size = sz ∧ va_P (dC, dI) vwCl [(h0, .inr (11, f_h0)), (m3, .inl (cI, 8, .inl fm3)), (m4, .inl (cI, 8, .inl fm4)), (m5, .inl (cI, 8, .inl fm5)), (m7, .inl (cI, 4, .inl fm7)), (m8, .inl (cI, 4, .inl fm8))] U.heap ∧ va_K (dC, dI) vwCl (tys0 cI cZ cQ) U)) (va_Qi (fun (r : Int32) (u : Nat → Nat) => True) (fun (_ : Nat → Nat) (_ : State) => True) (fun _ : Nat => False)) 0 0 (fun _ : Nat => False) := by
  refine Met.ofW (cc := cX11_softAfter) (maxL := 6) (ret := (some .int)) (by decide) rfl ?_
  intro p e s m args below meth c s₁ B hml hv
  obtain ⟨rfl, hsz, hP, hK⟩ := hv
  have hx := B.exec
  have hb := B.bytes
  have hr := B.returns
  have hts := atoms_spec (ws := wsX11_softAfter) B.pre
  have hown : s.vm.findClass RX11 = some m.cls := findClass_of_methodNamed B.named
  have hlocks := B.notSynchronized
  subst hsz
  have hS : va_S (fun _ : Nat => False) s.heap s.heap [] := va_S.rf
  have hl := lv_entry ([.ref h0, .int (nI j), .int (nI k), .int (nI mo)]) (n := 6) (Nat.le_of_ble_eq_true rfl)
  rw [lg_entry_eq]
  generalize (lg_sl ([.ref h0, .int (nI j), .int (nI k), .int (nI mo)]) ++ List.replicate (6 - (lg_sl ([.ref h0, .int (nI j), .int (nI k), .int (nI mo)])).length) Slot.unset).toArray = ls at hl ⊢
  have hl : lv_has ls 6 [(0, .ref h0), (1, .int (nI j)), (2, .int (nI k)), (3, .int (nI mo))] := hl
  refine lv_iconst (v := 0) hx hb dX11_softAfter_0 (by decide) ?_
  refine lv_istore (lv' := [(4, .int 0), (0, .ref h0), (1, .int (nI j)), (2, .int (nI k)), (3, .int (nI mo))]) hx hb dX11_softAfter_1 hl (by decide) rfl (fun ls hl => ?_)
  refine lv_iconst (v := 0) hx hb dX11_softAfter_3 (by decide) ?_
  refine lv_istore (lv' := [(5, .int 0), (4, .int 0), (0, .ref h0), (1, .int (nI j)), (2, .int (nI k)), (3, .int (nI mo))]) hx hb dX11_softAfter_4 hl (by decide) rfl (fun ls hl => ?_)
  refine (fun (K : ∀ (d6 : Nat) (k6 : Nat) (a6_4 : Int32) (H : Heap) (locs : List Loc) (ls : Array Slot), k6 + d6 = mo → va_P (dC, dI) vwCl [(h0, .inr (11, f_h0)), (m3, .inl (cI, 8, .inl fm3)), (m4, .inl (cI, 8, .inl fm4)), (m5, .inl (cI, 8, .inl fm5)), (m7, .inl (cI, 4, .inl fm7)), (m8, .inl (cI, 4, .inl fm8))] H → va_S (fun _ : Nat => False) s.heap H locs → lv_has ls 6 [(5, .int (nI k6)), (4, .int a6_4), (0, .ref h0), (1, .int (nI j)), (2, .int (nI k)), (3, .int (nI mo))] → W p l e _ s m _ below meth c H locs _ _ _ (F0 m 6 ls [])) => K mo 0 0 _ _ _ (by omega) hP hS (lv_sub hl [0, 1, 2, 3, 4, 5] rfl)) ?_
  intro d6
  induction d6 with
  | zero =>
    intro k6 a6_4 H locs ls hk6 hP hS hl
    refine lv_iload hx hb dX11_softAfter_6 (lv_at hl 0 rfl) ?_
    refine lv_iload_n hx hb dX11_softAfter_8 rfl (lv_at hl 5 rfl) ?_
    refine lv_icmp_ge (tgt := 28) hx hb dX11_softAfter_9 (by decide) (fun c1 => ?_) (fun c1 => ?_)
    ·
      have c1 : mo ≤ k6 := (nI_leI (a := mo) (b := k6) (by omega) (by omega)).mp c1
      refine lv_iload hx hb dX11_softAfter_28 (lv_at hl 1 rfl) ?_
      exact W.iret (v := a6_4) hx hb hr (fun t ht hW => ⟨⟨a6_4, (fun _ => 0), rfl, trivial, trivial⟩, hS.F ht⟩) hS.2.2 dX11_softAfter_30
    ·
      have c1 : ¬ mo ≤ k6 := fun h => c1 ((nI_leI (a := mo) (b := k6) (by omega) (by omega)).mpr h)
      omega
  | succ d6 ih6 =>
    intro k6 a6_4 H locs ls hk6 hP hS hl
    refine lv_iload hx hb dX11_softAfter_6 (lv_at hl 0 rfl) ?_
    refine lv_iload_n hx hb dX11_softAfter_8 rfl (lv_at hl 5 rfl) ?_
    refine lv_icmp_ge (tgt := 28) hx hb dX11_softAfter_9 (by decide) (fun c2 => ?_) (fun c2 => ?_)
    ·
      have c2 : mo ≤ k6 := (nI_leI (a := mo) (b := k6) (by omega) (by omega)).mp c2
      omega
    ·
      have c2 : ¬ mo ≤ k6 := fun h => c2 ((nI_leI (a := mo) (b := k6) (by omega) (by omega)).mpr h)
      refine lv_aload_n hx hb dX11_softAfter_12 rfl (lv_at hl 2 rfl) ?_
      refine lv_iload hx hb dX11_softAfter_13 (lv_at hl 1 rfl) ?_
      refine lv_iload_n hx hb dX11_softAfter_15 rfl (lv_at hl 3 rfl) ?_
      refine lv_iload_n hx hb dX11_softAfter_16 rfl (lv_at hl 4 rfl) ?_
      have hPc := hP.sub (ws' := [(h0, .inr (11, f_h0)), (m3, .inl (cI, 8, .inl fm3)), (m4, .inl (cI, 8, .inl fm4)), (m5, .inl (cI, 8, .inl fm5)), (m7, .inl (cI, 4, .inl fm7)), (m8, .inl (cI, 4, .inl fm8))]) [0, 1, 2, 3, 4, 5] rfl
      refine va_calli (va_runV (As := [.int a6_4, .int (nI j), .int (nI k)]) (rest := []) ⟨hx, hb, hml, hown, hts⟩ (c_X11_softBehind l dC dI cI cZ cQ h0 m3 m4 m5 m7 m8 f_h0 fm3 fm4 fm5 fm7 fm8 a6_4 j k nq H.size e_h0_3 e_h0_4 e_h0_5 e_h0_7 e_h0_8 (by omega) (by first | assumption | decide) (by omega) (by omega)) (cwV 3 hts gX11_softAfter_X11_softBehind rfl rfl rfl (by decide +kernel) ⟨Nat.le_of_ble_eq_true rfl, Nat.le_of_ble_eq_true rfl⟩) ⟨fun a U g mk q => by obtain ⟨q0, q1, qP, qK⟩ := q; exact ⟨q0, q1, qP, va_K.moved (u := U) (U := U.calling g mk a) (Vm.Alike.refl U.vm) qK⟩, va_recv hK hP (ci := 11) (q0 := 0) rfl rfl, fun U hU hW => ⟨rfl, by rw [hU], by rw [hU]; exact hPc, va_K.moved hW.alike hK⟩⟩ rfl rfl hl.1 rfl (lv_room (Nat.le_of_ble_eq_true rfl)) dX11_softAfter_17 ⟨Nat.le_of_ble_eq_true rfl, Nat.le_of_ble_eq_true rfl⟩) hS (fun q _ h => False.elim h) (fun q h => False.elim h) (fun r3 u4 t H1 locs ht hvm hw5 hB hz1 hk1 hS => ?_)
      have hP := hP.kept (fun k q hk => hk1 q.1 (hP k q hk).lt (fun h => h))
      clear hz1 hk1 hPc
      generalize H1 = H at hP hS ht ⊢
      try dsimp only at hw5
      refine lv_istore (lv' := [(4, .int r3), (5, .int (nI k6)), (0, .ref h0), (1, .int (nI j)), (2, .int (nI k)), (3, .int (nI mo))]) hx hb dX11_softAfter_20 hl (by decide) rfl (fun ls hl => ?_)
      refine lv_iinc (v := nI (k6 + 1)) (lv' := [(5, .int (nI (k6 + 1))), (4, .int r3), (0, .ref h0), (1, .int (nI j)), (2, .int (nI k)), (3, .int (nI mo))]) hx hb dX11_softAfter_22 hl (k := 1) rfl ((rfl : nI k6 + Int32.ofInt 1 = nI k6 + 1).trans (nI_add k6 1)) (by decide) rfl (fun ls hl => ?_)
      refine lv_goto (tgt := 6) hx hb dX11_softAfter_25 (by decide) ?_
      exact ih6 (k6 + 1) r3 _ _ _ (by omega) hP hS (lv_sub hl [0, 1, 2, 3, 4, 5] rfl)
