set_option maxHeartbeats 4000000 in
set_option maxRecDepth 100000 in
theorem c_X11_has (l : Launch) (dC : Nat → ClassId) (dI : Nat → Nat → Nat) (cI cZ cQ : ClassId) (a0 : Int32) (a1 : Int32) (sz : Nat)  : Met l yX11_has wsX11_has ({ frames := 0, cells := 0, slots := 0, locals := 40 }) (va_Pc [.int a0, .int a1] (fun U => U.heap.size = sz ∧ va_P (dC, dI) vwCl [] U.heap ∧ va_K (dC, dI) vwCl (tys0 cI cZ cQ) U)) (va_Qi (fun (r : Int32) (u : Nat → Nat) => r = 1 ∨ r = 0) (fun (_ : Nat → Nat) (_ : State) => True) (fun _ : Nat => False)) 0 0 (fun _ : Nat => False) := by
  refine Met.ofW (cc := cX11_has) (maxL := 2) (ret := (some .boolean)) (by decide) rfl ?_
  intro p e s m args below meth c s₁ B hml hv
  obtain ⟨rfl, hsz, hP, hK⟩ := hv
  have hx := B.exec
  have hb := B.bytes
  have hr := B.returns
  have hts := atoms_spec (ws := wsX11_has) B.pre
  have hown : s.vm.findClass RX11 = some m.cls := findClass_of_methodNamed B.named
  have hlocks := B.notSynchronized
  subst hsz
  have hS : va_S (fun _ : Nat => False) s.heap s.heap [] := va_S.rf
  have hl := lv_entry ([.int a0, .int a1]) (n := 2) (Nat.le_of_ble_eq_true rfl)
  rw [lg_entry_eq]
  generalize (lg_sl ([.int a0, .int a1]) ++ List.replicate (2 - (lg_sl ([.int a0, .int a1])).length) Slot.unset).toArray = ls at hl ⊢
  have hl : lv_has ls 2 [(0, .int a0), (1, .int a1)] := hl
  refine lv_iload_n hx hb dX11_has_0 rfl (lv_at hl 0 rfl) ?_
  refine lv_iload_n hx hb dX11_has_1 rfl (lv_at hl 1 rfl) ?_
  refine lv_ishr hx hb dX11_has_2 ?_
  refine lv_topi (fun z1 ez1 => ?_)
  refine lv_iconst (v := 1) hx hb dX11_has_3 (by decide) ?_
  refine lv_iand hx hb dX11_has_4 ?_
  refine lv_topi (fun z2 ez2 => ?_)
  obtain ⟨w3, hw3, ekw3⟩ := pk_andE z1 (m := 1) 1 (by decide)
  have hw3 : w3 < 2 := hw3
  obtain rfl : z2 = nI w3 := ez2.trans ekw3
  refine lv_iconst (v := 1) hx hb dX11_has_5 (by decide) ?_
  refine lv_icmp_ne (tgt := 13) hx hb dX11_has_6 (by decide) (fun c4 => ?_) (fun c4 => ?_)
  ·
    have c4 : ¬ w3 = 1 := fun h => c4 ((nI_eq (a := w3) (b := 1) (by omega) (by omega)).mpr h)
    refine lv_iconst (v := 0) hx hb dX11_has_13 (by decide) ?_
    exact W.zret (v := 0) hx hb hr (rfl) (fun t ht hW => ⟨⟨0, (fun _ => 0), rfl, Or.inr rfl, trivial⟩, hS.F ht⟩) hS.2.2 dX11_has_14
  ·
    have c4 : w3 = 1 := (nI_eq (a := w3) (b := 1) (by omega) (by omega)).mp c4
    refine lv_iconst (v := 1) hx hb dX11_has_9 (by decide) ?_
    refine lv_goto (tgt := 14) hx hb dX11_has_10 (by decide) ?_
    exact W.zret (v := 1) hx hb hr (rfl) (fun t ht hW => ⟨⟨1, (fun _ => 0), rfl, Or.inl rfl, trivial⟩, hS.F ht⟩) hS.2.2 dX11_has_14
set_option maxHeartbeats 4000000 in
set_option maxRecDepth 100000 in
theorem c_X11_bits (l : Launch) (dC : Nat → ClassId) (dI : Nat → Nat → Nat) (cI cZ cQ : ClassId) (a0 : Int32) (sz : Nat)  : Met l yX11_bits wsX11_bits ({ frames := 0, cells := 0, slots := 0, locals := 40 }) (va_Pc [.int a0] (fun U => U.heap.size = sz ∧ va_P (dC, dI) vwCl [] U.heap ∧ va_K (dC, dI) vwCl (tys0 cI cZ cQ) U)) (va_Qi (fun (r : Int32) (u : Nat → Nat) => True) (fun (_ : Nat → Nat) (_ : State) => True) (fun _ : Nat => False)) 0 0 (fun _ : Nat => False) := by
  refine Met.ofW (cc := cX11_bits) (maxL := 3) (ret := (some .int)) (by decide) rfl ?_
  intro p e s m args below meth c s₁ B hml hv
  obtain ⟨rfl, hsz, hP, hK⟩ := hv
  have hx := B.exec
  have hb := B.bytes
  have hr := B.returns
  have hts := atoms_spec (ws := wsX11_bits) B.pre
  have hown : s.vm.findClass RX11 = some m.cls := findClass_of_methodNamed B.named
  have hlocks := B.notSynchronized
  subst hsz
  have hS : va_S (fun _ : Nat => False) s.heap s.heap [] := va_S.rf
  have hl := lv_entry ([.int a0]) (n := 3) (Nat.le_of_ble_eq_true rfl)
  rw [lg_entry_eq]
  generalize (lg_sl ([.int a0]) ++ List.replicate (3 - (lg_sl ([.int a0])).length) Slot.unset).toArray = ls at hl ⊢
  have hl : lv_has ls 3 [(0, .int a0)] := hl
  refine lv_iconst (v := 0) hx hb dX11_bits_0 (by decide) ?_
  refine lv_istore_n (lv' := [(1, .int 0), (0, .int a0)]) hx hb dX11_bits_1 rfl hl (by decide) rfl (fun ls hl => ?_)
  refine lv_iconst (v := 0) hx hb dX11_bits_2 (by decide) ?_
  refine lv_istore_n (lv' := [(2, .int 0), (1, .int 0), (0, .int a0)]) hx hb dX11_bits_3 rfl hl (by decide) rfl (fun ls hl => ?_)
  refine lv_iload_n hx hb dX11_bits_4 rfl (lv_at hl 0 rfl) ?_
  refine lv_iconst (v := 4) hx hb dX11_bits_5 (by decide) ?_
  refine lv_icmp_ge (tgt := 23) hx hb dX11_bits_6 (by decide) (fun c1 => ?_) (fun c1 => ?_)
  · exact absurd c1 (by decide)
  clear c1
  refine lv_iload_n hx hb dX11_bits_9 rfl (lv_at hl 1 rfl) ?_
  refine lv_iload_n hx hb dX11_bits_10 rfl (lv_at hl 2 rfl) ?_
  refine lv_iload_n hx hb dX11_bits_11 rfl (lv_at hl 0 rfl) ?_
  refine lv_ishr hx hb dX11_bits_12 ?_
  refine lv_topi (fun z2 ez2 => ?_)
  refine lv_iconst (v := 1) hx hb dX11_bits_13 (by decide) ?_
  refine lv_iand hx hb dX11_bits_14 ?_
  refine lv_topi (fun z3 ez3 => ?_)
  obtain ⟨w4, hw4, ekw4⟩ := pk_andE z2 (m := 1) 1 (by decide)
  have hw4 : w4 < 2 := hw4
  obtain rfl : z3 = nI w4 := ez3.trans ekw4
  refine lv_iadd hx hb dX11_bits_15 ?_
  refine lv_topi (fun z5 ez5 => ?_)
  obtain rfl : z5 = nI (0 + w4) := ez5.trans (nI_add 0 w4)
  refine lv_istore_n (lv' := [(1, .int (nI (0 + w4))), (2, .int 0), (0, .int a0)]) hx hb dX11_bits_16 rfl hl (by decide) rfl (fun ls hl => ?_)
  refine lv_iinc (v := 1) (lv' := [(2, .int 1), (1, .int (nI (0 + w4))), (0, .int a0)]) hx hb dX11_bits_17 hl (k := 1) rfl (by decide) (by decide) rfl (fun ls hl => ?_)
  refine lv_goto (tgt := 4) hx hb dX11_bits_20 (by decide) ?_
  refine lv_iload_n hx hb dX11_bits_4 rfl (lv_at hl 0 rfl) ?_
  refine lv_iconst (v := 4) hx hb dX11_bits_5 (by decide) ?_
  refine lv_icmp_ge (tgt := 23) hx hb dX11_bits_6 (by decide) (fun c6 => ?_) (fun c6 => ?_)
  · exact absurd c6 (by decide)
  clear c6
  refine lv_iload_n hx hb dX11_bits_9 rfl (lv_at hl 1 rfl) ?_
  refine lv_iload_n hx hb dX11_bits_10 rfl (lv_at hl 2 rfl) ?_
  refine lv_iload_n hx hb dX11_bits_11 rfl (lv_at hl 0 rfl) ?_
  refine lv_ishr hx hb dX11_bits_12 ?_
  refine lv_topi (fun z7 ez7 => ?_)
  refine lv_iconst (v := 1) hx hb dX11_bits_13 (by decide) ?_
  refine lv_iand hx hb dX11_bits_14 ?_
  refine lv_topi (fun z8 ez8 => ?_)
  obtain ⟨w9, hw9, ekw9⟩ := pk_andE z7 (m := 1) 1 (by decide)
  have hw9 : w9 < 2 := hw9
  obtain rfl : z8 = nI w9 := ez8.trans ekw9
  refine lv_iadd hx hb dX11_bits_15 ?_
  refine lv_topi (fun z10 ez10 => ?_)
  obtain rfl : z10 = nI ((0 + w4) + w9) := ez10.trans (nI_add (0 + w4) w9)
  refine lv_istore_n (lv' := [(1, .int (nI ((0 + w4) + w9))), (2, .int 1), (0, .int a0)]) hx hb dX11_bits_16 rfl hl (by decide) rfl (fun ls hl => ?_)
  refine lv_iinc (v := 2) (lv' := [(2, .int 2), (1, .int (nI ((0 + w4) + w9))), (0, .int a0)]) hx hb dX11_bits_17 hl (k := 1) rfl (by decide) (by decide) rfl (fun ls hl => ?_)
  refine lv_goto (tgt := 4) hx hb dX11_bits_20 (by decide) ?_
  refine lv_iload_n hx hb dX11_bits_4 rfl (lv_at hl 0 rfl) ?_
  refine lv_iconst (v := 4) hx hb dX11_bits_5 (by decide) ?_
  refine lv_icmp_ge (tgt := 23) hx hb dX11_bits_6 (by decide) (fun c11 => ?_) (fun c11 => ?_)
  · exact absurd c11 (by decide)
  clear c11
  refine lv_iload_n hx hb dX11_bits_9 rfl (lv_at hl 1 rfl) ?_
  refine lv_iload_n hx hb dX11_bits_10 rfl (lv_at hl 2 rfl) ?_
  refine lv_iload_n hx hb dX11_bits_11 rfl (lv_at hl 0 rfl) ?_
  refine lv_ishr hx hb dX11_bits_12 ?_
  refine lv_topi (fun z12 ez12 => ?_)
  refine lv_iconst (v := 1) hx hb dX11_bits_13 (by decide) ?_
  refine lv_iand hx hb dX11_bits_14 ?_
  refine lv_topi (fun z13 ez13 => ?_)
  obtain ⟨w14, hw14, ekw14⟩ := pk_andE z12 (m := 1) 1 (by decide)
  have hw14 : w14 < 2 := hw14
  obtain rfl : z13 = nI w14 := ez13.trans ekw14
  refine lv_iadd hx hb dX11_bits_15 ?_
  refine lv_topi (fun z15 ez15 => ?_)
  obtain rfl : z15 = nI (((0 + w4) + w9) + w14) := ez15.trans (nI_add ((0 + w4) + w9) w14)
  refine lv_istore_n (lv' := [(1, .int (nI (((0 + w4) + w9) + w14))), (2, .int 2), (0, .int a0)]) hx hb dX11_bits_16 rfl hl (by decide) rfl (fun ls hl => ?_)
  refine lv_iinc (v := 3) (lv' := [(2, .int 3), (1, .int (nI (((0 + w4) + w9) + w14))), (0, .int a0)]) hx hb dX11_bits_17 hl (k := 1) rfl (by decide) (by decide) rfl (fun ls hl => ?_)
  refine lv_goto (tgt := 4) hx hb dX11_bits_20 (by decide) ?_
  refine lv_iload_n hx hb dX11_bits_4 rfl (lv_at hl 0 rfl) ?_
  refine lv_iconst (v := 4) hx hb dX11_bits_5 (by decide) ?_
  refine lv_icmp_ge (tgt := 23) hx hb dX11_bits_6 (by decide) (fun c16 => ?_) (fun c16 => ?_)
  · exact absurd c16 (by decide)
  clear c16
  refine lv_iload_n hx hb dX11_bits_9 rfl (lv_at hl 1 rfl) ?_
  refine lv_iload_n hx hb dX11_bits_10 rfl (lv_at hl 2 rfl) ?_
  refine lv_iload_n hx hb dX11_bits_11 rfl (lv_at hl 0 rfl) ?_
  refine lv_ishr hx hb dX11_bits_12 ?_
  refine lv_topi (fun z17 ez17 => ?_)
  refine lv_iconst (v := 1) hx hb dX11_bits_13 (by decide) ?_
  refine lv_iand hx hb dX11_bits_14 ?_
  refine lv_topi (fun z18 ez18 => ?_)
  obtain ⟨w19, hw19, ekw19⟩ := pk_andE z17 (m := 1) 1 (by decide)
  have hw19 : w19 < 2 := hw19
  obtain rfl : z18 = nI w19 := ez18.trans ekw19
  refine lv_iadd hx hb dX11_bits_15 ?_
  refine lv_topi (fun z20 ez20 => ?_)
  obtain rfl : z20 = nI ((((0 + w4) + w9) + w14) + w19) := ez20.trans (nI_add (((0 + w4) + w9) + w14) w19)
  refine lv_istore_n (lv' := [(1, .int (nI ((((0 + w4) + w9) + w14) + w19))), (2, .int 3), (0, .int a0)]) hx hb dX11_bits_16 rfl hl (by decide) rfl (fun ls hl => ?_)
  refine lv_iinc (v := 4) (lv' := [(2, .int 4), (1, .int (nI ((((0 + w4) + w9) + w14) + w19))), (0, .int a0)]) hx hb dX11_bits_17 hl (k := 1) rfl (by decide) (by decide) rfl (fun ls hl => ?_)
  refine lv_goto (tgt := 4) hx hb dX11_bits_20 (by decide) ?_
  refine lv_iload_n hx hb dX11_bits_4 rfl (lv_at hl 0 rfl) ?_
  refine lv_iconst (v := 4) hx hb dX11_bits_5 (by decide) ?_
  refine lv_icmp_ge (tgt := 23) hx hb dX11_bits_6 (by decide) (fun c21 => ?_) (fun c21 => ?_)
  rotate_left
  · exact absurd c21 (by decide)
  clear c21
  refine lv_iload_n hx hb dX11_bits_23 rfl (lv_at hl 1 rfl) ?_
  exact W.iret (v := nI ((((0 + w4) + w9) + w14) + w19)) hx hb hr (fun t ht hW => ⟨⟨nI ((((0 + w4) + w9) + w14) + w19), (fun _ => 0), rfl, trivial, trivial⟩, hS.F ht⟩) hS.2.2 dX11_bits_24
set_option maxHeartbeats 4000000 in
set_option maxRecDepth 100000 in
theorem c_X11_driedBy (l : Launch) (dC : Nat → ClassId) (dI : Nat → Nat → Nat) (cI cZ cQ : ClassId) (a0 : Int32) (a1 : Int32) (sz : Nat)  : Met l yX11_driedBy wsX11_driedBy ({ frames := 0, cells := 0, slots := 0, locals := 40 }) (va_Pc [.int a0, .int a1] (fun U => U.heap.size = sz ∧ va_P (dC, dI) vwCl [] U.heap ∧ va_K (dC, dI) vwCl (tys0 cI cZ cQ) U)) (va_Qi (fun (r : Int32) (u : Nat → Nat) => True) (fun (_ : Nat → Nat) (_ : State) => True) (fun _ : Nat => False)) 0 0 (fun _ : Nat => False) := by
  refine Met.ofW (cc := cX11_driedBy) (maxL := 3) (ret := (some .int)) (by decide) rfl ?_
  intro p e s m args below meth c s₁ B hml hv
  obtain ⟨rfl, hsz, hP, hK⟩ := hv
  have hx := B.exec
  have hb := B.bytes
  have hr := B.returns
  have hts := atoms_spec (ws := wsX11_driedBy) B.pre
  have hown : s.vm.findClass RX11 = some m.cls := findClass_of_methodNamed B.named
  have hlocks := B.notSynchronized
  subst hsz
  have hS : va_S (fun _ : Nat => False) s.heap s.heap [] := va_S.rf
  have hl := lv_entry ([.int a0, .int a1]) (n := 3) (Nat.le_of_ble_eq_true rfl)
  rw [lg_entry_eq]
  generalize (lg_sl ([.int a0, .int a1]) ++ List.replicate (3 - (lg_sl ([.int a0, .int a1])).length) Slot.unset).toArray = ls at hl ⊢
  have hl : lv_has ls 3 [(0, .int a0), (1, .int a1)] := hl
  refine lv_iload_n hx hb dX11_driedBy_0 rfl (lv_at hl 0 rfl) ?_
  refine lv_bipush (v := 8) hx hb dX11_driedBy_1 (by decide) ?_
  refine lv_iload_n hx hb dX11_driedBy_3 rfl (lv_at hl 1 rfl) ?_
  refine lv_imul hx hb dX11_driedBy_4 ?_
  refine lv_topi (fun z1 ez1 => ?_)
  refine lv_isub hx hb dX11_driedBy_5 ?_
  refine lv_topi (fun z2 ez2 => ?_)
  refine lv_istore_n (lv' := [(2, .int z2), (0, .int a0), (1, .int a1)]) hx hb dX11_driedBy_6 rfl hl (by decide) rfl (fun ls hl => ?_)
  refine lv_iload_n hx hb dX11_driedBy_7 rfl (lv_at hl 0 rfl) ?_
  refine lv_iload_n hx hb dX11_driedBy_8 rfl (lv_at hl 1 rfl) ?_
  refine lv_iconst (v := 3) hx hb dX11_driedBy_9 (by decide) ?_
  refine lv_idiv hx hb dX11_driedBy_10 (by decide) ?_
  refine lv_topi (fun z3 ez3 => ?_)
  refine lv_icmp_le (tgt := 18) hx hb dX11_driedBy_11 (by decide) (fun c4 => ?_) (fun c4 => ?_)
  ·
    refine lv_iload_n hx hb dX11_driedBy_18 rfl (lv_at hl 1 rfl) ?_
    refine lv_iconst (v := 3) hx hb dX11_driedBy_19 (by decide) ?_
    refine lv_idiv hx hb dX11_driedBy_20 (by decide) ?_
    refine lv_topi (fun z5 ez5 => ?_)
    exact W.iret (v := z5) hx hb hr (fun t ht hW => ⟨⟨z5, (fun _ => 0), rfl, trivial, trivial⟩, hS.F ht⟩) hS.2.2 dX11_driedBy_21
  ·
    refine lv_iload_n hx hb dX11_driedBy_14 rfl (lv_at hl 0 rfl) ?_
    refine lv_goto (tgt := 21) hx hb dX11_driedBy_15 (by decide) ?_
    exact W.iret (v := z2) hx hb hr (fun t ht hW => ⟨⟨z2, (fun _ => 0), rfl, trivial, trivial⟩, hS.F ht⟩) hS.2.2 dX11_driedBy_21
set_option maxHeartbeats 4000000 in
set_option maxRecDepth 100000 in
theorem c_X11_hard (l : Launch) (dC : Nat → ClassId) (dI : Nat → Nat → Nat) (cI cZ cQ : ClassId) (h0 : Nat) (m4 : Nat) (m5 : Nat) (f_h0 : List Value) (fm4 : Nat → Int32) (fm5 : Nat → Int32) (j : Nat) (nq : Nat) (sz : Nat) (e_h0_4 : fAt f_h0 4 = some (.ref m4)) (e_h0_5 : fAt f_h0 5 = some (.ref m5)) (hnq : nq ≤ 8) (hci : cIn fm5 nq) (hj : j < nq) : Met l yX11_hard wsX11_hard ({ frames := 0, cells := 0, slots := 0, locals := 40 }) (va_Pc [.ref h0, .int (nI j)] (fun U => U.heap.size = sz ∧ va_P (dC, dI) vwCl [(h0, .inr (11, f_h0)), (m4, .inl (cI, 8, .inl fm4)), (m5, .inl (cI, 8, .inl fm5))] U.heap ∧ va_K (dC, dI) vwCl (tys0 cI cZ cQ) U)) (va_Qi (fun (r : Int32) (u : Nat → Nat) => ∃ c : Nat, 3 ≤ c ∧ c ≤ 14 ∧ r = nI c) (fun (_ : Nat → Nat) (_ : State) => True) (fun _ : Nat => False)) 0 0 (fun _ : Nat => False) := by
  refine Met.ofW (cc := cX11_hard) (maxL := 3) (ret := (some .int)) (by decide) rfl ?_
  intro p e s m args below meth c s₁ B hml hv
  obtain ⟨rfl, hsz, hP, hK⟩ := hv
  have hx := B.exec
  have hb := B.bytes
  have hr := B.returns
  have hts := atoms_spec (ws := wsX11_hard) B.pre
  have hown : s.vm.findClass RX11 = some m.cls := findClass_of_methodNamed B.named
  have hlocks := B.notSynchronized
  have hi_X11 : ∀ w ∈ u_ws RX11 TX11 46, w ∈ wsX11_hard := fun _ h => List.mem_cons_of_mem _ (List.mem_append_right _ (h))
  subst hsz
  have hS : va_S (fun _ : Nat => False) s.heap s.heap [] := va_S.rf
  have hl := lv_entry ([.ref h0, .int (nI j)]) (n := 3) (Nat.le_of_ble_eq_true rfl)
  rw [lg_entry_eq]
  generalize (lg_sl ([.ref h0, .int (nI j)]) ++ List.replicate (3 - (lg_sl ([.ref h0, .int (nI j)])).length) Slot.unset).toArray = ls at hl ⊢
  have hl : lv_has ls 3 [(0, .ref h0), (1, .int (nI j))] := hl
  refine lv_aload_n hx hb dX11_hard_0 rfl (lv_at hl 0 rfl) ?_
  refine va_get (D := (dC, dI)) (ci := 11) (v := .ref m4) (C := RX11) (T := TX11) (N := 46) hx hb hts hi_X11 hown hK hP 0 rfl rfl 4 (by decide) (hts (.fieldLink RX11 13 "LeftQuillsModel" "place" "[I") (wmx 1 rfl)) (fun _ h9 => h9) e_h0_4 dX11_hard_1 ?_
  refine lv_iload_n hx hb dX11_hard_4 rfl (lv_at hl 1 rfl) ?_
  refine va_iald hx hb hK hP 1 0 rfl rfl (vp_in_nI (n := j) (N := 8) (by omega) (by decide)) dX11_hard_5 ?_
  refine W.eq (g2 := F0 m 6 ls [.int (fm4 j)]) (congrArg (fun y9 => F0 m 6 ls (.int (fm4 y9) :: [])) ((nI_clamp (n := j) (by omega)))) ?_
  refine lv_iconst (v := 2) hx hb dX11_hard_6 (by decide) ?_
  refine lv_icmp_eq (tgt := 20) hx hb dX11_hard_7 (by decide) (fun c1 => ?_) (fun c1 => ?_)
  ·
    refine lv_iconst (v := 3) hx hb dX11_hard_20 (by decide) ?_
    refine lv_goto (tgt := 39) hx hb dX11_hard_21 (by decide) ?_
    refine lv_istore_n (lv' := [(2, .int 3), (0, .ref h0), (1, .int (nI j))]) hx hb dX11_hard_39 rfl hl (by decide) rfl (fun ls hl => ?_)
    refine lv_iconst (v := 2) hx hb dX11_hard_40 (by decide) ?_
    refine lv_aload_n hx hb dX11_hard_41 rfl (lv_at hl 1 rfl) ?_
    refine va_get (D := (dC, dI)) (ci := 11) (v := .ref m5) (C := RX11) (T := TX11) (N := 46) hx hb hts hi_X11 hown hK hP 0 rfl rfl 5 (by decide) (hts (.fieldLink RX11 16 "LeftQuillsModel" "cooked" "[I") (wmx 2 rfl)) (fun _ h9 => h9) e_h0_5 dX11_hard_42 ?_
    refine lv_iload_n hx hb dX11_hard_45 rfl (lv_at hl 2 rfl) ?_
    refine va_iald hx hb hK hP 2 0 rfl rfl (vp_in_nI (n := j) (N := 8) (by omega) (by decide)) dX11_hard_46 ?_
    refine W.eq (g2 := F0 m 47 ls [.int (fm5 j), .int 2]) (congrArg (fun y9 => F0 m 47 ls (.int (fm5 y9) :: [.int 2])) ((nI_clamp (n := j) (by omega)))) ?_
    refine lv_topi (fun z2 ez2 => ?_)
    obtain ⟨j3, hj3, ejj3⟩ := hci j (by omega)
    obtain rfl : z2 = nI j3 := ez2.trans (ejj3)
    refine lv_iadd hx hb dX11_hard_47 ?_
    refine lv_topi (fun z4 ez4 => ?_)
    obtain rfl : z4 = nI (2 + j3) := ez4.trans (nI_add 2 j3)
    refine lv_iload_n hx hb dX11_hard_48 rfl (lv_at hl 0 rfl) ?_
    refine lv_iadd hx hb dX11_hard_49 ?_
    refine lv_topi (fun z5 ez5 => ?_)
    obtain rfl : z5 = nI ((2 + j3) + 3) := ez5.trans (nI_add (2 + j3) 3)
    exact W.iret (v := nI ((2 + j3) + 3)) hx hb hr (fun t ht hW => ⟨⟨nI ((2 + j3) + 3), (fun _ => 0), rfl, ⟨_, by omega, by omega, rfl⟩, trivial⟩, hS.F ht⟩) hS.2.2 dX11_hard_50
  ·
    refine lv_aload_n hx hb dX11_hard_10 rfl (lv_at hl 0 rfl) ?_
    refine va_get (D := (dC, dI)) (ci := 11) (v := .ref m4) (C := RX11) (T := TX11) (N := 46) hx hb hts hi_X11 hown hK hP 0 rfl rfl 4 (by decide) (hts (.fieldLink RX11 13 "LeftQuillsModel" "place" "[I") (wmx 1 rfl)) (fun _ h9 => h9) e_h0_4 dX11_hard_11 ?_
    refine lv_iload_n hx hb dX11_hard_14 rfl (lv_at hl 1 rfl) ?_
    refine va_iald hx hb hK hP 1 0 rfl rfl (vp_in_nI (n := j) (N := 8) (by omega) (by decide)) dX11_hard_15 ?_
    refine W.eq (g2 := F0 m 16 ls [.int (fm4 j)]) (congrArg (fun y9 => F0 m 16 ls (.int (fm4 y9) :: [])) ((nI_clamp (n := j) (by omega)))) ?_
    refine lv_iconst (v := 3) hx hb dX11_hard_16 (by decide) ?_
    refine lv_icmp_ne (tgt := 24) hx hb dX11_hard_17 (by decide) (fun c6 => ?_) (fun c6 => ?_)
    ·
      refine lv_aload_n hx hb dX11_hard_24 rfl (lv_at hl 0 rfl) ?_
      refine va_get (D := (dC, dI)) (ci := 11) (v := .ref m4) (C := RX11) (T := TX11) (N := 46) hx hb hts hi_X11 hown hK hP 0 rfl rfl 4 (by decide) (hts (.fieldLink RX11 13 "LeftQuillsModel" "place" "[I") (wmx 1 rfl)) (fun _ h9 => h9) e_h0_4 dX11_hard_25 ?_
      refine lv_iload_n hx hb dX11_hard_28 rfl (lv_at hl 1 rfl) ?_
      refine va_iald hx hb hK hP 1 0 rfl rfl (vp_in_nI (n := j) (N := 8) (by omega) (by decide)) dX11_hard_29 ?_
      refine W.eq (g2 := F0 m 30 ls [.int (fm4 j)]) (congrArg (fun y9 => F0 m 30 ls (.int (fm4 y9) :: [])) ((nI_clamp (n := j) (by omega)))) ?_
      refine lv_iconst (v := 4) hx hb dX11_hard_30 (by decide) ?_
      refine lv_icmp_ne (tgt := 38) hx hb dX11_hard_31 (by decide) (fun c7 => ?_) (fun c7 => ?_)
      ·
        refine lv_iconst (v := 1) hx hb dX11_hard_38 (by decide) ?_
        refine lv_istore_n (lv' := [(2, .int 1), (0, .ref h0), (1, .int (nI j))]) hx hb dX11_hard_39 rfl hl (by decide) rfl (fun ls hl => ?_)
        refine lv_iconst (v := 2) hx hb dX11_hard_40 (by decide) ?_
        refine lv_aload_n hx hb dX11_hard_41 rfl (lv_at hl 1 rfl) ?_
        refine va_get (D := (dC, dI)) (ci := 11) (v := .ref m5) (C := RX11) (T := TX11) (N := 46) hx hb hts hi_X11 hown hK hP 0 rfl rfl 5 (by decide) (hts (.fieldLink RX11 16 "LeftQuillsModel" "cooked" "[I") (wmx 2 rfl)) (fun _ h9 => h9) e_h0_5 dX11_hard_42 ?_
        refine lv_iload_n hx hb dX11_hard_45 rfl (lv_at hl 2 rfl) ?_
        refine va_iald hx hb hK hP 2 0 rfl rfl (vp_in_nI (n := j) (N := 8) (by omega) (by decide)) dX11_hard_46 ?_
        refine W.eq (g2 := F0 m 47 ls [.int (fm5 j), .int 2]) (congrArg (fun y9 => F0 m 47 ls (.int (fm5 y9) :: [.int 2])) ((nI_clamp (n := j) (by omega)))) ?_
        refine lv_topi (fun z8 ez8 => ?_)
        obtain ⟨j9, hj9, ejj9⟩ := hci j (by omega)
        obtain rfl : z8 = nI j9 := ez8.trans (ejj9)
        refine lv_iadd hx hb dX11_hard_47 ?_
        refine lv_topi (fun z10 ez10 => ?_)
        obtain rfl : z10 = nI (2 + j9) := ez10.trans (nI_add 2 j9)
        refine lv_iload_n hx hb dX11_hard_48 rfl (lv_at hl 0 rfl) ?_
        refine lv_iadd hx hb dX11_hard_49 ?_
        refine lv_topi (fun z11 ez11 => ?_)
        obtain rfl : z11 = nI ((2 + j9) + 1) := ez11.trans (nI_add (2 + j9) 1)
        exact W.iret (v := nI ((2 + j9) + 1)) hx hb hr (fun t ht hW => ⟨⟨nI ((2 + j9) + 1), (fun _ => 0), rfl, ⟨_, by omega, by omega, rfl⟩, trivial⟩, hS.F ht⟩) hS.2.2 dX11_hard_50
      ·
        refine lv_iconst (v := 2) hx hb dX11_hard_34 (by decide) ?_
        refine lv_goto (tgt := 39) hx hb dX11_hard_35 (by decide) ?_
        refine lv_istore_n (lv' := [(2, .int 2), (0, .ref h0), (1, .int (nI j))]) hx hb dX11_hard_39 rfl hl (by decide) rfl (fun ls hl => ?_)
        refine lv_iconst (v := 2) hx hb dX11_hard_40 (by decide) ?_
        refine lv_aload_n hx hb dX11_hard_41 rfl (lv_at hl 1 rfl) ?_
        refine va_get (D := (dC, dI)) (ci := 11) (v := .ref m5) (C := RX11) (T := TX11) (N := 46) hx hb hts hi_X11 hown hK hP 0 rfl rfl 5 (by decide) (hts (.fieldLink RX11 16 "LeftQuillsModel" "cooked" "[I") (wmx 2 rfl)) (fun _ h9 => h9) e_h0_5 dX11_hard_42 ?_
        refine lv_iload_n hx hb dX11_hard_45 rfl (lv_at hl 2 rfl) ?_
        refine va_iald hx hb hK hP 2 0 rfl rfl (vp_in_nI (n := j) (N := 8) (by omega) (by decide)) dX11_hard_46 ?_
        refine W.eq (g2 := F0 m 47 ls [.int (fm5 j), .int 2]) (congrArg (fun y9 => F0 m 47 ls (.int (fm5 y9) :: [.int 2])) ((nI_clamp (n := j) (by omega)))) ?_
        refine lv_topi (fun z12 ez12 => ?_)
        obtain ⟨j13, hj13, ejj13⟩ := hci j (by omega)
        obtain rfl : z12 = nI j13 := ez12.trans (ejj13)
        refine lv_iadd hx hb dX11_hard_47 ?_
        refine lv_topi (fun z14 ez14 => ?_)
        obtain rfl : z14 = nI (2 + j13) := ez14.trans (nI_add 2 j13)
        refine lv_iload_n hx hb dX11_hard_48 rfl (lv_at hl 0 rfl) ?_
        refine lv_iadd hx hb dX11_hard_49 ?_
        refine lv_topi (fun z15 ez15 => ?_)
        obtain rfl : z15 = nI ((2 + j13) + 2) := ez15.trans (nI_add (2 + j13) 2)
        exact W.iret (v := nI ((2 + j13) + 2)) hx hb hr (fun t ht hW => ⟨⟨nI ((2 + j13) + 2), (fun _ => 0), rfl, ⟨_, by omega, by omega, rfl⟩, trivial⟩, hS.F ht⟩) hS.2.2 dX11_hard_50
    ·
      refine lv_iconst (v := 3) hx hb dX11_hard_20 (by decide) ?_
      refine lv_goto (tgt := 39) hx hb dX11_hard_21 (by decide) ?_
      refine lv_istore_n (lv' := [(2, .int 3), (0, .ref h0), (1, .int (nI j))]) hx hb dX11_hard_39 rfl hl (by decide) rfl (fun ls hl => ?_)
      refine lv_iconst (v := 2) hx hb dX11_hard_40 (by decide) ?_
      refine lv_aload_n hx hb dX11_hard_41 rfl (lv_at hl 1 rfl) ?_
      refine va_get (D := (dC, dI)) (ci := 11) (v := .ref m5) (C := RX11) (T := TX11) (N := 46) hx hb hts hi_X11 hown hK hP 0 rfl rfl 5 (by decide) (hts (.fieldLink RX11 16 "LeftQuillsModel" "cooked" "[I") (wmx 2 rfl)) (fun _ h9 => h9) e_h0_5 dX11_hard_42 ?_
      refine lv_iload_n hx hb dX11_hard_45 rfl (lv_at hl 2 rfl) ?_
      refine va_iald hx hb hK hP 2 0 rfl rfl (vp_in_nI (n := j) (N := 8) (by omega) (by decide)) dX11_hard_46 ?_
      refine W.eq (g2 := F0 m 47 ls [.int (fm5 j), .int 2]) (congrArg (fun y9 => F0 m 47 ls (.int (fm5 y9) :: [.int 2])) ((nI_clamp (n := j) (by omega)))) ?_
      refine lv_topi (fun z16 ez16 => ?_)
      obtain ⟨j17, hj17, ejj17⟩ := hci j (by omega)
      obtain rfl : z16 = nI j17 := ez16.trans (ejj17)
      refine lv_iadd hx hb dX11_hard_47 ?_
      refine lv_topi (fun z18 ez18 => ?_)
      obtain rfl : z18 = nI (2 + j17) := ez18.trans (nI_add 2 j17)
      refine lv_iload_n hx hb dX11_hard_48 rfl (lv_at hl 0 rfl) ?_
      refine lv_iadd hx hb dX11_hard_49 ?_
      refine lv_topi (fun z19 ez19 => ?_)
      obtain rfl : z19 = nI ((2 + j17) + 3) := ez19.trans (nI_add (2 + j17) 3)
      exact W.iret (v := nI ((2 + j17) + 3)) hx hb hr (fun t ht hW => ⟨⟨nI ((2 + j17) + 3), (fun _ => 0), rfl, ⟨_, by omega, by omega, rfl⟩, trivial⟩, hS.F ht⟩) hS.2.2 dX11_hard_50
set_option maxHeartbeats 4000000 in
set_option maxRecDepth 100000 in
theorem c_X11_wears (l : Launch) (dC : Nat → ClassId) (dI : Nat → Nat → Nat) (cI cZ cQ : ClassId) (h0 : Nat) (m3 : Nat) (m4 : Nat) (m5 : Nat) (m7 : Nat) (m8 : Nat) (f_h0 : List Value) (fm3 : Nat → Int32) (fm4 : Nat → Int32) (fm5 : Nat → Int32) (fm7 : Nat → Int32) (fm8 : Nat → Int32) (j : Nat) (k : Nat) (nq : Nat) (sz : Nat) (e_h0_3 : fAt f_h0 3 = some (.ref m3)) (e_h0_4 : fAt f_h0 4 = some (.ref m4)) (e_h0_5 : fAt f_h0 5 = some (.ref m5)) (e_h0_7 : fAt f_h0 7 = some (.ref m7)) (e_h0_8 : fAt f_h0 8 = some (.ref m8)) (hnq : nq ≤ 8) (hci : cIn fm5 nq) (hj : j < nq) (hk : k < 4) : Met l yX11_wears wsX11_wears ({ frames := 1, cells := 0, slots := 0, locals := 62 }) (va_Pc [.ref h0, .int (nI j), .int (nI k)] (fun U => U.heap.size = sz ∧ va_P (dC, dI) vwCl [(h0, .inr (11, f_h0)), (m3, .inl (cI, 8, .inl fm3)), (m4, .inl (cI, 8, .inl fm4)), (m5, .inl (cI, 8, .inl fm5)), (m7, .inl (cI, 4, .inl fm7)), (m8, .inl (cI, 4, .inl fm8))] U.heap ∧ va_K (dC, dI) vwCl (tys0 cI cZ cQ) U)) (va_Qi (fun (r : Int32) (u : Nat → Nat) => True) (fun (_ : Nat → Nat) (_ : State) => True) (fun _ : Nat => False)) 0 0 (fun _ : Nat => False) := by
  refine Met.ofW (cc := cX11_wears) (maxL := 4) (ret := (some .int)) (by decide) rfl ?_
  intro p e s m args below meth c s₁ B hml hv
  obtain ⟨rfl, hsz, hP, hK⟩ := hv
  have hx := B.exec
  have hb := B.bytes
  have hr := B.returns
  have hts := atoms_spec (ws := wsX11_wears) B.pre
  have hown : s.vm.findClass RX11 = some m.cls := findClass_of_methodNamed B.named
  have hlocks := B.notSynchronized
  have hi_X11 : ∀ w ∈ u_ws RX11 TX11 46, w ∈ wsX11_wears := fun _ h => List.mem_cons_of_mem _ (List.mem_append_right _ (h))
  subst hsz
  have hS : va_S (fun _ : Nat => False) s.heap s.heap [] := va_S.rf
  have hl := lv_entry ([.ref h0, .int (nI j), .int (nI k)]) (n := 4) (Nat.le_of_ble_eq_true rfl)
  rw [lg_entry_eq]
  generalize (lg_sl ([.ref h0, .int (nI j), .int (nI k)]) ++ List.replicate (4 - (lg_sl ([.ref h0, .int (nI j), .int (nI k)])).length) Slot.unset).toArray = ls at hl ⊢
  have hl : lv_has ls 4 [(0, .ref h0), (1, .int (nI j)), (2, .int (nI k))] := hl
  refine lv_bipush (v := 12) hx hb dX11_wears_0 (by decide) ?_
  refine lv_aload_n hx hb dX11_wears_2 rfl (lv_at hl 0 rfl) ?_
  refine va_get (D := (dC, dI)) (ci := 11) (v := .ref m8) (C := RX11) (T := TX11) (N := 46) hx hb hts hi_X11 hown hK hP 0 rfl rfl 8 (by decide) (hts (.fieldLink RX11 22 "LeftQuillsModel" "presses" "[I") (wmx 1 rfl)) (fun _ h9 => h9) e_h0_8 dX11_wears_3 ?_
  refine lv_iload_n hx hb dX11_wears_6 rfl (lv_at hl 2 rfl) ?_
  refine va_iald hx hb hK hP 5 0 rfl rfl (vp_in_nI (n := k) (N := 4) (by omega) (by decide)) dX11_wears_7 ?_
  refine W.eq (g2 := F0 m 8 ls [.int (fm8 k), .int 12]) (congrArg (fun y9 => F0 m 8 ls (.int (fm8 y9) :: [.int 12])) ((nI_clamp (n := k) (by omega)))) ?_
  refine lv_imul hx hb dX11_wears_8 ?_
  refine lv_topi (fun z1 ez1 => ?_)
  refine lv_aload_n hx hb dX11_wears_9 rfl (lv_at hl 0 rfl) ?_
  refine lv_iload_n hx hb dX11_wears_10 rfl (lv_at hl 1 rfl) ?_
  have hPc := hP.sub (ws' := [(h0, .inr (11, f_h0)), (m4, .inl (cI, 8, .inl fm4)), (m5, .inl (cI, 8, .inl fm5))]) [0, 2, 3] rfl
  refine va_calli (va_runV (As := [.int (nI j)]) (rest := [.int z1]) ⟨hx, hb, hml, hown, hts⟩ (c_X11_hard l dC dI cI cZ cQ h0 m4 m5 f_h0 fm4 fm5 j nq s.heap.size e_h0_4 e_h0_5 (by omega) (by first | assumption | decide) (by omega)) (cwV 1 hts gX11_wears_X11_hard rfl rfl rfl hd_X11_hard_RX11 ⟨Nat.le_of_ble_eq_true rfl, Nat.le_of_ble_eq_true rfl⟩) (pv_R (va_recv hK hP (ci := 11) (q0 := 0) rfl rfl) hK hPc) rfl rfl hl.1 rfl (lv_room (Nat.le_of_ble_eq_true rfl)) dX11_wears_11 ⟨Nat.le_of_ble_eq_true rfl, Nat.le_of_ble_eq_true rfl⟩) hS (fun q _ h => False.elim h) (fun q h => False.elim h) (fun r2 u3 t H1 locs ht hvm hw4 hB hz1 hk1 hS => ?_)
  have hP := hP.kept (fun k q hk => hk1 q.1 (hP k q hk).lt (fun h => h))
  clear hz1 hk1 hPc
  generalize H1 = H at hP hS ht ⊢
  try dsimp only at hw4
  obtain ⟨w5, haw5, hbw5, rfl⟩ := hw4
  refine lv_idiv hx hb dX11_wears_14 (nI_ne0 (n := w5) (by omega) (by omega)) ?_
  refine lv_topi (fun z6 ez6 => ?_)
  refine lv_istore_n (lv' := [(3, .int z6), (0, .ref h0), (1, .int (nI j)), (2, .int (nI k))]) hx hb dX11_wears_15 rfl hl (by decide) rfl (fun ls hl => ?_)
  refine lv_iload_n hx hb dX11_wears_16 rfl (lv_at hl 0 rfl) ?_
  refine lv_iconst (v := 1) hx hb dX11_wears_17 (by decide) ?_
  refine lv_icmp_le (tgt := 25) hx hb dX11_wears_18 (by decide) (fun c7 => ?_) (fun c7 => ?_)
  ·
    refine lv_iconst (v := 1) hx hb dX11_wears_25 (by decide) ?_
    refine lv_istore_n (lv' := [(3, .int 1), (0, .ref h0), (1, .int (nI j)), (2, .int (nI k))]) hx hb dX11_wears_26 rfl hl (by decide) rfl (fun ls hl => ?_)
    refine lv_aload_n hx hb dX11_wears_27 rfl (lv_at hl 1 rfl) ?_
    refine va_get (D := (dC, dI)) (ci := 11) (v := .ref m3) (C := RX11) (T := TX11) (N := 46) hx hb hts hi_X11 hown hK hP 0 rfl rfl 3 (by decide) (hts (.fieldLink RX11 7 "LeftQuillsModel" "wing" "[I") (wmx 2 rfl)) (fun _ h9 => h9) e_h0_3 dX11_wears_28 ?_
    refine lv_iload_n hx hb dX11_wears_31 rfl (lv_at hl 2 rfl) ?_
    refine va_iald hx hb hK hP 1 0 rfl rfl (vp_in_nI (n := j) (N := 8) (by omega) (by decide)) dX11_wears_32 ?_
    refine W.eq (g2 := F0 m 33 ls [.int (fm3 j)]) (congrArg (fun y9 => F0 m 33 ls (.int (fm3 y9) :: [])) ((nI_clamp (n := j) (by omega)))) ?_
    refine lv_aload_n hx hb dX11_wears_33 rfl (lv_at hl 1 rfl) ?_
    refine va_get (D := (dC, dI)) (ci := 11) (v := .ref m7) (C := RX11) (T := TX11) (N := 46) hx hb hts hi_X11 hown hK hP 0 rfl rfl 7 (by decide) (hts (.fieldLink RX11 19 "LeftQuillsModel" "side" "[I") (wmx 3 rfl)) (fun _ h9 => h9) e_h0_7 dX11_wears_34 ?_
    refine lv_iload_n hx hb dX11_wears_37 rfl (lv_at hl 3 rfl) ?_
    refine va_iald hx hb hK hP 4 0 rfl rfl (vp_in_nI (n := k) (N := 4) (by omega) (by decide)) dX11_wears_38 ?_
    refine W.eq (g2 := F0 m 39 ls [.int (fm7 k), .int (fm3 j)]) (congrArg (fun y9 => F0 m 39 ls (.int (fm7 y9) :: [.int (fm3 j)])) ((nI_clamp (n := k) (by omega)))) ?_
    refine lv_icmp_ne (tgt := 46) hx hb dX11_wears_39 (by decide) (fun c8 => ?_) (fun c8 => ?_)
    ·
      refine lv_iload_n hx hb dX11_wears_46 rfl (lv_at hl 0 rfl) ?_
      refine lv_iconst (v := 4) hx hb dX11_wears_47 (by decide) ?_
      refine lv_iadd hx hb dX11_wears_48 ?_
      refine lv_topi (fun z9 ez9 => ?_)
      obtain rfl : z9 = 5 := ez9.trans (by decide)
      exact W.iret (v := 5) hx hb hr (fun t ht hW => ⟨⟨5, (fun _ => 0), rfl, trivial, trivial⟩, hS.F ht⟩) hS.2.2 dX11_wears_49
    ·
      refine lv_iload_n hx hb dX11_wears_42 rfl (lv_at hl 0 rfl) ?_
      refine lv_goto (tgt := 49) hx hb dX11_wears_43 (by decide) ?_
      exact W.iret (v := 1) hx hb hr (fun t ht hW => ⟨⟨1, (fun _ => 0), rfl, trivial, trivial⟩, hS.F ht⟩) hS.2.2 dX11_wears_49
  ·
    refine lv_iload_n hx hb dX11_wears_21 rfl (lv_at hl 0 rfl) ?_
    refine lv_goto (tgt := 26) hx hb dX11_wears_22 (by decide) ?_
    refine lv_istore_n (lv' := [(3, .int z6), (0, .ref h0), (1, .int (nI j)), (2, .int (nI k))]) hx hb dX11_wears_26 rfl hl (by decide) rfl (fun ls hl => ?_)
    refine lv_aload_n hx hb dX11_wears_27 rfl (lv_at hl 1 rfl) ?_
    refine va_get (D := (dC, dI)) (ci := 11) (v := .ref m3) (C := RX11) (T := TX11) (N := 46) hx hb hts hi_X11 hown hK hP 0 rfl rfl 3 (by decide) (hts (.fieldLink RX11 7 "LeftQuillsModel" "wing" "[I") (wmx 2 rfl)) (fun _ h9 => h9) e_h0_3 dX11_wears_28 ?_
    refine lv_iload_n hx hb dX11_wears_31 rfl (lv_at hl 2 rfl) ?_
    refine va_iald hx hb hK hP 1 0 rfl rfl (vp_in_nI (n := j) (N := 8) (by omega) (by decide)) dX11_wears_32 ?_
    refine W.eq (g2 := F0 m 33 ls [.int (fm3 j)]) (congrArg (fun y9 => F0 m 33 ls (.int (fm3 y9) :: [])) ((nI_clamp (n := j) (by omega)))) ?_
    refine lv_aload_n hx hb dX11_wears_33 rfl (lv_at hl 1 rfl) ?_
    refine va_get (D := (dC, dI)) (ci := 11) (v := .ref m7) (C := RX11) (T := TX11) (N := 46) hx hb hts hi_X11 hown hK hP 0 rfl rfl 7 (by decide) (hts (.fieldLink RX11 19 "LeftQuillsModel" "side" "[I") (wmx 3 rfl)) (fun _ h9 => h9) e_h0_7 dX11_wears_34 ?_
    refine lv_iload_n hx hb dX11_wears_37 rfl (lv_at hl 3 rfl) ?_
    refine va_iald hx hb hK hP 4 0 rfl rfl (vp_in_nI (n := k) (N := 4) (by omega) (by decide)) dX11_wears_38 ?_
    refine W.eq (g2 := F0 m 39 ls [.int (fm7 k), .int (fm3 j)]) (congrArg (fun y9 => F0 m 39 ls (.int (fm7 y9) :: [.int (fm3 j)])) ((nI_clamp (n := k) (by omega)))) ?_
    refine lv_icmp_ne (tgt := 46) hx hb dX11_wears_39 (by decide) (fun c10 => ?_) (fun c10 => ?_)
    ·
      refine lv_iload_n hx hb dX11_wears_46 rfl (lv_at hl 0 rfl) ?_
      refine lv_iconst (v := 4) hx hb dX11_wears_47 (by decide) ?_
      refine lv_iadd hx hb dX11_wears_48 ?_
      refine lv_topi (fun z11 ez11 => ?_)
      exact W.iret (v := z11) hx hb hr (fun t ht hW => ⟨⟨z11, (fun _ => 0), rfl, trivial, trivial⟩, hS.F ht⟩) hS.2.2 dX11_wears_49
    ·
      refine lv_iload_n hx hb dX11_wears_42 rfl (lv_at hl 0 rfl) ?_
      refine lv_goto (tgt := 49) hx hb dX11_wears_43 (by decide) ?_
      exact W.iret (v := z6) hx hb hr (fun t ht hW => ⟨⟨z6, (fun _ => 0), rfl, trivial, trivial⟩, hS.F ht⟩) hS.2.2 dX11_wears_49
set_option maxHeartbeats 4000000 in
set_option maxRecDepth 100000 in
theorem c_X11_softBehind (l : Launch) (dC : Nat → ClassId) (dI : Nat → Nat → Nat) (cI cZ cQ : ClassId) (h0 : Nat) (m3 : Nat) (m4 : Nat) (m5 : Nat) (m7 : Nat) (m8 : Nat) (f_h0 : List Value) (fm3 : Nat → Int32) (fm4 : Nat → Int32) (fm5 : Nat → Int32) (fm7 : Nat → Int32) (fm8 : Nat → Int32) (a0 : Int32) (j : Nat) (k : Nat) (nq : Nat) (sz : Nat) (e_h0_3 : fAt f_h0 3 = some (.ref m3)) (e_h0_4 : fAt f_h0 4 = some (.ref m4)) (e_h0_5 : fAt f_h0 5 = some (.ref m5)) (e_h0_7 : fAt f_h0 7 = some (.ref m7)) (e_h0_8 : fAt f_h0 8 = some (.ref m8)) (hnq : nq ≤ 8) (hci : cIn fm5 nq) (hj : j < nq) (hk : k < 4) : Met l yX11_softBehind wsX11_softBehind ({ frames := 2, cells := 0, slots := 0, locals := 85 }) (va_Pc [.ref h0, .int a0, .int (nI j), .int (nI k)] (fun U => U.heap.size = sz ∧ va_P (dC, dI) vwCl [(h0, .inr (11, f_h0)), (m3, .inl (cI, 8, .inl fm3)), (m4, .inl (cI, 8, .inl fm4)), (m5, .inl (cI, 8, .inl fm5)), (m7, .inl (cI, 4, .inl fm7)), (m8, .inl (cI, 4, .inl fm8))] U.heap ∧ va_K (dC, dI) vwCl (tys0 cI cZ cQ) U)) (va_Qi (fun (r : Int32) (u : Nat → Nat) => True) (fun (_ : Nat → Nat) (_ : State) => True) (fun _ : Nat => False)) 0 0 (fun _ : Nat => False) := by
  refine Met.ofW (cc := cX11_softBehind) (maxL := 5) (ret := (some .int)) (by decide) rfl ?_
  intro p e s m args below meth c s₁ B hml hv
  obtain ⟨rfl, hsz, hP, hK⟩ := hv
  have hx := B.exec
  have hb := B.bytes
  have hr := B.returns
  have hts := atoms_spec (ws := wsX11_softBehind) B.pre
  have hown : s.vm.findClass RX11 = some m.cls := findClass_of_methodNamed B.named
  have hlocks := B.notSynchronized
  subst hsz
  have hS : va_S (fun _ : Nat => False) s.heap s.heap [] := va_S.rf
  have hl := lv_entry ([.ref h0, .int a0, .int (nI j), .int (nI k)]) (n := 5) (Nat.le_of_ble_eq_true rfl)
  rw [lg_entry_eq]
  generalize (lg_sl ([.ref h0, .int a0, .int (nI j), .int (nI k)]) ++ List.replicate (5 - (lg_sl ([.ref h0, .int a0, .int (nI j), .int (nI k)])).length) Slot.unset).toArray = ls at hl ⊢
  have hl : lv_has ls 5 [(0, .ref h0), (1, .int a0), (2, .int (nI j)), (3, .int (nI k))] := hl
  refine lv_iload_n hx hb dX11_softBehind_0 rfl (lv_at hl 1 rfl) ?_
  refine lv_aload_n hx hb dX11_softBehind_1 rfl (lv_at hl 0 rfl) ?_
  refine lv_iload_n hx hb dX11_softBehind_2 rfl (lv_at hl 2 rfl) ?_
  refine lv_iload_n hx hb dX11_softBehind_3 rfl (lv_at hl 3 rfl) ?_
  have hPc := hP.sub (ws' := [(h0, .inr (11, f_h0)), (m3, .inl (cI, 8, .inl fm3)), (m4, .inl (cI, 8, .inl fm4)), (m5, .inl (cI, 8, .inl fm5)), (m7, .inl (cI, 4, .inl fm7)), (m8, .inl (cI, 4, .inl fm8))]) [0, 1, 2, 3, 4, 5] rfl
  refine va_calli (va_runV (As := [.int (nI j), .int (nI k)]) (rest := [.int a0]) ⟨hx, hb, hml, hown, hts⟩ (c_X11_wears l dC dI cI cZ cQ h0 m3 m4 m5 m7 m8 f_h0 fm3 fm4 fm5 fm7 fm8 j k nq s.heap.size e_h0_3 e_h0_4 e_h0_5 e_h0_7 e_h0_8 (by omega) (by first | assumption | decide) (by omega) (by omega)) (cwV 2 hts gX11_softBehind_X11_wears rfl rfl rfl hd_X11_wears_RX11 ⟨Nat.le_of_ble_eq_true rfl, Nat.le_of_ble_eq_true rfl⟩) (pv_R (va_recv hK hP (ci := 11) (q0 := 0) rfl rfl) hK hPc) rfl rfl hl.1 rfl (lv_room (Nat.le_of_ble_eq_true rfl)) dX11_softBehind_4 ⟨Nat.le_of_ble_eq_true rfl, Nat.le_of_ble_eq_true rfl⟩) hS (fun q _ h => False.elim h) (fun q h => False.elim h) (fun r1 u2 t H1 locs ht hvm hw3 hB hz1 hk1 hS => ?_)
  have hP := hP.kept (fun k q hk => hk1 q.1 (hP k q hk).lt (fun h => h))
  clear hz1 hk1 hPc
  generalize H1 = H at hP hS ht ⊢
  try dsimp only at hw3
  refine lv_iadd hx hb dX11_softBehind_7 ?_
  refine lv_topi (fun z4 ez4 => ?_)
  refine lv_istore (lv' := [(4, .int z4), (0, .ref h0), (1, .int a0), (2, .int (nI j)), (3, .int (nI k))]) hx hb dX11_softBehind_8 hl (by decide) rfl (fun ls hl => ?_)
  refine lv_iload hx hb dX11_softBehind_10 (lv_at hl 0 rfl) ?_
  refine lv_bipush (v := 99) hx hb dX11_softBehind_12 (by decide) ?_
  refine lv_icmp_ge (tgt := 22) hx hb dX11_softBehind_14 (by decide) (fun c5 => ?_) (fun c5 => ?_)
  ·
    refine lv_bipush (v := 99) hx hb dX11_softBehind_22 (by decide) ?_
    exact W.iret (v := 99) hx hb hr (fun t ht hW => ⟨⟨99, (fun _ => 0), rfl, trivial, trivial⟩, hS.F ht⟩) hS.2.2 dX11_softBehind_24
  ·
    refine lv_iload hx hb dX11_softBehind_17 (lv_at hl 0 rfl) ?_
    refine lv_goto (tgt := 24) hx hb dX11_softBehind_19 (by decide) ?_
    exact W.iret (v := z4) hx hb hr (fun t ht hW => ⟨⟨z4, (fun _ => 0), rfl, trivial, trivial⟩, hS.F ht⟩) hS.2.2 dX11_softBehind_24
set_option maxHeartbeats 4000000 in
set_option maxRecDepth 100000 in
theorem c_X11_suits (l : Launch) (dC : Nat → ClassId) (dI : Nat → Nat → Nat) (cI cZ cQ : ClassId) (h0 : Nat) (m9 : Nat) (f_h0 : List Value) (fm9 : Nat → Int32) (a0 : Int32) (k : Nat) (sz : Nat) (e_h0_9 : fAt f_h0 9 = some (.ref m9)) (hk : k < 4) : Met l yX11_suits wsX11_suits ({ frames := 1, cells := 0, slots := 0, locals := 65 }) (va_Pc [.ref h0, .int a0, .int (nI k)] (fun U => U.heap.size = sz ∧ va_P (dC, dI) vwCl [(h0, .inr (11, f_h0)), (m9, .inl (cI, 4, .inl fm9))] U.heap ∧ va_K (dC, dI) vwCl (tys0 cI cZ cQ) U)) (va_Qi (fun (r : Int32) (u : Nat → Nat) => r = 1 ∨ r = 0) (fun (_ : Nat → Nat) (_ : State) => True) (fun _ : Nat => False)) 0 0 (fun _ : Nat => False) := by
  refine Met.ofW (cc := cX11_suits) (maxL := 3) (ret := (some .boolean)) (by decide) rfl ?_
  intro p e s m args below meth c s₁ B hml hv
  obtain ⟨rfl, hsz, hP, hK⟩ := hv
  have hx := B.exec
  have hb := B.bytes
  have hr := B.returns
  have hts := atoms_spec (ws := wsX11_suits) B.pre
  have hown : s.vm.findClass RX11 = some m.cls := findClass_of_methodNamed B.named
  have hlocks := B.notSynchronized
  have hi_X11 : ∀ w ∈ u_ws RX11 TX11 46, w ∈ wsX11_suits := fun _ h => List.mem_cons_of_mem _ (List.mem_append_right _ (h))
  subst hsz
  have hS : va_S (fun _ : Nat => False) s.heap s.heap [] := va_S.rf
  have hl := lv_entry ([.ref h0, .int a0, .int (nI k)]) (n := 3) (Nat.le_of_ble_eq_true rfl)
  rw [lg_entry_eq]
  generalize (lg_sl ([.ref h0, .int a0, .int (nI k)]) ++ List.replicate (3 - (lg_sl ([.ref h0, .int a0, .int (nI k)])).length) Slot.unset).toArray = ls at hl ⊢
  have hl : lv_has ls 3 [(0, .ref h0), (1, .int a0), (2, .int (nI k))] := hl
  refine lv_iload_n hx hb dX11_suits_0 rfl (lv_at hl 1 rfl) ?_
  refine lv_aload_n hx hb dX11_suits_1 rfl (lv_at hl 0 rfl) ?_
  refine va_get (D := (dC, dI)) (ci := 11) (v := .ref m9) (C := RX11) (T := TX11) (N := 46) hx hb hts hi_X11 hown hK hP 0 rfl rfl 9 (by decide) (hts (.fieldLink RX11 25 "LeftQuillsModel" "wants" "[I") (wmx 1 rfl)) (fun _ h9 => h9) e_h0_9 dX11_suits_2 ?_
  refine lv_iload_n hx hb dX11_suits_5 rfl (lv_at hl 2 rfl) ?_
  refine va_iald hx hb hK hP 1 0 rfl rfl (vp_in_nI (n := k) (N := 4) (by omega) (by decide)) dX11_suits_6 ?_
  refine W.eq (g2 := F0 m 7 ls [.int (fm9 k), .int a0]) (congrArg (fun y9 => F0 m 7 ls (.int (fm9 y9) :: [.int a0])) ((nI_clamp (n := k) (by omega)))) ?_
  refine lv_isub hx hb dX11_suits_7 ?_
  refine lv_topi (fun z1 ez1 => ?_)
  refine lv_i2l hx hb dX11_suits_8 rfl ?_
  refine lv_ldc2 (v := (-1)) hx hb hown (hts (.constantLong RX11 198 (-1)) (wmx 2 rfl)) dX11_suits_9 ?_
  refine lv_topl (fun z2 ez2 => ?_)
  obtain rfl : z2 = ((-1) : Int32).toInt64 := ez2.trans (by decide)
  refine lv_lconst (v := 1) hx hb dX11_suits_12 (by decide) ?_
  refine lv_topl (fun z3 ez3 => ?_)
  obtain rfl : z3 = (1 : Int32).toInt64 := ez3.trans (by decide)
  have hPc := hP.sub (ws' := []) [] rfl
  refine va_calli (va_runS (As := [.long z1.toInt64, .long (((-1) : Int32).toInt64), .long ((1 : Int32).toInt64)]) (rest := []) ⟨hx, hb, hml, hown, hts⟩ (c_X11_in l dC dI cI cZ cQ z1 (-1) 1 s.heap.size ) (va_cwS 3 hts gX11_suits_X11_in rfl rfl rfl (by decide +kernel) ⟨Nat.le_of_ble_eq_true rfl, Nat.le_of_ble_eq_true rfl⟩) (ps_R hK hPc) rfl rfl hl.1 rfl (lv_room (Nat.le_of_ble_eq_true rfl)) dX11_suits_13 ⟨Nat.le_of_ble_eq_true rfl, Nat.le_of_ble_eq_true rfl⟩) hS (fun q _ h => False.elim h) (fun q h => False.elim h) (fun r4 u5 t H1 locs ht hvm hw6 hB hz1 hk1 hS => ?_)
  have hP := hP.kept (fun k q hk => hk1 q.1 (hP k q hk).lt (fun h => h))
  clear hz1 hk1 hPc
  generalize H1 = H at hP hS ht ⊢
  try dsimp only at hw6
  rcases hw6 with ⟨rfl, hw6⟩ | ⟨rfl, hw6⟩
  ·
    exact W.zret (v := 1) hx hb hr (rfl) (fun t ht hW => ⟨⟨1, (fun _ => 0), rfl, Or.inl rfl, trivial⟩, hS.F ht⟩) hS.2.2 dX11_suits_16
  ·
    exact W.zret (v := 0) hx hb hr (rfl) (fun t ht hW => ⟨⟨0, (fun _ => 0), rfl, Or.inr rfl, trivial⟩, hS.F ht⟩) hS.2.2 dX11_suits_16
set_option maxHeartbeats 4000000 in
set_option maxRecDepth 100000 in
theorem c_X11_page (l : Launch) (dC : Nat → ClassId) (dI : Nat → Nat → Nat) (cI cZ cQ : ClassId) (h0 : Nat) (m3 : Nat) (m4 : Nat) (m5 : Nat) (m7 : Nat) (m8 : Nat) (m9 : Nat) (m10 : Nat) (f_h0 : List Value) (fm3 : Nat → Int32) (fm4 : Nat → Int32) (fm5 : Nat → Int32) (fm7 : Nat → Int32) (fm8 : Nat → Int32) (fm9 : Nat → Int32) (fm10 : Nat → Int32) (j : Nat) (k : Nat) (nq : Nat) (sz : Nat) (e_h0_3 : fAt f_h0 3 = some (.ref m3)) (e_h0_4 : fAt f_h0 4 = some (.ref m4)) (e_h0_5 : fAt f_h0 5 = some (.ref m5)) (e_h0_7 : fAt f_h0 7 = some (.ref m7)) (e_h0_8 : fAt f_h0 8 = some (.ref m8)) (e_h0_9 : fAt f_h0 9 = some (.ref m9)) (e_h0_10 : fAt f_h0 10 = some (.ref m10)) (hnq : nq ≤ 8) (hci : cIn fm5 nq) (hj : j < nq) (hk : k < 4) : Met l yX11_page wsX11_page ({ frames := 3, cells := 0, slots := 0, locals := 109 }) (va_Pc [.ref h0, .int (nI j), .int (nI k)] (fun U => U.heap.size = sz ∧ va_P (dC, dI) vwCl [(h0, .inr (11, f_h0)), (m3, .inl (cI, 8, .inl fm3)), (m4, .inl (cI, 8, .inl fm4)), (m5, .inl (cI, 8, .inl fm5)), (m7, .inl (cI, 4, .inl fm7)), (m8, .inl (cI, 4, .inl fm8)), (m9, .inl (cI, 4, .inl fm9)), (m10, .inl (cI, 34, .inl fm10))] U.heap ∧ va_K (dC, dI) vwCl (tys0 cI cZ cQ) U ∧ va_D (fun _ => True) [(h0, .inr (11, f_h0)), (m3, .inl (cI, 8, .inl fm3)), (m4, .inl (cI, 8, .inl fm4)), (m5, .inl (cI, 8, .inl fm5)), (m7, .inl (cI, 4, .inl fm7)), (m8, .inl (cI, 4, .inl fm8)), (m9, .inl (cI, 4, .inl fm9)), (m10, .inl (cI, 34, .inl fm10))])) (va_Qi (fun (r : Int32) (u : Nat → Nat) => r = 1 ∨ r = 0) (fun (_ : Nat → Nat) (t : State) => ∃ (gg0 : Nat → Int32) , va_P (dC, dI) vwCl [(h0, .inr (11, f_h0)), (m3, .inl (cI, 8, .inl fm3)), (m4, .inl (cI, 8, .inl fm4)), (m5, .inl (cI, 8, .inl fm5)), (m7, .inl (cI, 4, .inl fm7)), (m8, .inl (cI, 4, .inl fm8)), (m9, .inl (cI, 4, .inl fm9)), (m10, .inl (cI, 34, .inl gg0))] t.heap ∧ va_D (va_A [(h0, .inr (11, f_h0)), (m3, .inl (cI, 8, .inl fm3)), (m4, .inl (cI, 8, .inl fm4)), (m5, .inl (cI, 8, .inl fm5)), (m7, .inl (cI, 4, .inl fm7)), (m8, .inl (cI, 4, .inl fm8)), (m9, .inl (cI, 4, .inl fm9)), (m10, .inl (cI, 34, .inl fm10))] sz) [(h0, .inr (11, f_h0)), (m3, .inl (cI, 8, .inl fm3)), (m4, .inl (cI, 8, .inl fm4)), (m5, .inl (cI, 8, .inl fm5)), (m7, .inl (cI, 4, .inl fm7)), (m8, .inl (cI, 4, .inl fm8)), (m9, .inl (cI, 4, .inl fm9)), (m10, .inl (cI, 34, .inl gg0))]) (va_A [(h0, .inr (11, f_h0)), (m3, .inl (cI, 8, .inl fm3)), (m4, .inl (cI, 8, .inl fm4)), (m5, .inl (cI, 8, .inl fm5)), (m7, .inl (cI, 4, .inl fm7)), (m8, .inl (cI, 4, .inl fm8)), (m9, .inl (cI, 4, .inl fm9)), (m10, .inl (cI, 34, .inl fm10))] sz)) 0 0 (va_A [(h0, .inr (11, f_h0)), (m3, .inl (cI, 8, .inl fm3)), (m4, .inl (cI, 8, .inl fm4)), (m5, .inl (cI, 8, .inl fm5)), (m7, .inl (cI, 4, .inl fm7)), (m8, .inl (cI, 4, .inl fm8)), (m9, .inl (cI, 4, .inl fm9)), (m10, .inl (cI, 34, .inl fm10))] sz) := by
  refine Met.ofW (cc := cX11_page) (maxL := 3) (ret := (some .boolean)) (by decide) rfl ?_
  intro p e s m args below meth c s₁ B hml hv
  obtain ⟨rfl, hsz, hP, hK, hD0⟩ := hv
  have hx := B.exec
  have hb := B.bytes
  have hr := B.returns
  have hts := atoms_spec (ws := wsX11_page) B.pre
  have hown : s.vm.findClass RX11 = some m.cls := findClass_of_methodNamed B.named
  have hlocks := B.notSynchronized
  have hi_X11 : ∀ w ∈ u_ws RX11 TX11 46, w ∈ wsX11_page := fun _ h => List.mem_cons_of_mem _ (List.mem_append_right _ (h))
  subst hsz
  have hD := hD0.self (sz := s.heap.size)
  generalize hAe : va_A [(h0, .inr (11, f_h0)), (m3, .inl (cI, 8, .inl fm3)), (m4, .inl (cI, 8, .inl fm4)), (m5, .inl (cI, 8, .inl fm5)), (m7, .inl (cI, 4, .inl fm7)), (m8, .inl (cI, 4, .inl fm8)), (m9, .inl (cI, 4, .inl fm9)), (m10, .inl (cI, 34, .inl fm10))] s.heap.size = A at hD ⊢
  have hA : ∀ q : Nat, s.heap.size ≤ q → A q := fun q h => by rw [← hAe]; exact Or.inr h
  have hS : va_S A s.heap s.heap [] := va_S.rf
  have hl := lv_entry ([.ref h0, .int (nI j), .int (nI k)]) (n := 3) (Nat.le_of_ble_eq_true rfl)
  rw [lg_entry_eq]
  generalize (lg_sl ([.ref h0, .int (nI j), .int (nI k)]) ++ List.replicate (3 - (lg_sl ([.ref h0, .int (nI j), .int (nI k)])).length) Slot.unset).toArray = ls at hl ⊢
  have hl : lv_has ls 3 [(0, .ref h0), (1, .int (nI j)), (2, .int (nI k))] := hl
  refine lv_aload_n hx hb dX11_page_0 rfl (lv_at hl 0 rfl) ?_
  refine va_get (D := (dC, dI)) (ci := 11) (v := .ref m10) (C := RX11) (T := TX11) (N := 46) hx hb hts hi_X11 hown hK hP 0 rfl rfl 10 (by decide) (hts (.fieldLink RX11 28 "LeftQuillsModel" "now" "[I") (wmx 1 rfl)) (fun _ h9 => h9) e_h0_10 dX11_page_1 ?_
  refine lv_bipush (v := 16) hx hb dX11_page_4 (by decide) ?_
  refine lv_iload_n hx hb dX11_page_6 rfl (lv_at hl 1 rfl) ?_
  refine lv_iadd hx hb dX11_page_7 ?_
  refine lv_topi (fun z1 ez1 => ?_)
  obtain rfl : z1 = nI (16 + j) := ez1.trans (nI_add 16 j)
  refine lv_aload_n hx hb dX11_page_8 rfl (lv_at hl 0 rfl) ?_
  refine lv_aload_n hx hb dX11_page_9 rfl (lv_at hl 0 rfl) ?_
  refine va_get (D := (dC, dI)) (ci := 11) (v := .ref m10) (C := RX11) (T := TX11) (N := 46) hx hb hts hi_X11 hown hK hP 0 rfl rfl 10 (by decide) (hts (.fieldLink RX11 28 "LeftQuillsModel" "now" "[I") (wmx 1 rfl)) (fun _ h9 => h9) e_h0_10 dX11_page_10 ?_
  refine lv_bipush (v := 16) hx hb dX11_page_13 (by decide) ?_
  refine lv_iload_n hx hb dX11_page_15 rfl (lv_at hl 1 rfl) ?_
  refine lv_iadd hx hb dX11_page_16 ?_
  refine lv_topi (fun z2 ez2 => ?_)
  obtain rfl : z2 = nI (16 + j) := ez2.trans (nI_add 16 j)
  refine va_iald hx hb hK hP 7 0 rfl rfl (vp_in_nI (n := 16 + j) (N := 34) (by omega) (by decide)) dX11_page_17 ?_
  refine W.eq (g2 := F0 m 18 ls [.int (fm10 (16 + j)), .ref h0, .int (nI (16 + j)), .ref m10]) (congrArg (fun y9 => F0 m 18 ls (.int (fm10 y9) :: [.ref h0, .int (nI (16 + j)), .ref m10])) ((nI_clamp (n := 16 + j) (by omega)))) ?_
  refine lv_iload_n hx hb dX11_page_18 rfl (lv_at hl 1 rfl) ?_
  refine lv_iload_n hx hb dX11_page_19 rfl (lv_at hl 2 rfl) ?_
  have hPc := hP.sub (ws' := [(h0, .inr (11, f_h0)), (m3, .inl (cI, 8, .inl fm3)), (m4, .inl (cI, 8, .inl fm4)), (m5, .inl (cI, 8, .inl fm5)), (m7, .inl (cI, 4, .inl fm7)), (m8, .inl (cI, 4, .inl fm8))]) [0, 1, 2, 3, 4, 5] rfl
  refine va_calli (va_runV (As := [.int (fm10 (16 + j)), .int (nI j), .int (nI k)]) (rest := [.int (nI (16 + j)), .ref m10]) ⟨hx, hb, hml, hown, hts⟩ (c_X11_softBehind l dC dI cI cZ cQ h0 m3 m4 m5 m7 m8 f_h0 fm3 fm4 fm5 fm7 fm8 (fm10 (16 + j)) j k nq s.heap.size e_h0_3 e_h0_4 e_h0_5 e_h0_7 e_h0_8 (by omega) (by first | assumption | decide) (by omega) (by omega)) (cwV 3 hts gX11_page_X11_softBehind rfl rfl rfl hd_X11_softBehind_RX11 ⟨Nat.le_of_ble_eq_true rfl, Nat.le_of_ble_eq_true rfl⟩) (pv_R (va_recv hK hP (ci := 11) (q0 := 0) rfl rfl) hK hPc) rfl rfl hl.1 rfl (lv_room (Nat.le_of_ble_eq_true rfl)) dX11_page_20 ⟨Nat.le_of_ble_eq_true rfl, Nat.le_of_ble_eq_true rfl⟩) hS (fun q _ h => False.elim h) (fun q h => False.elim h) (fun r3 u4 t H1 locs ht hvm hw5 hB hz1 hk1 hS => ?_)
  have hP := hP.kept (fun k q hk => hk1 q.1 (hP k q hk).lt (fun h => h))
  clear hz1 hk1 hPc
  generalize H1 = H at hP hS ht ⊢
  try dsimp only at hw5
  refine va_iast hx hb hK hP hD hS 7 0 rfl rfl (vp_in_nI (n := 16 + j) (N := 34) (by omega) (by decide)) dX11_page_23 (fun H locs hP hD hS => ?_)
  generalize hgf6 : upd fm10 ((nI (16 + j)).toNatClampNeg) r3 = f6 at hP hD
  have hPD : pdW (dC, dI) vwCl A [(h0, .inr (11, f_h0)), (m3, .inl (cI, 8, .inl fm3)), (m4, .inl (cI, 8, .inl fm4)), (m5, .inl (cI, 8, .inl fm5)), (m7, .inl (cI, 4, .inl fm7)), (m8, .inl (cI, 4, .inl fm8)), (m9, .inl (cI, 4, .inl fm9)), (m10, .inl (cI, 34, .inl f6))] H := ⟨hP, hD⟩
  have hP := hPD.1
  have hD := hPD.2
  clear hPD
  refine lv_aload_n hx hb dX11_page_24 rfl (lv_at hl 0 rfl) ?_
  refine va_get (D := (dC, dI)) (ci := 11) (v := .ref m10) (C := RX11) (T := TX11) (N := 46) hx hb hts hi_X11 hown hK hP 0 rfl rfl 10 (by decide) (hts (.fieldLink RX11 28 "LeftQuillsModel" "now" "[I") (wmx 1 rfl)) (fun _ h9 => h9) e_h0_10 dX11_page_25 ?_
  refine lv_bipush (v := 32) hx hb dX11_page_28 (by decide) ?_
  refine lv_dup2_11 hx hb dX11_page_30 rfl rfl ?_
  refine va_iald hx hb hK hP 7 0 rfl rfl (vp_in_iff.mpr ⟨by decide, by decide⟩) dX11_page_31 ?_
  refine W.eq (g2 := F0 m 32 ls [.int (f6 32), .int 32, .ref m10]) (congrArg (fun y9 => F0 m 32 ls (.int (f6 y9) :: [.int 32, .ref m10])) ((show ((32 : Int32)).toNatClampNeg = 32 from by decide))) ?_
  refine lv_iconst (v := 2) hx hb dX11_page_32 (by decide) ?_
  refine lv_iadd hx hb dX11_page_33 ?_
  refine lv_topi (fun z7 ez7 => ?_)
  refine va_iast hx hb hK hP hD hS 7 0 rfl rfl (vp_in_iff.mpr ⟨by decide, by decide⟩) dX11_page_34 (fun H locs hP hD hS => ?_)
  generalize hgf8 : upd f6 ((32 : Int32).toNatClampNeg) z7 = f8 at hP hD
  have hPD : pdW (dC, dI) vwCl A [(h0, .inr (11, f_h0)), (m3, .inl (cI, 8, .inl fm3)), (m4, .inl (cI, 8, .inl fm4)), (m5, .inl (cI, 8, .inl fm5)), (m7, .inl (cI, 4, .inl fm7)), (m8, .inl (cI, 4, .inl fm8)), (m9, .inl (cI, 4, .inl fm9)), (m10, .inl (cI, 34, .inl f8))] H := ⟨hP, hD⟩
  have hP := hPD.1
  have hD := hPD.2
  clear hPD
  refine lv_aload_n hx hb dX11_page_35 rfl (lv_at hl 0 rfl) ?_
  refine va_get (D := (dC, dI)) (ci := 11) (v := .ref m10) (C := RX11) (T := TX11) (N := 46) hx hb hts hi_X11 hown hK hP 0 rfl rfl 10 (by decide) (hts (.fieldLink RX11 28 "LeftQuillsModel" "now" "[I") (wmx 1 rfl)) (fun _ h9 => h9) e_h0_10 dX11_page_36 ?_
  refine lv_bipush (v := 16) hx hb dX11_page_39 (by decide) ?_
  refine lv_iload_n hx hb dX11_page_41 rfl (lv_at hl 1 rfl) ?_
  refine lv_iadd hx hb dX11_page_42 ?_
  refine lv_topi (fun z9 ez9 => ?_)
  obtain rfl : z9 = nI (16 + j) := ez9.trans (nI_add 16 j)
  refine va_iald hx hb hK hP 7 0 rfl rfl (vp_in_nI (n := 16 + j) (N := 34) (by omega) (by decide)) dX11_page_43 ?_
  refine W.eq (g2 := F0 m 44 ls [.int (f8 (16 + j))]) (congrArg (fun y9 => F0 m 44 ls (.int (f8 y9) :: [])) ((nI_clamp (n := 16 + j) (by omega)))) ?_
  refine lv_bipush (v := 50) hx hb dX11_page_44 (by decide) ?_
  refine lv_icmp_gt (tgt := 70) hx hb dX11_page_46 (by decide) (fun c10 => ?_) (fun c10 => ?_)
  ·
    refine lv_iconst (v := 0) hx hb dX11_page_70 (by decide) ?_
    have hP9 := hP.sub (ws' := [(h0, .inr (11, f_h0)), (m3, .inl (cI, 8, .inl fm3)), (m4, .inl (cI, 8, .inl fm4)), (m5, .inl (cI, 8, .inl fm5)), (m7, .inl (cI, 4, .inl fm7)), (m8, .inl (cI, 4, .inl fm8)), (m9, .inl (cI, 4, .inl fm9)), (m10, .inl (cI, 34, .inl f8))]) [0, 1, 2, 3, 4, 5, 6, 7] rfl
    have hD9 := hD.sub (ws' := [(h0, .inr (11, f_h0)), (m3, .inl (cI, 8, .inl fm3)), (m4, .inl (cI, 8, .inl fm4)), (m5, .inl (cI, 8, .inl fm5)), (m7, .inl (cI, 4, .inl fm7)), (m8, .inl (cI, 4, .inl fm8)), (m9, .inl (cI, 4, .inl fm9)), (m10, .inl (cI, 34, .inl f8))]) [0, 1, 2, 3, 4, 5, 6, 7] (by decide +kernel) rfl
    exact W.zret (v := 0) hx hb hr (rfl) (fun t ht hW => ⟨⟨0, (fun _ => 0), rfl, Or.inr rfl, ⟨f8, va_hq ht hP9, hD9⟩⟩, hS.F ht⟩) hS.2.2 dX11_page_71
  ·
    refine lv_aload_n hx hb dX11_page_49 rfl (lv_at hl 0 rfl) ?_
    refine lv_aload_n hx hb dX11_page_50 rfl (lv_at hl 0 rfl) ?_
    refine va_get (D := (dC, dI)) (ci := 11) (v := .ref m10) (C := RX11) (T := TX11) (N := 46) hx hb hts hi_X11 hown hK hP 0 rfl rfl 10 (by decide) (hts (.fieldLink RX11 28 "LeftQuillsModel" "now" "[I") (wmx 1 rfl)) (fun _ h9 => h9) e_h0_10 dX11_page_51 ?_
    refine lv_bipush (v := 8) hx hb dX11_page_54 (by decide) ?_
    refine lv_iload_n hx hb dX11_page_56 rfl (lv_at hl 1 rfl) ?_
    refine lv_iadd hx hb dX11_page_57 ?_
    refine lv_topi (fun z11 ez11 => ?_)
    obtain rfl : z11 = nI (8 + j) := ez11.trans (nI_add 8 j)
    refine va_iald hx hb hK hP 7 0 rfl rfl (vp_in_nI (n := 8 + j) (N := 34) (by omega) (by decide)) dX11_page_58 ?_
    refine W.eq (g2 := F0 m 59 ls [.int (f8 (8 + j)), .ref h0]) (congrArg (fun y9 => F0 m 59 ls (.int (f8 y9) :: [.ref h0])) ((nI_clamp (n := 8 + j) (by omega)))) ?_
    refine lv_iload_n hx hb dX11_page_59 rfl (lv_at hl 2 rfl) ?_
    have hPc := hP.sub (ws' := [(h0, .inr (11, f_h0)), (m9, .inl (cI, 4, .inl fm9))]) [0, 6] rfl
    refine va_calli (va_runV (As := [.int (f8 (8 + j)), .int (nI k)]) (rest := []) ⟨hx, hb, hml, hown, hts⟩ (c_X11_suits l dC dI cI cZ cQ h0 m9 f_h0 fm9 (f8 (8 + j)) k H.size e_h0_9 (by omega)) (cwV 2 hts gX11_page_X11_suits rfl rfl rfl hd_X11_suits_RX11 ⟨Nat.le_of_ble_eq_true rfl, Nat.le_of_ble_eq_true rfl⟩) (pv_R (va_recv hK hP (ci := 11) (q0 := 0) rfl rfl) hK hPc) rfl rfl hl.1 rfl (lv_room (Nat.le_of_ble_eq_true rfl)) dX11_page_60 ⟨Nat.le_of_ble_eq_true rfl, Nat.le_of_ble_eq_true rfl⟩) hS (fun q _ h => False.elim h) (fun q h => False.elim h) (fun r12 u13 t H1 locs ht hvm hw14 hB hz1 hk1 hS => ?_)
    have hP := hP.kept (fun k q hk => hk1 q.1 (hP k q hk).lt (fun h => h))
    clear hz1 hk1 hPc
    generalize H1 = H at hP hS ht ⊢
    try dsimp only at hw14
    rcases hw14 with rfl | rfl
    ·
      refine lv_if_eq (tgt := 70) hx hb dX11_page_63 (by decide) (fun c15 => ?_) (fun c15 => ?_)
      · exact absurd c15 (by decide)
      clear c15
      refine lv_iconst (v := 1) hx hb dX11_page_66 (by decide) ?_
      refine lv_goto (tgt := 71) hx hb dX11_page_67 (by decide) ?_
      have hP9 := hP.sub (ws' := [(h0, .inr (11, f_h0)), (m3, .inl (cI, 8, .inl fm3)), (m4, .inl (cI, 8, .inl fm4)), (m5, .inl (cI, 8, .inl fm5)), (m7, .inl (cI, 4, .inl fm7)), (m8, .inl (cI, 4, .inl fm8)), (m9, .inl (cI, 4, .inl fm9)), (m10, .inl (cI, 34, .inl f8))]) [0, 1, 2, 3, 4, 5, 6, 7] rfl
      have hD9 := hD.sub (ws' := [(h0, .inr (11, f_h0)), (m3, .inl (cI, 8, .inl fm3)), (m4, .inl (cI, 8, .inl fm4)), (m5, .inl (cI, 8, .inl fm5)), (m7, .inl (cI, 4, .inl fm7)), (m8, .inl (cI, 4, .inl fm8)), (m9, .inl (cI, 4, .inl fm9)), (m10, .inl (cI, 34, .inl f8))]) [0, 1, 2, 3, 4, 5, 6, 7] (by decide +kernel) rfl
      exact W.zret (v := 1) hx hb hr (rfl) (fun t ht hW => ⟨⟨1, (fun _ => 0), rfl, Or.inl rfl, ⟨f8, va_hq ht hP9, hD9⟩⟩, hS.F ht⟩) hS.2.2 dX11_page_71
    ·
      refine lv_if_eq (tgt := 70) hx hb dX11_page_63 (by decide) (fun c16 => ?_) (fun c16 => ?_)
      rotate_left
      · exact absurd c16 (by decide)
      clear c16
      refine lv_iconst (v := 0) hx hb dX11_page_70 (by decide) ?_
      have hP9 := hP.sub (ws' := [(h0, .inr (11, f_h0)), (m3, .inl (cI, 8, .inl fm3)), (m4, .inl (cI, 8, .inl fm4)), (m5, .inl (cI, 8, .inl fm5)), (m7, .inl (cI, 4, .inl fm7)), (m8, .inl (cI, 4, .inl fm8)), (m9, .inl (cI, 4, .inl fm9)), (m10, .inl (cI, 34, .inl f8))]) [0, 1, 2, 3, 4, 5, 6, 7] rfl
      have hD9 := hD.sub (ws' := [(h0, .inr (11, f_h0)), (m3, .inl (cI, 8, .inl fm3)), (m4, .inl (cI, 8, .inl fm4)), (m5, .inl (cI, 8, .inl fm5)), (m7, .inl (cI, 4, .inl fm7)), (m8, .inl (cI, 4, .inl fm8)), (m9, .inl (cI, 4, .inl fm9)), (m10, .inl (cI, 34, .inl f8))]) [0, 1, 2, 3, 4, 5, 6, 7] (by decide +kernel) rfl
      exact W.zret (v := 0) hx hb hr (rfl) (fun t ht hW => ⟨⟨0, (fun _ => 0), rfl, Or.inr rfl, ⟨f8, va_hq ht hP9, hD9⟩⟩, hS.F ht⟩) hS.2.2 dX11_page_71
set_option maxHeartbeats 4000000 in
set_option maxRecDepth 100000 in
theorem c_X11_isBlunt (l : Launch) (dC : Nat → ClassId) (dI : Nat → Nat → Nat) (cI cZ cQ : ClassId) (h0 : Nat) (n0 : Int32) (m10 : Nat) (f_h0 : List Value) (fm10 : Nat → Int32) (sz : Nat) (e_h0_0 : fAt f_h0 0 = some (.int n0)) (e_h0_10 : fAt f_h0 10 = some (.ref m10)) : Met l yX11_isBlunt wsX11_isBlunt ({ frames := 0, cells := 0, slots := 0, locals := 40 }) (va_Pc [.ref h0] (fun U => U.heap.size = sz ∧ va_P (dC, dI) vwCl [(h0, .inr (11, f_h0)), (m10, .inl (cI, 34, .inl fm10))] U.heap ∧ va_K (dC, dI) vwCl (tys0 cI cZ cQ) U)) (va_Qi (fun (r : Int32) (u : Nat → Nat) => r = 1 ∨ r = 0) (fun (_ : Nat → Nat) (_ : State) => True) (fun _ : Nat => False)) 0 0 (fun _ : Nat => False) := by
  refine Met.ofW (cc := cX11_isBlunt) (maxL := 1) (ret := (some .boolean)) (by decide) rfl ?_
  intro p e s m args below meth c s₁ B hml hv
  obtain ⟨rfl, hsz, hP, hK⟩ := hv
  have hx := B.exec
  have hb := B.bytes
  have hr := B.returns
  have hts := atoms_spec (ws := wsX11_isBlunt) B.pre
  have hown : s.vm.findClass RX11 = some m.cls := findClass_of_methodNamed B.named
  have hlocks := B.notSynchronized
  have hi_X11 : ∀ w ∈ u_ws RX11 TX11 46, w ∈ wsX11_isBlunt := fun _ h => List.mem_cons_of_mem _ (List.mem_append_right _ (h))
  subst hsz
  have hS : va_S (fun _ : Nat => False) s.heap s.heap [] := va_S.rf
  have hl := lv_entry ([.ref h0]) (n := 1) (Nat.le_of_ble_eq_true rfl)
  rw [lg_entry_eq]
  generalize (lg_sl ([.ref h0]) ++ List.replicate (1 - (lg_sl ([.ref h0])).length) Slot.unset).toArray = ls at hl ⊢
  have hl : lv_has ls 1 [(0, .ref h0)] := hl
  refine lv_aload_n hx hb dX11_isBlunt_0 rfl (lv_at hl 0 rfl) ?_
  refine va_get (D := (dC, dI)) (ci := 11) (v := .ref m10) (C := RX11) (T := TX11) (N := 46) hx hb hts hi_X11 hown hK hP 0 rfl rfl 10 (by decide) (hts (.fieldLink RX11 28 "LeftQuillsModel" "now" "[I") (wmx 1 rfl)) (fun _ h9 => h9) e_h0_10 dX11_isBlunt_1 ?_
  refine lv_bipush (v := 33) hx hb dX11_isBlunt_4 (by decide) ?_
  refine va_iald hx hb hK hP 1 0 rfl rfl (vp_in_iff.mpr ⟨by decide, by decide⟩) dX11_isBlunt_6 ?_
  refine W.eq (g2 := F0 m 7 ls [.int (fm10 33)]) (congrArg (fun y9 => F0 m 7 ls (.int (fm10 y9) :: [])) ((show ((33 : Int32)).toNatClampNeg = 33 from by decide))) ?_
  refine lv_aload_n hx hb dX11_isBlunt_7 rfl (lv_at hl 0 rfl) ?_
  refine va_get (D := (dC, dI)) (ci := 11) (v := .int n0) (C := RX11) (T := TX11) (N := 46) hx hb hts hi_X11 hown hK hP 0 rfl rfl 0 (by decide) (hts (.fieldLink RX11 96 "LeftQuillsModel" "blunt" "I") (wmx 2 rfl)) (fun _ h9 => h9) e_h0_0 dX11_isBlunt_8 ?_
  refine lv_icmp_lt (tgt := 18) hx hb dX11_isBlunt_11 (by decide) (fun c1 => ?_) (fun c1 => ?_)
  ·
    refine lv_iconst (v := 0) hx hb dX11_isBlunt_18 (by decide) ?_
    exact W.zret (v := 0) hx hb hr (rfl) (fun t ht hW => ⟨⟨0, (fun _ => 0), rfl, Or.inr rfl, trivial⟩, hS.F ht⟩) hS.2.2 dX11_isBlunt_19
  ·
    refine lv_iconst (v := 1) hx hb dX11_isBlunt_14 (by decide) ?_
    refine lv_goto (tgt := 19) hx hb dX11_isBlunt_15 (by decide) ?_
    exact W.zret (v := 1) hx hb hr (rfl) (fun t ht hW => ⟨⟨1, (fun _ => 0), rfl, Or.inl rfl, trivial⟩, hS.F ht⟩) hS.2.2 dX11_isBlunt_19
set_option maxHeartbeats 4000000 in
set_option maxRecDepth 100000 in
theorem c_X11_mayMend (l : Launch) (dC : Nat → ClassId) (dI : Nat → Nat → Nat) (cI cZ cQ : ClassId) (h0 : Nat) (n0 : Int32) (m10 : Nat) (f_h0 : List Value) (fm10 : Nat → Int32) (j : Nat) (sz : Nat) (e_h0_0 : fAt f_h0 0 = some (.int n0)) (e_h0_10 : fAt f_h0 10 = some (.ref m10)) (hj : j < 8) : Met l yX11_mayMend wsX11_mayMend ({ frames := 1, cells := 0, slots := 0, locals := 60 }) (va_Pc [.ref h0, .int (nI j)] (fun U => U.heap.size = sz ∧ va_P (dC, dI) vwCl [(h0, .inr (11, f_h0)), (m10, .inl (cI, 34, .inl fm10))] U.heap ∧ va_K (dC, dI) vwCl (tys0 cI cZ cQ) U)) (va_Qi (fun (r : Int32) (u : Nat → Nat) => r = 1 ∨ r = 0) (fun (_ : Nat → Nat) (_ : State) => True) (fun _ : Nat => False)) 0 0 (fun _ : Nat => False) := by
  refine Met.ofW (cc := cX11_mayMend) (maxL := 2) (ret := (some .boolean)) (by decide) rfl ?_
  intro p e s m args below meth c s₁ B hml hv
  obtain ⟨rfl, hsz, hP, hK⟩ := hv
  have hx := B.exec
  have hb := B.bytes
  have hr := B.returns
  have hts := atoms_spec (ws := wsX11_mayMend) B.pre
  have hown : s.vm.findClass RX11 = some m.cls := findClass_of_methodNamed B.named
  have hlocks := B.notSynchronized
  have hi_X11 : ∀ w ∈ u_ws RX11 TX11 46, w ∈ wsX11_mayMend := fun _ h => List.mem_cons_of_mem _ (List.mem_append_right _ (h))
  subst hsz
  have hS : va_S (fun _ : Nat => False) s.heap s.heap [] := va_S.rf
  have hl := lv_entry ([.ref h0, .int (nI j)]) (n := 2) (Nat.le_of_ble_eq_true rfl)
  rw [lg_entry_eq]
  generalize (lg_sl ([.ref h0, .int (nI j)]) ++ List.replicate (2 - (lg_sl ([.ref h0, .int (nI j)])).length) Slot.unset).toArray = ls at hl ⊢
  have hl : lv_has ls 2 [(0, .ref h0), (1, .int (nI j))] := hl
  refine lv_aload_n hx hb dX11_mayMend_0 rfl (lv_at hl 0 rfl) ?_
  refine va_get (D := (dC, dI)) (ci := 11) (v := .ref m10) (C := RX11) (T := TX11) (N := 46) hx hb hts hi_X11 hown hK hP 0 rfl rfl 10 (by decide) (hts (.fieldLink RX11 28 "LeftQuillsModel" "now" "[I") (wmx 1 rfl)) (fun _ h9 => h9) e_h0_10 dX11_mayMend_1 ?_
  refine lv_iload_n hx hb dX11_mayMend_4 rfl (lv_at hl 1 rfl) ?_
  refine va_iald hx hb hK hP 1 0 rfl rfl (vp_in_nI (n := j) (N := 34) (by omega) (by decide)) dX11_mayMend_5 ?_
  refine W.eq (g2 := F0 m 6 ls [.int (fm10 j)]) (congrArg (fun y9 => F0 m 6 ls (.int (fm10 y9) :: [])) ((nI_clamp (n := j) (by omega)))) ?_
  refine lv_aload_n hx hb dX11_mayMend_6 rfl (lv_at hl 0 rfl) ?_
  have hPc := hP.sub (ws' := [(h0, .inr (11, f_h0)), (m10, .inl (cI, 34, .inl fm10))]) [0, 1] rfl
  refine va_calli (va_runV (As := []) (rest := [.int (fm10 j)]) ⟨hx, hb, hml, hown, hts⟩ (c_X11_isBlunt l dC dI cI cZ cQ h0 n0 m10 f_h0 fm10 s.heap.size e_h0_0 e_h0_10) (cwV 0 hts gX11_mayMend_X11_isBlunt rfl rfl rfl hd_X11_isBlunt_RX11 ⟨Nat.le_of_ble_eq_true rfl, Nat.le_of_ble_eq_true rfl⟩) (pv_R (va_recv hK hP (ci := 11) (q0 := 0) rfl rfl) hK hPc) rfl rfl hl.1 rfl (lv_room (Nat.le_of_ble_eq_true rfl)) dX11_mayMend_7 ⟨Nat.le_of_ble_eq_true rfl, Nat.le_of_ble_eq_true rfl⟩) hS (fun q _ h => False.elim h) (fun q h => False.elim h) (fun r1 u2 t H1 locs ht hvm hw3 hB hz1 hk1 hS => ?_)
  have hP := hP.kept (fun k q hk => hk1 q.1 (hP k q hk).lt (fun h => h))
  clear hz1 hk1 hPc
  generalize H1 = H at hP hS ht ⊢
  try dsimp only at hw3
  rcases hw3 with rfl | rfl
  ·
    refine lv_if_eq (tgt := 18) hx hb dX11_mayMend_10 (by decide) (fun c4 => ?_) (fun c4 => ?_)
    · exact absurd c4 (by decide)
    clear c4
    refine lv_bipush (v := 9) hx hb dX11_mayMend_13 (by decide) ?_
    refine lv_goto (tgt := 19) hx hb dX11_mayMend_15 (by decide) ?_
    refine lv_icmp_lt (tgt := 26) hx hb dX11_mayMend_19 (by decide) (fun c5 => ?_) (fun c5 => ?_)
    ·
      refine lv_iconst (v := 0) hx hb dX11_mayMend_26 (by decide) ?_
      exact W.zret (v := 0) hx hb hr (rfl) (fun t ht hW => ⟨⟨0, (fun _ => 0), rfl, Or.inr rfl, trivial⟩, hS.F ht⟩) hS.2.2 dX11_mayMend_27
    ·
      refine lv_iconst (v := 1) hx hb dX11_mayMend_22 (by decide) ?_
      refine lv_goto (tgt := 27) hx hb dX11_mayMend_23 (by decide) ?_
      exact W.zret (v := 1) hx hb hr (rfl) (fun t ht hW => ⟨⟨1, (fun _ => 0), rfl, Or.inl rfl, trivial⟩, hS.F ht⟩) hS.2.2 dX11_mayMend_27
  ·
    refine lv_if_eq (tgt := 18) hx hb dX11_mayMend_10 (by decide) (fun c6 => ?_) (fun c6 => ?_)
    rotate_left
    · exact absurd c6 (by decide)
    clear c6
    refine lv_iconst (v := 5) hx hb dX11_mayMend_18 (by decide) ?_
    refine lv_icmp_lt (tgt := 26) hx hb dX11_mayMend_19 (by decide) (fun c7 => ?_) (fun c7 => ?_)
    ·
      refine lv_iconst (v := 0) hx hb dX11_mayMend_26 (by decide) ?_
      exact W.zret (v := 0) hx hb hr (rfl) (fun t ht hW => ⟨⟨0, (fun _ => 0), rfl, Or.inr rfl, trivial⟩, hS.F ht⟩) hS.2.2 dX11_mayMend_27
    ·
      refine lv_iconst (v := 1) hx hb dX11_mayMend_22 (by decide) ?_
      refine lv_goto (tgt := 27) hx hb dX11_mayMend_23 (by decide) ?_
      exact W.zret (v := 1) hx hb hr (rfl) (fun t ht hW => ⟨⟨1, (fun _ => 0), rfl, Or.inl rfl, trivial⟩, hS.F ht⟩) hS.2.2 dX11_mayMend_27
set_option maxHeartbeats 4000000 in
set_option maxRecDepth 100000 in
theorem c_X11_broadenNow (l : Launch) (dC : Nat → ClassId) (dI : Nat → Nat → Nat) (cI cZ cQ : ClassId) (h0 : Nat) (m10 : Nat) (f_h0 : List Value) (fm10 : Nat → Int32) (j : Nat) (sz : Nat) (e_h0_10 : fAt f_h0 10 = some (.ref m10)) (hj : j < 8) : Met l yX11_broadenNow wsX11_broadenNow ({ frames := 0, cells := 0, slots := 0, locals := 40 }) (va_Pc [.ref h0, .int (nI j)] (fun U => U.heap.size = sz ∧ va_P (dC, dI) vwCl [(h0, .inr (11, f_h0)), (m10, .inl (cI, 34, .inl fm10))] U.heap ∧ va_K (dC, dI) vwCl (tys0 cI cZ cQ) U ∧ va_D (fun _ => True) [(h0, .inr (11, f_h0)), (m10, .inl (cI, 34, .inl fm10))])) (va_Qv (fun (u : Nat → Nat) => True) (fun (_ : Nat → Nat) (t : State) => ∃ (gg0 : Nat → Int32) , va_P (dC, dI) vwCl [(h0, .inr (11, f_h0)), (m10, .inl (cI, 34, .inl gg0))] t.heap ∧ va_D (va_A [(h0, .inr (11, f_h0)), (m10, .inl (cI, 34, .inl fm10))] sz) [(h0, .inr (11, f_h0)), (m10, .inl (cI, 34, .inl gg0))]) (va_A [(h0, .inr (11, f_h0)), (m10, .inl (cI, 34, .inl fm10))] sz)) 0 0 (va_A [(h0, .inr (11, f_h0)), (m10, .inl (cI, 34, .inl fm10))] sz) := by
  refine Met.ofW (cc := cX11_broadenNow) (maxL := 2) (ret := none) (by decide) rfl ?_
  intro p e s m args below meth c s₁ B hml hv
  obtain ⟨rfl, hsz, hP, hK, hD0⟩ := hv
  have hx := B.exec
  have hb := B.bytes
  have hr := B.returns
  have hts := atoms_spec (ws := wsX11_broadenNow) B.pre
  have hown : s.vm.findClass RX11 = some m.cls := findClass_of_methodNamed B.named
  have hlocks := B.notSynchronized
  have hi_X11 : ∀ w ∈ u_ws RX11 TX11 46, w ∈ wsX11_broadenNow := fun _ h => List.mem_cons_of_mem _ (List.mem_append_right _ (h))
  subst hsz
  have hD := hD0.self (sz := s.heap.size)
  generalize hAe : va_A [(h0, .inr (11, f_h0)), (m10, .inl (cI, 34, .inl fm10))] s.heap.size = A at hD ⊢
  have hA : ∀ q : Nat, s.heap.size ≤ q → A q := fun q h => by rw [← hAe]; exact Or.inr h
  have hS : va_S A s.heap s.heap [] := va_S.rf
  have hl := lv_entry ([.ref h0, .int (nI j)]) (n := 2) (Nat.le_of_ble_eq_true rfl)
  rw [lg_entry_eq]
  generalize (lg_sl ([.ref h0, .int (nI j)]) ++ List.replicate (2 - (lg_sl ([.ref h0, .int (nI j)])).length) Slot.unset).toArray = ls at hl ⊢
  have hl : lv_has ls 2 [(0, .ref h0), (1, .int (nI j))] := hl
  refine lv_aload_n hx hb dX11_broadenNow_0 rfl (lv_at hl 0 rfl) ?_
  refine va_get (D := (dC, dI)) (ci := 11) (v := .ref m10) (C := RX11) (T := TX11) (N := 46) hx hb hts hi_X11 hown hK hP 0 rfl rfl 10 (by decide) (hts (.fieldLink RX11 28 "LeftQuillsModel" "now" "[I") (wmx 1 rfl)) (fun _ h9 => h9) e_h0_10 dX11_broadenNow_1 ?_
  refine lv_bipush (v := 8) hx hb dX11_broadenNow_4 (by decide) ?_
  refine lv_iload_n hx hb dX11_broadenNow_6 rfl (lv_at hl 1 rfl) ?_
  refine lv_iadd hx hb dX11_broadenNow_7 ?_
  refine lv_topi (fun z1 ez1 => ?_)
  obtain rfl : z1 = nI (8 + j) := ez1.trans (nI_add 8 j)
  refine lv_aload_n hx hb dX11_broadenNow_8 rfl (lv_at hl 0 rfl) ?_
  refine va_get (D := (dC, dI)) (ci := 11) (v := .ref m10) (C := RX11) (T := TX11) (N := 46) hx hb hts hi_X11 hown hK hP 0 rfl rfl 10 (by decide) (hts (.fieldLink RX11 28 "LeftQuillsModel" "now" "[I") (wmx 1 rfl)) (fun _ h9 => h9) e_h0_10 dX11_broadenNow_9 ?_
  refine lv_bipush (v := 8) hx hb dX11_broadenNow_12 (by decide) ?_
  refine lv_iload_n hx hb dX11_broadenNow_14 rfl (lv_at hl 1 rfl) ?_
  refine lv_iadd hx hb dX11_broadenNow_15 ?_
  refine lv_topi (fun z2 ez2 => ?_)
  obtain rfl : z2 = nI (8 + j) := ez2.trans (nI_add 8 j)
  refine va_iald hx hb hK hP 1 0 rfl rfl (vp_in_nI (n := 8 + j) (N := 34) (by omega) (by decide)) dX11_broadenNow_16 ?_
  refine W.eq (g2 := F0 m 17 ls [.int (fm10 (8 + j)), .int (nI (8 + j)), .ref m10]) (congrArg (fun y9 => F0 m 17 ls (.int (fm10 y9) :: [.int (nI (8 + j)), .ref m10])) ((nI_clamp (n := 8 + j) (by omega)))) ?_
  refine lv_bipush (v := 9) hx hb dX11_broadenNow_17 (by decide) ?_
  refine lv_icmp_ge (tgt := 36) hx hb dX11_broadenNow_19 (by decide) (fun c3 => ?_) (fun c3 => ?_)
  ·
    refine lv_bipush (v := 9) hx hb dX11_broadenNow_36 (by decide) ?_
    refine va_iast hx hb hK hP hD hS 1 0 rfl rfl (vp_in_nI (n := 8 + j) (N := 34) (by omega) (by decide)) dX11_broadenNow_38 (fun H locs hP hD hS => ?_)
    generalize hgf4 : upd fm10 ((nI (8 + j)).toNatClampNeg) 9 = f4 at hP hD
    have hPD : pdW (dC, dI) vwCl A [(h0, .inr (11, f_h0)), (m10, .inl (cI, 34, .inl f4))] H := ⟨hP, hD⟩
    have hP := hPD.1
    have hD := hPD.2
    clear hPD
    have hP9 := hP.sub (ws' := [(h0, .inr (11, f_h0)), (m10, .inl (cI, 34, .inl f4))]) [0, 1] rfl
    have hD9 := hD.sub (ws' := [(h0, .inr (11, f_h0)), (m10, .inl (cI, 34, .inl f4))]) [0, 1] (by decide +kernel) rfl
    exact W.vret hx hb hr (fun t ht hW => ⟨⟨(fun _ => 0), rfl, trivial, ⟨f4, va_hq ht hP9, hD9⟩⟩, hS.F ht⟩) hS.2.2 dX11_broadenNow_39
  ·
    refine lv_aload_n hx hb dX11_broadenNow_22 rfl (lv_at hl 0 rfl) ?_
    refine va_get (D := (dC, dI)) (ci := 11) (v := .ref m10) (C := RX11) (T := TX11) (N := 46) hx hb hts hi_X11 hown hK hP 0 rfl rfl 10 (by decide) (hts (.fieldLink RX11 28 "LeftQuillsModel" "now" "[I") (wmx 1 rfl)) (fun _ h9 => h9) e_h0_10 dX11_broadenNow_23 ?_
    refine lv_bipush (v := 8) hx hb dX11_broadenNow_26 (by decide) ?_
    refine lv_iload_n hx hb dX11_broadenNow_28 rfl (lv_at hl 1 rfl) ?_
    refine lv_iadd hx hb dX11_broadenNow_29 ?_
    refine lv_topi (fun z5 ez5 => ?_)
    obtain rfl : z5 = nI (8 + j) := ez5.trans (nI_add 8 j)
    refine va_iald hx hb hK hP 1 0 rfl rfl (vp_in_nI (n := 8 + j) (N := 34) (by omega) (by decide)) dX11_broadenNow_30 ?_
    refine W.eq (g2 := F0 m 31 ls [.int (fm10 (8 + j)), .int (nI (8 + j)), .ref m10]) (congrArg (fun y9 => F0 m 31 ls (.int (fm10 y9) :: [.int (nI (8 + j)), .ref m10])) ((nI_clamp (n := 8 + j) (by omega)))) ?_
    refine lv_iconst (v := 1) hx hb dX11_broadenNow_31 (by decide) ?_
    refine lv_iadd hx hb dX11_broadenNow_32 ?_
    refine lv_topi (fun z6 ez6 => ?_)
    refine lv_goto (tgt := 38) hx hb dX11_broadenNow_33 (by decide) ?_
    refine va_iast hx hb hK hP hD hS 1 0 rfl rfl (vp_in_nI (n := 8 + j) (N := 34) (by omega) (by decide)) dX11_broadenNow_38 (fun H locs hP hD hS => ?_)
    generalize hgf7 : upd fm10 ((nI (8 + j)).toNatClampNeg) z6 = f7 at hP hD
    have hPD : pdW (dC, dI) vwCl A [(h0, .inr (11, f_h0)), (m10, .inl (cI, 34, .inl f7))] H := ⟨hP, hD⟩
    have hP := hPD.1
    have hD := hPD.2
    clear hPD
    have hP9 := hP.sub (ws' := [(h0, .inr (11, f_h0)), (m10, .inl (cI, 34, .inl f7))]) [0, 1] rfl
    have hD9 := hD.sub (ws' := [(h0, .inr (11, f_h0)), (m10, .inl (cI, 34, .inl f7))]) [0, 1] (by decide +kernel) rfl
    exact W.vret hx hb hr (fun t ht hW => ⟨⟨(fun _ => 0), rfl, trivial, ⟨f7, va_hq ht hP9, hD9⟩⟩, hS.F ht⟩) hS.2.2 dX11_broadenNow_39
set_option maxHeartbeats 4000000 in
set_option maxRecDepth 100000 in
theorem c_X11_mendNow (l : Launch) (dC : Nat → ClassId) (dI : Nat → Nat → Nat) (cI cZ cQ : ClassId) (h0 : Nat) (n0 : Int32) (n1 : Int32) (m10 : Nat) (f_h0 : List Value) (fm10 : Nat → Int32) (j : Nat) (sz : Nat) (e_h0_0 : fAt f_h0 0 = some (.int n0)) (e_h0_1 : fAt f_h0 1 = some (.int n1)) (e_h0_10 : fAt f_h0 10 = some (.ref m10)) (hj : j < 8) : Met l yX11_mendNow wsX11_mendNow ({ frames := 1, cells := 0, slots := 0, locals := 61 }) (va_Pc [.ref h0, .int (nI j)] (fun U => U.heap.size = sz ∧ va_P (dC, dI) vwCl [(h0, .inr (11, f_h0)), (m10, .inl (cI, 34, .inl fm10))] U.heap ∧ va_K (dC, dI) vwCl (tys0 cI cZ cQ) U ∧ va_D (fun _ => True) [(h0, .inr (11, f_h0)), (m10, .inl (cI, 34, .inl fm10))])) (va_Qv (fun (u : Nat → Nat) => True) (fun (_ : Nat → Nat) (t : State) => ∃ (gg0 : Nat → Int32) , va_P (dC, dI) vwCl [(h0, .inr (11, f_h0)), (m10, .inl (cI, 34, .inl gg0))] t.heap ∧ va_D (va_A [(h0, .inr (11, f_h0)), (m10, .inl (cI, 34, .inl fm10))] sz) [(h0, .inr (11, f_h0)), (m10, .inl (cI, 34, .inl gg0))]) (va_A [(h0, .inr (11, f_h0)), (m10, .inl (cI, 34, .inl fm10))] sz)) 0 0 (va_A [(h0, .inr (11, f_h0)), (m10, .inl (cI, 34, .inl fm10))] sz) := by
  refine Met.ofW (cc := cX11_mendNow) (maxL := 3) (ret := none) (by decide) rfl ?_
  intro p e s m args below meth c s₁ B hml hv
  obtain ⟨rfl, hsz, hP, hK, hD0⟩ := hv
  have hx := B.exec
  have hb := B.bytes
  have hr := B.returns
  have hts := atoms_spec (ws := wsX11_mendNow) B.pre
  have hown : s.vm.findClass RX11 = some m.cls := findClass_of_methodNamed B.named
  have hlocks := B.notSynchronized
  have hi_X11 : ∀ w ∈ u_ws RX11 TX11 46, w ∈ wsX11_mendNow := fun _ h => List.mem_cons_of_mem _ (List.mem_append_right _ (h))
  subst hsz
  have hD := hD0.self (sz := s.heap.size)
  generalize hAe : va_A [(h0, .inr (11, f_h0)), (m10, .inl (cI, 34, .inl fm10))] s.heap.size = A at hD ⊢
  have hA : ∀ q : Nat, s.heap.size ≤ q → A q := fun q h => by rw [← hAe]; exact Or.inr h
  have hS : va_S A s.heap s.heap [] := va_S.rf
  have hl := lv_entry ([.ref h0, .int (nI j)]) (n := 3) (Nat.le_of_ble_eq_true rfl)
  rw [lg_entry_eq]
  generalize (lg_sl ([.ref h0, .int (nI j)]) ++ List.replicate (3 - (lg_sl ([.ref h0, .int (nI j)])).length) Slot.unset).toArray = ls at hl ⊢
  have hl : lv_has ls 3 [(0, .ref h0), (1, .int (nI j))] := hl
  refine lv_aload_n hx hb dX11_mendNow_0 rfl (lv_at hl 0 rfl) ?_
  have hPc := hP.sub (ws' := [(h0, .inr (11, f_h0)), (m10, .inl (cI, 34, .inl fm10))]) [0, 1] rfl
  refine va_calli (va_runV (As := []) (rest := []) ⟨hx, hb, hml, hown, hts⟩ (c_X11_isBlunt l dC dI cI cZ cQ h0 n0 m10 f_h0 fm10 s.heap.size e_h0_0 e_h0_10) (cwV 0 hts gX11_mendNow_X11_isBlunt rfl rfl rfl hd_X11_isBlunt_RX11 ⟨Nat.le_of_ble_eq_true rfl, Nat.le_of_ble_eq_true rfl⟩) (pv_R (va_recv hK hP (ci := 11) (q0 := 0) rfl rfl) hK hPc) rfl rfl hl.1 rfl (lv_room (Nat.le_of_ble_eq_true rfl)) dX11_mendNow_1 ⟨Nat.le_of_ble_eq_true rfl, Nat.le_of_ble_eq_true rfl⟩) hS (fun q _ h => False.elim h) (fun q h => False.elim h) (fun r1 u2 t H1 locs ht hvm hw3 hB hz1 hk1 hS => ?_)
  have hP := hP.kept (fun k q hk => hk1 q.1 (hP k q hk).lt (fun h => h))
  clear hz1 hk1 hPc
  generalize H1 = H at hP hS ht ⊢
  try dsimp only at hw3
  rcases hw3 with rfl | rfl
  ·
    refine lv_istore_n (lv' := [(2, .int 1), (0, .ref h0), (1, .int (nI j))]) hx hb dX11_mendNow_4 rfl hl (by decide) rfl (fun ls hl => ?_)
    refine lv_aload_n hx hb dX11_mendNow_5 rfl (lv_at hl 1 rfl) ?_
    refine va_get (D := (dC, dI)) (ci := 11) (v := .ref m10) (C := RX11) (T := TX11) (N := 46) hx hb hts hi_X11 hown hK hP 0 rfl rfl 10 (by decide) (hts (.fieldLink RX11 28 "LeftQuillsModel" "now" "[I") (wmx 1 rfl)) (fun _ h9 => h9) e_h0_10 dX11_mendNow_6 ?_
    refine lv_iload_n hx hb dX11_mendNow_9 rfl (lv_at hl 2 rfl) ?_
    refine lv_dup2_11 hx hb dX11_mendNow_10 rfl rfl ?_
    refine va_iald hx hb hK hP 1 0 rfl rfl (vp_in_nI (n := j) (N := 34) (by omega) (by decide)) dX11_mendNow_11 ?_
    refine W.eq (g2 := F0 m 12 ls [.int (fm10 j), .int (nI j), .ref m10]) (congrArg (fun y9 => F0 m 12 ls (.int (fm10 y9) :: [.int (nI j), .ref m10])) ((nI_clamp (n := j) (by omega)))) ?_
    refine lv_iload_n hx hb dX11_mendNow_12 rfl (lv_at hl 0 rfl) ?_
    refine lv_if_eq (tgt := 21) hx hb dX11_mendNow_13 (by decide) (fun c4 => ?_) (fun c4 => ?_)
    · exact absurd c4 (by decide)
    clear c4
    refine lv_bipush (v := 9) hx hb dX11_mendNow_16 (by decide) ?_
    refine lv_goto (tgt := 22) hx hb dX11_mendNow_18 (by decide) ?_
    refine lv_isub hx hb dX11_mendNow_22 ?_
    refine lv_topi (fun z5 ez5 => ?_)
    refine va_iast hx hb hK hP hD hS 1 0 rfl rfl (vp_in_nI (n := j) (N := 34) (by omega) (by decide)) dX11_mendNow_23 (fun H locs hP hD hS => ?_)
    generalize hgf6 : upd fm10 ((nI j).toNatClampNeg) z5 = f6 at hP hD
    have hPD : pdW (dC, dI) vwCl A [(h0, .inr (11, f_h0)), (m10, .inl (cI, 34, .inl f6))] H := ⟨hP, hD⟩
    have hP := hPD.1
    have hD := hPD.2
    clear hPD
    refine lv_iload_n hx hb dX11_mendNow_24 rfl (lv_at hl 0 rfl) ?_
    refine lv_if_eq (tgt := 33) hx hb dX11_mendNow_25 (by decide) (fun c7 => ?_) (fun c7 => ?_)
    · exact absurd c7 (by decide)
    clear c7
    refine lv_aload_n hx hb dX11_mendNow_28 rfl (lv_at hl 1 rfl) ?_
    refine lv_iload_n hx hb dX11_mendNow_29 rfl (lv_at hl 2 rfl) ?_
    have hc9 := va_cut (W' := [(h0, .inr (11, f_h0)), (m10, .inl (cI, 34, .inl f6))]) hP hD hS hA [0, 1] (by decide) rfl
    have hPc := hc9.1
    have hDc := hc9.2.1
    have hFc := hc9.2.2
    clear hc9
    refine va_callv (va_runV (As := [.int (nI j)]) (rest := []) ⟨hx, hb, hml, hown, hts⟩ (c_X11_broadenNow l dC dI cI cZ cQ h0 m10 f_h0 f6 j H.size e_h0_10 (by omega)) (cwV 1 hts gX11_mendNow_X11_broadenNow rfl rfl rfl hd_X11_broadenNow_RX11 ⟨Nat.le_of_ble_eq_true rfl, Nat.le_of_ble_eq_true rfl⟩) (pv_D (va_recv hK hP (ci := 11) (q0 := 0) rfl rfl) hK hPc hDc) rfl rfl hl.1 rfl (lv_room (Nat.le_of_ble_eq_true rfl)) dX11_mendNow_30 ⟨Nat.le_of_ble_eq_true rfl, Nat.le_of_ble_eq_true rfl⟩) hS (fun q _ h => hFc q h) hFc (fun u9 t H1 locs ht hvm hw10 hB hz1 hk1 hS => ?_)
    obtain ⟨f11, hP1, hD1⟩ := hB
    replace hP1 := va_hp ht hP1
    obtain ⟨hP, hD⟩ := va_join (wr := []) (w1 := [(h0, .inr (11, f_h0)), (m10, .inl (cI, 34, .inl f11))]) hP hD [0, 1] [] rfl rfl (by decide +kernel) (by decide +kernel) hk1 hFc hP1 hD1
    clear hP1 hD1
    clear hz1 hk1 hPc hDc hFc
    generalize H1 = H at hP hS ht ⊢
    have hPD : pdW (dC, dI) vwCl A [(h0, .inr (11, f_h0)), (m10, .inl (cI, 34, .inl f11))] H := ⟨hP, hD⟩
    have hP := hPD.1
    have hD := hPD.2
    clear hPD
    try dsimp only at hw10
    refine lv_aload_n hx hb dX11_mendNow_33 rfl (lv_at hl 1 rfl) ?_
    refine va_get (D := (dC, dI)) (ci := 11) (v := .ref m10) (C := RX11) (T := TX11) (N := 46) hx hb hts hi_X11 hown hK hP 0 rfl rfl 10 (by decide) (hts (.fieldLink RX11 28 "LeftQuillsModel" "now" "[I") (wmx 1 rfl)) (fun _ h9 => h9) e_h0_10 dX11_mendNow_34 ?_
    refine lv_bipush (v := 16) hx hb dX11_mendNow_37 (by decide) ?_
    refine lv_iload_n hx hb dX11_mendNow_39 rfl (lv_at hl 2 rfl) ?_
    refine lv_iadd hx hb dX11_mendNow_40 ?_
    refine lv_topi (fun z12 ez12 => ?_)
    obtain rfl : z12 = nI (16 + j) := ez12.trans (nI_add 16 j)
    refine lv_iconst (v := 0) hx hb dX11_mendNow_41 (by decide) ?_
    refine va_iast hx hb hK hP hD hS 1 0 rfl rfl (vp_in_nI (n := 16 + j) (N := 34) (by omega) (by decide)) dX11_mendNow_42 (fun H locs hP hD hS => ?_)
    generalize hgf13 : upd f11 ((nI (16 + j)).toNatClampNeg) 0 = f13 at hP hD
    have hPD : pdW (dC, dI) vwCl A [(h0, .inr (11, f_h0)), (m10, .inl (cI, 34, .inl f13))] H := ⟨hP, hD⟩
    have hP := hPD.1
    have hD := hPD.2
    clear hPD
    refine lv_aload_n hx hb dX11_mendNow_43 rfl (lv_at hl 1 rfl) ?_
    refine va_get (D := (dC, dI)) (ci := 11) (v := .ref m10) (C := RX11) (T := TX11) (N := 46) hx hb hts hi_X11 hown hK hP 0 rfl rfl 10 (by decide) (hts (.fieldLink RX11 28 "LeftQuillsModel" "now" "[I") (wmx 1 rfl)) (fun _ h9 => h9) e_h0_10 dX11_mendNow_44 ?_
    refine lv_bipush (v := 33) hx hb dX11_mendNow_47 (by decide) ?_
    refine lv_dup2_11 hx hb dX11_mendNow_49 rfl rfl ?_
    refine va_iald hx hb hK hP 1 0 rfl rfl (vp_in_iff.mpr ⟨by decide, by decide⟩) dX11_mendNow_50 ?_
    refine W.eq (g2 := F0 m 51 ls [.int (f13 33), .int 33, .ref m10]) (congrArg (fun y9 => F0 m 51 ls (.int (f13 y9) :: [.int 33, .ref m10])) ((show ((33 : Int32)).toNatClampNeg = 33 from by decide))) ?_
    refine lv_iconst (v := 1) hx hb dX11_mendNow_51 (by decide) ?_
    refine lv_iadd hx hb dX11_mendNow_52 ?_
    refine lv_topi (fun z14 ez14 => ?_)
    refine va_iast hx hb hK hP hD hS 1 0 rfl rfl (vp_in_iff.mpr ⟨by decide, by decide⟩) dX11_mendNow_53 (fun H locs hP hD hS => ?_)
    generalize hgf15 : upd f13 ((33 : Int32).toNatClampNeg) z14 = f15 at hP hD
    have hPD : pdW (dC, dI) vwCl A [(h0, .inr (11, f_h0)), (m10, .inl (cI, 34, .inl f15))] H := ⟨hP, hD⟩
    have hP := hPD.1
    have hD := hPD.2
    clear hPD
    refine lv_aload_n hx hb dX11_mendNow_54 rfl (lv_at hl 1 rfl) ?_
    refine va_get (D := (dC, dI)) (ci := 11) (v := .ref m10) (C := RX11) (T := TX11) (N := 46) hx hb hts hi_X11 hown hK hP 0 rfl rfl 10 (by decide) (hts (.fieldLink RX11 28 "LeftQuillsModel" "now" "[I") (wmx 1 rfl)) (fun _ h9 => h9) e_h0_10 dX11_mendNow_55 ?_
    refine lv_bipush (v := 32) hx hb dX11_mendNow_58 (by decide) ?_
    refine lv_dup2_11 hx hb dX11_mendNow_60 rfl rfl ?_
    refine va_iald hx hb hK hP 1 0 rfl rfl (vp_in_iff.mpr ⟨by decide, by decide⟩) dX11_mendNow_61 ?_
    refine W.eq (g2 := F0 m 62 ls [.int (f15 32), .int 32, .ref m10]) (congrArg (fun y9 => F0 m 62 ls (.int (f15 y9) :: [.int 32, .ref m10])) ((show ((32 : Int32)).toNatClampNeg = 32 from by decide))) ?_
    refine lv_aload_n hx hb dX11_mendNow_62 rfl (lv_at hl 1 rfl) ?_
    refine va_get (D := (dC, dI)) (ci := 11) (v := .int n1) (C := RX11) (T := TX11) (N := 46) hx hb hts hi_X11 hown hK hP 0 rfl rfl 1 (by decide) (hts (.fieldLink RX11 159 "LeftQuillsModel" "mendTakes" "I") (wmx 2 rfl)) (fun _ h9 => h9) e_h0_1 dX11_mendNow_63 ?_
    refine lv_iadd hx hb dX11_mendNow_66 ?_
    refine lv_topi (fun z16 ez16 => ?_)
    refine va_iast hx hb hK hP hD hS 1 0 rfl rfl (vp_in_iff.mpr ⟨by decide, by decide⟩) dX11_mendNow_67 (fun H locs hP hD hS => ?_)
    generalize hgf17 : upd f15 ((32 : Int32).toNatClampNeg) z16 = f17 at hP hD
    have hPD : pdW (dC, dI) vwCl A [(h0, .inr (11, f_h0)), (m10, .inl (cI, 34, .inl f17))] H := ⟨hP, hD⟩
    have hP := hPD.1
    have hD := hPD.2
    clear hPD
    have hP9 := hP.sub (ws' := [(h0, .inr (11, f_h0)), (m10, .inl (cI, 34, .inl f17))]) [0, 1] rfl
    have hD9 := hD.sub (ws' := [(h0, .inr (11, f_h0)), (m10, .inl (cI, 34, .inl f17))]) [0, 1] (by decide +kernel) rfl
    exact W.vret hx hb hr (fun t ht hW => ⟨⟨(fun _ => 0), rfl, trivial, ⟨f17, va_hq ht hP9, hD9⟩⟩, hS.F ht⟩) hS.2.2 dX11_mendNow_68
  ·
    refine lv_istore_n (lv' := [(2, .int 0), (0, .ref h0), (1, .int (nI j))]) hx hb dX11_mendNow_4 rfl hl (by decide) rfl (fun ls hl => ?_)
    refine lv_aload_n hx hb dX11_mendNow_5 rfl (lv_at hl 1 rfl) ?_
    refine va_get (D := (dC, dI)) (ci := 11) (v := .ref m10) (C := RX11) (T := TX11) (N := 46) hx hb hts hi_X11 hown hK hP 0 rfl rfl 10 (by decide) (hts (.fieldLink RX11 28 "LeftQuillsModel" "now" "[I") (wmx 1 rfl)) (fun _ h9 => h9) e_h0_10 dX11_mendNow_6 ?_
    refine lv_iload_n hx hb dX11_mendNow_9 rfl (lv_at hl 2 rfl) ?_
    refine lv_dup2_11 hx hb dX11_mendNow_10 rfl rfl ?_
    refine va_iald hx hb hK hP 1 0 rfl rfl (vp_in_nI (n := j) (N := 34) (by omega) (by decide)) dX11_mendNow_11 ?_
    refine W.eq (g2 := F0 m 12 ls [.int (fm10 j), .int (nI j), .ref m10]) (congrArg (fun y9 => F0 m 12 ls (.int (fm10 y9) :: [.int (nI j), .ref m10])) ((nI_clamp (n := j) (by omega)))) ?_
    refine lv_iload_n hx hb dX11_mendNow_12 rfl (lv_at hl 0 rfl) ?_
    refine lv_if_eq (tgt := 21) hx hb dX11_mendNow_13 (by decide) (fun c18 => ?_) (fun c18 => ?_)
    rotate_left
    · exact absurd c18 (by decide)
    clear c18
    refine lv_iconst (v := 5) hx hb dX11_mendNow_21 (by decide) ?_
    refine lv_isub hx hb dX11_mendNow_22 ?_
    refine lv_topi (fun z19 ez19 => ?_)
    refine va_iast hx hb hK hP hD hS 1 0 rfl rfl (vp_in_nI (n := j) (N := 34) (by omega) (by decide)) dX11_mendNow_23 (fun H locs hP hD hS => ?_)
    generalize hgf20 : upd fm10 ((nI j).toNatClampNeg) z19 = f20 at hP hD
    have hPD : pdW (dC, dI) vwCl A [(h0, .inr (11, f_h0)), (m10, .inl (cI, 34, .inl f20))] H := ⟨hP, hD⟩
    have hP := hPD.1
    have hD := hPD.2
    clear hPD
    refine lv_iload_n hx hb dX11_mendNow_24 rfl (lv_at hl 0 rfl) ?_
    refine lv_if_eq (tgt := 33) hx hb dX11_mendNow_25 (by decide) (fun c21 => ?_) (fun c21 => ?_)
    rotate_left
    · exact absurd c21 (by decide)
    clear c21
    refine lv_aload_n hx hb dX11_mendNow_33 rfl (lv_at hl 1 rfl) ?_
    refine va_get (D := (dC, dI)) (ci := 11) (v := .ref m10) (C := RX11) (T := TX11) (N := 46) hx hb hts hi_X11 hown hK hP 0 rfl rfl 10 (by decide) (hts (.fieldLink RX11 28 "LeftQuillsModel" "now" "[I") (wmx 1 rfl)) (fun _ h9 => h9) e_h0_10 dX11_mendNow_34 ?_
    refine lv_bipush (v := 16) hx hb dX11_mendNow_37 (by decide) ?_
    refine lv_iload_n hx hb dX11_mendNow_39 rfl (lv_at hl 2 rfl) ?_
    refine lv_iadd hx hb dX11_mendNow_40 ?_
    refine lv_topi (fun z22 ez22 => ?_)
    obtain rfl : z22 = nI (16 + j) := ez22.trans (nI_add 16 j)
    refine lv_iconst (v := 0) hx hb dX11_mendNow_41 (by decide) ?_
    refine va_iast hx hb hK hP hD hS 1 0 rfl rfl (vp_in_nI (n := 16 + j) (N := 34) (by omega) (by decide)) dX11_mendNow_42 (fun H locs hP hD hS => ?_)
    generalize hgf23 : upd f20 ((nI (16 + j)).toNatClampNeg) 0 = f23 at hP hD
    have hPD : pdW (dC, dI) vwCl A [(h0, .inr (11, f_h0)), (m10, .inl (cI, 34, .inl f23))] H := ⟨hP, hD⟩
    have hP := hPD.1
    have hD := hPD.2
    clear hPD
    refine lv_aload_n hx hb dX11_mendNow_43 rfl (lv_at hl 1 rfl) ?_
    refine va_get (D := (dC, dI)) (ci := 11) (v := .ref m10) (C := RX11) (T := TX11) (N := 46) hx hb hts hi_X11 hown hK hP 0 rfl rfl 10 (by decide) (hts (.fieldLink RX11 28 "LeftQuillsModel" "now" "[I") (wmx 1 rfl)) (fun _ h9 => h9) e_h0_10 dX11_mendNow_44 ?_
    refine lv_bipush (v := 33) hx hb dX11_mendNow_47 (by decide) ?_
    refine lv_dup2_11 hx hb dX11_mendNow_49 rfl rfl ?_
    refine va_iald hx hb hK hP 1 0 rfl rfl (vp_in_iff.mpr ⟨by decide, by decide⟩) dX11_mendNow_50 ?_
    refine W.eq (g2 := F0 m 51 ls [.int (f23 33), .int 33, .ref m10]) (congrArg (fun y9 => F0 m 51 ls (.int (f23 y9) :: [.int 33, .ref m10])) ((show ((33 : Int32)).toNatClampNeg = 33 from by decide))) ?_
    refine lv_iconst (v := 1) hx hb dX11_mendNow_51 (by decide) ?_
    refine lv_iadd hx hb dX11_mendNow_52 ?_
    refine lv_topi (fun z24 ez24 => ?_)
    refine va_iast hx hb hK hP hD hS 1 0 rfl rfl (vp_in_iff.mpr ⟨by decide, by decide⟩) dX11_mendNow_53 (fun H locs hP hD hS => ?_)
    generalize hgf25 : upd f23 ((33 : Int32).toNatClampNeg) z24 = f25 at hP hD
    have hPD : pdW (dC, dI) vwCl A [(h0, .inr (11, f_h0)), (m10, .inl (cI, 34, .inl f25))] H := ⟨hP, hD⟩
    have hP := hPD.1
    have hD := hPD.2
    clear hPD
    refine lv_aload_n hx hb dX11_mendNow_54 rfl (lv_at hl 1 rfl) ?_
    refine va_get (D := (dC, dI)) (ci := 11) (v := .ref m10) (C := RX11) (T := TX11) (N := 46) hx hb hts hi_X11 hown hK hP 0 rfl rfl 10 (by decide) (hts (.fieldLink RX11 28 "LeftQuillsModel" "now" "[I") (wmx 1 rfl)) (fun _ h9 => h9) e_h0_10 dX11_mendNow_55 ?_
    refine lv_bipush (v := 32) hx hb dX11_mendNow_58 (by decide) ?_
    refine lv_dup2_11 hx hb dX11_mendNow_60 rfl rfl ?_
    refine va_iald hx hb hK hP 1 0 rfl rfl (vp_in_iff.mpr ⟨by decide, by decide⟩) dX11_mendNow_61 ?_
    refine W.eq (g2 := F0 m 62 ls [.int (f25 32), .int 32, .ref m10]) (congrArg (fun y9 => F0 m 62 ls (.int (f25 y9) :: [.int 32, .ref m10])) ((show ((32 : Int32)).toNatClampNeg = 32 from by decide))) ?_
    refine lv_aload_n hx hb dX11_mendNow_62 rfl (lv_at hl 1 rfl) ?_
    refine va_get (D := (dC, dI)) (ci := 11) (v := .int n1) (C := RX11) (T := TX11) (N := 46) hx hb hts hi_X11 hown hK hP 0 rfl rfl 1 (by decide) (hts (.fieldLink RX11 159 "LeftQuillsModel" "mendTakes" "I") (wmx 2 rfl)) (fun _ h9 => h9) e_h0_1 dX11_mendNow_63 ?_
    refine lv_iadd hx hb dX11_mendNow_66 ?_
    refine lv_topi (fun z26 ez26 => ?_)
    refine va_iast hx hb hK hP hD hS 1 0 rfl rfl (vp_in_iff.mpr ⟨by decide, by decide⟩) dX11_mendNow_67 (fun H locs hP hD hS => ?_)
    generalize hgf27 : upd f25 ((32 : Int32).toNatClampNeg) z26 = f27 at hP hD
    have hPD : pdW (dC, dI) vwCl A [(h0, .inr (11, f_h0)), (m10, .inl (cI, 34, .inl f27))] H := ⟨hP, hD⟩
    have hP := hPD.1
    have hD := hPD.2
    clear hPD
    have hP9 := hP.sub (ws' := [(h0, .inr (11, f_h0)), (m10, .inl (cI, 34, .inl f27))]) [0, 1] rfl
    have hD9 := hD.sub (ws' := [(h0, .inr (11, f_h0)), (m10, .inl (cI, 34, .inl f27))]) [0, 1] (by decide +kernel) rfl
    exact W.vret hx hb hr (fun t ht hW => ⟨⟨(fun _ => 0), rfl, trivial, ⟨f27, va_hq ht hP9, hD9⟩⟩, hS.F ht⟩) hS.2.2 dX11_mendNow_68
set_option maxHeartbeats 4000000 in
set_option maxRecDepth 100000 in
theorem c_X11_sumOf (l : Launch) (dC : Nat → ClassId) (dI : Nat → Nat → Nat) (cI cZ cQ : ClassId) (h0 : Nat) (nh : Nat) (m10 : Nat) (f_h0 : List Value) (fm10 : Nat → Int32) (j : Nat) (sz : Nat) (e_h0_6 : fAt f_h0 6 = some (.int (nI nh))) (e_h0_10 : fAt f_h0 10 = some (.ref m10)) (hnh : nh ≤ 4) (hj : j ≤ 30) : Met l yX11_sumOf wsX11_sumOf ({ frames := 0, cells := 0, slots := 0, locals := 40 }) (va_Pc [.ref h0, .int (nI j)] (fun U => U.heap.size = sz ∧ va_P (dC, dI) vwCl [(h0, .inr (11, f_h0)), (m10, .inl (cI, 34, .inl fm10))] U.heap ∧ va_K (dC, dI) vwCl (tys0 cI cZ cQ) U)) (va_Qi (fun (r : Int32) (u : Nat → Nat) => True) (fun (_ : Nat → Nat) (_ : State) => True) (fun _ : Nat => False)) 0 0 (fun _ : Nat => False) := by
  refine Met.ofW (cc := cX11_sumOf) (maxL := 4) (ret := (some .int)) (by decide) rfl ?_
  intro p e s m args below meth c s₁ B hml hv
  obtain ⟨rfl, hsz, hP, hK⟩ := hv
  have hx := B.exec
  have hb := B.bytes
  have hr := B.returns
  have hts := atoms_spec (ws := wsX11_sumOf) B.pre
  have hown : s.vm.findClass RX11 = some m.cls := findClass_of_methodNamed B.named
  have hlocks := B.notSynchronized
  have hi_X11 : ∀ w ∈ u_ws RX11 TX11 46, w ∈ wsX11_sumOf := fun _ h => List.mem_cons_of_mem _ (List.mem_append_right _ (h))
  subst hsz
  have hS : va_S (fun _ : Nat => False) s.heap s.heap [] := va_S.rf
  have hl := lv_entry ([.ref h0, .int (nI j)]) (n := 4) (Nat.le_of_ble_eq_true rfl)
  rw [lg_entry_eq]
  generalize (lg_sl ([.ref h0, .int (nI j)]) ++ List.replicate (4 - (lg_sl ([.ref h0, .int (nI j)])).length) Slot.unset).toArray = ls at hl ⊢
  have hl : lv_has ls 4 [(0, .ref h0), (1, .int (nI j))] := hl
  refine lv_iconst (v := 0) hx hb dX11_sumOf_0 (by decide) ?_
  refine lv_istore_n (lv' := [(2, .int 0), (0, .ref h0), (1, .int (nI j))]) hx hb dX11_sumOf_1 rfl hl (by decide) rfl (fun ls hl => ?_)
  refine lv_iconst (v := 0) hx hb dX11_sumOf_2 (by decide) ?_
  refine lv_istore_n (lv' := [(3, .int 0), (2, .int 0), (0, .ref h0), (1, .int (nI j))]) hx hb dX11_sumOf_3 rfl hl (by decide) rfl (fun ls hl => ?_)
  refine (fun (K : ∀ (d4 : Nat) (k4 : Nat) (a4_2 : Int32) (H : Heap) (locs : List Loc) (ls : Array Slot), k4 + d4 = nh → va_P (dC, dI) vwCl [(h0, .inr (11, f_h0)), (m10, .inl (cI, 34, .inl fm10))] H → va_S (fun _ : Nat => False) s.heap H locs → lv_has ls 4 [(3, .int (nI k4)), (2, .int a4_2), (0, .ref h0), (1, .int (nI j))] → W p l e _ s m _ below meth c H locs _ _ _ (F0 m 4 ls [])) => K nh 0 0 _ _ _ (by omega) hP hS (lv_sub hl [0, 1, 2, 3] rfl)) ?_
  intro d4
  induction d4 with
  | zero =>
    intro k4 a4_2 H locs ls hk4 hP hS hl
    refine lv_iload_n hx hb dX11_sumOf_4 rfl (lv_at hl 0 rfl) ?_
    refine lv_aload_n hx hb dX11_sumOf_5 rfl (lv_at hl 2 rfl) ?_
    refine va_get (D := (dC, dI)) (ci := 11) (v := .int (nI nh)) (C := RX11) (T := TX11) (N := 46) hx hb hts hi_X11 hown hK hP 0 rfl rfl 6 (by decide) (hts (.fieldLink RX11 106 "LeftQuillsModel" "hands" "I") (wmx 1 rfl)) (fun _ h9 => h9) e_h0_6 dX11_sumOf_6 ?_
    refine lv_icmp_ge (tgt := 29) hx hb dX11_sumOf_9 (by decide) (fun c1 => ?_) (fun c1 => ?_)
    ·
      have c1 : nh ≤ k4 := (nI_leI (a := nh) (b := k4) (by omega) (by omega)).mp c1
      refine lv_iload_n hx hb dX11_sumOf_29 rfl (lv_at hl 1 rfl) ?_
      exact W.iret (v := a4_2) hx hb hr (fun t ht hW => ⟨⟨a4_2, (fun _ => 0), rfl, trivial, trivial⟩, hS.F ht⟩) hS.2.2 dX11_sumOf_30
    ·
      have c1 : ¬ nh ≤ k4 := fun h => c1 ((nI_leI (a := nh) (b := k4) (by omega) (by omega)).mpr h)
      omega
  | succ d4 ih4 =>
    intro k4 a4_2 H locs ls hk4 hP hS hl
    refine lv_iload_n hx hb dX11_sumOf_4 rfl (lv_at hl 0 rfl) ?_
    refine lv_aload_n hx hb dX11_sumOf_5 rfl (lv_at hl 2 rfl) ?_
    refine va_get (D := (dC, dI)) (ci := 11) (v := .int (nI nh)) (C := RX11) (T := TX11) (N := 46) hx hb hts hi_X11 hown hK hP 0 rfl rfl 6 (by decide) (hts (.fieldLink RX11 106 "LeftQuillsModel" "hands" "I") (wmx 1 rfl)) (fun _ h9 => h9) e_h0_6 dX11_sumOf_6 ?_
    refine lv_icmp_ge (tgt := 29) hx hb dX11_sumOf_9 (by decide) (fun c2 => ?_) (fun c2 => ?_)
    ·
      have c2 : nh ≤ k4 := (nI_leI (a := nh) (b := k4) (by omega) (by omega)).mp c2
      omega
    ·
      have c2 : ¬ nh ≤ k4 := fun h => c2 ((nI_leI (a := nh) (b := k4) (by omega) (by omega)).mpr h)
      refine lv_iload_n hx hb dX11_sumOf_12 rfl (lv_at hl 1 rfl) ?_
      refine lv_aload_n hx hb dX11_sumOf_13 rfl (lv_at hl 2 rfl) ?_
      refine va_get (D := (dC, dI)) (ci := 11) (v := .ref m10) (C := RX11) (T := TX11) (N := 46) hx hb hts hi_X11 hown hK hP 0 rfl rfl 10 (by decide) (hts (.fieldLink RX11 28 "LeftQuillsModel" "now" "[I") (wmx 2 rfl)) (fun _ h9 => h9) e_h0_10 dX11_sumOf_14 ?_
      refine lv_iload_n hx hb dX11_sumOf_17 rfl (lv_at hl 3 rfl) ?_
      refine lv_iload_n hx hb dX11_sumOf_18 rfl (lv_at hl 0 rfl) ?_
      refine lv_iadd hx hb dX11_sumOf_19 ?_
      refine lv_topi (fun z3 ez3 => ?_)
      obtain rfl : z3 = nI (j + k4) := ez3.trans (nI_add j k4)
      refine va_iald hx hb hK hP 1 0 rfl rfl (vp_in_nI (n := j + k4) (N := 34) (by omega) (by decide)) dX11_sumOf_20 ?_
      refine W.eq (g2 := F0 m 21 ls [.int (fm10 (j + k4)), .int a4_2]) (congrArg (fun y9 => F0 m 21 ls (.int (fm10 y9) :: [.int a4_2])) ((nI_clamp (n := j + k4) (by omega)))) ?_
      refine lv_iadd hx hb dX11_sumOf_21 ?_
      refine lv_topi (fun z4 ez4 => ?_)
      refine lv_istore_n (lv' := [(2, .int z4), (3, .int (nI k4)), (0, .ref h0), (1, .int (nI j))]) hx hb dX11_sumOf_22 rfl hl (by decide) rfl (fun ls hl => ?_)
      refine lv_iinc (v := nI (k4 + 1)) (lv' := [(3, .int (nI (k4 + 1))), (2, .int z4), (0, .ref h0), (1, .int (nI j))]) hx hb dX11_sumOf_23 hl (k := 1) rfl ((rfl : nI k4 + Int32.ofInt 1 = nI k4 + 1).trans (nI_add k4 1)) (by decide) rfl (fun ls hl => ?_)
      refine lv_goto (tgt := 4) hx hb dX11_sumOf_26 (by decide) ?_
      exact ih4 (k4 + 1) z4 _ _ _ (by omega) hP hS (lv_sub hl [0, 1, 2, 3] rfl)
set_option maxHeartbeats 4000000 in
set_option maxRecDepth 100000 in
theorem c_X11_softOnes (l : Launch) (dC : Nat → ClassId) (dI : Nat → Nat → Nat) (cI cZ cQ : ClassId) (h0 : Nat) (nq : Nat) (m10 : Nat) (f_h0 : List Value) (fm10 : Nat → Int32) (sz : Nat) (e_h0_2 : fAt f_h0 2 = some (.int (nI nq))) (e_h0_10 : fAt f_h0 10 = some (.ref m10)) (hnq : nq ≤ 8) : Met l yX11_softOnes wsX11_softOnes ({ frames := 0, cells := 0, slots := 0, locals := 40 }) (va_Pc [.ref h0] (fun U => U.heap.size = sz ∧ va_P (dC, dI) vwCl [(h0, .inr (11, f_h0)), (m10, .inl (cI, 34, .inl fm10))] U.heap ∧ va_K (dC, dI) vwCl (tys0 cI cZ cQ) U)) (va_Qi (fun (r : Int32) (u : Nat → Nat) => True) (fun (_ : Nat → Nat) (_ : State) => True) (fun _ : Nat => False)) 0 0 (fun _ : Nat => False) := by
  refine Met.ofW (cc := cX11_softOnes) (maxL := 3) (ret := (some .int)) (by decide) rfl ?_
  intro p e s m args below meth c s₁ B hml hv
  obtain ⟨rfl, hsz, hP, hK⟩ := hv
  have hx := B.exec
  have hb := B.bytes
  have hr := B.returns
  have hts := atoms_spec (ws := wsX11_softOnes) B.pre
  have hown : s.vm.findClass RX11 = some m.cls := findClass_of_methodNamed B.named
  have hlocks := B.notSynchronized
  have hi_X11 : ∀ w ∈ u_ws RX11 TX11 46, w ∈ wsX11_softOnes := fun _ h => List.mem_cons_of_mem _ (List.mem_append_right _ (h))
  subst hsz
  have hS : va_S (fun _ : Nat => False) s.heap s.heap [] := va_S.rf
  have hl := lv_entry ([.ref h0]) (n := 3) (Nat.le_of_ble_eq_true rfl)
  rw [lg_entry_eq]
  generalize (lg_sl ([.ref h0]) ++ List.replicate (3 - (lg_sl ([.ref h0])).length) Slot.unset).toArray = ls at hl ⊢
  have hl : lv_has ls 3 [(0, .ref h0)] := hl
  refine lv_iconst (v := 0) hx hb dX11_softOnes_0 (by decide) ?_
  refine lv_istore_n (lv' := [(1, .int 0), (0, .ref h0)]) hx hb dX11_softOnes_1 rfl hl (by decide) rfl (fun ls hl => ?_)
  refine lv_iconst (v := 0) hx hb dX11_softOnes_2 (by decide) ?_
  refine lv_istore_n (lv' := [(2, .int 0), (1, .int 0), (0, .ref h0)]) hx hb dX11_softOnes_3 rfl hl (by decide) rfl (fun ls hl => ?_)
  refine (fun (K : ∀ (d4 : Nat) (k4 : Nat) (a4_1 : Int32) (H : Heap) (locs : List Loc) (ls : Array Slot), k4 + d4 = nq → va_P (dC, dI) vwCl [(h0, .inr (11, f_h0)), (m10, .inl (cI, 34, .inl fm10))] H → va_S (fun _ : Nat => False) s.heap H locs → lv_has ls 3 [(2, .int (nI k4)), (1, .int a4_1), (0, .ref h0)] → W p l e _ s m _ below meth c H locs _ _ _ (F0 m 4 ls [])) => K nq 0 0 _ _ _ (by omega) hP hS (lv_sub hl [0, 1, 2] rfl)) ?_
  intro d4
  induction d4 with
  | zero =>
    intro k4 a4_1 H locs ls hk4 hP hS hl
    refine lv_iload_n hx hb dX11_softOnes_4 rfl (lv_at hl 0 rfl) ?_
    refine lv_aload_n hx hb dX11_softOnes_5 rfl (lv_at hl 2 rfl) ?_
    refine va_get (D := (dC, dI)) (ci := 11) (v := .int (nI nq)) (C := RX11) (T := TX11) (N := 46) hx hb hts hi_X11 hown hK hP 0 rfl rfl 2 (by decide) (hts (.fieldLink RX11 99 "LeftQuillsModel" "quills" "I") (wmx 1 rfl)) (fun _ h9 => h9) e_h0_2 dX11_softOnes_6 ?_
    refine lv_icmp_ge (tgt := 42) hx hb dX11_softOnes_9 (by decide) (fun c1 => ?_) (fun c1 => ?_)
    ·
      have c1 : nq ≤ k4 := (nI_leI (a := nq) (b := k4) (by omega) (by omega)).mp c1
      refine lv_iload_n hx hb dX11_softOnes_42 rfl (lv_at hl 1 rfl) ?_
      exact W.iret (v := a4_1) hx hb hr (fun t ht hW => ⟨⟨a4_1, (fun _ => 0), rfl, trivial, trivial⟩, hS.F ht⟩) hS.2.2 dX11_softOnes_43
    ·
      have c1 : ¬ nq ≤ k4 := fun h => c1 ((nI_leI (a := nq) (b := k4) (by omega) (by omega)).mpr h)
      omega
  | succ d4 ih4 =>
    intro k4 a4_1 H locs ls hk4 hP hS hl
    refine lv_iload_n hx hb dX11_softOnes_4 rfl (lv_at hl 0 rfl) ?_
    refine lv_aload_n hx hb dX11_softOnes_5 rfl (lv_at hl 2 rfl) ?_
    refine va_get (D := (dC, dI)) (ci := 11) (v := .int (nI nq)) (C := RX11) (T := TX11) (N := 46) hx hb hts hi_X11 hown hK hP 0 rfl rfl 2 (by decide) (hts (.fieldLink RX11 99 "LeftQuillsModel" "quills" "I") (wmx 1 rfl)) (fun _ h9 => h9) e_h0_2 dX11_softOnes_6 ?_
    refine lv_icmp_ge (tgt := 42) hx hb dX11_softOnes_9 (by decide) (fun c2 => ?_) (fun c2 => ?_)
    ·
      have c2 : nq ≤ k4 := (nI_leI (a := nq) (b := k4) (by omega) (by omega)).mp c2
      omega
    ·
      have c2 : ¬ nq ≤ k4 := fun h => c2 ((nI_leI (a := nq) (b := k4) (by omega) (by omega)).mpr h)
      refine lv_iload_n hx hb dX11_softOnes_12 rfl (lv_at hl 1 rfl) ?_
      refine lv_aload_n hx hb dX11_softOnes_13 rfl (lv_at hl 2 rfl) ?_
      refine va_get (D := (dC, dI)) (ci := 11) (v := .ref m10) (C := RX11) (T := TX11) (N := 46) hx hb hts hi_X11 hown hK hP 0 rfl rfl 10 (by decide) (hts (.fieldLink RX11 28 "LeftQuillsModel" "now" "[I") (wmx 2 rfl)) (fun _ h9 => h9) e_h0_10 dX11_softOnes_14 ?_
      refine lv_bipush (v := 16) hx hb dX11_softOnes_17 (by decide) ?_
      refine lv_iload_n hx hb dX11_softOnes_19 rfl (lv_at hl 0 rfl) ?_
      refine lv_iadd hx hb dX11_softOnes_20 ?_
      refine lv_topi (fun z3 ez3 => ?_)
      obtain rfl : z3 = nI (16 + k4) := ez3.trans (nI_add 16 k4)
      refine va_iald hx hb hK hP 1 0 rfl rfl (vp_in_nI (n := 16 + k4) (N := 34) (by omega) (by decide)) dX11_softOnes_21 ?_
      refine W.eq (g2 := F0 m 22 ls [.int (fm10 (16 + k4)), .int a4_1]) (congrArg (fun y9 => F0 m 22 ls (.int (fm10 y9) :: [.int a4_1])) ((nI_clamp (n := 16 + k4) (by omega)))) ?_
      refine lv_bipush (v := 50) hx hb dX11_softOnes_22 (by decide) ?_
      refine lv_icmp_le (tgt := 33) hx hb dX11_softOnes_24 (by decide) (fun c4 => ?_) (fun c4 => ?_)
      ·
        refine lv_iconst (v := 0) hx hb dX11_softOnes_33 (by decide) ?_
        refine lv_ior hx hb dX11_softOnes_34 ?_
        refine lv_topi (fun z5 ez5 => ?_)
        refine lv_istore_n (lv' := [(1, .int z5), (2, .int (nI k4)), (0, .ref h0)]) hx hb dX11_softOnes_35 rfl hl (by decide) rfl (fun ls hl => ?_)
        refine lv_iinc (v := nI (k4 + 1)) (lv' := [(2, .int (nI (k4 + 1))), (1, .int z5), (0, .ref h0)]) hx hb dX11_softOnes_36 hl (k := 1) rfl ((rfl : nI k4 + Int32.ofInt 1 = nI k4 + 1).trans (nI_add k4 1)) (by decide) rfl (fun ls hl => ?_)
        refine lv_goto (tgt := 4) hx hb dX11_softOnes_39 (by decide) ?_
        exact ih4 (k4 + 1) z5 _ _ _ (by omega) hP hS (lv_sub hl [0, 1, 2] rfl)
      ·
        refine lv_iconst (v := 1) hx hb dX11_softOnes_27 (by decide) ?_
        refine lv_iload_n hx hb dX11_softOnes_28 rfl (lv_at hl 0 rfl) ?_
        refine lv_ishl hx hb dX11_softOnes_29 ?_
        refine lv_topi (fun z6 ez6 => ?_)
        refine lv_goto (tgt := 34) hx hb dX11_softOnes_30 (by decide) ?_
        refine lv_ior hx hb dX11_softOnes_34 ?_
        refine lv_topi (fun z7 ez7 => ?_)
        refine lv_istore_n (lv' := [(1, .int z7), (2, .int (nI k4)), (0, .ref h0)]) hx hb dX11_softOnes_35 rfl hl (by decide) rfl (fun ls hl => ?_)
        refine lv_iinc (v := nI (k4 + 1)) (lv' := [(2, .int (nI (k4 + 1))), (1, .int z7), (0, .ref h0)]) hx hb dX11_softOnes_36 hl (k := 1) rfl ((rfl : nI k4 + Int32.ofInt 1 = nI k4 + 1).trans (nI_add k4 1)) (by decide) rfl (fun ls hl => ?_)
        refine lv_goto (tgt := 4) hx hb dX11_softOnes_39 (by decide) ?_
        exact ih4 (k4 + 1) z7 _ _ _ (by omega) hP hS (lv_sub hl [0, 1, 2] rfl)
