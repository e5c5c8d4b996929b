set_option maxHeartbeats 4000000 in
set_option maxRecDepth 100000 in
theorem c_X10_isOverTimeD (l : Launch) (dC : Nat → ClassId) (dI : Nat → Nat → Nat) (cI cZ cQ : ClassId) (h0 : Nat) (x6 : Nat) (f_h0 : List Value) (mi : Int32) (f_x6 : List Value) (sz : Nat) (e_h0_6 : f_h0[6]? = some (.ref x6)) (e_x6_0 : f_x6[0]? = some (.int mi)) : Met l yX10_isOverTime wsX10_isOverTime ({ frames := 0, cells := 0, slots := 0, locals := 40 }) (va_Pc [.ref h0] (fun U => U.heap.size = sz ∧ va_P (dC, dI) vwCl [(h0, .inr (10, f_h0)), (x6, .inr (1, f_x6))] U.heap ∧ va_K (dC, dI) vwCl (tys0 cI cZ cQ) U)) (va_Qi (fun (r : Int32) (u : Nat → Nat) => (r = 1 ∧ 90000 < mi) ∨ (r = 0 ∧ ¬ 90000 < mi)) (fun (_ : Nat → Nat) (_ : State) => True) (fun _ : Nat => False)) 0 0 (fun _ : Nat => False) := by
  refine Met.ofW (cc := cX10_isOverTime) (maxL := 1) (ret := (some .boolean)) (by decide) rfl ?_
  intro p e s m args below meth c s₁ B hml hv
  obtain ⟨rfl, hsz, hP, hK⟩ := hv
  have hx := B.exec
  have hb := B.bytes
  have hr := B.returns
  have hts := atoms_spec (ws := wsX10_isOverTime) B.pre
  have hown : s.vm.findClass RX10 = some m.cls := findClass_of_methodNamed B.named
  have hlocks := B.notSynchronized
  have hi_X1 : ∀ w ∈ u_ws RX1 TX1 8, w ∈ wsX10_isOverTime := fun _ h => List.mem_cons_of_mem _ (List.mem_append_right _ (h))
  have hi_X10 : ∀ w ∈ u_ws RX10 TX10 14, w ∈ wsX10_isOverTime := fun _ h => List.mem_cons_of_mem _ (List.mem_append_left _ (List.mem_append_right _ (h)))
  subst hsz
  have hS : va_S (fun _ : Nat => False) s.heap s.heap [] := va_S.rf
  have hl := lv_entry ([.ref h0]) (n := 1) (Nat.le_of_ble_eq_true rfl)
  rw [lg_entry_eq]
  generalize (lg_sl ([.ref h0]) ++ List.replicate (1 - (lg_sl ([.ref h0])).length) Slot.unset).toArray = ls at hl ⊢
  have hl : lv_has ls 1 [(0, .ref h0)] := hl
  refine lv_aload_n hx hb dX10_isOverTime_0 rfl (lv_at hl 0 rfl) ?_
  refine va_get (D := (dC, dI)) (ci := 10) (v := .ref x6) (C := RX10) (T := TX10) (N := 14) hx hb hts hi_X10 hown hK hP 0 rfl rfl 6 (by decide) (hts (.fieldLink RX10 42 "LeftQuills" "desk" "LLeftQuills$Desk;") (wmx 1 rfl)) (fun _ h9 => h9) e_h0_6 dX10_isOverTime_1 ?_
  refine va_get (D := (dC, dI)) (ci := 1) (v := .int mi) (C := RX1) (T := TX1) (N := 8) hx hb hts hi_X1 hown hK hP 1 rfl rfl 0 (by decide) (hts (.fieldLink RX10 139 "LeftQuills$Desk" "minutes" "I") (wmx 2 rfl)) (fun _ h9 => h9) e_x6_0 dX10_isOverTime_4 ?_
  refine lv_ldcw (v := 90000) hx hb hown (hts (.constant RX10 304 90000) (wmx 3 rfl)) dX10_isOverTime_7 ?_
  refine lv_icmp_le (tgt := 17) hx hb dX10_isOverTime_10 (by decide) (fun c1 => ?_) (fun c1 => ?_)
  ·
    refine lv_iconst (v := 0) hx hb dX10_isOverTime_17 (by decide) ?_
    exact W.zret (v := 0) hx hb hr (rfl) (fun t ht hW => ⟨⟨0, (fun _ => 0), rfl, Or.inr ⟨rfl, fa_len c1⟩, trivial⟩, hS.F ht⟩) hS.2.2 dX10_isOverTime_18
  ·
    refine lv_iconst (v := 1) hx hb dX10_isOverTime_13 (by decide) ?_
    refine lv_goto (tgt := 18) hx hb dX10_isOverTime_14 (by decide) ?_
    exact W.zret (v := 1) hx hb hr (rfl) (fun t ht hW => ⟨⟨1, (fun _ => 0), rfl, Or.inl ⟨rfl, fa_nle c1⟩, trivial⟩, hS.F ht⟩) hS.2.2 dX10_isOverTime_18
