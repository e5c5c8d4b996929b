set_option maxHeartbeats 4000000 in
set_option maxRecDepth 100000 in
theorem c_X5_copyFromF (l : Launch) (dC : Nat → ClassId) (dI : Nat → Nat → Nat) (cI cZ cQ : ClassId) (h0 : Nat) (stu : Nat) (blu : Int32) (mmu : Int32) (nqu : Nat) (nhu : Nat) (u5 : Nat) (u6 : Nat) (u7 : Nat) (u8 : Nat) (u9 : Nat) (u10 : Nat) (u11 : Nat) (u12 : Nat) (fu5 : Nat → Int32) (fu6 : Nat → Int32) (fu7 : Nat → Int32) (fu8 : Nat → Int32) (fu9 : Nat → Int32) (fu10 : Nat → Int32) (fu11 : Nat → Int32) (fu12 : Nat → Int32) (hq : Nat) (stw : Nat) (blw : Int32) (mmw : Int32) (nqw : Nat) (nhw : Nat) (w5 : Nat) (w6 : Nat) (w7 : Nat) (w8 : Nat) (w9 : Nat) (w10 : Nat) (w11 : Nat) (w12 : Nat) (fw5 : Nat → Int32) (fw6 : Nat → Int32) (fw7 : Nat → Int32) (fw8 : Nat → Int32) (fw9 : Nat → Int32) (fw10 : Nat → Int32) (fw11 : Nat → Int32) (fw12 : Nat → Int32) (sz : Nat) (hnq : nqw ≤ 8) (hnh : nhw ≤ 4) (hst : stw ≤ 1) : Met l yX5_copyFrom wsX5_copyFrom ({ frames := 1, cells := 0, slots := 0, locals := 40 }) (va_Pc [.ref h0, .ref hq] (fun U => U.heap.size = sz ∧ va_P (dC, dI) vwCl [(h0, .inr (5, [.int (nI stu), .int blu, .int mmu, .int (nI nqu), .int (nI nhu), .ref u5, .ref u6, .ref u7, .ref u8, .ref u9, .ref u10, .ref u11, .ref u12])), (u5, .inl (cI, 8, .inl fu5)), (u6, .inl (cI, 8, .inl fu6)), (u7, .inl (cI, 8, .inl fu7)), (u8, .inl (cI, 8, .inl fu8)), (u9, .inl (cI, 8, .inl fu9)), (u10, .inl (cI, 4, .inl fu10)), (u11, .inl (cI, 4, .inl fu11)), (u12, .inl (cI, 4, .inl fu12)), (hq, .inr (5, [.int (nI stw), .int blw, .int mmw, .int (nI nqw), .int (nI nhw), .ref w5, .ref w6, .ref w7, .ref w8, .ref w9, .ref w10, .ref w11, .ref w12])), (w5, .inl (cI, 8, .inl fw5)), (w6, .inl (cI, 8, .inl fw6)), (w7, .inl (cI, 8, .inl fw7)), (w8, .inl (cI, 8, .inl fw8)), (w9, .inl (cI, 8, .inl fw9)), (w10, .inl (cI, 4, .inl fw10)), (w11, .inl (cI, 4, .inl fw11)), (w12, .inl (cI, 4, .inl fw12))] U.heap ∧ va_K (dC, dI) vwCl (tys0 cI cZ cQ) U ∧ va_D (fun _ => True) [(h0, .inr (5, [.int (nI stu), .int blu, .int mmu, .int (nI nqu), .int (nI nhu), .ref u5, .ref u6, .ref u7, .ref u8, .ref u9, .ref u10, .ref u11, .ref u12])), (u5, .inl (cI, 8, .inl fu5)), (u6, .inl (cI, 8, .inl fu6)), (u7, .inl (cI, 8, .inl fu7)), (u8, .inl (cI, 8, .inl fu8)), (u9, .inl (cI, 8, .inl fu9)), (u10, .inl (cI, 4, .inl fu10)), (u11, .inl (cI, 4, .inl fu11)), (u12, .inl (cI, 4, .inl fu12)), (hq, .inr (5, [.int (nI stw), .int blw, .int mmw, .int (nI nqw), .int (nI nhw), .ref w5, .ref w6, .ref w7, .ref w8, .ref w9, .ref w10, .ref w11, .ref w12])), (w5, .inl (cI, 8, .inl fw5)), (w6, .inl (cI, 8, .inl fw6)), (w7, .inl (cI, 8, .inl fw7)), (w8, .inl (cI, 8, .inl fw8)), (w9, .inl (cI, 8, .inl fw9)), (w10, .inl (cI, 4, .inl fw10)), (w11, .inl (cI, 4, .inl fw11)), (w12, .inl (cI, 4, .inl fw12))])) (va_Qv (fun (u : Nat → Nat) => True) (fun (_ : Nat → Nat) (t : State) => ∃ (gg0 gg1 gg2 gg3 gg4 gg5 gg6 gg7 : Nat → Int32) (ii1 ii2 : Int32) (kk0 kk3 kk4 : Nat), kk0 ≤ 1 ∧ kk3 ≤ 8 ∧ kk4 ≤ 4 ∧ (stw = kk0) ∧ (blw = ii1) ∧ (mmw = ii2) ∧ (nqw = kk3) ∧ (nhw = kk4) ∧ (∀ j, j < 8 → gg0 j = fw5 j) ∧ (∀ j, j < 8 → gg1 j = fw6 j) ∧ (∀ j, j < 8 → gg2 j = fw7 j) ∧ (∀ j, j < 8 → gg3 j = fw8 j) ∧ (∀ j, j < 8 → gg4 j = fw9 j) ∧ (∀ j, j < 4 → gg5 j = fw10 j) ∧ (∀ j, j < 4 → gg6 j = fw11 j) ∧ (∀ j, j < 4 → gg7 j = fw12 j) ∧ va_P (dC, dI) vwCl [(h0, .inr (5, [.int (nI kk0), .int ii1, .int ii2, .int (nI kk3), .int (nI kk4), .ref u5, .ref u6, .ref u7, .ref u8, .ref u9, .ref u10, .ref u11, .ref u12])), (u5, .inl (cI, 8, .inl gg0)), (u6, .inl (cI, 8, .inl gg1)), (u7, .inl (cI, 8, .inl gg2)), (u8, .inl (cI, 8, .inl gg3)), (u9, .inl (cI, 8, .inl gg4)), (u10, .inl (cI, 4, .inl gg5)), (u11, .inl (cI, 4, .inl gg6)), (u12, .inl (cI, 4, .inl gg7)), (hq, .inr (5, [.int (nI stw), .int blw, .int mmw, .int (nI nqw), .int (nI nhw), .ref w5, .ref w6, .ref w7, .ref w8, .ref w9, .ref w10, .ref w11, .ref w12])), (w5, .inl (cI, 8, .inl fw5)), (w6, .inl (cI, 8, .inl fw6)), (w7, .inl (cI, 8, .inl fw7)), (w8, .inl (cI, 8, .inl fw8)), (w9, .inl (cI, 8, .inl fw9)), (w10, .inl (cI, 4, .inl fw10)), (w11, .inl (cI, 4, .inl fw11)), (w12, .inl (cI, 4, .inl fw12))] t.heap ∧ va_D (va_A [(h0, .inr (5, [.int (nI stu), .int blu, .int mmu, .int (nI nqu), .int (nI nhu), .ref u5, .ref u6, .ref u7, .ref u8, .ref u9, .ref u10, .ref u11, .ref u12])), (u5, .inl (cI, 8, .inl fu5)), (u6, .inl (cI, 8, .inl fu6)), (u7, .inl (cI, 8, .inl fu7)), (u8, .inl (cI, 8, .inl fu8)), (u9, .inl (cI, 8, .inl fu9)), (u10, .inl (cI, 4, .inl fu10)), (u11, .inl (cI, 4, .inl fu11)), (u12, .inl (cI, 4, .inl fu12)), (hq, .inr (5, [.int (nI stw), .int blw, .int mmw, .int (nI nqw), .int (nI nhw), .ref w5, .ref w6, .ref w7, .ref w8, .ref w9, .ref w10, .ref w11, .ref w12])), (w5, .inl (cI, 8, .inl fw5)), (w6, .inl (cI, 8, .inl fw6)), (w7, .inl (cI, 8, .inl fw7)), (w8, .inl (cI, 8, .inl fw8)), (w9, .inl (cI, 8, .inl fw9)), (w10, .inl (cI, 4, .inl fw10)), (w11, .inl (cI, 4, .inl fw11)), (w12, .inl (cI, 4, .inl fw12))] sz) [(h0, .inr (5, [.int (nI kk0), .int ii1, .int ii2, .int (nI kk3), .int (nI kk4), .ref u5, .ref u6, .ref u7, .ref u8, .ref u9, .ref u10, .ref u11, .ref u12])), (u5, .inl (cI, 8, .inl gg0)), (u6, .inl (cI, 8, .inl gg1)), (u7, .inl (cI, 8, .inl gg2)), (u8, .inl (cI, 8, .inl gg3)), (u9, .inl (cI, 8, .inl gg4)), (u10, .inl (cI, 4, .inl gg5)), (u11, .inl (cI, 4, .inl gg6)), (u12, .inl (cI, 4, .inl gg7)), (hq, .inr (5, [.int (nI stw), .int blw, .int mmw, .int (nI nqw), .int (nI nhw), .ref w5, .ref w6, .ref w7, .ref w8, .ref w9, .ref w10, .ref w11, .ref w12])), (w5, .inl (cI, 8, .inl fw5)), (w6, .inl (cI, 8, .inl fw6)), (w7, .inl (cI, 8, .inl fw7)), (w8, .inl (cI, 8, .inl fw8)), (w9, .inl (cI, 8, .inl fw9)), (w10, .inl (cI, 4, .inl fw10)), (w11, .inl (cI, 4, .inl fw11)), (w12, .inl (cI, 4, .inl fw12))]) (va_A [(h0, .inr (5, [.int (nI stu), .int blu, .int mmu, .int (nI nqu), .int (nI nhu), .ref u5, .ref u6, .ref u7, .ref u8, .ref u9, .ref u10, .ref u11, .ref u12])), (u5, .inl (cI, 8, .inl fu5)), (u6, .inl (cI, 8, .inl fu6)), (u7, .inl (cI, 8, .inl fu7)), (u8, .inl (cI, 8, .inl fu8)), (u9, .inl (cI, 8, .inl fu9)), (u10, .inl (cI, 4, .inl fu10)), (u11, .inl (cI, 4, .inl fu11)), (u12, .inl (cI, 4, .inl fu12)), (hq, .inr (5, [.int (nI stw), .int blw, .int mmw, .int (nI nqw), .int (nI nhw), .ref w5, .ref w6, .ref w7, .ref w8, .ref w9, .ref w10, .ref w11, .ref w12])), (w5, .inl (cI, 8, .inl fw5)), (w6, .inl (cI, 8, .inl fw6)), (w7, .inl (cI, 8, .inl fw7)), (w8, .inl (cI, 8, .inl fw8)), (w9, .inl (cI, 8, .inl fw9)), (w10, .inl (cI, 4, .inl fw10)), (w11, .inl (cI, 4, .inl fw11)), (w12, .inl (cI, 4, .inl fw12))] sz)) 0 0 (va_A [(h0, .inr (5, [.int (nI stu), .int blu, .int mmu, .int (nI nqu), .int (nI nhu), .ref u5, .ref u6, .ref u7, .ref u8, .ref u9, .ref u10, .ref u11, .ref u12])), (u5, .inl (cI, 8, .inl fu5)), (u6, .inl (cI, 8, .inl fu6)), (u7, .inl (cI, 8, .inl fu7)), (u8, .inl (cI, 8, .inl fu8)), (u9, .inl (cI, 8, .inl fu9)), (u10, .inl (cI, 4, .inl fu10)), (u11, .inl (cI, 4, .inl fu11)), (u12, .inl (cI, 4, .inl fu12)), (hq, .inr (5, [.int (nI stw), .int blw, .int mmw, .int (nI nqw), .int (nI nhw), .ref w5, .ref w6, .ref w7, .ref w8, .ref w9, .ref w10, .ref w11, .ref w12])), (w5, .inl (cI, 8, .inl fw5)), (w6, .inl (cI, 8, .inl fw6)), (w7, .inl (cI, 8, .inl fw7)), (w8, .inl (cI, 8, .inl fw8)), (w9, .inl (cI, 8, .inl fw9)), (w10, .inl (cI, 4, .inl fw10)), (w11, .inl (cI, 4, .inl fw11)), (w12, .inl (cI, 4, .inl fw12))] sz) := by
  refine Met.ofW (cc := cX5_copyFrom) (maxL := 2) (ret := none) (by decide) rfl ?_
  intro p e s m args below meth c s₁ B hml hv
  obtain ⟨rfl, hsz, hP, hK, hD0⟩ := hv
  have hx := B.exec
  have hb := B.bytes
  have hr := B.returns
  have hts := atoms_spec (ws := wsX5_copyFrom) B.pre
  have hown : s.vm.findClass RX5 = some m.cls := findClass_of_methodNamed B.named
  have hlocks := B.notSynchronized
  have hi_X5 : ∀ w ∈ u_ws RX5 TX5 13, w ∈ wsX5_copyFrom := fun _ h => List.mem_cons_of_mem _ (List.mem_append_right _ (h))
  subst hsz
  have hD := hD0.self (sz := s.heap.size)
  generalize hAe : va_A [(h0, .inr (5, [.int (nI stu), .int blu, .int mmu, .int (nI nqu), .int (nI nhu), .ref u5, .ref u6, .ref u7, .ref u8, .ref u9, .ref u10, .ref u11, .ref u12])), (u5, .inl (cI, 8, .inl fu5)), (u6, .inl (cI, 8, .inl fu6)), (u7, .inl (cI, 8, .inl fu7)), (u8, .inl (cI, 8, .inl fu8)), (u9, .inl (cI, 8, .inl fu9)), (u10, .inl (cI, 4, .inl fu10)), (u11, .inl (cI, 4, .inl fu11)), (u12, .inl (cI, 4, .inl fu12)), (hq, .inr (5, [.int (nI stw), .int blw, .int mmw, .int (nI nqw), .int (nI nhw), .ref w5, .ref w6, .ref w7, .ref w8, .ref w9, .ref w10, .ref w11, .ref w12])), (w5, .inl (cI, 8, .inl fw5)), (w6, .inl (cI, 8, .inl fw6)), (w7, .inl (cI, 8, .inl fw7)), (w8, .inl (cI, 8, .inl fw8)), (w9, .inl (cI, 8, .inl fw9)), (w10, .inl (cI, 4, .inl fw10)), (w11, .inl (cI, 4, .inl fw11)), (w12, .inl (cI, 4, .inl fw12))] s.heap.size = A at hD ⊢
  have hA : ∀ q : Nat, s.heap.size ≤ q → A q := fun q h => by rw [← hAe]; exact Or.inr h
  have hS : va_S A s.heap s.heap [] := va_S.rf
  have hl := lv_entry ([.ref h0, .ref hq]) (n := 2) (Nat.le_of_ble_eq_true rfl)
  rw [lg_entry_eq]
  generalize (lg_sl ([.ref h0, .ref hq]) ++ List.replicate (2 - (lg_sl ([.ref h0, .ref hq])).length) Slot.unset).toArray = ls at hl ⊢
  have hl : lv_has ls 2 [(0, .ref h0), (1, .ref hq)] := hl
  refine lv_aload_n hx hb dX5_copyFrom_0 rfl (lv_at hl 0 rfl) ?_
  refine lv_aload_n hx hb dX5_copyFrom_1 rfl (lv_at hl 1 rfl) ?_
  refine va_get (D := (dC, dI)) (ci := 5) (v := .int (nI stw)) (C := RX5) (T := TX5) (N := 13) hx hb hts hi_X5 hown hK hP 9 rfl rfl 0 (by decide) (hts (.fieldLink RX5 9 "LeftQuills$Office" "stands" "Z") (wmx 1 rfl)) (fun _ h9 => h9) rfl dX5_copyFrom_2 ?_
  refine va_put (D := (dC, dI)) (ci := 5) (v := .int (nI stw)) (ty := .boolean) (C := RX5) (T := TX5) (N := 13) hx hb hts hi_X5 tyX5 tyX5_ok nmX5 hown hK hP hD hS 0 rfl rfl 0 (by decide) (hts (.fieldLink RX5 9 "LeftQuills$Office" "stands" "Z") (wmx 1 rfl)) (fun _ h9 => h9) rfl (by decide +kernel) (x_fitsZ (n := stw) (by omega)).1 (x_fitsZ (n := stw) (by omega)).2 (Nat.le_of_ble_eq_true rfl) dX5_copyFrom_5 (fun H locs hP hD hS => ?_)
  have hPD : pdW (dC, dI) vwCl A [(h0, .inr (5, [.int (nI stw), .int blu, .int mmu, .int (nI nqu), .int (nI nhu), .ref u5, .ref u6, .ref u7, .ref u8, .ref u9, .ref u10, .ref u11, .ref u12])), (u5, .inl (cI, 8, .inl fu5)), (u6, .inl (cI, 8, .inl fu6)), (u7, .inl (cI, 8, .inl fu7)), (u8, .inl (cI, 8, .inl fu8)), (u9, .inl (cI, 8, .inl fu9)), (u10, .inl (cI, 4, .inl fu10)), (u11, .inl (cI, 4, .inl fu11)), (u12, .inl (cI, 4, .inl fu12)), (hq, .inr (5, [.int (nI stw), .int blw, .int mmw, .int (nI nqw), .int (nI nhw), .ref w5, .ref w6, .ref w7, .ref w8, .ref w9, .ref w10, .ref w11, .ref w12])), (w5, .inl (cI, 8, .inl fw5)), (w6, .inl (cI, 8, .inl fw6)), (w7, .inl (cI, 8, .inl fw7)), (w8, .inl (cI, 8, .inl fw8)), (w9, .inl (cI, 8, .inl fw9)), (w10, .inl (cI, 4, .inl fw10)), (w11, .inl (cI, 4, .inl fw11)), (w12, .inl (cI, 4, .inl fw12))] H := ⟨hP, hD⟩
  have hP := hPD.1
  have hD := hPD.2
  clear hPD
  refine lv_aload_n hx hb dX5_copyFrom_8 rfl (lv_at hl 0 rfl) ?_
  refine lv_aload_n hx hb dX5_copyFrom_9 rfl (lv_at hl 1 rfl) ?_
  refine va_get (D := (dC, dI)) (ci := 5) (v := .int blw) (C := RX5) (T := TX5) (N := 13) hx hb hts hi_X5 hown hK hP 9 rfl rfl 1 (by decide) (hts (.fieldLink RX5 15 "LeftQuills$Office" "bluntBehind" "I") (wmx 2 rfl)) (fun _ h9 => h9) rfl dX5_copyFrom_10 ?_
  refine va_put (D := (dC, dI)) (ci := 5) (v := .int blw) (ty := .int) (C := RX5) (T := TX5) (N := 13) hx hb hts hi_X5 tyX5 tyX5_ok nmX5 hown hK hP hD hS 0 rfl rfl 1 (by decide) (hts (.fieldLink RX5 15 "LeftQuills$Office" "bluntBehind" "I") (wmx 2 rfl)) (fun _ h9 => h9) rfl (by decide +kernel) rfl rfl (Nat.le_of_ble_eq_true rfl) dX5_copyFrom_13 (fun H locs hP hD hS => ?_)
  have hPD : pdW (dC, dI) vwCl A [(h0, .inr (5, [.int (nI stw), .int blw, .int mmu, .int (nI nqu), .int (nI nhu), .ref u5, .ref u6, .ref u7, .ref u8, .ref u9, .ref u10, .ref u11, .ref u12])), (u5, .inl (cI, 8, .inl fu5)), (u6, .inl (cI, 8, .inl fu6)), (u7, .inl (cI, 8, .inl fu7)), (u8, .inl (cI, 8, .inl fu8)), (u9, .inl (cI, 8, .inl fu9)), (u10, .inl (cI, 4, .inl fu10)), (u11, .inl (cI, 4, .inl fu11)), (u12, .inl (cI, 4, .inl fu12)), (hq, .inr (5, [.int (nI stw), .int blw, .int mmw, .int (nI nqw), .int (nI nhw), .ref w5, .ref w6, .ref w7, .ref w8, .ref w9, .ref w10, .ref w11, .ref w12])), (w5, .inl (cI, 8, .inl fw5)), (w6, .inl (cI, 8, .inl fw6)), (w7, .inl (cI, 8, .inl fw7)), (w8, .inl (cI, 8, .inl fw8)), (w9, .inl (cI, 8, .inl fw9)), (w10, .inl (cI, 4, .inl fw10)), (w11, .inl (cI, 4, .inl fw11)), (w12, .inl (cI, 4, .inl fw12))] H := ⟨hP, hD⟩
  have hP := hPD.1
  have hD := hPD.2
  clear hPD
  refine lv_aload_n hx hb dX5_copyFrom_16 rfl (lv_at hl 0 rfl) ?_
  refine lv_aload_n hx hb dX5_copyFrom_17 rfl (lv_at hl 1 rfl) ?_
  refine va_get (D := (dC, dI)) (ci := 5) (v := .int mmw) (C := RX5) (T := TX5) (N := 13) hx hb hts hi_X5 hown hK hP 9 rfl rfl 2 (by decide) (hts (.fieldLink RX5 19 "LeftQuills$Office" "mendMinutes" "I") (wmx 3 rfl)) (fun _ h9 => h9) rfl dX5_copyFrom_18 ?_
  refine va_put (D := (dC, dI)) (ci := 5) (v := .int mmw) (ty := .int) (C := RX5) (T := TX5) (N := 13) hx hb hts hi_X5 tyX5 tyX5_ok nmX5 hown hK hP hD hS 0 rfl rfl 2 (by decide) (hts (.fieldLink RX5 19 "LeftQuills$Office" "mendMinutes" "I") (wmx 3 rfl)) (fun _ h9 => h9) rfl (by decide +kernel) rfl rfl (Nat.le_of_ble_eq_true rfl) dX5_copyFrom_21 (fun H locs hP hD hS => ?_)
  have hPD : pdW (dC, dI) vwCl A [(h0, .inr (5, [.int (nI stw), .int blw, .int mmw, .int (nI nqu), .int (nI nhu), .ref u5, .ref u6, .ref u7, .ref u8, .ref u9, .ref u10, .ref u11, .ref u12])), (u5, .inl (cI, 8, .inl fu5)), (u6, .inl (cI, 8, .inl fu6)), (u7, .inl (cI, 8, .inl fu7)), (u8, .inl (cI, 8, .inl fu8)), (u9, .inl (cI, 8, .inl fu9)), (u10, .inl (cI, 4, .inl fu10)), (u11, .inl (cI, 4, .inl fu11)), (u12, .inl (cI, 4, .inl fu12)), (hq, .inr (5, [.int (nI stw), .int blw, .int mmw, .int (nI nqw), .int (nI nhw), .ref w5, .ref w6, .ref w7, .ref w8, .ref w9, .ref w10, .ref w11, .ref w12])), (w5, .inl (cI, 8, .inl fw5)), (w6, .inl (cI, 8, .inl fw6)), (w7, .inl (cI, 8, .inl fw7)), (w8, .inl (cI, 8, .inl fw8)), (w9, .inl (cI, 8, .inl fw9)), (w10, .inl (cI, 4, .inl fw10)), (w11, .inl (cI, 4, .inl fw11)), (w12, .inl (cI, 4, .inl fw12))] H := ⟨hP, hD⟩
  have hP := hPD.1
  have hD := hPD.2
  clear hPD
  refine lv_aload_n hx hb dX5_copyFrom_24 rfl (lv_at hl 0 rfl) ?_
  refine lv_aload_n hx hb dX5_copyFrom_25 rfl (lv_at hl 1 rfl) ?_
  refine va_get (D := (dC, dI)) (ci := 5) (v := .int (nI nqw)) (C := RX5) (T := TX5) (N := 13) hx hb hts hi_X5 hown hK hP 9 rfl rfl 3 (by decide) (hts (.fieldLink RX5 22 "LeftQuills$Office" "quills" "I") (wmx 4 rfl)) (fun _ h9 => h9) rfl dX5_copyFrom_26 ?_
  refine va_put (D := (dC, dI)) (ci := 5) (v := .int (nI nqw)) (ty := .int) (C := RX5) (T := TX5) (N := 13) hx hb hts hi_X5 tyX5 tyX5_ok nmX5 hown hK hP hD hS 0 rfl rfl 3 (by decide) (hts (.fieldLink RX5 22 "LeftQuills$Office" "quills" "I") (wmx 4 rfl)) (fun _ h9 => h9) rfl (by decide +kernel) rfl rfl (Nat.le_of_ble_eq_true rfl) dX5_copyFrom_29 (fun H locs hP hD hS => ?_)
  have hPD : pdW (dC, dI) vwCl A [(h0, .inr (5, [.int (nI stw), .int blw, .int mmw, .int (nI nqw), .int (nI nhu), .ref u5, .ref u6, .ref u7, .ref u8, .ref u9, .ref u10, .ref u11, .ref u12])), (u5, .inl (cI, 8, .inl fu5)), (u6, .inl (cI, 8, .inl fu6)), (u7, .inl (cI, 8, .inl fu7)), (u8, .inl (cI, 8, .inl fu8)), (u9, .inl (cI, 8, .inl fu9)), (u10, .inl (cI, 4, .inl fu10)), (u11, .inl (cI, 4, .inl fu11)), (u12, .inl (cI, 4, .inl fu12)), (hq, .inr (5, [.int (nI stw), .int blw, .int mmw, .int (nI nqw), .int (nI nhw), .ref w5, .ref w6, .ref w7, .ref w8, .ref w9, .ref w10, .ref w11, .ref w12])), (w5, .inl (cI, 8, .inl fw5)), (w6, .inl (cI, 8, .inl fw6)), (w7, .inl (cI, 8, .inl fw7)), (w8, .inl (cI, 8, .inl fw8)), (w9, .inl (cI, 8, .inl fw9)), (w10, .inl (cI, 4, .inl fw10)), (w11, .inl (cI, 4, .inl fw11)), (w12, .inl (cI, 4, .inl fw12))] H := ⟨hP, hD⟩
  have hP := hPD.1
  have hD := hPD.2
  clear hPD
  refine lv_aload_n hx hb dX5_copyFrom_32 rfl (lv_at hl 0 rfl) ?_
  refine lv_aload_n hx hb dX5_copyFrom_33 rfl (lv_at hl 1 rfl) ?_
  refine va_get (D := (dC, dI)) (ci := 5) (v := .int (nI nhw)) (C := RX5) (T := TX5) (N := 13) hx hb hts hi_X5 hown hK hP 9 rfl rfl 4 (by decide) (hts (.fieldLink RX5 25 "LeftQuills$Office" "hands" "I") (wmx 5 rfl)) (fun _ h9 => h9) rfl dX5_copyFrom_34 ?_
  refine va_put (D := (dC, dI)) (ci := 5) (v := .int (nI nhw)) (ty := .int) (C := RX5) (T := TX5) (N := 13) hx hb hts hi_X5 tyX5 tyX5_ok nmX5 hown hK hP hD hS 0 rfl rfl 4 (by decide) (hts (.fieldLink RX5 25 "LeftQuills$Office" "hands" "I") (wmx 5 rfl)) (fun _ h9 => h9) rfl (by decide +kernel) rfl rfl (Nat.le_of_ble_eq_true rfl) dX5_copyFrom_37 (fun H locs hP hD hS => ?_)
  have hPD : pdW (dC, dI) vwCl A [(h0, .inr (5, [.int (nI stw), .int blw, .int mmw, .int (nI nqw), .int (nI nhw), .ref u5, .ref u6, .ref u7, .ref u8, .ref u9, .ref u10, .ref u11, .ref u12])), (u5, .inl (cI, 8, .inl fu5)), (u6, .inl (cI, 8, .inl fu6)), (u7, .inl (cI, 8, .inl fu7)), (u8, .inl (cI, 8, .inl fu8)), (u9, .inl (cI, 8, .inl fu9)), (u10, .inl (cI, 4, .inl fu10)), (u11, .inl (cI, 4, .inl fu11)), (u12, .inl (cI, 4, .inl fu12)), (hq, .inr (5, [.int (nI stw), .int blw, .int mmw, .int (nI nqw), .int (nI nhw), .ref w5, .ref w6, .ref w7, .ref w8, .ref w9, .ref w10, .ref w11, .ref w12])), (w5, .inl (cI, 8, .inl fw5)), (w6, .inl (cI, 8, .inl fw6)), (w7, .inl (cI, 8, .inl fw7)), (w8, .inl (cI, 8, .inl fw8)), (w9, .inl (cI, 8, .inl fw9)), (w10, .inl (cI, 4, .inl fw10)), (w11, .inl (cI, 4, .inl fw11)), (w12, .inl (cI, 4, .inl fw12))] H := ⟨hP, hD⟩
  have hP := hPD.1
  have hD := hPD.2
  clear hPD
  refine lv_aload_n hx hb dX5_copyFrom_40 rfl (lv_at hl 1 rfl) ?_
  refine va_get (D := (dC, dI)) (ci := 5) (v := .ref w5) (C := RX5) (T := TX5) (N := 13) hx hb hts hi_X5 hown hK hP 9 rfl rfl 5 (by decide) (hts (.fieldLink RX5 28 "LeftQuills$Office" "wing" "[I") (wmx 6 rfl)) (fun _ h9 => h9) rfl dX5_copyFrom_41 ?_
  refine lv_iconst (v := 0) hx hb dX5_copyFrom_44 (by decide) ?_
  refine lv_aload_n hx hb dX5_copyFrom_45 rfl (lv_at hl 0 rfl) ?_
  refine va_get (D := (dC, dI)) (ci := 5) (v := .ref u5) (C := RX5) (T := TX5) (N := 13) hx hb hts hi_X5 hown hK hP 0 rfl rfl 5 (by decide) (hts (.fieldLink RX5 28 "LeftQuills$Office" "wing" "[I") (wmx 6 rfl)) (fun _ h9 => h9) rfl dX5_copyFrom_46 ?_
  refine lv_iconst (v := 0) hx hb dX5_copyFrom_49 (by decide) ?_
  refine lv_bipush (v := 8) hx hb dX5_copyFrom_50 (by decide) ?_
  refine va_copyi hx hb (hml.trans hl.1.symm) hown (hts (.methodLink RX5 53 arraycopyName) (wmx 7 rfl)) (hts (.native arraycopyName) (wmx 8 rfl)) (hts (.static arraycopyName) (wmx 9 rfl)) (hts (.initialized "java/lang/System") (wmx 10 rfl)) hK hP hD hS 10 1 0 0 rfl rfl rfl rfl rfl (by decide) (by decide) (by decide) (by decide) (by decide) (fun _ _ => rfl) (Nat.le_of_ble_eq_true rfl) (Nat.le_of_ble_eq_true rfl) dX5_copyFrom_52 (fun H locs hP hD hS => ?_)
  generalize hgf1 : va_cpy _ _ _ _ _ = f1 at hP hD
  have hPD : pdW (dC, dI) vwCl A [(h0, .inr (5, [.int (nI stw), .int blw, .int mmw, .int (nI nqw), .int (nI nhw), .ref u5, .ref u6, .ref u7, .ref u8, .ref u9, .ref u10, .ref u11, .ref u12])), (u5, .inl (cI, 8, .inl f1)), (u6, .inl (cI, 8, .inl fu6)), (u7, .inl (cI, 8, .inl fu7)), (u8, .inl (cI, 8, .inl fu8)), (u9, .inl (cI, 8, .inl fu9)), (u10, .inl (cI, 4, .inl fu10)), (u11, .inl (cI, 4, .inl fu11)), (u12, .inl (cI, 4, .inl fu12)), (hq, .inr (5, [.int (nI stw), .int blw, .int mmw, .int (nI nqw), .int (nI nhw), .ref w5, .ref w6, .ref w7, .ref w8, .ref w9, .ref w10, .ref w11, .ref w12])), (w5, .inl (cI, 8, .inl fw5)), (w6, .inl (cI, 8, .inl fw6)), (w7, .inl (cI, 8, .inl fw7)), (w8, .inl (cI, 8, .inl fw8)), (w9, .inl (cI, 8, .inl fw9)), (w10, .inl (cI, 4, .inl fw10)), (w11, .inl (cI, 4, .inl fw11)), (w12, .inl (cI, 4, .inl fw12))] H := ⟨hP, hD⟩
  have hP := hPD.1
  have hD := hPD.2
  clear hPD
  refine lv_aload_n hx hb dX5_copyFrom_55 rfl (lv_at hl 1 rfl) ?_
  refine va_get (D := (dC, dI)) (ci := 5) (v := .ref w6) (C := RX5) (T := TX5) (N := 13) hx hb hts hi_X5 hown hK hP 9 rfl rfl 6 (by decide) (hts (.fieldLink RX5 32 "LeftQuills$Office" "place" "[I") (wmx 11 rfl)) (fun _ h9 => h9) rfl dX5_copyFrom_56 ?_
  refine lv_iconst (v := 0) hx hb dX5_copyFrom_59 (by decide) ?_
  refine lv_aload_n hx hb dX5_copyFrom_60 rfl (lv_at hl 0 rfl) ?_
  refine va_get (D := (dC, dI)) (ci := 5) (v := .ref u6) (C := RX5) (T := TX5) (N := 13) hx hb hts hi_X5 hown hK hP 0 rfl rfl 6 (by decide) (hts (.fieldLink RX5 32 "LeftQuills$Office" "place" "[I") (wmx 11 rfl)) (fun _ h9 => h9) rfl dX5_copyFrom_61 ?_
  refine lv_iconst (v := 0) hx hb dX5_copyFrom_64 (by decide) ?_
  refine lv_bipush (v := 8) hx hb dX5_copyFrom_65 (by decide) ?_
  refine va_copyi hx hb (hml.trans hl.1.symm) hown (hts (.methodLink RX5 53 arraycopyName) (wmx 7 rfl)) (hts (.native arraycopyName) (wmx 8 rfl)) (hts (.static arraycopyName) (wmx 9 rfl)) (hts (.initialized "java/lang/System") (wmx 10 rfl)) hK hP hD hS 11 2 0 0 rfl rfl rfl rfl rfl (by decide) (by decide) (by decide) (by decide) (by decide) (fun _ _ => rfl) (Nat.le_of_ble_eq_true rfl) (Nat.le_of_ble_eq_true rfl) dX5_copyFrom_67 (fun H locs hP hD hS => ?_)
  generalize hgf2 : va_cpy _ _ _ _ _ = f2 at hP hD
  have hPD : pdW (dC, dI) vwCl A [(h0, .inr (5, [.int (nI stw), .int blw, .int mmw, .int (nI nqw), .int (nI nhw), .ref u5, .ref u6, .ref u7, .ref u8, .ref u9, .ref u10, .ref u11, .ref u12])), (u5, .inl (cI, 8, .inl f1)), (u6, .inl (cI, 8, .inl f2)), (u7, .inl (cI, 8, .inl fu7)), (u8, .inl (cI, 8, .inl fu8)), (u9, .inl (cI, 8, .inl fu9)), (u10, .inl (cI, 4, .inl fu10)), (u11, .inl (cI, 4, .inl fu11)), (u12, .inl (cI, 4, .inl fu12)), (hq, .inr (5, [.int (nI stw), .int blw, .int mmw, .int (nI nqw), .int (nI nhw), .ref w5, .ref w6, .ref w7, .ref w8, .ref w9, .ref w10, .ref w11, .ref w12])), (w5, .inl (cI, 8, .inl fw5)), (w6, .inl (cI, 8, .inl fw6)), (w7, .inl (cI, 8, .inl fw7)), (w8, .inl (cI, 8, .inl fw8)), (w9, .inl (cI, 8, .inl fw9)), (w10, .inl (cI, 4, .inl fw10)), (w11, .inl (cI, 4, .inl fw11)), (w12, .inl (cI, 4, .inl fw12))] H := ⟨hP, hD⟩
  have hP := hPD.1
  have hD := hPD.2
  clear hPD
  refine lv_aload_n hx hb dX5_copyFrom_70 rfl (lv_at hl 1 rfl) ?_
  refine va_get (D := (dC, dI)) (ci := 5) (v := .ref w7) (C := RX5) (T := TX5) (N := 13) hx hb hts hi_X5 hown hK hP 9 rfl rfl 7 (by decide) (hts (.fieldLink RX5 35 "LeftQuills$Office" "cooked" "[I") (wmx 12 rfl)) (fun _ h9 => h9) rfl dX5_copyFrom_71 ?_
  refine lv_iconst (v := 0) hx hb dX5_copyFrom_74 (by decide) ?_
  refine lv_aload_n hx hb dX5_copyFrom_75 rfl (lv_at hl 0 rfl) ?_
  refine va_get (D := (dC, dI)) (ci := 5) (v := .ref u7) (C := RX5) (T := TX5) (N := 13) hx hb hts hi_X5 hown hK hP 0 rfl rfl 7 (by decide) (hts (.fieldLink RX5 35 "LeftQuills$Office" "cooked" "[I") (wmx 12 rfl)) (fun _ h9 => h9) rfl dX5_copyFrom_76 ?_
  refine lv_iconst (v := 0) hx hb dX5_copyFrom_79 (by decide) ?_
  refine lv_bipush (v := 8) hx hb dX5_copyFrom_80 (by decide) ?_
  refine va_copyi hx hb (hml.trans hl.1.symm) hown (hts (.methodLink RX5 53 arraycopyName) (wmx 7 rfl)) (hts (.native arraycopyName) (wmx 8 rfl)) (hts (.static arraycopyName) (wmx 9 rfl)) (hts (.initialized "java/lang/System") (wmx 10 rfl)) hK hP hD hS 12 3 0 0 rfl rfl rfl rfl rfl (by decide) (by decide) (by decide) (by decide) (by decide) (fun _ _ => rfl) (Nat.le_of_ble_eq_true rfl) (Nat.le_of_ble_eq_true rfl) dX5_copyFrom_82 (fun H locs hP hD hS => ?_)
  generalize hgf3 : va_cpy _ _ _ _ _ = f3 at hP hD
  have hPD : pdW (dC, dI) vwCl A [(h0, .inr (5, [.int (nI stw), .int blw, .int mmw, .int (nI nqw), .int (nI nhw), .ref u5, .ref u6, .ref u7, .ref u8, .ref u9, .ref u10, .ref u11, .ref u12])), (u5, .inl (cI, 8, .inl f1)), (u6, .inl (cI, 8, .inl f2)), (u7, .inl (cI, 8, .inl f3)), (u8, .inl (cI, 8, .inl fu8)), (u9, .inl (cI, 8, .inl fu9)), (u10, .inl (cI, 4, .inl fu10)), (u11, .inl (cI, 4, .inl fu11)), (u12, .inl (cI, 4, .inl fu12)), (hq, .inr (5, [.int (nI stw), .int blw, .int mmw, .int (nI nqw), .int (nI nhw), .ref w5, .ref w6, .ref w7, .ref w8, .ref w9, .ref w10, .ref w11, .ref w12])), (w5, .inl (cI, 8, .inl fw5)), (w6, .inl (cI, 8, .inl fw6)), (w7, .inl (cI, 8, .inl fw7)), (w8, .inl (cI, 8, .inl fw8)), (w9, .inl (cI, 8, .inl fw9)), (w10, .inl (cI, 4, .inl fw10)), (w11, .inl (cI, 4, .inl fw11)), (w12, .inl (cI, 4, .inl fw12))] H := ⟨hP, hD⟩
  have hP := hPD.1
  have hD := hPD.2
  clear hPD
  refine lv_aload_n hx hb dX5_copyFrom_85 rfl (lv_at hl 1 rfl) ?_
  refine va_get (D := (dC, dI)) (ci := 5) (v := .ref w8) (C := RX5) (T := TX5) (N := 13) hx hb hts hi_X5 hown hK hP 9 rfl rfl 8 (by decide) (hts (.fieldLink RX5 38 "LeftQuills$Office" "toldLength" "[I") (wmx 13 rfl)) (fun _ h9 => h9) rfl dX5_copyFrom_86 ?_
  refine lv_iconst (v := 0) hx hb dX5_copyFrom_89 (by decide) ?_
  refine lv_aload_n hx hb dX5_copyFrom_90 rfl (lv_at hl 0 rfl) ?_
  refine va_get (D := (dC, dI)) (ci := 5) (v := .ref u8) (C := RX5) (T := TX5) (N := 13) hx hb hts hi_X5 hown hK hP 0 rfl rfl 8 (by decide) (hts (.fieldLink RX5 38 "LeftQuills$Office" "toldLength" "[I") (wmx 13 rfl)) (fun _ h9 => h9) rfl dX5_copyFrom_91 ?_
  refine lv_iconst (v := 0) hx hb dX5_copyFrom_94 (by decide) ?_
  refine lv_bipush (v := 8) hx hb dX5_copyFrom_95 (by decide) ?_
  refine va_copyi hx hb (hml.trans hl.1.symm) hown (hts (.methodLink RX5 53 arraycopyName) (wmx 7 rfl)) (hts (.native arraycopyName) (wmx 8 rfl)) (hts (.static arraycopyName) (wmx 9 rfl)) (hts (.initialized "java/lang/System") (wmx 10 rfl)) hK hP hD hS 13 4 0 0 rfl rfl rfl rfl rfl (by decide) (by decide) (by decide) (by decide) (by decide) (fun _ _ => rfl) (Nat.le_of_ble_eq_true rfl) (Nat.le_of_ble_eq_true rfl) dX5_copyFrom_97 (fun H locs hP hD hS => ?_)
  generalize hgf4 : va_cpy _ _ _ _ _ = f4 at hP hD
  have hPD : pdW (dC, dI) vwCl A [(h0, .inr (5, [.int (nI stw), .int blw, .int mmw, .int (nI nqw), .int (nI nhw), .ref u5, .ref u6, .ref u7, .ref u8, .ref u9, .ref u10, .ref u11, .ref u12])), (u5, .inl (cI, 8, .inl f1)), (u6, .inl (cI, 8, .inl f2)), (u7, .inl (cI, 8, .inl f3)), (u8, .inl (cI, 8, .inl f4)), (u9, .inl (cI, 8, .inl fu9)), (u10, .inl (cI, 4, .inl fu10)), (u11, .inl (cI, 4, .inl fu11)), (u12, .inl (cI, 4, .inl fu12)), (hq, .inr (5, [.int (nI stw), .int blw, .int mmw, .int (nI nqw), .int (nI nhw), .ref w5, .ref w6, .ref w7, .ref w8, .ref w9, .ref w10, .ref w11, .ref w12])), (w5, .inl (cI, 8, .inl fw5)), (w6, .inl (cI, 8, .inl fw6)), (w7, .inl (cI, 8, .inl fw7)), (w8, .inl (cI, 8, .inl fw8)), (w9, .inl (cI, 8, .inl fw9)), (w10, .inl (cI, 4, .inl fw10)), (w11, .inl (cI, 4, .inl fw11)), (w12, .inl (cI, 4, .inl fw12))] H := ⟨hP, hD⟩
  have hP := hPD.1
  have hD := hPD.2
  clear hPD
  refine lv_aload_n hx hb dX5_copyFrom_100 rfl (lv_at hl 1 rfl) ?_
  refine va_get (D := (dC, dI)) (ci := 5) (v := .ref w9) (C := RX5) (T := TX5) (N := 13) hx hb hts hi_X5 hown hK hP 9 rfl rfl 9 (by decide) (hts (.fieldLink RX5 41 "LeftQuills$Office" "toldNib" "[I") (wmx 14 rfl)) (fun _ h9 => h9) rfl dX5_copyFrom_101 ?_
  refine lv_iconst (v := 0) hx hb dX5_copyFrom_104 (by decide) ?_
  refine lv_aload_n hx hb dX5_copyFrom_105 rfl (lv_at hl 0 rfl) ?_
  refine va_get (D := (dC, dI)) (ci := 5) (v := .ref u9) (C := RX5) (T := TX5) (N := 13) hx hb hts hi_X5 hown hK hP 0 rfl rfl 9 (by decide) (hts (.fieldLink RX5 41 "LeftQuills$Office" "toldNib" "[I") (wmx 14 rfl)) (fun _ h9 => h9) rfl dX5_copyFrom_106 ?_
  refine lv_iconst (v := 0) hx hb dX5_copyFrom_109 (by decide) ?_
  refine lv_bipush (v := 8) hx hb dX5_copyFrom_110 (by decide) ?_
  refine va_copyi hx hb (hml.trans hl.1.symm) hown (hts (.methodLink RX5 53 arraycopyName) (wmx 7 rfl)) (hts (.native arraycopyName) (wmx 8 rfl)) (hts (.static arraycopyName) (wmx 9 rfl)) (hts (.initialized "java/lang/System") (wmx 10 rfl)) hK hP hD hS 14 5 0 0 rfl rfl rfl rfl rfl (by decide) (by decide) (by decide) (by decide) (by decide) (fun _ _ => rfl) (Nat.le_of_ble_eq_true rfl) (Nat.le_of_ble_eq_true rfl) dX5_copyFrom_112 (fun H locs hP hD hS => ?_)
  generalize hgf5 : va_cpy _ _ _ _ _ = f5 at hP hD
  have hPD : pdW (dC, dI) vwCl A [(h0, .inr (5, [.int (nI stw), .int blw, .int mmw, .int (nI nqw), .int (nI nhw), .ref u5, .ref u6, .ref u7, .ref u8, .ref u9, .ref u10, .ref u11, .ref u12])), (u5, .inl (cI, 8, .inl f1)), (u6, .inl (cI, 8, .inl f2)), (u7, .inl (cI, 8, .inl f3)), (u8, .inl (cI, 8, .inl f4)), (u9, .inl (cI, 8, .inl f5)), (u10, .inl (cI, 4, .inl fu10)), (u11, .inl (cI, 4, .inl fu11)), (u12, .inl (cI, 4, .inl fu12)), (hq, .inr (5, [.int (nI stw), .int blw, .int mmw, .int (nI nqw), .int (nI nhw), .ref w5, .ref w6, .ref w7, .ref w8, .ref w9, .ref w10, .ref w11, .ref w12])), (w5, .inl (cI, 8, .inl fw5)), (w6, .inl (cI, 8, .inl fw6)), (w7, .inl (cI, 8, .inl fw7)), (w8, .inl (cI, 8, .inl fw8)), (w9, .inl (cI, 8, .inl fw9)), (w10, .inl (cI, 4, .inl fw10)), (w11, .inl (cI, 4, .inl fw11)), (w12, .inl (cI, 4, .inl fw12))] H := ⟨hP, hD⟩
  have hP := hPD.1
  have hD := hPD.2
  clear hPD
  refine lv_aload_n hx hb dX5_copyFrom_115 rfl (lv_at hl 1 rfl) ?_
  refine va_get (D := (dC, dI)) (ci := 5) (v := .ref w10) (C := RX5) (T := TX5) (N := 13) hx hb hts hi_X5 hown hK hP 9 rfl rfl 10 (by decide) (hts (.fieldLink RX5 44 "LeftQuills$Office" "side" "[I") (wmx 15 rfl)) (fun _ h9 => h9) rfl dX5_copyFrom_116 ?_
  refine lv_iconst (v := 0) hx hb dX5_copyFrom_119 (by decide) ?_
  refine lv_aload_n hx hb dX5_copyFrom_120 rfl (lv_at hl 0 rfl) ?_
  refine va_get (D := (dC, dI)) (ci := 5) (v := .ref u10) (C := RX5) (T := TX5) (N := 13) hx hb hts hi_X5 hown hK hP 0 rfl rfl 10 (by decide) (hts (.fieldLink RX5 44 "LeftQuills$Office" "side" "[I") (wmx 15 rfl)) (fun _ h9 => h9) rfl dX5_copyFrom_121 ?_
  refine lv_iconst (v := 0) hx hb dX5_copyFrom_124 (by decide) ?_
  refine lv_iconst (v := 4) hx hb dX5_copyFrom_125 (by decide) ?_
  refine va_copyi hx hb (hml.trans hl.1.symm) hown (hts (.methodLink RX5 53 arraycopyName) (wmx 7 rfl)) (hts (.native arraycopyName) (wmx 8 rfl)) (hts (.static arraycopyName) (wmx 9 rfl)) (hts (.initialized "java/lang/System") (wmx 10 rfl)) hK hP hD hS 15 6 0 0 rfl rfl rfl rfl rfl (by decide) (by decide) (by decide) (by decide) (by decide) (fun _ _ => rfl) (Nat.le_of_ble_eq_true rfl) (Nat.le_of_ble_eq_true rfl) dX5_copyFrom_126 (fun H locs hP hD hS => ?_)
  generalize hgf6 : va_cpy _ _ _ _ _ = f6 at hP hD
  have hPD : pdW (dC, dI) vwCl A [(h0, .inr (5, [.int (nI stw), .int blw, .int mmw, .int (nI nqw), .int (nI nhw), .ref u5, .ref u6, .ref u7, .ref u8, .ref u9, .ref u10, .ref u11, .ref u12])), (u5, .inl (cI, 8, .inl f1)), (u6, .inl (cI, 8, .inl f2)), (u7, .inl (cI, 8, .inl f3)), (u8, .inl (cI, 8, .inl f4)), (u9, .inl (cI, 8, .inl f5)), (u10, .inl (cI, 4, .inl f6)), (u11, .inl (cI, 4, .inl fu11)), (u12, .inl (cI, 4, .inl fu12)), (hq, .inr (5, [.int (nI stw), .int blw, .int mmw, .int (nI nqw), .int (nI nhw), .ref w5, .ref w6, .ref w7, .ref w8, .ref w9, .ref w10, .ref w11, .ref w12])), (w5, .inl (cI, 8, .inl fw5)), (w6, .inl (cI, 8, .inl fw6)), (w7, .inl (cI, 8, .inl fw7)), (w8, .inl (cI, 8, .inl fw8)), (w9, .inl (cI, 8, .inl fw9)), (w10, .inl (cI, 4, .inl fw10)), (w11, .inl (cI, 4, .inl fw11)), (w12, .inl (cI, 4, .inl fw12))] H := ⟨hP, hD⟩
  have hP := hPD.1
  have hD := hPD.2
  clear hPD
  refine lv_aload_n hx hb dX5_copyFrom_129 rfl (lv_at hl 1 rfl) ?_
  refine va_get (D := (dC, dI)) (ci := 5) (v := .ref w11) (C := RX5) (T := TX5) (N := 13) hx hb hts hi_X5 hown hK hP 9 rfl rfl 11 (by decide) (hts (.fieldLink RX5 47 "LeftQuills$Office" "presses" "[I") (wmx 16 rfl)) (fun _ h9 => h9) rfl dX5_copyFrom_130 ?_
  refine lv_iconst (v := 0) hx hb dX5_copyFrom_133 (by decide) ?_
  refine lv_aload_n hx hb dX5_copyFrom_134 rfl (lv_at hl 0 rfl) ?_
  refine va_get (D := (dC, dI)) (ci := 5) (v := .ref u11) (C := RX5) (T := TX5) (N := 13) hx hb hts hi_X5 hown hK hP 0 rfl rfl 11 (by decide) (hts (.fieldLink RX5 47 "LeftQuills$Office" "presses" "[I") (wmx 16 rfl)) (fun _ h9 => h9) rfl dX5_copyFrom_135 ?_
  refine lv_iconst (v := 0) hx hb dX5_copyFrom_138 (by decide) ?_
  refine lv_iconst (v := 4) hx hb dX5_copyFrom_139 (by decide) ?_
  refine va_copyi hx hb (hml.trans hl.1.symm) hown (hts (.methodLink RX5 53 arraycopyName) (wmx 7 rfl)) (hts (.native arraycopyName) (wmx 8 rfl)) (hts (.static arraycopyName) (wmx 9 rfl)) (hts (.initialized "java/lang/System") (wmx 10 rfl)) hK hP hD hS 16 7 0 0 rfl rfl rfl rfl rfl (by decide) (by decide) (by decide) (by decide) (by decide) (fun _ _ => rfl) (Nat.le_of_ble_eq_true rfl) (Nat.le_of_ble_eq_true rfl) dX5_copyFrom_140 (fun H locs hP hD hS => ?_)
  generalize hgf7 : va_cpy _ _ _ _ _ = f7 at hP hD
  have hPD : pdW (dC, dI) vwCl A [(h0, .inr (5, [.int (nI stw), .int blw, .int mmw, .int (nI nqw), .int (nI nhw), .ref u5, .ref u6, .ref u7, .ref u8, .ref u9, .ref u10, .ref u11, .ref u12])), (u5, .inl (cI, 8, .inl f1)), (u6, .inl (cI, 8, .inl f2)), (u7, .inl (cI, 8, .inl f3)), (u8, .inl (cI, 8, .inl f4)), (u9, .inl (cI, 8, .inl f5)), (u10, .inl (cI, 4, .inl f6)), (u11, .inl (cI, 4, .inl f7)), (u12, .inl (cI, 4, .inl fu12)), (hq, .inr (5, [.int (nI stw), .int blw, .int mmw, .int (nI nqw), .int (nI nhw), .ref w5, .ref w6, .ref w7, .ref w8, .ref w9, .ref w10, .ref w11, .ref w12])), (w5, .inl (cI, 8, .inl fw5)), (w6, .inl (cI, 8, .inl fw6)), (w7, .inl (cI, 8, .inl fw7)), (w8, .inl (cI, 8, .inl fw8)), (w9, .inl (cI, 8, .inl fw9)), (w10, .inl (cI, 4, .inl fw10)), (w11, .inl (cI, 4, .inl fw11)), (w12, .inl (cI, 4, .inl fw12))] H := ⟨hP, hD⟩
  have hP := hPD.1
  have hD := hPD.2
  clear hPD
  refine lv_aload_n hx hb dX5_copyFrom_143 rfl (lv_at hl 1 rfl) ?_
  refine va_get (D := (dC, dI)) (ci := 5) (v := .ref w12) (C := RX5) (T := TX5) (N := 13) hx hb hts hi_X5 hown hK hP 9 rfl rfl 12 (by decide) (hts (.fieldLink RX5 50 "LeftQuills$Office" "wants" "[I") (wmx 17 rfl)) (fun _ h9 => h9) rfl dX5_copyFrom_144 ?_
  refine lv_iconst (v := 0) hx hb dX5_copyFrom_147 (by decide) ?_
  refine lv_aload_n hx hb dX5_copyFrom_148 rfl (lv_at hl 0 rfl) ?_
  refine va_get (D := (dC, dI)) (ci := 5) (v := .ref u12) (C := RX5) (T := TX5) (N := 13) hx hb hts hi_X5 hown hK hP 0 rfl rfl 12 (by decide) (hts (.fieldLink RX5 50 "LeftQuills$Office" "wants" "[I") (wmx 17 rfl)) (fun _ h9 => h9) rfl dX5_copyFrom_149 ?_
  refine lv_iconst (v := 0) hx hb dX5_copyFrom_152 (by decide) ?_
  refine lv_iconst (v := 4) hx hb dX5_copyFrom_153 (by decide) ?_
  refine va_copyi hx hb (hml.trans hl.1.symm) hown (hts (.methodLink RX5 53 arraycopyName) (wmx 7 rfl)) (hts (.native arraycopyName) (wmx 8 rfl)) (hts (.static arraycopyName) (wmx 9 rfl)) (hts (.initialized "java/lang/System") (wmx 10 rfl)) hK hP hD hS 17 8 0 0 rfl rfl rfl rfl rfl (by decide) (by decide) (by decide) (by decide) (by decide) (fun _ _ => rfl) (Nat.le_of_ble_eq_true rfl) (Nat.le_of_ble_eq_true rfl) dX5_copyFrom_154 (fun H locs hP hD hS => ?_)
  generalize hgf8 : va_cpy _ _ _ _ _ = f8 at hP hD
  have hPD : pdW (dC, dI) vwCl A [(h0, .inr (5, [.int (nI stw), .int blw, .int mmw, .int (nI nqw), .int (nI nhw), .ref u5, .ref u6, .ref u7, .ref u8, .ref u9, .ref u10, .ref u11, .ref u12])), (u5, .inl (cI, 8, .inl f1)), (u6, .inl (cI, 8, .inl f2)), (u7, .inl (cI, 8, .inl f3)), (u8, .inl (cI, 8, .inl f4)), (u9, .inl (cI, 8, .inl f5)), (u10, .inl (cI, 4, .inl f6)), (u11, .inl (cI, 4, .inl f7)), (u12, .inl (cI, 4, .inl f8)), (hq, .inr (5, [.int (nI stw), .int blw, .int mmw, .int (nI nqw), .int (nI nhw), .ref w5, .ref w6, .ref w7, .ref w8, .ref w9, .ref w10, .ref w11, .ref w12])), (w5, .inl (cI, 8, .inl fw5)), (w6, .inl (cI, 8, .inl fw6)), (w7, .inl (cI, 8, .inl fw7)), (w8, .inl (cI, 8, .inl fw8)), (w9, .inl (cI, 8, .inl fw9)), (w10, .inl (cI, 4, .inl fw10)), (w11, .inl (cI, 4, .inl fw11)), (w12, .inl (cI, 4, .inl fw12))] H := ⟨hP, hD⟩
  have hP := hPD.1
  have hD := hPD.2
  clear hPD
  have hP9 := hP.sub (ws' := [(h0, .inr (5, [.int (nI stw), .int blw, .int mmw, .int (nI nqw), .int (nI nhw), .ref u5, .ref u6, .ref u7, .ref u8, .ref u9, .ref u10, .ref u11, .ref u12])), (u5, .inl (cI, 8, .inl f1)), (u6, .inl (cI, 8, .inl f2)), (u7, .inl (cI, 8, .inl f3)), (u8, .inl (cI, 8, .inl f4)), (u9, .inl (cI, 8, .inl f5)), (u10, .inl (cI, 4, .inl f6)), (u11, .inl (cI, 4, .inl f7)), (u12, .inl (cI, 4, .inl f8)), (hq, .inr (5, [.int (nI stw), .int blw, .int mmw, .int (nI nqw), .int (nI nhw), .ref w5, .ref w6, .ref w7, .ref w8, .ref w9, .ref w10, .ref w11, .ref w12])), (w5, .inl (cI, 8, .inl fw5)), (w6, .inl (cI, 8, .inl fw6)), (w7, .inl (cI, 8, .inl fw7)), (w8, .inl (cI, 8, .inl fw8)), (w9, .inl (cI, 8, .inl fw9)), (w10, .inl (cI, 4, .inl fw10)), (w11, .inl (cI, 4, .inl fw11)), (w12, .inl (cI, 4, .inl fw12))]) [0, 1, 2, 3, 4, 5, 6, 7, 8, 9, 10, 11, 12, 13, 14, 15, 16, 17] rfl
  have hD9 := hD.sub (ws' := [(h0, .inr (5, [.int (nI stw), .int blw, .int mmw, .int (nI nqw), .int (nI nhw), .ref u5, .ref u6, .ref u7, .ref u8, .ref u9, .ref u10, .ref u11, .ref u12])), (u5, .inl (cI, 8, .inl f1)), (u6, .inl (cI, 8, .inl f2)), (u7, .inl (cI, 8, .inl f3)), (u8, .inl (cI, 8, .inl f4)), (u9, .inl (cI, 8, .inl f5)), (u10, .inl (cI, 4, .inl f6)), (u11, .inl (cI, 4, .inl f7)), (u12, .inl (cI, 4, .inl f8)), (hq, .inr (5, [.int (nI stw), .int blw, .int mmw, .int (nI nqw), .int (nI nhw), .ref w5, .ref w6, .ref w7, .ref w8, .ref w9, .ref w10, .ref w11, .ref w12])), (w5, .inl (cI, 8, .inl fw5)), (w6, .inl (cI, 8, .inl fw6)), (w7, .inl (cI, 8, .inl fw7)), (w8, .inl (cI, 8, .inl fw8)), (w9, .inl (cI, 8, .inl fw9)), (w10, .inl (cI, 4, .inl fw10)), (w11, .inl (cI, 4, .inl fw11)), (w12, .inl (cI, 4, .inl fw12))]) [0, 1, 2, 3, 4, 5, 6, 7, 8, 9, 10, 11, 12, 13, 14, 15, 16, 17] (by decide +kernel) rfl
  exact W.vret hx hb hr (fun t ht hW => ⟨⟨(fun _ => 0), rfl, trivial, ⟨f1, f2, f3, f4, f5, f6, f7, f8, blw, mmw, stw, nqw, nhw, by omega, by omega, by omega, rfl, rfl, rfl, rfl, rfl, (fun j hj => by rw [← hgf1]; exact cpy_lt (by decide) (by decide) (by decide) hj), (fun j hj => by rw [← hgf2]; exact cpy_lt (by decide) (by decide) (by decide) hj), (fun j hj => by rw [← hgf3]; exact cpy_lt (by decide) (by decide) (by decide) hj), (fun j hj => by rw [← hgf4]; exact cpy_lt (by decide) (by decide) (by decide) hj), (fun j hj => by rw [← hgf5]; exact cpy_lt (by decide) (by decide) (by decide) hj), (fun j hj => by rw [← hgf6]; exact cpy_lt (by decide) (by decide) (by decide) hj), (fun j hj => by rw [← hgf7]; exact cpy_lt (by decide) (by decide) (by decide) hj), (fun j hj => by rw [← hgf8]; exact cpy_lt (by decide) (by decide) (by decide) hj), va_hq ht hP9, hD9⟩⟩, hS.F ht⟩) hS.2.2 dX5_copyFrom_157
set_option maxHeartbeats 4000000 in
set_option maxRecDepth 100000 in
theorem c_X4_forgetF (l : Launch) (dC : Nat → ClassId) (dI : Nat → Nat → Nat) (cI cZ cQ : ClassId) (h0 : Nat) (iz : Nat) (f_h0 : List Value) (fz : Nat → Int32) (sz : Nat) (e_h0_2 : fAt f_h0 2 = some (.ref iz)) : Met l yX4_forget wsX4_forget ({ frames := 0, cells := 0, slots := 0, locals := 40 }) (va_Pc [.ref h0] (fun U => U.heap.size = sz ∧ va_P (dC, dI) vwCl [(h0, .inr (4, f_h0)), (iz, .inl (cZ, 2, .inl fz))] U.heap ∧ va_K (dC, dI) vwCl (tys0 cI cZ cQ) U ∧ va_D (fun _ => True) [(h0, .inr (4, f_h0)), (iz, .inl (cZ, 2, .inl fz))])) (va_Qv (fun (u : Nat → Nat) => True) (fun (_ : Nat → Nat) (t : State) => ∃ (gg0 : Nat → Int32) , (∀ j, j < 2 → gg0 j = 0) ∧ va_P (dC, dI) vwCl [(h0, .inr (4, f_h0)), (iz, .inl (cZ, 2, .inl gg0))] t.heap ∧ va_D (va_A [(h0, .inr (4, f_h0)), (iz, .inl (cZ, 2, .inl fz))] sz) [(h0, .inr (4, f_h0)), (iz, .inl (cZ, 2, .inl gg0))]) (va_A [(h0, .inr (4, f_h0)), (iz, .inl (cZ, 2, .inl fz))] sz)) 0 0 (va_A [(h0, .inr (4, f_h0)), (iz, .inl (cZ, 2, .inl fz))] sz) := by
  refine Met.ofW (cc := cX4_forget) (maxL := 2) (ret := none) (by decide) rfl ?_
  intro p e s m args below meth c s₁ B hml hv
  obtain ⟨rfl, hsz, hP, hK, hD0⟩ := hv
  have hx := B.exec
  have hb := B.bytes
  have hr := B.returns
  have hts := atoms_spec (ws := wsX4_forget) B.pre
  have hown : s.vm.findClass RX4 = some m.cls := findClass_of_methodNamed B.named
  have hlocks := B.notSynchronized
  have hi_X4 : ∀ w ∈ u_ws RX4 TX4 3, w ∈ wsX4_forget := fun _ h => List.mem_cons_of_mem _ (List.mem_append_right _ (h))
  subst hsz
  have hD := hD0.self (sz := s.heap.size)
  generalize hAe : va_A [(h0, .inr (4, f_h0)), (iz, .inl (cZ, 2, .inl fz))] s.heap.size = A at hD ⊢
  have hA : ∀ q : Nat, s.heap.size ≤ q → A q := fun q h => by rw [← hAe]; exact Or.inr h
  have hS : va_S A s.heap s.heap [] := va_S.rf
  have hl := lv_entry ([.ref h0]) (n := 2) (Nat.le_of_ble_eq_true rfl)
  rw [lg_entry_eq]
  generalize (lg_sl ([.ref h0]) ++ List.replicate (2 - (lg_sl ([.ref h0])).length) Slot.unset).toArray = ls at hl ⊢
  have hl : lv_has ls 2 [(0, .ref h0)] := hl
  refine lv_iconst (v := 0) hx hb dX4_forget_0 (by decide) ?_
  refine lv_istore_n (lv' := [(1, .int 0), (0, .ref h0)]) hx hb dX4_forget_1 rfl hl (by decide) rfl (fun ls hl => ?_)
  refine lv_iload_n hx hb dX4_forget_2 rfl (lv_at hl 0 rfl) ?_
  refine lv_iconst (v := 2) hx hb dX4_forget_3 (by decide) ?_
  refine lv_icmp_ge (tgt := 20) hx hb dX4_forget_4 (by decide) (fun c1 => ?_) (fun c1 => ?_)
  · exact absurd c1 (by decide)
  clear c1
  refine lv_aload_n hx hb dX4_forget_7 rfl (lv_at hl 1 rfl) ?_
  refine va_get (D := (dC, dI)) (ci := 4) (v := .ref iz) (C := RX4) (T := TX4) (N := 3) hx hb hts hi_X4 hown hK hP 0 rfl rfl 2 (by decide) (hts (.fieldLink RX4 19 "LeftQuills$Images" "kept" "[Z") (wmx 1 rfl)) (fun _ h9 => h9) e_h0_2 dX4_forget_8 ?_
  refine lv_iload_n hx hb dX4_forget_11 rfl (lv_at hl 0 rfl) ?_
  refine lv_iconst (v := 0) hx hb dX4_forget_12 (by decide) ?_
  refine va_zast hx hb hK hP hD hS 1 1 rfl rfl (vp_in_iff.mpr ⟨by decide, by decide⟩) dX4_forget_13 (fun H locs hP hD hS => ?_)
  have hcl := (show ((0 : Int32)).toNatClampNeg = 0 from by decide)
  rw [hcl] at hP hD
  clear hcl
  have hPD : pdW (dC, dI) vwCl A [(h0, .inr (4, f_h0)), (iz, .inl (cZ, 2, .inl (upd fz 0 0)))] H := ⟨hP, hD⟩
  have hP := hPD.1
  have hD := hPD.2
  clear hPD
  refine lv_iinc (v := 1) (lv' := [(1, .int 1), (0, .ref h0)]) hx hb dX4_forget_14 hl (k := 0) rfl (by decide) (by decide) rfl (fun ls hl => ?_)
  refine lv_goto (tgt := 2) hx hb dX4_forget_17 (by decide) ?_
  refine lv_iload_n hx hb dX4_forget_2 rfl (lv_at hl 0 rfl) ?_
  refine lv_iconst (v := 2) hx hb dX4_forget_3 (by decide) ?_
  refine lv_icmp_ge (tgt := 20) hx hb dX4_forget_4 (by decide) (fun c3 => ?_) (fun c3 => ?_)
  · exact absurd c3 (by decide)
  clear c3
  refine lv_aload_n hx hb dX4_forget_7 rfl (lv_at hl 1 rfl) ?_
  refine va_get (D := (dC, dI)) (ci := 4) (v := .ref iz) (C := RX4) (T := TX4) (N := 3) hx hb hts hi_X4 hown hK hP 0 rfl rfl 2 (by decide) (hts (.fieldLink RX4 19 "LeftQuills$Images" "kept" "[Z") (wmx 1 rfl)) (fun _ h9 => h9) e_h0_2 dX4_forget_8 ?_
  refine lv_iload_n hx hb dX4_forget_11 rfl (lv_at hl 0 rfl) ?_
  refine lv_iconst (v := 0) hx hb dX4_forget_12 (by decide) ?_
  refine va_zast hx hb hK hP hD hS 1 1 rfl rfl (vp_in_iff.mpr ⟨by decide, by decide⟩) dX4_forget_13 (fun H locs hP hD hS => ?_)
  have hcl := (show ((1 : Int32)).toNatClampNeg = 1 from by decide)
  rw [hcl] at hP hD
  clear hcl
  have hPD : pdW (dC, dI) vwCl A [(h0, .inr (4, f_h0)), (iz, .inl (cZ, 2, .inl (upd (upd fz 0 0) 1 0)))] H := ⟨hP, hD⟩
  have hP := hPD.1
  have hD := hPD.2
  clear hPD
  refine lv_iinc (v := 2) (lv' := [(1, .int 2), (0, .ref h0)]) hx hb dX4_forget_14 hl (k := 0) rfl (by decide) (by decide) rfl (fun ls hl => ?_)
  refine lv_goto (tgt := 2) hx hb dX4_forget_17 (by decide) ?_
  refine lv_iload_n hx hb dX4_forget_2 rfl (lv_at hl 0 rfl) ?_
  refine lv_iconst (v := 2) hx hb dX4_forget_3 (by decide) ?_
  refine lv_icmp_ge (tgt := 20) hx hb dX4_forget_4 (by decide) (fun c5 => ?_) (fun c5 => ?_)
  rotate_left
  · exact absurd c5 (by decide)
  clear c5
  have hP9 := hP.sub (ws' := [(h0, .inr (4, f_h0)), (iz, .inl (cZ, 2, .inl (upd (upd fz 0 0) 1 0)))]) [0, 1] rfl
  have hD9 := hD.sub (ws' := [(h0, .inr (4, f_h0)), (iz, .inl (cZ, 2, .inl (upd (upd fz 0 0) 1 0)))]) [0, 1] (by decide +kernel) rfl
  exact W.vret hx hb hr (fun t ht hW => ⟨⟨(fun _ => 0), rfl, trivial, ⟨(upd (upd fz 0 0) 1 0), z2, va_hq ht hP9, hD9⟩⟩, hS.F ht⟩) hS.2.2 dX4_forget_20
set_option maxHeartbeats 4000000 in
set_option maxRecDepth 100000 in
theorem c_X10_faultF (l : Launch) (dC : Nat → ClassId) (dI : Nat → Nat → Nat) (cI cZ cQ : ClassId) (h0 : Nat) (fa : Int32) (f_h0 : List Value) (sz : Nat) (e_h0_2 : fAt f_h0 2 = some (.int fa)) : Met l yX10_fault wsX10_fault ({ frames := 0, cells := 0, slots := 0, locals := 40 }) (va_Pc [.ref h0] (fun U => U.heap.size = sz ∧ va_P (dC, dI) vwCl [(h0, .inr (10, f_h0))] U.heap ∧ va_K (dC, dI) vwCl (tys0 cI cZ cQ) U)) (va_Qi (fun (r : Int32) (u : Nat → Nat) => r = fa) (fun (_ : Nat → Nat) (_ : State) => True) (fun _ : Nat => False)) 0 0 (fun _ : Nat => False) := by
  refine Met.ofW (cc := cX10_fault) (maxL := 1) (ret := (some .int)) (by decide) rfl ?_
  intro p e s m args below meth c s₁ B hml hv
  obtain ⟨rfl, hsz, hP, hK⟩ := hv
  have hx := B.exec
  have hb := B.bytes
  have hr := B.returns
  have hts := atoms_spec (ws := wsX10_fault) B.pre
  have hown : s.vm.findClass RX10 = some m.cls := findClass_of_methodNamed B.named
  have hlocks := B.notSynchronized
  have hi_X10 : ∀ w ∈ u_ws RX10 TX10 14, w ∈ wsX10_fault := fun _ h => List.mem_cons_of_mem _ (List.mem_append_right _ (h))
  subst hsz
  have hS : va_S (fun _ : Nat => False) s.heap s.heap [] := va_S.rf
  have hl := lv_entry ([.ref h0]) (n := 1) (Nat.le_of_ble_eq_true rfl)
  rw [lg_entry_eq]
  generalize (lg_sl ([.ref h0]) ++ List.replicate (1 - (lg_sl ([.ref h0])).length) Slot.unset).toArray = ls at hl ⊢
  have hl : lv_has ls 1 [(0, .ref h0)] := hl
  refine lv_aload_n hx hb dX10_fault_0 rfl (lv_at hl 0 rfl) ?_
  refine va_get (D := (dC, dI)) (ci := 10) (v := .int fa) (C := RX10) (T := TX10) (N := 14) hx hb hts hi_X10 hown hK hP 0 rfl rfl 2 (by decide) (hts (.fieldLink RX10 17 "LeftQuills" "faultAt" "I") (wmx 1 rfl)) (fun _ h9 => h9) e_h0_2 dX10_fault_1 ?_
  exact W.iret (v := fa) hx hb hr (fun t ht hW => ⟨⟨fa, (fun _ => 0), rfl, rfl, trivial⟩, hS.F ht⟩) hS.2.2 dX10_fault_4
set_option maxHeartbeats 4000000 in
set_option maxRecDepth 100000 in
theorem c_X11_faultF (l : Launch) (dC : Nat → ClassId) (dI : Nat → Nat → Nat) (cI cZ cQ : ClassId) (h0 : Nat) (n14 : Int32) (f_h0 : List Value) (sz : Nat) (e_h0_14 : fAt f_h0 14 = some (.int n14)) : Met l yX11_fault wsX11_fault ({ frames := 0, cells := 0, slots := 0, locals := 40 }) (va_Pc [.ref h0] (fun U => U.heap.size = sz ∧ va_P (dC, dI) vwCl [(h0, .inr (11, f_h0))] U.heap ∧ va_K (dC, dI) vwCl (tys0 cI cZ cQ) U)) (va_Qi (fun (r : Int32) (u : Nat → Nat) => r = n14) (fun (_ : Nat → Nat) (_ : State) => True) (fun _ : Nat => False)) 0 0 (fun _ : Nat => False) := by
  refine Met.ofW (cc := cX11_fault) (maxL := 1) (ret := (some .int)) (by decide) rfl ?_
  intro p e s m args below meth c s₁ B hml hv
  obtain ⟨rfl, hsz, hP, hK⟩ := hv
  have hx := B.exec
  have hb := B.bytes
  have hr := B.returns
  have hts := atoms_spec (ws := wsX11_fault) B.pre
  have hown : s.vm.findClass RX11 = some m.cls := findClass_of_methodNamed B.named
  have hlocks := B.notSynchronized
  have hi_X11 : ∀ w ∈ u_ws RX11 TX11 46, w ∈ wsX11_fault := fun _ h => List.mem_cons_of_mem _ (List.mem_append_right _ (h))
  subst hsz
  have hS : va_S (fun _ : Nat => False) s.heap s.heap [] := va_S.rf
  have hl := lv_entry ([.ref h0]) (n := 1) (Nat.le_of_ble_eq_true rfl)
  rw [lg_entry_eq]
  generalize (lg_sl ([.ref h0]) ++ List.replicate (1 - (lg_sl ([.ref h0])).length) Slot.unset).toArray = ls at hl ⊢
  have hl : lv_has ls 1 [(0, .ref h0)] := hl
  refine lv_aload_n hx hb dX11_fault_0 rfl (lv_at hl 0 rfl) ?_
  refine va_get (D := (dC, dI)) (ci := 11) (v := .int n14) (C := RX11) (T := TX11) (N := 46) hx hb hts hi_X11 hown hK hP 0 rfl rfl 14 (by decide) (hts (.fieldLink RX11 34 "LeftQuillsModel" "faultPlace" "I") (wmx 1 rfl)) (fun _ h9 => h9) e_h0_14 dX11_fault_1 ?_
  exact W.iret (v := n14) hx hb hr (fun t ht hW => ⟨⟨n14, (fun _ => 0), rfl, rfl, trivial⟩, hS.F ht⟩) hS.2.2 dX11_fault_4
