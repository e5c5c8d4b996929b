set_option maxHeartbeats 4000000 in
set_option maxRecDepth 100000 in
theorem c_X11_suitsD (l : Launch) (dC : Nat → ClassId) (dI : Nat → Nat → Nat) (cI cZ cQ : ClassId) (h0 : Nat) (m9 : Nat) (f_h0 : List Value) (fm9 : Nat → Int32) (a0 : Int32) (k : Nat) (sz : Nat) (e_h0_9 : f_h0[9]? = some (.ref m9)) (hk : k < 4) : Met l yX11_suits wsX11_suits ({ frames := 1, cells := 0, slots := 0, locals := 65 }) (va_Pc [.ref h0, .int a0, .int (nI k)] (fun U => U.heap.size = sz ∧ va_P (dC, dI) vwCl [(h0, .inr (11, f_h0)), (m9, .inl (cI, 4, .inl fm9))] U.heap ∧ va_K (dC, dI) vwCl (tys0 cI cZ cQ) U)) (va_Qi (fun (r : Int32) (u : Nat → Nat) => (r = 1 ∧ lmB a0 (fm9 k) = true) ∨ (r = 0 ∧ ¬ lmB a0 (fm9 k) = true)) (fun (_ : Nat → Nat) (_ : State) => True) (fun _ : Nat => False)) 0 0 (fun _ : Nat => False) := by
  refine Met.ofW (cc := cX11_suits) (maxL := 3) (ret := (some .boolean)) (by decide) rfl ?_
  intro p e s m args below meth c s₁ B hml hv
  obtain ⟨rfl, hsz, hP, hK⟩ := hv
  have hx := B.exec
  have hb := B.bytes
  have hr := B.returns
  have hts := atoms_spec (ws := wsX11_suits) B.pre
  have hown : s.vm.findClass RX11 = some m.cls := findClass_of_methodNamed B.named
  have hlocks := B.notSynchronized
  have hi_X11 : ∀ w ∈ u_ws RX11 TX11 46, w ∈ wsX11_suits := fun _ h => List.mem_cons_of_mem _ (List.mem_append_right _ (h))
  subst hsz
  have hS : va_S (fun _ : Nat => False) s.heap s.heap [] := va_S.rf
  have hl := lv_entry ([.ref h0, .int a0, .int (nI k)]) (n := 3) (Nat.le_of_ble_eq_true rfl)
  rw [lg_entry_eq]
  generalize (lg_sl ([.ref h0, .int a0, .int (nI k)]) ++ List.replicate (3 - (lg_sl ([.ref h0, .int a0, .int (nI k)])).length) Slot.unset).toArray = ls at hl ⊢
  have hl : lv_has ls 3 [(0, .ref h0), (1, .int a0), (2, .int (nI k))] := hl
  refine lv_iload_n hx hb dX11_suits_0 rfl (lv_at hl 1 rfl) ?_
  refine lv_aload_n hx hb dX11_suits_1 rfl (lv_at hl 0 rfl) ?_
  refine va_get (D := (dC, dI)) (ci := 11) (v := .ref m9) (C := RX11) (T := TX11) (N := 46) hx hb hts hi_X11 hown hK hP 0 rfl rfl 9 (by decide) (hts (.fieldLink RX11 25 "LeftQuillsModel" "wants" "[I") (wmx 1 rfl)) (fun _ h9 => h9) e_h0_9 dX11_suits_2 ?_
  refine lv_iload_n hx hb dX11_suits_5 rfl (lv_at hl 2 rfl) ?_
  refine va_iald hx hb hK hP 1 0 rfl rfl (vp_in_nI (n := k) (N := 4) (by omega) (by decide)) dX11_suits_6 ?_
  refine W.eq (g2 := F0 m 7 ls [.int (fm9 k), .int a0]) (congrArg (fun y9 => F0 m 7 ls (.int (fm9 y9) :: [.int a0])) ((nI_clamp (n := k) (by omega)))) ?_
  refine lv_isub hx hb dX11_suits_7 ?_
  refine lv_i2l hx hb dX11_suits_8 rfl ?_
  refine lv_ldc2 (v := (-1)) hx hb hown (hts (.constantLong RX11 198 (-1)) (wmx 2 rfl)) dX11_suits_9 ?_
  refine lv_topl (fun z1 ez1 => ?_)
  obtain rfl : z1 = ((-1) : Int32).toInt64 := ez1.trans (by decide)
  refine lv_lconst (v := 1) hx hb dX11_suits_12 (by decide) ?_
  refine lv_topl (fun z2 ez2 => ?_)
  obtain rfl : z2 = (1 : Int32).toInt64 := ez2.trans (by decide)
  have hPc := hP.sub (ws' := []) [] rfl
  refine va_calli (va_runS (As := [.long ((a0 - (fm9 k)).toInt64), .long (((-1) : Int32).toInt64), .long ((1 : Int32).toInt64)]) (rest := []) ⟨hx, hb, hml, hown, hts⟩ (c_X11_in l dC dI cI cZ cQ (a0 - (fm9 k)) (-1) 1 s.heap.size ) (va_cwS 3 hts gX11_suits_X11_in rfl rfl rfl (by decide +kernel) ⟨Nat.le_of_ble_eq_true rfl, Nat.le_of_ble_eq_true rfl⟩) ⟨fun a U g mk q => by obtain ⟨q0, q1, qP, qK⟩ := q; exact ⟨q0, q1, qP, va_K.moved (u := U) (U := U.calling g mk a) (Vm.Alike.refl U.vm) qK⟩, fun U hU hW => ⟨rfl, by rw [hU], by rw [hU]; exact hPc, va_K.moved hW.alike hK⟩⟩ rfl rfl hl.1 rfl (lv_room (Nat.le_of_ble_eq_true rfl)) dX11_suits_13 ⟨Nat.le_of_ble_eq_true rfl, Nat.le_of_ble_eq_true rfl⟩) hS (fun q _ h => False.elim h) (fun q h => False.elim h) (fun r3 u4 t H1 locs ht hvm hw5 hB hz1 hk1 hS => ?_)
  have hP := hP.kept (fun k q hk => hk1 q.1 (hP k q hk).lt (fun h => h))
  clear hz1 hk1 hPc
  generalize H1 = H at hP hS ht ⊢
  try dsimp only at hw5
  rcases hw5 with ⟨rfl, hw5⟩ | ⟨rfl, hw5⟩
  ·
    exact W.zret (v := 1) hx hb hr (rfl) (fun t ht hW => ⟨⟨1, (fun _ => 0), rfl, Or.inl ⟨rfl, decide_eq_true hw5⟩, trivial⟩, hS.F ht⟩) hS.2.2 dX11_suits_16
  ·
    exact W.zret (v := 0) hx hb hr (rfl) (fun t ht hW => ⟨⟨0, (fun _ => 0), rfl, Or.inr ⟨rfl, fun h9 => hw5 (of_decide_eq_true h9)⟩, trivial⟩, hS.F ht⟩) hS.2.2 dX11_suits_16
