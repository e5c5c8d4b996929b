set_option maxHeartbeats 4000000 in
set_option maxRecDepth 100000 in
theorem c_X11_mayMendD (l : Launch) (dC : Nat → ClassId) (dI : Nat → Nat → Nat) (cI cZ cQ : ClassId) (h0 : Nat) (n0 : Int32) (m10 : Nat) (f_h0 : List Value) (fm10 : Nat → Int32) (j : Nat) (sz : Nat) (e_h0_0 : f_h0[0]? = some (.int n0)) (e_h0_10 : f_h0[10]? = some (.ref m10)) (hj : j < 8) : Met l yX11_mayMend wsX11_mayMend ({ frames := 1, cells := 0, slots := 0, locals := 60 }) (va_Pc [.ref h0, .int (nI j)] (fun U => U.heap.size = sz ∧ va_P (dC, dI) vwCl [(h0, .inr (11, f_h0)), (m10, .inl (cI, 34, .inl fm10))] U.heap ∧ va_K (dC, dI) vwCl (tys0 cI cZ cQ) U)) (va_Qi (fun (r : Int32) (u : Nat → Nat) => (r = 1 ∧ cmP n0 j fm10) ∨ (r = 0 ∧ ¬ cmP n0 j fm10)) (fun (_ : Nat → Nat) (_ : State) => True) (fun _ : Nat => False)) 0 0 (fun _ : Nat => False) := by
  refine Met.ofW (cc := cX11_mayMend) (maxL := 2) (ret := (some .boolean)) (by decide) rfl ?_
  intro p e s m args below meth c s₁ B hml hv
  obtain ⟨rfl, hsz, hP, hK⟩ := hv
  have hx := B.exec
  have hb := B.bytes
  have hr := B.returns
  have hts := atoms_spec (ws := wsX11_mayMend) B.pre
  have hown : s.vm.findClass RX11 = some m.cls := findClass_of_methodNamed B.named
  have hlocks := B.notSynchronized
  have hi_X11 : ∀ w ∈ u_ws RX11 TX11 46, w ∈ wsX11_mayMend := fun _ h => List.mem_cons_of_mem _ (List.mem_append_right _ (h))
  subst hsz
  have hS : va_S (fun _ : Nat => False) s.heap s.heap [] := va_S.rf
  have hl := lv_entry ([.ref h0, .int (nI j)]) (n := 2) (Nat.le_of_ble_eq_true rfl)
  rw [lg_entry_eq]
  generalize (lg_sl ([.ref h0, .int (nI j)]) ++ List.replicate (2 - (lg_sl ([.ref h0, .int (nI j)])).length) Slot.unset).toArray = ls at hl ⊢
  have hl : lv_has ls 2 [(0, .ref h0), (1, .int (nI j))] := hl
  refine lv_aload_n hx hb dX11_mayMend_0 rfl (lv_at hl 0 rfl) ?_
  refine va_get (D := (dC, dI)) (ci := 11) (v := .ref m10) (C := RX11) (T := TX11) (N := 46) hx hb hts hi_X11 hown hK hP 0 rfl rfl 10 (by decide) (hts (.fieldLink RX11 28 "LeftQuillsModel" "now" "[I") (wmx 1 rfl)) (fun _ h9 => h9) e_h0_10 dX11_mayMend_1 ?_
  refine lv_iload_n hx hb dX11_mayMend_4 rfl (lv_at hl 1 rfl) ?_
  refine va_iald hx hb hK hP 1 0 rfl rfl (vp_in_nI (n := j) (N := 34) (by omega) (by decide)) dX11_mayMend_5 ?_
  refine W.eq (g2 := F0 m 6 ls [.int (fm10 j)]) (congrArg (fun y9 => F0 m 6 ls (.int (fm10 y9) :: [])) ((nI_clamp (n := j) (by omega)))) ?_
  refine lv_aload_n hx hb dX11_mayMend_6 rfl (lv_at hl 0 rfl) ?_
  have hPc := hP.sub (ws' := [(h0, .inr (11, f_h0)), (m10, .inl (cI, 34, .inl fm10))]) [0, 1] rfl
  refine va_calli (va_runV (As := []) (rest := [.int (fm10 j)]) ⟨hx, hb, hml, hown, hts⟩ (c_X11_isBluntD l dC dI cI cZ cQ h0 n0 m10 f_h0 fm10 s.heap.size e_h0_0 e_h0_10) (cwV 0 hts gX11_mayMend_X11_isBlunt rfl rfl rfl (by decide +kernel) ⟨Nat.le_of_ble_eq_true rfl, Nat.le_of_ble_eq_true rfl⟩) ⟨fun a U g mk q => by obtain ⟨q0, q1, qP, qK⟩ := q; exact ⟨q0, q1, qP, va_K.moved (u := U) (U := U.calling g mk a) (Vm.Alike.refl U.vm) qK⟩, va_recv hK hP (ci := 11) (q0 := 0) rfl rfl, fun U hU hW => ⟨rfl, by rw [hU], by rw [hU]; exact hPc, va_K.moved hW.alike hK⟩⟩ rfl rfl hl.1 rfl (lv_room (Nat.le_of_ble_eq_true rfl)) dX11_mayMend_7 ⟨Nat.le_of_ble_eq_true rfl, Nat.le_of_ble_eq_true rfl⟩) hS (fun q _ h => False.elim h) (fun q h => False.elim h) (fun r1 u2 t H1 locs ht hvm hw3 hB hz1 hk1 hS => ?_)
  have hP := hP.kept (fun k q hk => hk1 q.1 (hP k q hk).lt (fun h => h))
  clear hz1 hk1 hPc
  generalize H1 = H at hP hS ht ⊢
  try dsimp only at hw3
  rcases hw3 with ⟨rfl, hw3⟩ | ⟨rfl, hw3⟩
  ·
    refine lv_if_eq (tgt := 18) hx hb dX11_mayMend_10 (by decide) (fun c4 => ?_) (fun c4 => ?_)
    · exact absurd c4 (by decide)
    clear c4
    refine lv_bipush (v := 9) hx hb dX11_mayMend_13 (by decide) ?_
    refine lv_goto (tgt := 19) hx hb dX11_mayMend_15 (by decide) ?_
    refine lv_icmp_lt (tgt := 26) hx hb dX11_mayMend_19 (by decide) (fun c5 => ?_) (fun c5 => ?_)
    ·
      refine lv_iconst (v := 0) hx hb dX11_mayMend_26 (by decide) ?_
      exact W.zret (v := 0) hx hb hr (rfl) (fun t ht hW => ⟨⟨0, (fun _ => 0), rfl, Or.inr ⟨rfl, by unfold cmP; rw [if_pos hw3]; exact fa_ltn c5⟩, trivial⟩, hS.F ht⟩) hS.2.2 dX11_mayMend_27
    ·
      refine lv_iconst (v := 1) hx hb dX11_mayMend_22 (by decide) ?_
      refine lv_goto (tgt := 27) hx hb dX11_mayMend_23 (by decide) ?_
      exact W.zret (v := 1) hx hb hr (rfl) (fun t ht hW => ⟨⟨1, (fun _ => 0), rfl, Or.inl ⟨rfl, by unfold cmP; rw [if_pos hw3]; exact fa_nlt c5⟩, trivial⟩, hS.F ht⟩) hS.2.2 dX11_mayMend_27
  ·
    refine lv_if_eq (tgt := 18) hx hb dX11_mayMend_10 (by decide) (fun c6 => ?_) (fun c6 => ?_)
    rotate_left
    · exact absurd c6 (by decide)
    clear c6
    refine lv_iconst (v := 5) hx hb dX11_mayMend_18 (by decide) ?_
    refine lv_icmp_lt (tgt := 26) hx hb dX11_mayMend_19 (by decide) (fun c7 => ?_) (fun c7 => ?_)
    ·
      refine lv_iconst (v := 0) hx hb dX11_mayMend_26 (by decide) ?_
      exact W.zret (v := 0) hx hb hr (rfl) (fun t ht hW => ⟨⟨0, (fun _ => 0), rfl, Or.inr ⟨rfl, by unfold cmP; rw [if_neg hw3]; exact fa_ltn c7⟩, trivial⟩, hS.F ht⟩) hS.2.2 dX11_mayMend_27
    ·
      refine lv_iconst (v := 1) hx hb dX11_mayMend_22 (by decide) ?_
      refine lv_goto (tgt := 27) hx hb dX11_mayMend_23 (by decide) ?_
      exact W.zret (v := 1) hx hb hr (rfl) (fun t ht hW => ⟨⟨1, (fun _ => 0), rfl, Or.inl ⟨rfl, by unfold cmP; rw [if_neg hw3]; exact fa_nlt c7⟩, trivial⟩, hS.F ht⟩) hS.2.2 dX11_mayMend_27
