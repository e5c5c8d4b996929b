set_option maxHeartbeats 4000000 in
set_option maxRecDepth 100000 in
theorem c_X11_isBluntD (l : Launch) (dC : Nat → ClassId) (dI : Nat → Nat → Nat) (cI cZ cQ : ClassId) (h0 : Nat) (n0 : Int32) (m10 : Nat) (f_h0 : List Value) (fm10 : Nat → Int32) (sz : Nat) (e_h0_0 : f_h0[0]? = some (.int n0)) (e_h0_10 : f_h0[10]? = some (.ref m10)) : Met l yX11_isBlunt wsX11_isBlunt ({ frames := 0, cells := 0, slots := 0, locals := 40 }) (va_Pc [.ref h0] (fun U => U.heap.size = sz ∧ va_P (dC, dI) vwCl [(h0, .inr (11, f_h0)), (m10, .inl (cI, 34, .inl fm10))] U.heap ∧ va_K (dC, dI) vwCl (tys0 cI cZ cQ) U)) (va_Qi (fun (r : Int32) (u : Nat → Nat) => (r = 1 ∧ n0 ≤ fm10 33) ∨ (r = 0 ∧ ¬ n0 ≤ fm10 33)) (fun (_ : Nat → Nat) (_ : State) => True) (fun _ : Nat => False)) 0 0 (fun _ : Nat => False) := by
  refine Met.ofW (cc := cX11_isBlunt) (maxL := 1) (ret := (some .boolean)) (by decide) rfl ?_
  intro p e s m args below meth c s₁ B hml hv
  obtain ⟨rfl, hsz, hP, hK⟩ := hv
  have hx := B.exec
  have hb := B.bytes
  have hr := B.returns
  have hts := atoms_spec (ws := wsX11_isBlunt) B.pre
  have hown : s.vm.findClass RX11 = some m.cls := findClass_of_methodNamed B.named
  have hlocks := B.notSynchronized
  have hi_X11 : ∀ w ∈ u_ws RX11 TX11 46, w ∈ wsX11_isBlunt := fun _ h => List.mem_cons_of_mem _ (List.mem_append_right _ (h))
  subst hsz
  have hS : va_S (fun _ : Nat => False) s.heap s.heap [] := va_S.rf
  have hl := lv_entry ([.ref h0]) (n := 1) (Nat.le_of_ble_eq_true rfl)
  rw [lg_entry_eq]
  generalize (lg_sl ([.ref h0]) ++ List.replicate (1 - (lg_sl ([.ref h0])).length) Slot.unset).toArray = ls at hl ⊢
  have hl : lv_has ls 1 [(0, .ref h0)] := hl
  refine lv_aload_n hx hb dX11_isBlunt_0 rfl (lv_at hl 0 rfl) ?_
  refine va_get (D := (dC, dI)) (ci := 11) (v := .ref m10) (C := RX11) (T := TX11) (N := 46) hx hb hts hi_X11 hown hK hP 0 rfl rfl 10 (by decide) (hts (.fieldLink RX11 28 "LeftQuillsModel" "now" "[I") (wmx 1 rfl)) (fun _ h9 => h9) e_h0_10 dX11_isBlunt_1 ?_
  refine lv_bipush (v := 33) hx hb dX11_isBlunt_4 (by decide) ?_
  refine va_iald hx hb hK hP 1 0 rfl rfl (vp_in_iff.mpr ⟨by decide, by decide⟩) dX11_isBlunt_6 ?_
  refine W.eq (g2 := F0 m 7 ls [.int (fm10 33)]) (congrArg (fun y9 => F0 m 7 ls (.int (fm10 y9) :: [])) ((show ((33 : Int32)).toNatClampNeg = 33 from by decide))) ?_
  refine lv_aload_n hx hb dX11_isBlunt_7 rfl (lv_at hl 0 rfl) ?_
  refine va_get (D := (dC, dI)) (ci := 11) (v := .int n0) (C := RX11) (T := TX11) (N := 46) hx hb hts hi_X11 hown hK hP 0 rfl rfl 0 (by decide) (hts (.fieldLink RX11 96 "LeftQuillsModel" "blunt" "I") (wmx 2 rfl)) (fun _ h9 => h9) e_h0_0 dX11_isBlunt_8 ?_
  refine lv_icmp_lt (tgt := 18) hx hb dX11_isBlunt_11 (by decide) (fun c1 => ?_) (fun c1 => ?_)
  ·
    refine lv_iconst (v := 0) hx hb dX11_isBlunt_18 (by decide) ?_
    exact W.zret (v := 0) hx hb hr (rfl) (fun t ht hW => ⟨⟨0, (fun _ => 0), rfl, Or.inr ⟨rfl, fa_ltn c1⟩, trivial⟩, hS.F ht⟩) hS.2.2 dX11_isBlunt_19
  ·
    refine lv_iconst (v := 1) hx hb dX11_isBlunt_14 (by decide) ?_
    refine lv_goto (tgt := 19) hx hb dX11_isBlunt_15 (by decide) ?_
    exact W.zret (v := 1) hx hb hr (rfl) (fun t ht hW => ⟨⟨1, (fun _ => 0), rfl, Or.inl ⟨rfl, fa_nlt c1⟩, trivial⟩, hS.F ht⟩) hS.2.2 dX11_isBlunt_19
