set_option maxHeartbeats 4000000 in
set_option maxRecDepth 100000 in
theorem c_X11_driedByD (l : Launch) (dC : Nat → ClassId) (dI : Nat → Nat → Nat) (cI cZ cQ : ClassId) (a0 : Int32) (a1 : Int32) (sz : Nat)  : Met l yX11_driedBy wsX11_driedBy ({ frames := 0, cells := 0, slots := 0, locals := 40 }) (va_Pc [.int a0, .int a1] (fun U => U.heap.size = sz ∧ va_P (dC, dI) vwCl [] U.heap ∧ va_K (dC, dI) vwCl (tys0 cI cZ cQ) U)) (va_Qi (fun (r : Int32) (u : Nat → Nat) => r = dsF a0 a1) (fun (_ : Nat → Nat) (_ : State) => True) (fun _ : Nat => False)) 0 0 (fun _ : Nat => False) := by
  refine Met.ofW (cc := cX11_driedBy) (maxL := 3) (ret := (some .int)) (by decide) rfl ?_
  intro p e s m args below meth c s₁ B hml hv
  obtain ⟨rfl, hsz, hP, hK⟩ := hv
  have hx := B.exec
  have hb := B.bytes
  have hr := B.returns
  have hts := atoms_spec (ws := wsX11_driedBy) B.pre
  have hown : s.vm.findClass RX11 = some m.cls := findClass_of_methodNamed B.named
  have hlocks := B.notSynchronized
  subst hsz
  have hS : va_S (fun _ : Nat => False) s.heap s.heap [] := va_S.rf
  have hl := lv_entry ([.int a0, .int a1]) (n := 3) (Nat.le_of_ble_eq_true rfl)
  rw [lg_entry_eq]
  generalize (lg_sl ([.int a0, .int a1]) ++ List.replicate (3 - (lg_sl ([.int a0, .int a1])).length) Slot.unset).toArray = ls at hl ⊢
  have hl : lv_has ls 3 [(0, .int a0), (1, .int a1)] := hl
  refine lv_iload_n hx hb dX11_driedBy_0 rfl (lv_at hl 0 rfl) ?_
  refine lv_bipush (v := 8) hx hb dX11_driedBy_1 (by decide) ?_
  refine lv_iload_n hx hb dX11_driedBy_3 rfl (lv_at hl 1 rfl) ?_
  refine lv_imul hx hb dX11_driedBy_4 ?_
  refine lv_isub hx hb dX11_driedBy_5 ?_
  refine lv_istore_n (lv' := [(2, .int (a0 - (8 * a1))), (0, .int a0), (1, .int a1)]) hx hb dX11_driedBy_6 rfl hl (by decide) rfl (fun ls hl => ?_)
  refine lv_iload_n hx hb dX11_driedBy_7 rfl (lv_at hl 0 rfl) ?_
  refine lv_iload_n hx hb dX11_driedBy_8 rfl (lv_at hl 1 rfl) ?_
  refine lv_iconst (v := 3) hx hb dX11_driedBy_9 (by decide) ?_
  refine lv_idiv hx hb dX11_driedBy_10 (by decide) ?_
  refine lv_icmp_le (tgt := 18) hx hb dX11_driedBy_11 (by decide) (fun c1 => ?_) (fun c1 => ?_)
  ·
    refine lv_iload_n hx hb dX11_driedBy_18 rfl (lv_at hl 1 rfl) ?_
    refine lv_iconst (v := 3) hx hb dX11_driedBy_19 (by decide) ?_
    refine lv_idiv hx hb dX11_driedBy_20 (by decide) ?_
    exact W.iret (v := a0 / 3) hx hb hr (fun t ht hW => ⟨⟨a0 / 3, (fun _ => 0), rfl, (by first | exact ds_1 c1 | exact ds_2 c1 | exact ds_1 (fa_nle c1) | exact ds_2 (fa_len c1)), trivial⟩, hS.F ht⟩) hS.2.2 dX11_driedBy_21
  ·
    refine lv_iload_n hx hb dX11_driedBy_14 rfl (lv_at hl 0 rfl) ?_
    refine lv_goto (tgt := 21) hx hb dX11_driedBy_15 (by decide) ?_
    exact W.iret (v := a0 - (8 * a1)) hx hb hr (fun t ht hW => ⟨⟨a0 - (8 * a1), (fun _ => 0), rfl, (by first | exact ds_1 c1 | exact ds_2 c1 | exact ds_1 (fa_nle c1) | exact ds_2 (fa_len c1)), trivial⟩, hS.F ht⟩) hS.2.2 dX11_driedBy_21
