set_option maxHeartbeats 4000000 in
set_option maxRecDepth 100000 in
theorem c_X11_lifeOf (l : Launch) (dC : Nat → ClassId) (dI : Nat → Nat → Nat) (cI cZ cQ : ClassId) (h0 : Nat) (m3 : Nat) (m4 : Nat) (m5 : Nat) (m7 : Nat) (m8 : Nat) (m9 : Nat) (m10 : Nat) (f_h0 : List Value) (fm3 : Nat → Int32) (fm4 : Nat → Int32) (fm5 : Nat → Int32) (fm7 : Nat → Int32) (fm8 : Nat → Int32) (fm9 : Nat → Int32) (fm10 : Nat → Int32) (j : Nat) (k : Nat) (nq : Nat) (sz : Nat) (e_h0_3 : f_h0[3]? = some (.ref m3)) (e_h0_4 : f_h0[4]? = some (.ref m4)) (e_h0_5 : f_h0[5]? = some (.ref m5)) (e_h0_7 : f_h0[7]? = some (.ref m7)) (e_h0_8 : f_h0[8]? = some (.ref m8)) (e_h0_9 : f_h0[9]? = some (.ref m9)) (e_h0_10 : f_h0[10]? = some (.ref m10)) (hnq : nq ≤ 8) (hci : cIn fm5 nq) (hj : j < nq) (hk : k < 4) : Met l yX11_lifeOf wsX11_lifeOf ({ frames := 5, cells := 0, slots := 0, locals := 157 }) (va_Pc [.ref h0, .int (nI j), .int (nI k)] (fun U => U.heap.size = sz ∧ va_P (dC, dI) vwCl [(h0, .inr (11, f_h0)), (m3, .inl (cI, 8, .inl fm3)), (m4, .inl (cI, 8, .inl fm4)), (m5, .inl (cI, 8, .inl fm5)), (m7, .inl (cI, 4, .inl fm7)), (m8, .inl (cI, 4, .inl fm8)), (m9, .inl (cI, 4, .inl fm9)), (m10, .inl (cI, 34, .inl fm10))] U.heap ∧ va_K (dC, dI) vwCl (tys0 cI cZ cQ) U)) (va_Qi (fun (r : Int32) (u : Nat → Nat) => True) (fun (_ : Nat → Nat) (_ : State) => True) (fun _ : Nat => False)) 0 0 (fun _ : Nat => False) := by
  refine Met.ofW (cc := cX11_lifeOf) (maxL := 6) (ret := (some .int)) (by decide) rfl ?_
  intro p e s m args below meth c s₁ B hml hv
  obtain ⟨rfl, hsz, hP, hK⟩ := hv
  have hx := B.exec
  have hb := B.bytes
  have hr := B.returns
  have hts := atoms_spec (ws := wsX11_lifeOf) B.pre
  have hown : s.vm.findClass RX11 = some m.cls := findClass_of_methodNamed B.named
  have hlocks := B.notSynchronized
  have hi_X11 : ∀ w ∈ u_ws RX11 TX11 46, w ∈ wsX11_lifeOf := fun _ h => List.mem_cons_of_mem _ (List.mem_append_right _ (h))
  subst hsz
  have hS : va_S (fun _ : Nat => False) s.heap s.heap [] := va_S.rf
  have hl := lv_entry ([.ref h0, .int (nI j), .int (nI k)]) (n := 6) (Nat.le_of_ble_eq_true rfl)
  rw [lg_entry_eq]
  generalize (lg_sl ([.ref h0, .int (nI j), .int (nI k)]) ++ List.replicate (6 - (lg_sl ([.ref h0, .int (nI j), .int (nI k)])).length) Slot.unset).toArray = ls at hl ⊢
  have hl : lv_has ls 6 [(0, .ref h0), (1, .int (nI j)), (2, .int (nI k))] := hl
  refine lv_aload_n hx hb dX11_lifeOf_0 rfl (lv_at hl 0 rfl) ?_
  refine lv_iload_n hx hb dX11_lifeOf_1 rfl (lv_at hl 1 rfl) ?_
  refine lv_iload_n hx hb dX11_lifeOf_2 rfl (lv_at hl 2 rfl) ?_
  have hPc := hP.sub (ws' := [(h0, .inr (11, f_h0)), (m3, .inl (cI, 8, .inl fm3)), (m4, .inl (cI, 8, .inl fm4)), (m5, .inl (cI, 8, .inl fm5)), (m7, .inl (cI, 4, .inl fm7)), (m8, .inl (cI, 4, .inl fm8)), (m9, .inl (cI, 4, .inl fm9)), (m10, .inl (cI, 34, .inl fm10))]) [0, 1, 2, 3, 4, 5, 6, 7] rfl
  refine va_calli (va_runV (As := [.int (nI j), .int (nI k)]) (rest := []) ⟨hx, hb, hml, hown, hts⟩ (c_X11_goodNow l dC dI cI cZ cQ h0 m3 m4 m5 m7 m8 m9 m10 f_h0 fm3 fm4 fm5 fm7 fm8 fm9 fm10 j k nq s.heap.size e_h0_3 e_h0_4 e_h0_5 e_h0_7 e_h0_8 e_h0_9 e_h0_10 (by omega) (by first | assumption | decide) (by omega) (by omega)) (cwV 2 hts gX11_lifeOf_X11_goodNow rfl rfl rfl (by decide +kernel) ⟨Nat.le_of_ble_eq_true rfl, Nat.le_of_ble_eq_true rfl⟩) ⟨fun a U g mk q => by obtain ⟨q0, q1, qP, qK⟩ := q; exact ⟨q0, q1, qP, va_K.moved (u := U) (U := U.calling g mk a) (Vm.Alike.refl U.vm) qK⟩, va_recv hK hP (ci := 11) (q0 := 0) rfl rfl, fun U hU hW => ⟨rfl, by rw [hU], by rw [hU]; exact hPc, va_K.moved hW.alike hK⟩⟩ rfl rfl hl.1 rfl (lv_room (Nat.le_of_ble_eq_true rfl)) dX11_lifeOf_3 ⟨Nat.le_of_ble_eq_true rfl, Nat.le_of_ble_eq_true rfl⟩) hS (fun q _ h => False.elim h) (fun q h => False.elim h) (fun r1 u2 t H1 locs ht hvm hw3 hB hz1 hk1 hS => ?_)
  have hP := hP.kept (fun k q hk => hk1 q.1 (hP k q hk).lt (fun h => h))
  clear hz1 hk1 hPc
  generalize H1 = H at hP hS ht ⊢
  try dsimp only at hw3
  refine lv_istore_n (lv' := [(3, .int r1), (0, .ref h0), (1, .int (nI j)), (2, .int (nI k))]) hx hb dX11_lifeOf_6 rfl hl (by decide) rfl (fun ls hl => ?_)
  refine lv_aload_n hx hb dX11_lifeOf_7 rfl (lv_at hl 1 rfl) ?_
  refine lv_iconst (v := 0) hx hb dX11_lifeOf_8 (by decide) ?_
  refine lv_iload_n hx hb dX11_lifeOf_9 rfl (lv_at hl 2 rfl) ?_
  refine lv_iload_n hx hb dX11_lifeOf_10 rfl (lv_at hl 3 rfl) ?_
  refine lv_sipush (v := 999) hx hb dX11_lifeOf_11 (by decide) ?_
  have hPc := hP.sub (ws' := [(h0, .inr (11, f_h0)), (m3, .inl (cI, 8, .inl fm3)), (m4, .inl (cI, 8, .inl fm4)), (m5, .inl (cI, 8, .inl fm5)), (m7, .inl (cI, 4, .inl fm7)), (m8, .inl (cI, 4, .inl fm8)), (m9, .inl (cI, 4, .inl fm9)), (m10, .inl (cI, 34, .inl fm10))]) [0, 1, 2, 3, 4, 5, 6, 7] rfl
  refine va_calli (va_runV (As := [.int 0, .int (nI j), .int (nI k), .int 999]) (rest := []) ⟨hx, hb, hml, hown, hts⟩ (c_X11_pagesFrom l dC dI cI cZ cQ h0 m3 m4 m5 m7 m8 m9 m10 f_h0 fm3 fm4 fm5 fm7 fm8 fm9 fm10 0 j k 999 nq H.size e_h0_3 e_h0_4 e_h0_5 e_h0_7 e_h0_8 e_h0_9 e_h0_10 (by omega) (by first | assumption | decide) (by omega) (by omega) (by omega)) (cwV 4 hts gX11_lifeOf_X11_pagesFrom rfl rfl rfl (by decide +kernel) ⟨Nat.le_of_ble_eq_true rfl, Nat.le_of_ble_eq_true rfl⟩) ⟨fun a U g mk q => by obtain ⟨q0, q1, qP, qK⟩ := q; exact ⟨q0, q1, qP, va_K.moved (u := U) (U := U.calling g mk a) (Vm.Alike.refl U.vm) qK⟩, va_recv hK hP (ci := 11) (q0 := 0) rfl rfl, fun U hU hW => ⟨rfl, by rw [hU], by rw [hU]; exact hPc, va_K.moved hW.alike hK⟩⟩ rfl rfl hl.1 rfl (lv_room (Nat.le_of_ble_eq_true rfl)) dX11_lifeOf_14 ⟨Nat.le_of_ble_eq_true rfl, Nat.le_of_ble_eq_true rfl⟩) hS (fun q _ h => False.elim h) (fun q h => False.elim h) (fun r4 u5 t H1 locs ht hvm hw6 hB hz1 hk1 hS => ?_)
  have hP := hP.kept (fun k q hk => hk1 q.1 (hP k q hk).lt (fun h => h))
  clear hz1 hk1 hPc
  generalize H1 = H at hP hS ht ⊢
  try dsimp only at hw6
  refine lv_istore (lv' := [(4, .int r4), (3, .int r1), (0, .ref h0), (1, .int (nI j)), (2, .int (nI k))]) hx hb dX11_lifeOf_17 hl (by decide) rfl (fun ls hl => ?_)
  refine lv_aload_n hx hb dX11_lifeOf_19 rfl (lv_at hl 2 rfl) ?_
  refine va_get (D := (dC, dI)) (ci := 11) (v := .ref m10) (C := RX11) (T := TX11) (N := 46) hx hb hts hi_X11 hown hK hP 0 rfl rfl 10 (by decide) (hts (.fieldLink RX11 28 "LeftQuillsModel" "now" "[I") (wmx 1 rfl)) (fun _ h9 => h9) e_h0_10 dX11_lifeOf_20 ?_
  refine lv_iload_n hx hb dX11_lifeOf_23 rfl (lv_at hl 3 rfl) ?_
  refine va_iald hx hb hK hP 7 0 rfl rfl (vp_in_nI (n := j) (N := 34) (by omega) (by decide)) dX11_lifeOf_24 ?_
  refine W.eq (g2 := F0 m 25 ls [.int (fm10 j)]) (congrArg (fun y9 => F0 m 25 ls (.int (fm10 y9) :: [])) ((nI_clamp (n := j) (by omega)))) ?_
  refine lv_istore (lv' := [(5, .int (fm10 j)), (4, .int r4), (3, .int r1), (0, .ref h0), (1, .int (nI j)), (2, .int (nI k))]) hx hb dX11_lifeOf_25 hl (by decide) rfl (fun ls hl => ?_)
  refine (fun (K : ∀ (d27 : Nat) (z27_5 : Int32) (z27_3 : Int32) (H : Heap) (locs : List Loc) (ls : Array Slot), z27_5.toInt < 5 + 5 * (d27 : Int) → va_P (dC, dI) vwCl [(h0, .inr (11, f_h0)), (m3, .inl (cI, 8, .inl fm3)), (m4, .inl (cI, 8, .inl fm4)), (m5, .inl (cI, 8, .inl fm5)), (m7, .inl (cI, 4, .inl fm7)), (m8, .inl (cI, 4, .inl fm8)), (m9, .inl (cI, 4, .inl fm9)), (m10, .inl (cI, 34, .inl fm10))] H → va_S (fun _ : Nat => False) s.heap H locs → lv_has ls 6 [(5, .int z27_5), (3, .int z27_3), (4, .int r4), (0, .ref h0), (1, .int (nI j)), (2, .int (nI k))] → W p l e _ s m _ below meth c H locs _ _ _ (F0 m 27 ls [])) => K ((fm10 j).toInt.toNat) (fm10 j) r1 _ _ _ (by omega) hP hS (lv_sub hl [0, 2, 1, 3, 4, 5] rfl)) ?_
  intro d27
  induction d27 with
  | zero =>
    intro z27_5 z27_3 H locs ls hz27 hP hS hl
    refine lv_iload hx hb dX11_lifeOf_27 (lv_at hl 0 rfl) ?_
    refine lv_iconst (v := 5) hx hb dX11_lifeOf_29 (by decide) ?_
    refine lv_icmp_lt (tgt := 56) hx hb dX11_lifeOf_30 (by decide) (fun c7 => ?_) (fun c7 => ?_)
    rotate_left
    · exact (x_d5 c7 hz27).elim
    refine lv_iload_n hx hb dX11_lifeOf_56 rfl (lv_at hl 1 rfl) ?_
    refine lv_sipush (v := 999) hx hb dX11_lifeOf_57 (by decide) ?_
    refine lv_icmp_ge (tgt := 67) hx hb dX11_lifeOf_60 (by decide) (fun c8 => ?_) (fun c8 => ?_)
    ·
      refine lv_sipush (v := 999) hx hb dX11_lifeOf_67 (by decide) ?_
      exact W.iret (v := 999) hx hb hr (fun t ht hW => ⟨⟨999, (fun _ => 0), rfl, trivial, trivial⟩, hS.F ht⟩) hS.2.2 dX11_lifeOf_70
    ·
      refine lv_iload_n hx hb dX11_lifeOf_63 rfl (lv_at hl 1 rfl) ?_
      refine lv_goto (tgt := 70) hx hb dX11_lifeOf_64 (by decide) ?_
      exact W.iret (v := z27_3) hx hb hr (fun t ht hW => ⟨⟨z27_3, (fun _ => 0), rfl, trivial, trivial⟩, hS.F ht⟩) hS.2.2 dX11_lifeOf_70
  | succ d27 ih27 =>
    intro z27_5 z27_3 H locs ls hz27 hP hS hl
    refine lv_iload hx hb dX11_lifeOf_27 (lv_at hl 0 rfl) ?_
    refine lv_iconst (v := 5) hx hb dX11_lifeOf_29 (by decide) ?_
    refine lv_icmp_lt (tgt := 56) hx hb dX11_lifeOf_30 (by decide) (fun c9 => ?_) (fun c9 => ?_)
    ·
      refine lv_iload_n hx hb dX11_lifeOf_56 rfl (lv_at hl 1 rfl) ?_
      refine lv_sipush (v := 999) hx hb dX11_lifeOf_57 (by decide) ?_
      refine lv_icmp_ge (tgt := 67) hx hb dX11_lifeOf_60 (by decide) (fun c10 => ?_) (fun c10 => ?_)
      ·
        refine lv_sipush (v := 999) hx hb dX11_lifeOf_67 (by decide) ?_
        exact W.iret (v := 999) hx hb hr (fun t ht hW => ⟨⟨999, (fun _ => 0), rfl, trivial, trivial⟩, hS.F ht⟩) hS.2.2 dX11_lifeOf_70
      ·
        refine lv_iload_n hx hb dX11_lifeOf_63 rfl (lv_at hl 1 rfl) ?_
        refine lv_goto (tgt := 70) hx hb dX11_lifeOf_64 (by decide) ?_
        exact W.iret (v := z27_3) hx hb hr (fun t ht hW => ⟨⟨z27_3, (fun _ => 0), rfl, trivial, trivial⟩, hS.F ht⟩) hS.2.2 dX11_lifeOf_70
    ·
      refine lv_iload hx hb dX11_lifeOf_33 (lv_at hl 2 rfl) ?_
      refine lv_if_le (tgt := 56) hx hb dX11_lifeOf_35 (by decide) (fun c11 => ?_) (fun c11 => ?_)
      ·
        refine lv_iload_n hx hb dX11_lifeOf_56 rfl (lv_at hl 1 rfl) ?_
        refine lv_sipush (v := 999) hx hb dX11_lifeOf_57 (by decide) ?_
        refine lv_icmp_ge (tgt := 67) hx hb dX11_lifeOf_60 (by decide) (fun c12 => ?_) (fun c12 => ?_)
        ·
          refine lv_sipush (v := 999) hx hb dX11_lifeOf_67 (by decide) ?_
          exact W.iret (v := 999) hx hb hr (fun t ht hW => ⟨⟨999, (fun _ => 0), rfl, trivial, trivial⟩, hS.F ht⟩) hS.2.2 dX11_lifeOf_70
        ·
          refine lv_iload_n hx hb dX11_lifeOf_63 rfl (lv_at hl 1 rfl) ?_
          refine lv_goto (tgt := 70) hx hb dX11_lifeOf_64 (by decide) ?_
          exact W.iret (v := z27_3) hx hb hr (fun t ht hW => ⟨⟨z27_3, (fun _ => 0), rfl, trivial, trivial⟩, hS.F ht⟩) hS.2.2 dX11_lifeOf_70
      ·
        refine lv_iload_n hx hb dX11_lifeOf_38 rfl (lv_at hl 1 rfl) ?_
        refine lv_sipush (v := 999) hx hb dX11_lifeOf_39 (by decide) ?_
        refine lv_icmp_ge (tgt := 56) hx hb dX11_lifeOf_42 (by decide) (fun c13 => ?_) (fun c13 => ?_)
        ·
          refine lv_iload_n hx hb dX11_lifeOf_56 rfl (lv_at hl 1 rfl) ?_
          refine lv_sipush (v := 999) hx hb dX11_lifeOf_57 (by decide) ?_
          refine lv_icmp_ge (tgt := 67) hx hb dX11_lifeOf_60 (by decide) (fun c14 => ?_) (fun c14 => ?_)
          ·
            refine lv_sipush (v := 999) hx hb dX11_lifeOf_67 (by decide) ?_
            exact W.iret (v := 999) hx hb hr (fun t ht hW => ⟨⟨999, (fun _ => 0), rfl, trivial, trivial⟩, hS.F ht⟩) hS.2.2 dX11_lifeOf_70
          ·
            refine lv_iload_n hx hb dX11_lifeOf_63 rfl (lv_at hl 1 rfl) ?_
            refine lv_goto (tgt := 70) hx hb dX11_lifeOf_64 (by decide) ?_
            exact W.iret (v := z27_3) hx hb hr (fun t ht hW => ⟨⟨z27_3, (fun _ => 0), rfl, trivial, trivial⟩, hS.F ht⟩) hS.2.2 dX11_lifeOf_70
        ·
          obtain ⟨z15, ez15⟩ : ∃ y : Int32, y = z27_5 + (-5) := ⟨_, rfl⟩
          refine lv_iinc (v := z15) (lv' := [(5, .int z15), (3, .int z27_3), (4, .int r4), (0, .ref h0), (1, .int (nI j)), (2, .int (nI k))]) hx hb dX11_lifeOf_45 hl (k := 0) rfl (by rw [ez15]; rfl) (by decide) rfl (fun ls hl => ?_)
          refine lv_iload_n hx hb dX11_lifeOf_48 rfl (lv_at hl 1 rfl) ?_
          refine lv_iload hx hb dX11_lifeOf_49 (lv_at hl 2 rfl) ?_
          refine lv_iadd hx hb dX11_lifeOf_51 ?_
          refine lv_topi (fun z16 ez16 => ?_)
          refine lv_istore_n (lv' := [(3, .int z16), (5, .int z15), (4, .int r4), (0, .ref h0), (1, .int (nI j)), (2, .int (nI k))]) hx hb dX11_lifeOf_52 rfl hl (by decide) rfl (fun ls hl => ?_)
          refine lv_goto (tgt := 27) hx hb dX11_lifeOf_53 (by decide) ?_
          exact ih27 z15 z16 _ _ _ (x_m5 ez15 c9 hz27) hP hS (lv_sub hl [1, 0, 2, 3, 4, 5] rfl)
