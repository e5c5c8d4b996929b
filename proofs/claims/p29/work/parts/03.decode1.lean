def wnth : List Cond → Nat → Option Cond
  | [], _ => none
  | w :: _, 0 => some w
  | _ :: t, n + 1 => wnth t n
theorem wm {w : Cond} : ∀ {ws : List Cond} (k : Nat) (_ : wnth ws k = some w), w ∈ ws
  | [], _, h => by cases h
  | a :: t, 0, h => by cases h; exact List.mem_cons_self
  | a :: t, n + 1, h => List.mem_cons_of_mem a (wm n h)
def wdrop : Nat → List Cond → List Cond
  | 0, l => l
  | _ + 1, [] => []
  | n + 1, _ :: t => wdrop n t
def wtake : Nat → List Cond → List Cond → List Cond
  | 0, _, r => r
  | _ + 1, [], r => r
  | n + 1, a :: t, r => a :: wtake n t r
def wsel (big : List Cond) : List (Nat × Nat) → List Cond
  | [] => []
  | (a, n) :: t => wtake n (wdrop a big) (wsel big t)
theorem wdrop_in {w : Cond} : ∀ (n : Nat) (l : List Cond), w ∈ wdrop n l → w ∈ l
  | 0, _, h => h
  | _ + 1, [], h => h
  | n + 1, _ :: t, h => List.mem_cons_of_mem _ (wdrop_in n t h)
theorem wtake_in {w : Cond} {r : List Cond} : ∀ (n : Nat) (l : List Cond), w ∈ wtake n l r → w ∈ l ∨ w ∈ r
  | 0, _, h => Or.inr h
  | _ + 1, [], h => Or.inr h
  | n + 1, a :: t, h => by
    rcases List.mem_cons.mp h with e | h
    · exact Or.inl (by rw [e]; exact List.mem_cons_self)
    · exact (wtake_in n t h).imp (List.mem_cons_of_mem a) id
theorem wsel_in {w : Cond} {big : List Cond} : ∀ (rs : List (Nat × Nat)), w ∈ wsel big rs → w ∈ big
  | [], h => by cases h
  | (a, n) :: t, h => (wtake_in n _ h).elim (wdrop_in a big) (wsel_in t)
theorem goodIn_s {big : List Cond} (ws : List Cond) (rs : List (Nat × Nat)) (hp : ws = wsel big rs) (h : ws.all goodWord = true) : GoodIn big ws := fun w hw => ⟨wsel_in rs (hp ▸ hw), good_of_word (List.all_eq_true.mp h w hw)⟩
theorem dec_at {c : ByteArray} {L : List (Nat × Instr × Nat)} (h : L.all (fun r => decide (decode c r.1 = .ok r.2)) = true) (k : Nat) {pc n : Nat} {i : Instr} (hk : L[k]? = some (pc, i, n)) : decode c pc = .ok (i, n) := of_decide_eq_true (List.all_eq_true.mp h (pc, i, n) (List.mem_of_getElem? hk))
noncomputable def dlX0_init_0 : List (Nat × Instr × Nat) := [(0, .aload_n 0, 1), (1, .invokespecial 3, 3), (4, .aload_n 0, 1), (5, .iconst 0, 1), (6, .putfield 9, 3), (9, .aload_n 0, 1), (10, .bipush 15, 2), (12, .newarray .int, 2), (14, .putfield 15, 3), (17, .aload_n 0, 1), (18, .bipush 15, 2), (20, .newarray .int, 2), (22, .putfield 19, 3), (25, .return_, 1)]
theorem dlX0_init_0_ok : dlX0_init_0.all (fun r => decide (decode cX0_init r.1 = .ok r.2)) = true := by decide +kernel
theorem dX0_init_0 : decode cX0_init 0 = .ok (.aload_n 0, 1) := dec_at dlX0_init_0_ok 0 rfl
theorem dX0_init_1 : decode cX0_init 1 = .ok (.invokespecial 3, 3) := dec_at dlX0_init_0_ok 1 rfl
theorem dX0_init_4 : decode cX0_init 4 = .ok (.aload_n 0, 1) := dec_at dlX0_init_0_ok 2 rfl
theorem dX0_init_5 : decode cX0_init 5 = .ok (.iconst 0, 1) := dec_at dlX0_init_0_ok 3 rfl
theorem dX0_init_6 : decode cX0_init 6 = .ok (.putfield 9, 3) := dec_at dlX0_init_0_ok 4 rfl
theorem dX0_init_9 : decode cX0_init 9 = .ok (.aload_n 0, 1) := dec_at dlX0_init_0_ok 5 rfl
theorem dX0_init_10 : decode cX0_init 10 = .ok (.bipush 15, 2) := dec_at dlX0_init_0_ok 6 rfl
theorem dX0_init_12 : decode cX0_init 12 = .ok (.newarray .int, 2) := dec_at dlX0_init_0_ok 7 rfl
theorem dX0_init_14 : decode cX0_init 14 = .ok (.putfield 15, 3) := dec_at dlX0_init_0_ok 8 rfl
theorem dX0_init_17 : decode cX0_init 17 = .ok (.aload_n 0, 1) := dec_at dlX0_init_0_ok 9 rfl
theorem dX0_init_18 : decode cX0_init 18 = .ok (.bipush 15, 2) := dec_at dlX0_init_0_ok 10 rfl
theorem dX0_init_20 : decode cX0_init 20 = .ok (.newarray .int, 2) := dec_at dlX0_init_0_ok 11 rfl
theorem dX0_init_22 : decode cX0_init 22 = .ok (.putfield 19, 3) := dec_at dlX0_init_0_ok 12 rfl
theorem dX0_init_25 : decode cX0_init 25 = .ok (.return_, 1) := dec_at dlX0_init_0_ok 13 rfl
noncomputable def dlX0_add_0 : List (Nat × Instr × Nat) := [(0, .aload_n 0, 1), (1, .getfield 9, 3), (4, .bipush 15, 2), (6, .if_icmp .lt 4, 3), (9, .return_, 1), (10, .aload_n 0, 1), (11, .getfield 15, 3), (14, .aload_n 0, 1), (15, .getfield 9, 3), (18, .iload_n 1, 1), (19, .iastore, 1), (20, .aload_n 0, 1), (21, .getfield 19, 3), (24, .aload_n 0, 1), (25, .getfield 9, 3), (28, .iload_n 2, 1), (29, .iastore, 1), (30, .aload_n 0, 1), (31, .dup, 1), (32, .getfield 9, 3), (35, .iconst 1, 1), (36, .iadd, 1), (37, .putfield 9, 3), (40, .return_, 1)]
theorem dlX0_add_0_ok : dlX0_add_0.all (fun r => decide (decode cX0_add r.1 = .ok r.2)) = true := by decide +kernel
theorem dX0_add_0 : decode cX0_add 0 = .ok (.aload_n 0, 1) := dec_at dlX0_add_0_ok 0 rfl
theorem dX0_add_1 : decode cX0_add 1 = .ok (.getfield 9, 3) := dec_at dlX0_add_0_ok 1 rfl
theorem dX0_add_4 : decode cX0_add 4 = .ok (.bipush 15, 2) := dec_at dlX0_add_0_ok 2 rfl
theorem dX0_add_6 : decode cX0_add 6 = .ok (.if_icmp .lt 4, 3) := dec_at dlX0_add_0_ok 3 rfl
theorem dX0_add_9 : decode cX0_add 9 = .ok (.return_, 1) := dec_at dlX0_add_0_ok 4 rfl
theorem dX0_add_10 : decode cX0_add 10 = .ok (.aload_n 0, 1) := dec_at dlX0_add_0_ok 5 rfl
theorem dX0_add_11 : decode cX0_add 11 = .ok (.getfield 15, 3) := dec_at dlX0_add_0_ok 6 rfl
theorem dX0_add_14 : decode cX0_add 14 = .ok (.aload_n 0, 1) := dec_at dlX0_add_0_ok 7 rfl
theorem dX0_add_15 : decode cX0_add 15 = .ok (.getfield 9, 3) := dec_at dlX0_add_0_ok 8 rfl
theorem dX0_add_18 : decode cX0_add 18 = .ok (.iload_n 1, 1) := dec_at dlX0_add_0_ok 9 rfl
theorem dX0_add_19 : decode cX0_add 19 = .ok (.iastore, 1) := dec_at dlX0_add_0_ok 10 rfl
theorem dX0_add_20 : decode cX0_add 20 = .ok (.aload_n 0, 1) := dec_at dlX0_add_0_ok 11 rfl
theorem dX0_add_21 : decode cX0_add 21 = .ok (.getfield 19, 3) := dec_at dlX0_add_0_ok 12 rfl
theorem dX0_add_24 : decode cX0_add 24 = .ok (.aload_n 0, 1) := dec_at dlX0_add_0_ok 13 rfl
theorem dX0_add_25 : decode cX0_add 25 = .ok (.getfield 9, 3) := dec_at dlX0_add_0_ok 14 rfl
theorem dX0_add_28 : decode cX0_add 28 = .ok (.iload_n 2, 1) := dec_at dlX0_add_0_ok 15 rfl
theorem dX0_add_29 : decode cX0_add 29 = .ok (.iastore, 1) := dec_at dlX0_add_0_ok 16 rfl
theorem dX0_add_30 : decode cX0_add 30 = .ok (.aload_n 0, 1) := dec_at dlX0_add_0_ok 17 rfl
theorem dX0_add_31 : decode cX0_add 31 = .ok (.dup, 1) := dec_at dlX0_add_0_ok 18 rfl
theorem dX0_add_32 : decode cX0_add 32 = .ok (.getfield 9, 3) := dec_at dlX0_add_0_ok 19 rfl
theorem dX0_add_35 : decode cX0_add 35 = .ok (.iconst 1, 1) := dec_at dlX0_add_0_ok 20 rfl
theorem dX0_add_36 : decode cX0_add 36 = .ok (.iadd, 1) := dec_at dlX0_add_0_ok 21 rfl
theorem dX0_add_37 : decode cX0_add 37 = .ok (.putfield 9, 3) := dec_at dlX0_add_0_ok 22 rfl
theorem dX0_add_40 : decode cX0_add 40 = .ok (.return_, 1) := dec_at dlX0_add_0_ok 23 rfl
noncomputable def dlX0_firstWrong_0 : List (Nat × Instr × Nat) := [(0, .iconst 0, 1), (1, .istore_n 2, 1), (2, .iload_n 2, 1), (3, .aload_n 0, 1), (4, .getfield 9, 3), (7, .if_icmp .ge 31, 3), (10, .aload_n 1, 1), (11, .getfield 22, 3), (14, .aload_n 0, 1), (15, .getfield 15, 3), (18, .iload_n 2, 1), (19, .iaload, 1), (20, .iaload, 1), (21, .aload_n 0, 1), (22, .getfield 19, 3), (25, .iload_n 2, 1), (26, .iaload, 1), (27, .if_icmp .eq 5, 3), (30, .iload_n 2, 1), (31, .ireturn, 1), (32, .iinc 2 1, 3), (35, .goto (-33), 3), (38, .iconst (-1), 1), (39, .ireturn, 1)]
theorem dlX0_firstWrong_0_ok : dlX0_firstWrong_0.all (fun r => decide (decode cX0_firstWrong r.1 = .ok r.2)) = true := by decide +kernel
theorem dX0_firstWrong_0 : decode cX0_firstWrong 0 = .ok (.iconst 0, 1) := dec_at dlX0_firstWrong_0_ok 0 rfl
theorem dX0_firstWrong_1 : decode cX0_firstWrong 1 = .ok (.istore_n 2, 1) := dec_at dlX0_firstWrong_0_ok 1 rfl
theorem dX0_firstWrong_2 : decode cX0_firstWrong 2 = .ok (.iload_n 2, 1) := dec_at dlX0_firstWrong_0_ok 2 rfl
theorem dX0_firstWrong_3 : decode cX0_firstWrong 3 = .ok (.aload_n 0, 1) := dec_at dlX0_firstWrong_0_ok 3 rfl
theorem dX0_firstWrong_4 : decode cX0_firstWrong 4 = .ok (.getfield 9, 3) := dec_at dlX0_firstWrong_0_ok 4 rfl
theorem dX0_firstWrong_7 : decode cX0_firstWrong 7 = .ok (.if_icmp .ge 31, 3) := dec_at dlX0_firstWrong_0_ok 5 rfl
theorem dX0_firstWrong_10 : decode cX0_firstWrong 10 = .ok (.aload_n 1, 1) := dec_at dlX0_firstWrong_0_ok 6 rfl
theorem dX0_firstWrong_11 : decode cX0_firstWrong 11 = .ok (.getfield 22, 3) := dec_at dlX0_firstWrong_0_ok 7 rfl
theorem dX0_firstWrong_14 : decode cX0_firstWrong 14 = .ok (.aload_n 0, 1) := dec_at dlX0_firstWrong_0_ok 8 rfl
theorem dX0_firstWrong_15 : decode cX0_firstWrong 15 = .ok (.getfield 15, 3) := dec_at dlX0_firstWrong_0_ok 9 rfl
theorem dX0_firstWrong_18 : decode cX0_firstWrong 18 = .ok (.iload_n 2, 1) := dec_at dlX0_firstWrong_0_ok 10 rfl
theorem dX0_firstWrong_19 : decode cX0_firstWrong 19 = .ok (.iaload, 1) := dec_at dlX0_firstWrong_0_ok 11 rfl
theorem dX0_firstWrong_20 : decode cX0_firstWrong 20 = .ok (.iaload, 1) := dec_at dlX0_firstWrong_0_ok 12 rfl
theorem dX0_firstWrong_21 : decode cX0_firstWrong 21 = .ok (.aload_n 0, 1) := dec_at dlX0_firstWrong_0_ok 13 rfl
theorem dX0_firstWrong_22 : decode cX0_firstWrong 22 = .ok (.getfield 19, 3) := dec_at dlX0_firstWrong_0_ok 14 rfl
theorem dX0_firstWrong_25 : decode cX0_firstWrong 25 = .ok (.iload_n 2, 1) := dec_at dlX0_firstWrong_0_ok 15 rfl
theorem dX0_firstWrong_26 : decode cX0_firstWrong 26 = .ok (.iaload, 1) := dec_at dlX0_firstWrong_0_ok 16 rfl
theorem dX0_firstWrong_27 : decode cX0_firstWrong 27 = .ok (.if_icmp .eq 5, 3) := dec_at dlX0_firstWrong_0_ok 17 rfl
theorem dX0_firstWrong_30 : decode cX0_firstWrong 30 = .ok (.iload_n 2, 1) := dec_at dlX0_firstWrong_0_ok 18 rfl
theorem dX0_firstWrong_31 : decode cX0_firstWrong 31 = .ok (.ireturn, 1) := dec_at dlX0_firstWrong_0_ok 19 rfl
theorem dX0_firstWrong_32 : decode cX0_firstWrong 32 = .ok (.iinc 2 1, 3) := dec_at dlX0_firstWrong_0_ok 20 rfl
theorem dX0_firstWrong_35 : decode cX0_firstWrong 35 = .ok (.goto (-33), 3) := dec_at dlX0_firstWrong_0_ok 21 rfl
theorem dX0_firstWrong_38 : decode cX0_firstWrong 38 = .ok (.iconst (-1), 1) := dec_at dlX0_firstWrong_0_ok 22 rfl
theorem dX0_firstWrong_39 : decode cX0_firstWrong 39 = .ok (.ireturn, 1) := dec_at dlX0_firstWrong_0_ok 23 rfl
noncomputable def dlX1_init_0 : List (Nat × Instr × Nat) := [(0, .aload_n 0, 1), (1, .invokespecial 3, 3), (4, .aload_n 0, 1), (5, .iconst 0, 1), (6, .putfield 9, 3), (9, .aload_n 0, 1), (10, .iconst 0, 1), (11, .putfield 15, 3), (14, .aload_n 0, 1), (15, .bipush 8, 2), (17, .newarray .int, 2), (19, .putfield 18, 3), (22, .aload_n 0, 1), (23, .bipush 8, 2), (25, .newarray .int, 2), (27, .putfield 22, 3), (30, .aload_n 0, 1), (31, .bipush 8, 2), (33, .newarray .int, 2), (35, .putfield 25, 3), (38, .aload_n 0, 1), (39, .iconst 4, 1), (40, .newarray .int, 2), (42, .putfield 28, 3), (45, .aload_n 0, 1), (46, .iconst 4, 1), (47, .newarray .int, 2), (49, .putfield 31, 3), (52, .aload_n 0, 1), (53, .aload_n 1, 1), (54, .putfield 34, 3)]
theorem dlX1_init_0_ok : dlX1_init_0.all (fun r => decide (decode cX1_init r.1 = .ok r.2)) = true := by decide +kernel
theorem dX1_init_0 : decode cX1_init 0 = .ok (.aload_n 0, 1) := dec_at dlX1_init_0_ok 0 rfl
theorem dX1_init_1 : decode cX1_init 1 = .ok (.invokespecial 3, 3) := dec_at dlX1_init_0_ok 1 rfl
theorem dX1_init_4 : decode cX1_init 4 = .ok (.aload_n 0, 1) := dec_at dlX1_init_0_ok 2 rfl
theorem dX1_init_5 : decode cX1_init 5 = .ok (.iconst 0, 1) := dec_at dlX1_init_0_ok 3 rfl
theorem dX1_init_6 : decode cX1_init 6 = .ok (.putfield 9, 3) := dec_at dlX1_init_0_ok 4 rfl
theorem dX1_init_9 : decode cX1_init 9 = .ok (.aload_n 0, 1) := dec_at dlX1_init_0_ok 5 rfl
theorem dX1_init_10 : decode cX1_init 10 = .ok (.iconst 0, 1) := dec_at dlX1_init_0_ok 6 rfl
theorem dX1_init_11 : decode cX1_init 11 = .ok (.putfield 15, 3) := dec_at dlX1_init_0_ok 7 rfl
theorem dX1_init_14 : decode cX1_init 14 = .ok (.aload_n 0, 1) := dec_at dlX1_init_0_ok 8 rfl
theorem dX1_init_15 : decode cX1_init 15 = .ok (.bipush 8, 2) := dec_at dlX1_init_0_ok 9 rfl
theorem dX1_init_17 : decode cX1_init 17 = .ok (.newarray .int, 2) := dec_at dlX1_init_0_ok 10 rfl
theorem dX1_init_19 : decode cX1_init 19 = .ok (.putfield 18, 3) := dec_at dlX1_init_0_ok 11 rfl
theorem dX1_init_22 : decode cX1_init 22 = .ok (.aload_n 0, 1) := dec_at dlX1_init_0_ok 12 rfl
theorem dX1_init_23 : decode cX1_init 23 = .ok (.bipush 8, 2) := dec_at dlX1_init_0_ok 13 rfl
theorem dX1_init_25 : decode cX1_init 25 = .ok (.newarray .int, 2) := dec_at dlX1_init_0_ok 14 rfl
theorem dX1_init_27 : decode cX1_init 27 = .ok (.putfield 22, 3) := dec_at dlX1_init_0_ok 15 rfl
theorem dX1_init_30 : decode cX1_init 30 = .ok (.aload_n 0, 1) := dec_at dlX1_init_0_ok 16 rfl
theorem dX1_init_31 : decode cX1_init 31 = .ok (.bipush 8, 2) := dec_at dlX1_init_0_ok 17 rfl
theorem dX1_init_33 : decode cX1_init 33 = .ok (.newarray .int, 2) := dec_at dlX1_init_0_ok 18 rfl
theorem dX1_init_35 : decode cX1_init 35 = .ok (.putfield 25, 3) := dec_at dlX1_init_0_ok 19 rfl
theorem dX1_init_38 : decode cX1_init 38 = .ok (.aload_n 0, 1) := dec_at dlX1_init_0_ok 20 rfl
theorem dX1_init_39 : decode cX1_init 39 = .ok (.iconst 4, 1) := dec_at dlX1_init_0_ok 21 rfl
theorem dX1_init_40 : decode cX1_init 40 = .ok (.newarray .int, 2) := dec_at dlX1_init_0_ok 22 rfl
theorem dX1_init_42 : decode cX1_init 42 = .ok (.putfield 28, 3) := dec_at dlX1_init_0_ok 23 rfl
theorem dX1_init_45 : decode cX1_init 45 = .ok (.aload_n 0, 1) := dec_at dlX1_init_0_ok 24 rfl
theorem dX1_init_46 : decode cX1_init 46 = .ok (.iconst 4, 1) := dec_at dlX1_init_0_ok 25 rfl
theorem dX1_init_47 : decode cX1_init 47 = .ok (.newarray .int, 2) := dec_at dlX1_init_0_ok 26 rfl
theorem dX1_init_49 : decode cX1_init 49 = .ok (.putfield 31, 3) := dec_at dlX1_init_0_ok 27 rfl
theorem dX1_init_52 : decode cX1_init 52 = .ok (.aload_n 0, 1) := dec_at dlX1_init_0_ok 28 rfl
theorem dX1_init_53 : decode cX1_init 53 = .ok (.aload_n 1, 1) := dec_at dlX1_init_0_ok 29 rfl
theorem dX1_init_54 : decode cX1_init 54 = .ok (.putfield 34, 3) := dec_at dlX1_init_0_ok 30 rfl
noncomputable def dlX1_init_57 : List (Nat × Instr × Nat) := [(57, .return_, 1)]
theorem dlX1_init_57_ok : dlX1_init_57.all (fun r => decide (decode cX1_init r.1 = .ok r.2)) = true := by decide +kernel
theorem dX1_init_57 : decode cX1_init 57 = .ok (.return_, 1) := dec_at dlX1_init_57_ok 0 rfl
noncomputable def dlX1_layOut_0 : List (Nat × Instr × Nat) := [(0, .aload_n 0, 1), (1, .iconst 0, 1), (2, .putfield 9, 3), (5, .aload_n 0, 1), (6, .iconst 0, 1), (7, .putfield 15, 3), (10, .iconst 0, 1), (11, .istore_n 1, 1), (12, .iload_n 1, 1), (13, .bipush 8, 2), (15, .if_icmp .ge 46, 3), (18, .aload_n 0, 1), (19, .getfield 18, 3), (22, .iload_n 1, 1), (23, .aload_n 0, 1), (24, .getfield 34, 3), (27, .getfield 38, 3), (30, .iload_n 1, 1), (31, .iaload, 1), (32, .iastore, 1), (33, .aload_n 0, 1), (34, .getfield 22, 3), (37, .iload_n 1, 1), (38, .aload_n 0, 1), (39, .getfield 34, 3), (42, .getfield 43, 3), (45, .iload_n 1, 1), (46, .iaload, 1), (47, .iastore, 1), (48, .aload_n 0, 1), (49, .getfield 25, 3)]
theorem dlX1_layOut_0_ok : dlX1_layOut_0.all (fun r => decide (decode cX1_layOut r.1 = .ok r.2)) = true := by decide +kernel
theorem dX1_layOut_0 : decode cX1_layOut 0 = .ok (.aload_n 0, 1) := dec_at dlX1_layOut_0_ok 0 rfl
theorem dX1_layOut_1 : decode cX1_layOut 1 = .ok (.iconst 0, 1) := dec_at dlX1_layOut_0_ok 1 rfl
theorem dX1_layOut_2 : decode cX1_layOut 2 = .ok (.putfield 9, 3) := dec_at dlX1_layOut_0_ok 2 rfl
theorem dX1_layOut_5 : decode cX1_layOut 5 = .ok (.aload_n 0, 1) := dec_at dlX1_layOut_0_ok 3 rfl
theorem dX1_layOut_6 : decode cX1_layOut 6 = .ok (.iconst 0, 1) := dec_at dlX1_layOut_0_ok 4 rfl
theorem dX1_layOut_7 : decode cX1_layOut 7 = .ok (.putfield 15, 3) := dec_at dlX1_layOut_0_ok 5 rfl
theorem dX1_layOut_10 : decode cX1_layOut 10 = .ok (.iconst 0, 1) := dec_at dlX1_layOut_0_ok 6 rfl
theorem dX1_layOut_11 : decode cX1_layOut 11 = .ok (.istore_n 1, 1) := dec_at dlX1_layOut_0_ok 7 rfl
theorem dX1_layOut_12 : decode cX1_layOut 12 = .ok (.iload_n 1, 1) := dec_at dlX1_layOut_0_ok 8 rfl
theorem dX1_layOut_13 : decode cX1_layOut 13 = .ok (.bipush 8, 2) := dec_at dlX1_layOut_0_ok 9 rfl
theorem dX1_layOut_15 : decode cX1_layOut 15 = .ok (.if_icmp .ge 46, 3) := dec_at dlX1_layOut_0_ok 10 rfl
theorem dX1_layOut_18 : decode cX1_layOut 18 = .ok (.aload_n 0, 1) := dec_at dlX1_layOut_0_ok 11 rfl
theorem dX1_layOut_19 : decode cX1_layOut 19 = .ok (.getfield 18, 3) := dec_at dlX1_layOut_0_ok 12 rfl
theorem dX1_layOut_22 : decode cX1_layOut 22 = .ok (.iload_n 1, 1) := dec_at dlX1_layOut_0_ok 13 rfl
theorem dX1_layOut_23 : decode cX1_layOut 23 = .ok (.aload_n 0, 1) := dec_at dlX1_layOut_0_ok 14 rfl
theorem dX1_layOut_24 : decode cX1_layOut 24 = .ok (.getfield 34, 3) := dec_at dlX1_layOut_0_ok 15 rfl
theorem dX1_layOut_27 : decode cX1_layOut 27 = .ok (.getfield 38, 3) := dec_at dlX1_layOut_0_ok 16 rfl
theorem dX1_layOut_30 : decode cX1_layOut 30 = .ok (.iload_n 1, 1) := dec_at dlX1_layOut_0_ok 17 rfl
theorem dX1_layOut_31 : decode cX1_layOut 31 = .ok (.iaload, 1) := dec_at dlX1_layOut_0_ok 18 rfl
theorem dX1_layOut_32 : decode cX1_layOut 32 = .ok (.iastore, 1) := dec_at dlX1_layOut_0_ok 19 rfl
theorem dX1_layOut_33 : decode cX1_layOut 33 = .ok (.aload_n 0, 1) := dec_at dlX1_layOut_0_ok 20 rfl
theorem dX1_layOut_34 : decode cX1_layOut 34 = .ok (.getfield 22, 3) := dec_at dlX1_layOut_0_ok 21 rfl
theorem dX1_layOut_37 : decode cX1_layOut 37 = .ok (.iload_n 1, 1) := dec_at dlX1_layOut_0_ok 22 rfl
theorem dX1_layOut_38 : decode cX1_layOut 38 = .ok (.aload_n 0, 1) := dec_at dlX1_layOut_0_ok 23 rfl
theorem dX1_layOut_39 : decode cX1_layOut 39 = .ok (.getfield 34, 3) := dec_at dlX1_layOut_0_ok 24 rfl
theorem dX1_layOut_42 : decode cX1_layOut 42 = .ok (.getfield 43, 3) := dec_at dlX1_layOut_0_ok 25 rfl
theorem dX1_layOut_45 : decode cX1_layOut 45 = .ok (.iload_n 1, 1) := dec_at dlX1_layOut_0_ok 26 rfl
theorem dX1_layOut_46 : decode cX1_layOut 46 = .ok (.iaload, 1) := dec_at dlX1_layOut_0_ok 27 rfl
theorem dX1_layOut_47 : decode cX1_layOut 47 = .ok (.iastore, 1) := dec_at dlX1_layOut_0_ok 28 rfl
theorem dX1_layOut_48 : decode cX1_layOut 48 = .ok (.aload_n 0, 1) := dec_at dlX1_layOut_0_ok 29 rfl
theorem dX1_layOut_49 : decode cX1_layOut 49 = .ok (.getfield 25, 3) := dec_at dlX1_layOut_0_ok 30 rfl
noncomputable def dlX1_layOut_52 : List (Nat × Instr × Nat) := [(52, .iload_n 1, 1), (53, .iconst 0, 1), (54, .iastore, 1), (55, .iinc 1 1, 3), (58, .goto (-46), 3), (61, .iconst 0, 1), (62, .istore_n 1, 1), (63, .iload_n 1, 1), (64, .iconst 4, 1), (65, .if_icmp .ge 23, 3), (68, .aload_n 0, 1), (69, .getfield 28, 3), (72, .iload_n 1, 1), (73, .iconst 0, 1), (74, .iastore, 1), (75, .aload_n 0, 1), (76, .getfield 31, 3), (79, .iload_n 1, 1), (80, .iconst 0, 1), (81, .iastore, 1), (82, .iinc 1 1, 3), (85, .goto (-22), 3), (88, .return_, 1)]
theorem dlX1_layOut_52_ok : dlX1_layOut_52.all (fun r => decide (decode cX1_layOut r.1 = .ok r.2)) = true := by decide +kernel
theorem dX1_layOut_52 : decode cX1_layOut 52 = .ok (.iload_n 1, 1) := dec_at dlX1_layOut_52_ok 0 rfl
theorem dX1_layOut_53 : decode cX1_layOut 53 = .ok (.iconst 0, 1) := dec_at dlX1_layOut_52_ok 1 rfl
theorem dX1_layOut_54 : decode cX1_layOut 54 = .ok (.iastore, 1) := dec_at dlX1_layOut_52_ok 2 rfl
theorem dX1_layOut_55 : decode cX1_layOut 55 = .ok (.iinc 1 1, 3) := dec_at dlX1_layOut_52_ok 3 rfl
theorem dX1_layOut_58 : decode cX1_layOut 58 = .ok (.goto (-46), 3) := dec_at dlX1_layOut_52_ok 4 rfl
theorem dX1_layOut_61 : decode cX1_layOut 61 = .ok (.iconst 0, 1) := dec_at dlX1_layOut_52_ok 5 rfl
theorem dX1_layOut_62 : decode cX1_layOut 62 = .ok (.istore_n 1, 1) := dec_at dlX1_layOut_52_ok 6 rfl
theorem dX1_layOut_63 : decode cX1_layOut 63 = .ok (.iload_n 1, 1) := dec_at dlX1_layOut_52_ok 7 rfl
theorem dX1_layOut_64 : decode cX1_layOut 64 = .ok (.iconst 4, 1) := dec_at dlX1_layOut_52_ok 8 rfl
theorem dX1_layOut_65 : decode cX1_layOut 65 = .ok (.if_icmp .ge 23, 3) := dec_at dlX1_layOut_52_ok 9 rfl
theorem dX1_layOut_68 : decode cX1_layOut 68 = .ok (.aload_n 0, 1) := dec_at dlX1_layOut_52_ok 10 rfl
theorem dX1_layOut_69 : decode cX1_layOut 69 = .ok (.getfield 28, 3) := dec_at dlX1_layOut_52_ok 11 rfl
theorem dX1_layOut_72 : decode cX1_layOut 72 = .ok (.iload_n 1, 1) := dec_at dlX1_layOut_52_ok 12 rfl
theorem dX1_layOut_73 : decode cX1_layOut 73 = .ok (.iconst 0, 1) := dec_at dlX1_layOut_52_ok 13 rfl
theorem dX1_layOut_74 : decode cX1_layOut 74 = .ok (.iastore, 1) := dec_at dlX1_layOut_52_ok 14 rfl
theorem dX1_layOut_75 : decode cX1_layOut 75 = .ok (.aload_n 0, 1) := dec_at dlX1_layOut_52_ok 15 rfl
theorem dX1_layOut_76 : decode cX1_layOut 76 = .ok (.getfield 31, 3) := dec_at dlX1_layOut_52_ok 16 rfl
theorem dX1_layOut_79 : decode cX1_layOut 79 = .ok (.iload_n 1, 1) := dec_at dlX1_layOut_52_ok 17 rfl
theorem dX1_layOut_80 : decode cX1_layOut 80 = .ok (.iconst 0, 1) := dec_at dlX1_layOut_52_ok 18 rfl
theorem dX1_layOut_81 : decode cX1_layOut 81 = .ok (.iastore, 1) := dec_at dlX1_layOut_52_ok 19 rfl
theorem dX1_layOut_82 : decode cX1_layOut 82 = .ok (.iinc 1 1, 3) := dec_at dlX1_layOut_52_ok 20 rfl
theorem dX1_layOut_85 : decode cX1_layOut 85 = .ok (.goto (-22), 3) := dec_at dlX1_layOut_52_ok 21 rfl
theorem dX1_layOut_88 : decode cX1_layOut 88 = .ok (.return_, 1) := dec_at dlX1_layOut_52_ok 22 rfl
noncomputable def dlX1_copyFrom_0 : List (Nat × Instr × Nat) := [(0, .aload_n 0, 1), (1, .aload_n 1, 1), (2, .getfield 9, 3), (5, .putfield 9, 3), (8, .aload_n 0, 1), (9, .aload_n 1, 1), (10, .getfield 15, 3), (13, .putfield 15, 3), (16, .aload_n 1, 1), (17, .getfield 18, 3), (20, .iconst 0, 1), (21, .aload_n 0, 1), (22, .getfield 18, 3), (25, .iconst 0, 1), (26, .bipush 8, 2), (28, .invokestatic 46, 3), (31, .aload_n 1, 1), (32, .getfield 22, 3), (35, .iconst 0, 1), (36, .aload_n 0, 1), (37, .getfield 22, 3), (40, .iconst 0, 1), (41, .bipush 8, 2), (43, .invokestatic 46, 3), (46, .aload_n 1, 1), (47, .getfield 25, 3), (50, .iconst 0, 1), (51, .aload_n 0, 1), (52, .getfield 25, 3), (55, .iconst 0, 1), (56, .bipush 8, 2)]
theorem dlX1_copyFrom_0_ok : dlX1_copyFrom_0.all (fun r => decide (decode cX1_copyFrom r.1 = .ok r.2)) = true := by decide +kernel
theorem dX1_copyFrom_0 : decode cX1_copyFrom 0 = .ok (.aload_n 0, 1) := dec_at dlX1_copyFrom_0_ok 0 rfl
theorem dX1_copyFrom_1 : decode cX1_copyFrom 1 = .ok (.aload_n 1, 1) := dec_at dlX1_copyFrom_0_ok 1 rfl
theorem dX1_copyFrom_2 : decode cX1_copyFrom 2 = .ok (.getfield 9, 3) := dec_at dlX1_copyFrom_0_ok 2 rfl
theorem dX1_copyFrom_5 : decode cX1_copyFrom 5 = .ok (.putfield 9, 3) := dec_at dlX1_copyFrom_0_ok 3 rfl
theorem dX1_copyFrom_8 : decode cX1_copyFrom 8 = .ok (.aload_n 0, 1) := dec_at dlX1_copyFrom_0_ok 4 rfl
theorem dX1_copyFrom_9 : decode cX1_copyFrom 9 = .ok (.aload_n 1, 1) := dec_at dlX1_copyFrom_0_ok 5 rfl
theorem dX1_copyFrom_10 : decode cX1_copyFrom 10 = .ok (.getfield 15, 3) := dec_at dlX1_copyFrom_0_ok 6 rfl
theorem dX1_copyFrom_13 : decode cX1_copyFrom 13 = .ok (.putfield 15, 3) := dec_at dlX1_copyFrom_0_ok 7 rfl
theorem dX1_copyFrom_16 : decode cX1_copyFrom 16 = .ok (.aload_n 1, 1) := dec_at dlX1_copyFrom_0_ok 8 rfl
theorem dX1_copyFrom_17 : decode cX1_copyFrom 17 = .ok (.getfield 18, 3) := dec_at dlX1_copyFrom_0_ok 9 rfl
theorem dX1_copyFrom_20 : decode cX1_copyFrom 20 = .ok (.iconst 0, 1) := dec_at dlX1_copyFrom_0_ok 10 rfl
theorem dX1_copyFrom_21 : decode cX1_copyFrom 21 = .ok (.aload_n 0, 1) := dec_at dlX1_copyFrom_0_ok 11 rfl
theorem dX1_copyFrom_22 : decode cX1_copyFrom 22 = .ok (.getfield 18, 3) := dec_at dlX1_copyFrom_0_ok 12 rfl
theorem dX1_copyFrom_25 : decode cX1_copyFrom 25 = .ok (.iconst 0, 1) := dec_at dlX1_copyFrom_0_ok 13 rfl
theorem dX1_copyFrom_26 : decode cX1_copyFrom 26 = .ok (.bipush 8, 2) := dec_at dlX1_copyFrom_0_ok 14 rfl
theorem dX1_copyFrom_28 : decode cX1_copyFrom 28 = .ok (.invokestatic 46, 3) := dec_at dlX1_copyFrom_0_ok 15 rfl
theorem dX1_copyFrom_31 : decode cX1_copyFrom 31 = .ok (.aload_n 1, 1) := dec_at dlX1_copyFrom_0_ok 16 rfl
theorem dX1_copyFrom_32 : decode cX1_copyFrom 32 = .ok (.getfield 22, 3) := dec_at dlX1_copyFrom_0_ok 17 rfl
theorem dX1_copyFrom_35 : decode cX1_copyFrom 35 = .ok (.iconst 0, 1) := dec_at dlX1_copyFrom_0_ok 18 rfl
theorem dX1_copyFrom_36 : decode cX1_copyFrom 36 = .ok (.aload_n 0, 1) := dec_at dlX1_copyFrom_0_ok 19 rfl
theorem dX1_copyFrom_37 : decode cX1_copyFrom 37 = .ok (.getfield 22, 3) := dec_at dlX1_copyFrom_0_ok 20 rfl
theorem dX1_copyFrom_40 : decode cX1_copyFrom 40 = .ok (.iconst 0, 1) := dec_at dlX1_copyFrom_0_ok 21 rfl
theorem dX1_copyFrom_41 : decode cX1_copyFrom 41 = .ok (.bipush 8, 2) := dec_at dlX1_copyFrom_0_ok 22 rfl
theorem dX1_copyFrom_43 : decode cX1_copyFrom 43 = .ok (.invokestatic 46, 3) := dec_at dlX1_copyFrom_0_ok 23 rfl
theorem dX1_copyFrom_46 : decode cX1_copyFrom 46 = .ok (.aload_n 1, 1) := dec_at dlX1_copyFrom_0_ok 24 rfl
theorem dX1_copyFrom_47 : decode cX1_copyFrom 47 = .ok (.getfield 25, 3) := dec_at dlX1_copyFrom_0_ok 25 rfl
theorem dX1_copyFrom_50 : decode cX1_copyFrom 50 = .ok (.iconst 0, 1) := dec_at dlX1_copyFrom_0_ok 26 rfl
theorem dX1_copyFrom_51 : decode cX1_copyFrom 51 = .ok (.aload_n 0, 1) := dec_at dlX1_copyFrom_0_ok 27 rfl
theorem dX1_copyFrom_52 : decode cX1_copyFrom 52 = .ok (.getfield 25, 3) := dec_at dlX1_copyFrom_0_ok 28 rfl
theorem dX1_copyFrom_55 : decode cX1_copyFrom 55 = .ok (.iconst 0, 1) := dec_at dlX1_copyFrom_0_ok 29 rfl
theorem dX1_copyFrom_56 : decode cX1_copyFrom 56 = .ok (.bipush 8, 2) := dec_at dlX1_copyFrom_0_ok 30 rfl
noncomputable def dlX1_copyFrom_58 : List (Nat × Instr × Nat) := [(58, .invokestatic 46, 3), (61, .aload_n 1, 1), (62, .getfield 28, 3), (65, .iconst 0, 1), (66, .aload_n 0, 1), (67, .getfield 28, 3), (70, .iconst 0, 1), (71, .iconst 4, 1), (72, .invokestatic 46, 3), (75, .aload_n 1, 1), (76, .getfield 31, 3), (79, .iconst 0, 1), (80, .aload_n 0, 1), (81, .getfield 31, 3), (84, .iconst 0, 1), (85, .iconst 4, 1), (86, .invokestatic 46, 3), (89, .return_, 1)]
theorem dlX1_copyFrom_58_ok : dlX1_copyFrom_58.all (fun r => decide (decode cX1_copyFrom r.1 = .ok r.2)) = true := by decide +kernel
theorem dX1_copyFrom_58 : decode cX1_copyFrom 58 = .ok (.invokestatic 46, 3) := dec_at dlX1_copyFrom_58_ok 0 rfl
theorem dX1_copyFrom_61 : decode cX1_copyFrom 61 = .ok (.aload_n 1, 1) := dec_at dlX1_copyFrom_58_ok 1 rfl
theorem dX1_copyFrom_62 : decode cX1_copyFrom 62 = .ok (.getfield 28, 3) := dec_at dlX1_copyFrom_58_ok 2 rfl
theorem dX1_copyFrom_65 : decode cX1_copyFrom 65 = .ok (.iconst 0, 1) := dec_at dlX1_copyFrom_58_ok 3 rfl
theorem dX1_copyFrom_66 : decode cX1_copyFrom 66 = .ok (.aload_n 0, 1) := dec_at dlX1_copyFrom_58_ok 4 rfl
theorem dX1_copyFrom_67 : decode cX1_copyFrom 67 = .ok (.getfield 28, 3) := dec_at dlX1_copyFrom_58_ok 5 rfl
theorem dX1_copyFrom_70 : decode cX1_copyFrom 70 = .ok (.iconst 0, 1) := dec_at dlX1_copyFrom_58_ok 6 rfl
theorem dX1_copyFrom_71 : decode cX1_copyFrom 71 = .ok (.iconst 4, 1) := dec_at dlX1_copyFrom_58_ok 7 rfl
theorem dX1_copyFrom_72 : decode cX1_copyFrom 72 = .ok (.invokestatic 46, 3) := dec_at dlX1_copyFrom_58_ok 8 rfl
theorem dX1_copyFrom_75 : decode cX1_copyFrom 75 = .ok (.aload_n 1, 1) := dec_at dlX1_copyFrom_58_ok 9 rfl
theorem dX1_copyFrom_76 : decode cX1_copyFrom 76 = .ok (.getfield 31, 3) := dec_at dlX1_copyFrom_58_ok 10 rfl
theorem dX1_copyFrom_79 : decode cX1_copyFrom 79 = .ok (.iconst 0, 1) := dec_at dlX1_copyFrom_58_ok 11 rfl
theorem dX1_copyFrom_80 : decode cX1_copyFrom 80 = .ok (.aload_n 0, 1) := dec_at dlX1_copyFrom_58_ok 12 rfl
theorem dX1_copyFrom_81 : decode cX1_copyFrom 81 = .ok (.getfield 31, 3) := dec_at dlX1_copyFrom_58_ok 13 rfl
theorem dX1_copyFrom_84 : decode cX1_copyFrom 84 = .ok (.iconst 0, 1) := dec_at dlX1_copyFrom_58_ok 14 rfl
theorem dX1_copyFrom_85 : decode cX1_copyFrom 85 = .ok (.iconst 4, 1) := dec_at dlX1_copyFrom_58_ok 15 rfl
theorem dX1_copyFrom_86 : decode cX1_copyFrom 86 = .ok (.invokestatic 46, 3) := dec_at dlX1_copyFrom_58_ok 16 rfl
theorem dX1_copyFrom_89 : decode cX1_copyFrom 89 = .ok (.return_, 1) := dec_at dlX1_copyFrom_58_ok 17 rfl
set_option maxRecDepth 20000 in
theorem ggX1_writePage_X5_wear : GoodIn wsX1_writePage wsX5_wear := goodIn_s _ [(11, 9), (10, 1), (20, 9), (51, 13)] rfl (by decide +kernel)
set_option maxRecDepth 20000 in
theorem gX1_writePage_X5_wear : GoodIn wsX1_writePage (wsV RX1 52 RX5 yX5_wear wsX5_wear) := goodIn_app (goodIn_s _ [(7, 4)] rfl (by decide +kernel)) ggX1_writePage_X5_wear
set_option maxRecDepth 20000 in
theorem ggX1_writePage_X10_softerBy : GoodIn wsX1_writePage wsX10_softerBy := goodIn_s _ [(31, 3), (15, 1), (34, 1)] rfl (by decide +kernel)
set_option maxRecDepth 20000 in
theorem gX1_writePage_X10_softerBy_n56 : GoodIn wsX1_writePage (wsX10_softerBy) := ggX1_writePage_X10_softerBy
set_option maxRecDepth 20000 in
theorem ggX1_writePage_X5_likesNib : GoodIn wsX1_writePage wsX5_likesNib := goodIn_s _ [(38, 4), (15, 1), (42, 1), (51, 13)] rfl (by decide +kernel)
set_option maxRecDepth 20000 in
theorem gX1_writePage_X5_likesNib : GoodIn wsX1_writePage (wsV RX1 59 RX5 yX5_likesNib wsX5_likesNib) := goodIn_app (goodIn_s _ [(35, 3), (10, 1)] rfl (by decide +kernel)) ggX1_writePage_X5_likesNib
noncomputable def dlX1_writePage_0 : List (Nat × Instr × Nat) := [(0, .aload_n 0, 1), (1, .getfield 25, 3), (4, .iload_n 1, 1), (5, .aload_n 0, 1), (6, .getfield 25, 3), (9, .iload_n 1, 1), (10, .iaload, 1), (11, .aload_n 0, 1), (12, .getfield 34, 3), (15, .iload_n 1, 1), (16, .iload_n 2, 1), (17, .invokevirtual 52, 3), (20, .invokestatic 56, 3), (23, .iastore, 1), (24, .aload_n 0, 1), (25, .getfield 25, 3), (28, .iload_n 1, 1), (29, .iaload, 1), (30, .bipush 50, 2), (32, .if_icmp .gt 24, 3), (35, .aload_n 0, 1), (36, .getfield 34, 3), (39, .iload_n 2, 1), (40, .aload_n 0, 1), (41, .getfield 22, 3), (44, .iload_n 1, 1), (45, .iaload, 1), (46, .invokevirtual 59, 3), (49, .ifCond .eq 7, 3), (52, .iconst 1, 1), (53, .goto 4, 3)]
theorem dlX1_writePage_0_ok : dlX1_writePage_0.all (fun r => decide (decode cX1_writePage r.1 = .ok r.2)) = true := by decide +kernel
theorem dX1_writePage_0 : decode cX1_writePage 0 = .ok (.aload_n 0, 1) := dec_at dlX1_writePage_0_ok 0 rfl
theorem dX1_writePage_1 : decode cX1_writePage 1 = .ok (.getfield 25, 3) := dec_at dlX1_writePage_0_ok 1 rfl
theorem dX1_writePage_4 : decode cX1_writePage 4 = .ok (.iload_n 1, 1) := dec_at dlX1_writePage_0_ok 2 rfl
theorem dX1_writePage_5 : decode cX1_writePage 5 = .ok (.aload_n 0, 1) := dec_at dlX1_writePage_0_ok 3 rfl
theorem dX1_writePage_6 : decode cX1_writePage 6 = .ok (.getfield 25, 3) := dec_at dlX1_writePage_0_ok 4 rfl
theorem dX1_writePage_9 : decode cX1_writePage 9 = .ok (.iload_n 1, 1) := dec_at dlX1_writePage_0_ok 5 rfl
theorem dX1_writePage_10 : decode cX1_writePage 10 = .ok (.iaload, 1) := dec_at dlX1_writePage_0_ok 6 rfl
theorem dX1_writePage_11 : decode cX1_writePage 11 = .ok (.aload_n 0, 1) := dec_at dlX1_writePage_0_ok 7 rfl
theorem dX1_writePage_12 : decode cX1_writePage 12 = .ok (.getfield 34, 3) := dec_at dlX1_writePage_0_ok 8 rfl
theorem dX1_writePage_15 : decode cX1_writePage 15 = .ok (.iload_n 1, 1) := dec_at dlX1_writePage_0_ok 9 rfl
theorem dX1_writePage_16 : decode cX1_writePage 16 = .ok (.iload_n 2, 1) := dec_at dlX1_writePage_0_ok 10 rfl
theorem dX1_writePage_17 : decode cX1_writePage 17 = .ok (.invokevirtual 52, 3) := dec_at dlX1_writePage_0_ok 11 rfl
theorem dX1_writePage_20 : decode cX1_writePage 20 = .ok (.invokestatic 56, 3) := dec_at dlX1_writePage_0_ok 12 rfl
theorem dX1_writePage_23 : decode cX1_writePage 23 = .ok (.iastore, 1) := dec_at dlX1_writePage_0_ok 13 rfl
theorem dX1_writePage_24 : decode cX1_writePage 24 = .ok (.aload_n 0, 1) := dec_at dlX1_writePage_0_ok 14 rfl
theorem dX1_writePage_25 : decode cX1_writePage 25 = .ok (.getfield 25, 3) := dec_at dlX1_writePage_0_ok 15 rfl
theorem dX1_writePage_28 : decode cX1_writePage 28 = .ok (.iload_n 1, 1) := dec_at dlX1_writePage_0_ok 16 rfl
theorem dX1_writePage_29 : decode cX1_writePage 29 = .ok (.iaload, 1) := dec_at dlX1_writePage_0_ok 17 rfl
theorem dX1_writePage_30 : decode cX1_writePage 30 = .ok (.bipush 50, 2) := dec_at dlX1_writePage_0_ok 18 rfl
theorem dX1_writePage_32 : decode cX1_writePage 32 = .ok (.if_icmp .gt 24, 3) := dec_at dlX1_writePage_0_ok 19 rfl
theorem dX1_writePage_35 : decode cX1_writePage 35 = .ok (.aload_n 0, 1) := dec_at dlX1_writePage_0_ok 20 rfl
theorem dX1_writePage_36 : decode cX1_writePage 36 = .ok (.getfield 34, 3) := dec_at dlX1_writePage_0_ok 21 rfl
theorem dX1_writePage_39 : decode cX1_writePage 39 = .ok (.iload_n 2, 1) := dec_at dlX1_writePage_0_ok 22 rfl
theorem dX1_writePage_40 : decode cX1_writePage 40 = .ok (.aload_n 0, 1) := dec_at dlX1_writePage_0_ok 23 rfl
theorem dX1_writePage_41 : decode cX1_writePage 41 = .ok (.getfield 22, 3) := dec_at dlX1_writePage_0_ok 24 rfl
theorem dX1_writePage_44 : decode cX1_writePage 44 = .ok (.iload_n 1, 1) := dec_at dlX1_writePage_0_ok 25 rfl
theorem dX1_writePage_45 : decode cX1_writePage 45 = .ok (.iaload, 1) := dec_at dlX1_writePage_0_ok 26 rfl
theorem dX1_writePage_46 : decode cX1_writePage 46 = .ok (.invokevirtual 59, 3) := dec_at dlX1_writePage_0_ok 27 rfl
theorem dX1_writePage_49 : decode cX1_writePage 49 = .ok (.ifCond .eq 7, 3) := dec_at dlX1_writePage_0_ok 28 rfl
theorem dX1_writePage_52 : decode cX1_writePage 52 = .ok (.iconst 1, 1) := dec_at dlX1_writePage_0_ok 29 rfl
theorem dX1_writePage_53 : decode cX1_writePage 53 = .ok (.goto 4, 3) := dec_at dlX1_writePage_0_ok 30 rfl
noncomputable def dlX1_writePage_56 : List (Nat × Instr × Nat) := [(56, .iconst 0, 1), (57, .istore_n 3, 1), (58, .aload_n 0, 1), (59, .getfield 28, 3), (62, .iload_n 2, 1), (63, .dup2, 1), (64, .iaload, 1), (65, .iconst 1, 1), (66, .iadd, 1), (67, .iastore, 1), (68, .iload_n 3, 1), (69, .ifCond .eq 13, 3), (72, .aload_n 0, 1), (73, .getfield 31, 3), (76, .iload_n 2, 1), (77, .dup2, 1), (78, .iaload, 1), (79, .iconst 1, 1), (80, .iadd, 1), (81, .iastore, 1), (82, .aload_n 0, 1), (83, .dup, 1), (84, .getfield 9, 3), (87, .iconst 2, 1), (88, .iadd, 1), (89, .putfield 9, 3), (92, .iload_n 3, 1), (93, .ireturn, 1)]
theorem dlX1_writePage_56_ok : dlX1_writePage_56.all (fun r => decide (decode cX1_writePage r.1 = .ok r.2)) = true := by decide +kernel
theorem dX1_writePage_56 : decode cX1_writePage 56 = .ok (.iconst 0, 1) := dec_at dlX1_writePage_56_ok 0 rfl
theorem dX1_writePage_57 : decode cX1_writePage 57 = .ok (.istore_n 3, 1) := dec_at dlX1_writePage_56_ok 1 rfl
theorem dX1_writePage_58 : decode cX1_writePage 58 = .ok (.aload_n 0, 1) := dec_at dlX1_writePage_56_ok 2 rfl
theorem dX1_writePage_59 : decode cX1_writePage 59 = .ok (.getfield 28, 3) := dec_at dlX1_writePage_56_ok 3 rfl
theorem dX1_writePage_62 : decode cX1_writePage 62 = .ok (.iload_n 2, 1) := dec_at dlX1_writePage_56_ok 4 rfl
theorem dX1_writePage_63 : decode cX1_writePage 63 = .ok (.dup2, 1) := dec_at dlX1_writePage_56_ok 5 rfl
theorem dX1_writePage_64 : decode cX1_writePage 64 = .ok (.iaload, 1) := dec_at dlX1_writePage_56_ok 6 rfl
theorem dX1_writePage_65 : decode cX1_writePage 65 = .ok (.iconst 1, 1) := dec_at dlX1_writePage_56_ok 7 rfl
theorem dX1_writePage_66 : decode cX1_writePage 66 = .ok (.iadd, 1) := dec_at dlX1_writePage_56_ok 8 rfl
theorem dX1_writePage_67 : decode cX1_writePage 67 = .ok (.iastore, 1) := dec_at dlX1_writePage_56_ok 9 rfl
theorem dX1_writePage_68 : decode cX1_writePage 68 = .ok (.iload_n 3, 1) := dec_at dlX1_writePage_56_ok 10 rfl
theorem dX1_writePage_69 : decode cX1_writePage 69 = .ok (.ifCond .eq 13, 3) := dec_at dlX1_writePage_56_ok 11 rfl
theorem dX1_writePage_72 : decode cX1_writePage 72 = .ok (.aload_n 0, 1) := dec_at dlX1_writePage_56_ok 12 rfl
theorem dX1_writePage_73 : decode cX1_writePage 73 = .ok (.getfield 31, 3) := dec_at dlX1_writePage_56_ok 13 rfl
theorem dX1_writePage_76 : decode cX1_writePage 76 = .ok (.iload_n 2, 1) := dec_at dlX1_writePage_56_ok 14 rfl
theorem dX1_writePage_77 : decode cX1_writePage 77 = .ok (.dup2, 1) := dec_at dlX1_writePage_56_ok 15 rfl
theorem dX1_writePage_78 : decode cX1_writePage 78 = .ok (.iaload, 1) := dec_at dlX1_writePage_56_ok 16 rfl
theorem dX1_writePage_79 : decode cX1_writePage 79 = .ok (.iconst 1, 1) := dec_at dlX1_writePage_56_ok 17 rfl
theorem dX1_writePage_80 : decode cX1_writePage 80 = .ok (.iadd, 1) := dec_at dlX1_writePage_56_ok 18 rfl
theorem dX1_writePage_81 : decode cX1_writePage 81 = .ok (.iastore, 1) := dec_at dlX1_writePage_56_ok 19 rfl
theorem dX1_writePage_82 : decode cX1_writePage 82 = .ok (.aload_n 0, 1) := dec_at dlX1_writePage_56_ok 20 rfl
theorem dX1_writePage_83 : decode cX1_writePage 83 = .ok (.dup, 1) := dec_at dlX1_writePage_56_ok 21 rfl
theorem dX1_writePage_84 : decode cX1_writePage 84 = .ok (.getfield 9, 3) := dec_at dlX1_writePage_56_ok 22 rfl
theorem dX1_writePage_87 : decode cX1_writePage 87 = .ok (.iconst 2, 1) := dec_at dlX1_writePage_56_ok 23 rfl
theorem dX1_writePage_88 : decode cX1_writePage 88 = .ok (.iadd, 1) := dec_at dlX1_writePage_56_ok 24 rfl
theorem dX1_writePage_89 : decode cX1_writePage 89 = .ok (.putfield 9, 3) := dec_at dlX1_writePage_56_ok 25 rfl
theorem dX1_writePage_92 : decode cX1_writePage 92 = .ok (.iload_n 3, 1) := dec_at dlX1_writePage_56_ok 26 rfl
theorem dX1_writePage_93 : decode cX1_writePage 93 = .ok (.ireturn, 1) := dec_at dlX1_writePage_56_ok 27 rfl
noncomputable def dlX1_isBlunt_0 : List (Nat × Instr × Nat) := [(0, .aload_n 0, 1), (1, .getfield 15, 3), (4, .aload_n 0, 1), (5, .getfield 34, 3), (8, .getfield 63, 3), (11, .if_icmp .lt 7, 3), (14, .iconst 1, 1), (15, .goto 4, 3), (18, .iconst 0, 1), (19, .ireturn, 1)]
theorem dlX1_isBlunt_0_ok : dlX1_isBlunt_0.all (fun r => decide (decode cX1_isBlunt r.1 = .ok r.2)) = true := by decide +kernel
theorem dX1_isBlunt_0 : decode cX1_isBlunt 0 = .ok (.aload_n 0, 1) := dec_at dlX1_isBlunt_0_ok 0 rfl
theorem dX1_isBlunt_1 : decode cX1_isBlunt 1 = .ok (.getfield 15, 3) := dec_at dlX1_isBlunt_0_ok 1 rfl
theorem dX1_isBlunt_4 : decode cX1_isBlunt 4 = .ok (.aload_n 0, 1) := dec_at dlX1_isBlunt_0_ok 2 rfl
theorem dX1_isBlunt_5 : decode cX1_isBlunt 5 = .ok (.getfield 34, 3) := dec_at dlX1_isBlunt_0_ok 3 rfl
theorem dX1_isBlunt_8 : decode cX1_isBlunt 8 = .ok (.getfield 63, 3) := dec_at dlX1_isBlunt_0_ok 4 rfl
theorem dX1_isBlunt_11 : decode cX1_isBlunt 11 = .ok (.if_icmp .lt 7, 3) := dec_at dlX1_isBlunt_0_ok 5 rfl
theorem dX1_isBlunt_14 : decode cX1_isBlunt 14 = .ok (.iconst 1, 1) := dec_at dlX1_isBlunt_0_ok 6 rfl
theorem dX1_isBlunt_15 : decode cX1_isBlunt 15 = .ok (.goto 4, 3) := dec_at dlX1_isBlunt_0_ok 7 rfl
theorem dX1_isBlunt_18 : decode cX1_isBlunt 18 = .ok (.iconst 0, 1) := dec_at dlX1_isBlunt_0_ok 8 rfl
theorem dX1_isBlunt_19 : decode cX1_isBlunt 19 = .ok (.ireturn, 1) := dec_at dlX1_isBlunt_0_ok 9 rfl
set_option maxRecDepth 20000 in
theorem ggX1_canMend_X1_isBlunt : GoodIn wsX1_canMend wsX1_isBlunt := goodIn_s _ [(6, 25)] rfl (by decide +kernel)
set_option maxRecDepth 20000 in
theorem gX1_canMend_X1_isBlunt : GoodIn wsX1_canMend (wsV RX1 66 RX1 yX1_isBlunt wsX1_isBlunt) := goodIn_app (goodIn_s _ [(2, 4)] rfl (by decide +kernel)) ggX1_canMend_X1_isBlunt
noncomputable def dlX1_canMend_0 : List (Nat × Instr × Nat) := [(0, .aload_n 0, 1), (1, .getfield 18, 3), (4, .iload_n 1, 1), (5, .iaload, 1), (6, .aload_n 0, 1), (7, .invokevirtual 66, 3), (10, .ifCond .eq 8, 3), (13, .bipush 9, 2), (15, .goto 4, 3), (18, .iconst 5, 1), (19, .if_icmp .lt 7, 3), (22, .iconst 1, 1), (23, .goto 4, 3), (26, .iconst 0, 1), (27, .ireturn, 1)]
theorem dlX1_canMend_0_ok : dlX1_canMend_0.all (fun r => decide (decode cX1_canMend r.1 = .ok r.2)) = true := by decide +kernel
theorem dX1_canMend_0 : decode cX1_canMend 0 = .ok (.aload_n 0, 1) := dec_at dlX1_canMend_0_ok 0 rfl
theorem dX1_canMend_1 : decode cX1_canMend 1 = .ok (.getfield 18, 3) := dec_at dlX1_canMend_0_ok 1 rfl
theorem dX1_canMend_4 : decode cX1_canMend 4 = .ok (.iload_n 1, 1) := dec_at dlX1_canMend_0_ok 2 rfl
theorem dX1_canMend_5 : decode cX1_canMend 5 = .ok (.iaload, 1) := dec_at dlX1_canMend_0_ok 3 rfl
theorem dX1_canMend_6 : decode cX1_canMend 6 = .ok (.aload_n 0, 1) := dec_at dlX1_canMend_0_ok 4 rfl
theorem dX1_canMend_7 : decode cX1_canMend 7 = .ok (.invokevirtual 66, 3) := dec_at dlX1_canMend_0_ok 5 rfl
theorem dX1_canMend_10 : decode cX1_canMend 10 = .ok (.ifCond .eq 8, 3) := dec_at dlX1_canMend_0_ok 6 rfl
theorem dX1_canMend_13 : decode cX1_canMend 13 = .ok (.bipush 9, 2) := dec_at dlX1_canMend_0_ok 7 rfl
theorem dX1_canMend_15 : decode cX1_canMend 15 = .ok (.goto 4, 3) := dec_at dlX1_canMend_0_ok 8 rfl
theorem dX1_canMend_18 : decode cX1_canMend 18 = .ok (.iconst 5, 1) := dec_at dlX1_canMend_0_ok 9 rfl
theorem dX1_canMend_19 : decode cX1_canMend 19 = .ok (.if_icmp .lt 7, 3) := dec_at dlX1_canMend_0_ok 10 rfl
theorem dX1_canMend_22 : decode cX1_canMend 22 = .ok (.iconst 1, 1) := dec_at dlX1_canMend_0_ok 11 rfl
theorem dX1_canMend_23 : decode cX1_canMend 23 = .ok (.goto 4, 3) := dec_at dlX1_canMend_0_ok 12 rfl
theorem dX1_canMend_26 : decode cX1_canMend 26 = .ok (.iconst 0, 1) := dec_at dlX1_canMend_0_ok 13 rfl
theorem dX1_canMend_27 : decode cX1_canMend 27 = .ok (.ireturn, 1) := dec_at dlX1_canMend_0_ok 14 rfl
set_option maxRecDepth 20000 in
theorem ggX1_mendQuill_X1_isBlunt : GoodIn wsX1_mendQuill wsX1_isBlunt := goodIn_s _ [(16, 1), (8, 1), (10, 1), (17, 22)] rfl (by decide +kernel)
set_option maxRecDepth 20000 in
theorem gX1_mendQuill_X1_isBlunt : GoodIn wsX1_mendQuill (wsV RX1 66 RX1 yX1_isBlunt wsX1_isBlunt) := goodIn_app (goodIn_s _ [(12, 4)] rfl (by decide +kernel)) ggX1_mendQuill_X1_isBlunt
noncomputable def dlX1_mendQuill_0 : List (Nat × Instr × Nat) := [(0, .aload_n 0, 1), (1, .invokevirtual 66, 3), (4, .ifCond .eq 36, 3), (7, .aload_n 0, 1), (8, .getfield 18, 3), (11, .iload_n 1, 1), (12, .dup2, 1), (13, .iaload, 1), (14, .bipush 9, 2), (16, .isub, 1), (17, .iastore, 1), (18, .aload_n 0, 1), (19, .getfield 22, 3), (22, .iload_n 1, 1), (23, .bipush 9, 2), (25, .aload_n 0, 1), (26, .getfield 22, 3), (29, .iload_n 1, 1), (30, .iaload, 1), (31, .iconst 1, 1), (32, .iadd, 1), (33, .invokestatic 70, 3), (36, .iastore, 1), (37, .goto 13, 3), (40, .aload_n 0, 1), (41, .getfield 18, 3), (44, .iload_n 1, 1), (45, .dup2, 1), (46, .iaload, 1), (47, .iconst 5, 1), (48, .isub, 1)]
theorem dlX1_mendQuill_0_ok : dlX1_mendQuill_0.all (fun r => decide (decode cX1_mendQuill r.1 = .ok r.2)) = true := by decide +kernel
theorem dX1_mendQuill_0 : decode cX1_mendQuill 0 = .ok (.aload_n 0, 1) := dec_at dlX1_mendQuill_0_ok 0 rfl
theorem dX1_mendQuill_1 : decode cX1_mendQuill 1 = .ok (.invokevirtual 66, 3) := dec_at dlX1_mendQuill_0_ok 1 rfl
theorem dX1_mendQuill_4 : decode cX1_mendQuill 4 = .ok (.ifCond .eq 36, 3) := dec_at dlX1_mendQuill_0_ok 2 rfl
theorem dX1_mendQuill_7 : decode cX1_mendQuill 7 = .ok (.aload_n 0, 1) := dec_at dlX1_mendQuill_0_ok 3 rfl
theorem dX1_mendQuill_8 : decode cX1_mendQuill 8 = .ok (.getfield 18, 3) := dec_at dlX1_mendQuill_0_ok 4 rfl
theorem dX1_mendQuill_11 : decode cX1_mendQuill 11 = .ok (.iload_n 1, 1) := dec_at dlX1_mendQuill_0_ok 5 rfl
theorem dX1_mendQuill_12 : decode cX1_mendQuill 12 = .ok (.dup2, 1) := dec_at dlX1_mendQuill_0_ok 6 rfl
theorem dX1_mendQuill_13 : decode cX1_mendQuill 13 = .ok (.iaload, 1) := dec_at dlX1_mendQuill_0_ok 7 rfl
theorem dX1_mendQuill_14 : decode cX1_mendQuill 14 = .ok (.bipush 9, 2) := dec_at dlX1_mendQuill_0_ok 8 rfl
theorem dX1_mendQuill_16 : decode cX1_mendQuill 16 = .ok (.isub, 1) := dec_at dlX1_mendQuill_0_ok 9 rfl
theorem dX1_mendQuill_17 : decode cX1_mendQuill 17 = .ok (.iastore, 1) := dec_at dlX1_mendQuill_0_ok 10 rfl
theorem dX1_mendQuill_18 : decode cX1_mendQuill 18 = .ok (.aload_n 0, 1) := dec_at dlX1_mendQuill_0_ok 11 rfl
theorem dX1_mendQuill_19 : decode cX1_mendQuill 19 = .ok (.getfield 22, 3) := dec_at dlX1_mendQuill_0_ok 12 rfl
theorem dX1_mendQuill_22 : decode cX1_mendQuill 22 = .ok (.iload_n 1, 1) := dec_at dlX1_mendQuill_0_ok 13 rfl
theorem dX1_mendQuill_23 : decode cX1_mendQuill 23 = .ok (.bipush 9, 2) := dec_at dlX1_mendQuill_0_ok 14 rfl
theorem dX1_mendQuill_25 : decode cX1_mendQuill 25 = .ok (.aload_n 0, 1) := dec_at dlX1_mendQuill_0_ok 15 rfl
theorem dX1_mendQuill_26 : decode cX1_mendQuill 26 = .ok (.getfield 22, 3) := dec_at dlX1_mendQuill_0_ok 16 rfl
theorem dX1_mendQuill_29 : decode cX1_mendQuill 29 = .ok (.iload_n 1, 1) := dec_at dlX1_mendQuill_0_ok 17 rfl
theorem dX1_mendQuill_30 : decode cX1_mendQuill 30 = .ok (.iaload, 1) := dec_at dlX1_mendQuill_0_ok 18 rfl
theorem dX1_mendQuill_31 : decode cX1_mendQuill 31 = .ok (.iconst 1, 1) := dec_at dlX1_mendQuill_0_ok 19 rfl
theorem dX1_mendQuill_32 : decode cX1_mendQuill 32 = .ok (.iadd, 1) := dec_at dlX1_mendQuill_0_ok 20 rfl
theorem dX1_mendQuill_33 : decode cX1_mendQuill 33 = .ok (.invokestatic 70, 3) := dec_at dlX1_mendQuill_0_ok 21 rfl
theorem dX1_mendQuill_36 : decode cX1_mendQuill 36 = .ok (.iastore, 1) := dec_at dlX1_mendQuill_0_ok 22 rfl
theorem dX1_mendQuill_37 : decode cX1_mendQuill 37 = .ok (.goto 13, 3) := dec_at dlX1_mendQuill_0_ok 23 rfl
theorem dX1_mendQuill_40 : decode cX1_mendQuill 40 = .ok (.aload_n 0, 1) := dec_at dlX1_mendQuill_0_ok 24 rfl
theorem dX1_mendQuill_41 : decode cX1_mendQuill 41 = .ok (.getfield 18, 3) := dec_at dlX1_mendQuill_0_ok 25 rfl
theorem dX1_mendQuill_44 : decode cX1_mendQuill 44 = .ok (.iload_n 1, 1) := dec_at dlX1_mendQuill_0_ok 26 rfl
theorem dX1_mendQuill_45 : decode cX1_mendQuill 45 = .ok (.dup2, 1) := dec_at dlX1_mendQuill_0_ok 27 rfl
theorem dX1_mendQuill_46 : decode cX1_mendQuill 46 = .ok (.iaload, 1) := dec_at dlX1_mendQuill_0_ok 28 rfl
theorem dX1_mendQuill_47 : decode cX1_mendQuill 47 = .ok (.iconst 5, 1) := dec_at dlX1_mendQuill_0_ok 29 rfl
theorem dX1_mendQuill_48 : decode cX1_mendQuill 48 = .ok (.isub, 1) := dec_at dlX1_mendQuill_0_ok 30 rfl
noncomputable def dlX1_mendQuill_49 : List (Nat × Instr × Nat) := [(49, .iastore, 1), (50, .aload_n 0, 1), (51, .getfield 25, 3), (54, .iload_n 1, 1), (55, .iconst 0, 1), (56, .iastore, 1), (57, .aload_n 0, 1), (58, .dup, 1), (59, .getfield 15, 3), (62, .iconst 1, 1), (63, .iadd, 1), (64, .putfield 15, 3), (67, .aload_n 0, 1), (68, .dup, 1), (69, .getfield 9, 3), (72, .aload_n 0, 1), (73, .getfield 34, 3), (76, .getfield 75, 3), (79, .iadd, 1), (80, .putfield 9, 3), (83, .return_, 1)]
theorem dlX1_mendQuill_49_ok : dlX1_mendQuill_49.all (fun r => decide (decode cX1_mendQuill r.1 = .ok r.2)) = true := by decide +kernel
theorem dX1_mendQuill_49 : decode cX1_mendQuill 49 = .ok (.iastore, 1) := dec_at dlX1_mendQuill_49_ok 0 rfl
theorem dX1_mendQuill_50 : decode cX1_mendQuill 50 = .ok (.aload_n 0, 1) := dec_at dlX1_mendQuill_49_ok 1 rfl
theorem dX1_mendQuill_51 : decode cX1_mendQuill 51 = .ok (.getfield 25, 3) := dec_at dlX1_mendQuill_49_ok 2 rfl
theorem dX1_mendQuill_54 : decode cX1_mendQuill 54 = .ok (.iload_n 1, 1) := dec_at dlX1_mendQuill_49_ok 3 rfl
theorem dX1_mendQuill_55 : decode cX1_mendQuill 55 = .ok (.iconst 0, 1) := dec_at dlX1_mendQuill_49_ok 4 rfl
theorem dX1_mendQuill_56 : decode cX1_mendQuill 56 = .ok (.iastore, 1) := dec_at dlX1_mendQuill_49_ok 5 rfl
theorem dX1_mendQuill_57 : decode cX1_mendQuill 57 = .ok (.aload_n 0, 1) := dec_at dlX1_mendQuill_49_ok 6 rfl
theorem dX1_mendQuill_58 : decode cX1_mendQuill 58 = .ok (.dup, 1) := dec_at dlX1_mendQuill_49_ok 7 rfl
theorem dX1_mendQuill_59 : decode cX1_mendQuill 59 = .ok (.getfield 15, 3) := dec_at dlX1_mendQuill_49_ok 8 rfl
theorem dX1_mendQuill_62 : decode cX1_mendQuill 62 = .ok (.iconst 1, 1) := dec_at dlX1_mendQuill_49_ok 9 rfl
theorem dX1_mendQuill_63 : decode cX1_mendQuill 63 = .ok (.iadd, 1) := dec_at dlX1_mendQuill_49_ok 10 rfl
theorem dX1_mendQuill_64 : decode cX1_mendQuill 64 = .ok (.putfield 15, 3) := dec_at dlX1_mendQuill_49_ok 11 rfl
theorem dX1_mendQuill_67 : decode cX1_mendQuill 67 = .ok (.aload_n 0, 1) := dec_at dlX1_mendQuill_49_ok 12 rfl
theorem dX1_mendQuill_68 : decode cX1_mendQuill 68 = .ok (.dup, 1) := dec_at dlX1_mendQuill_49_ok 13 rfl
theorem dX1_mendQuill_69 : decode cX1_mendQuill 69 = .ok (.getfield 9, 3) := dec_at dlX1_mendQuill_49_ok 14 rfl
theorem dX1_mendQuill_72 : decode cX1_mendQuill 72 = .ok (.aload_n 0, 1) := dec_at dlX1_mendQuill_49_ok 15 rfl
theorem dX1_mendQuill_73 : decode cX1_mendQuill 73 = .ok (.getfield 34, 3) := dec_at dlX1_mendQuill_49_ok 16 rfl
theorem dX1_mendQuill_76 : decode cX1_mendQuill 76 = .ok (.getfield 75, 3) := dec_at dlX1_mendQuill_49_ok 17 rfl
theorem dX1_mendQuill_79 : decode cX1_mendQuill 79 = .ok (.iadd, 1) := dec_at dlX1_mendQuill_49_ok 18 rfl
theorem dX1_mendQuill_80 : decode cX1_mendQuill 80 = .ok (.putfield 9, 3) := dec_at dlX1_mendQuill_49_ok 19 rfl
theorem dX1_mendQuill_83 : decode cX1_mendQuill 83 = .ok (.return_, 1) := dec_at dlX1_mendQuill_49_ok 20 rfl
noncomputable def dlX1_allPages_0 : List (Nat × Instr × Nat) := [(0, .iconst 0, 1), (1, .istore_n 1, 1), (2, .iconst 0, 1), (3, .istore_n 2, 1), (4, .iload_n 2, 1), (5, .aload_n 0, 1), (6, .getfield 34, 3), (9, .getfield 78, 3), (12, .if_icmp .ge 18, 3), (15, .iload_n 1, 1), (16, .aload_n 0, 1), (17, .getfield 28, 3), (20, .iload_n 2, 1), (21, .iaload, 1), (22, .iadd, 1), (23, .istore_n 1, 1), (24, .iinc 2 1, 3), (27, .goto (-23), 3), (30, .iload_n 1, 1), (31, .ireturn, 1)]
theorem dlX1_allPages_0_ok : dlX1_allPages_0.all (fun r => decide (decode cX1_allPages r.1 = .ok r.2)) = true := by decide +kernel
theorem dX1_allPages_0 : decode cX1_allPages 0 = .ok (.iconst 0, 1) := dec_at dlX1_allPages_0_ok 0 rfl
theorem dX1_allPages_1 : decode cX1_allPages 1 = .ok (.istore_n 1, 1) := dec_at dlX1_allPages_0_ok 1 rfl
theorem dX1_allPages_2 : decode cX1_allPages 2 = .ok (.iconst 0, 1) := dec_at dlX1_allPages_0_ok 2 rfl
theorem dX1_allPages_3 : decode cX1_allPages 3 = .ok (.istore_n 2, 1) := dec_at dlX1_allPages_0_ok 3 rfl
theorem dX1_allPages_4 : decode cX1_allPages 4 = .ok (.iload_n 2, 1) := dec_at dlX1_allPages_0_ok 4 rfl
theorem dX1_allPages_5 : decode cX1_allPages 5 = .ok (.aload_n 0, 1) := dec_at dlX1_allPages_0_ok 5 rfl
theorem dX1_allPages_6 : decode cX1_allPages 6 = .ok (.getfield 34, 3) := dec_at dlX1_allPages_0_ok 6 rfl
theorem dX1_allPages_9 : decode cX1_allPages 9 = .ok (.getfield 78, 3) := dec_at dlX1_allPages_0_ok 7 rfl
theorem dX1_allPages_12 : decode cX1_allPages 12 = .ok (.if_icmp .ge 18, 3) := dec_at dlX1_allPages_0_ok 8 rfl
theorem dX1_allPages_15 : decode cX1_allPages 15 = .ok (.iload_n 1, 1) := dec_at dlX1_allPages_0_ok 9 rfl
theorem dX1_allPages_16 : decode cX1_allPages 16 = .ok (.aload_n 0, 1) := dec_at dlX1_allPages_0_ok 10 rfl
theorem dX1_allPages_17 : decode cX1_allPages 17 = .ok (.getfield 28, 3) := dec_at dlX1_allPages_0_ok 11 rfl
theorem dX1_allPages_20 : decode cX1_allPages 20 = .ok (.iload_n 2, 1) := dec_at dlX1_allPages_0_ok 12 rfl
theorem dX1_allPages_21 : decode cX1_allPages 21 = .ok (.iaload, 1) := dec_at dlX1_allPages_0_ok 13 rfl
theorem dX1_allPages_22 : decode cX1_allPages 22 = .ok (.iadd, 1) := dec_at dlX1_allPages_0_ok 14 rfl
theorem dX1_allPages_23 : decode cX1_allPages 23 = .ok (.istore_n 1, 1) := dec_at dlX1_allPages_0_ok 15 rfl
theorem dX1_allPages_24 : decode cX1_allPages 24 = .ok (.iinc 2 1, 3) := dec_at dlX1_allPages_0_ok 16 rfl
theorem dX1_allPages_27 : decode cX1_allPages 27 = .ok (.goto (-23), 3) := dec_at dlX1_allPages_0_ok 17 rfl
theorem dX1_allPages_30 : decode cX1_allPages 30 = .ok (.iload_n 1, 1) := dec_at dlX1_allPages_0_ok 18 rfl
theorem dX1_allPages_31 : decode cX1_allPages 31 = .ok (.ireturn, 1) := dec_at dlX1_allPages_0_ok 19 rfl
noncomputable def dlX1_allGood_0 : List (Nat × Instr × Nat) := [(0, .iconst 0, 1), (1, .istore_n 1, 1), (2, .iconst 0, 1), (3, .istore_n 2, 1), (4, .iload_n 2, 1), (5, .aload_n 0, 1), (6, .getfield 34, 3), (9, .getfield 78, 3), (12, .if_icmp .ge 18, 3), (15, .iload_n 1, 1), (16, .aload_n 0, 1), (17, .getfield 31, 3), (20, .iload_n 2, 1), (21, .iaload, 1), (22, .iadd, 1), (23, .istore_n 1, 1), (24, .iinc 2 1, 3), (27, .goto (-23), 3), (30, .iload_n 1, 1), (31, .ireturn, 1)]
theorem dlX1_allGood_0_ok : dlX1_allGood_0.all (fun r => decide (decode cX1_allGood r.1 = .ok r.2)) = true := by decide +kernel
theorem dX1_allGood_0 : decode cX1_allGood 0 = .ok (.iconst 0, 1) := dec_at dlX1_allGood_0_ok 0 rfl
theorem dX1_allGood_1 : decode cX1_allGood 1 = .ok (.istore_n 1, 1) := dec_at dlX1_allGood_0_ok 1 rfl
theorem dX1_allGood_2 : decode cX1_allGood 2 = .ok (.iconst 0, 1) := dec_at dlX1_allGood_0_ok 2 rfl
theorem dX1_allGood_3 : decode cX1_allGood 3 = .ok (.istore_n 2, 1) := dec_at dlX1_allGood_0_ok 3 rfl
theorem dX1_allGood_4 : decode cX1_allGood 4 = .ok (.iload_n 2, 1) := dec_at dlX1_allGood_0_ok 4 rfl
theorem dX1_allGood_5 : decode cX1_allGood 5 = .ok (.aload_n 0, 1) := dec_at dlX1_allGood_0_ok 5 rfl
theorem dX1_allGood_6 : decode cX1_allGood 6 = .ok (.getfield 34, 3) := dec_at dlX1_allGood_0_ok 6 rfl
theorem dX1_allGood_9 : decode cX1_allGood 9 = .ok (.getfield 78, 3) := dec_at dlX1_allGood_0_ok 7 rfl
theorem dX1_allGood_12 : decode cX1_allGood 12 = .ok (.if_icmp .ge 18, 3) := dec_at dlX1_allGood_0_ok 8 rfl
theorem dX1_allGood_15 : decode cX1_allGood 15 = .ok (.iload_n 1, 1) := dec_at dlX1_allGood_0_ok 9 rfl
theorem dX1_allGood_16 : decode cX1_allGood 16 = .ok (.aload_n 0, 1) := dec_at dlX1_allGood_0_ok 10 rfl
theorem dX1_allGood_17 : decode cX1_allGood 17 = .ok (.getfield 31, 3) := dec_at dlX1_allGood_0_ok 11 rfl
theorem dX1_allGood_20 : decode cX1_allGood 20 = .ok (.iload_n 2, 1) := dec_at dlX1_allGood_0_ok 12 rfl
theorem dX1_allGood_21 : decode cX1_allGood 21 = .ok (.iaload, 1) := dec_at dlX1_allGood_0_ok 13 rfl
theorem dX1_allGood_22 : decode cX1_allGood 22 = .ok (.iadd, 1) := dec_at dlX1_allGood_0_ok 14 rfl
theorem dX1_allGood_23 : decode cX1_allGood 23 = .ok (.istore_n 1, 1) := dec_at dlX1_allGood_0_ok 15 rfl
theorem dX1_allGood_24 : decode cX1_allGood 24 = .ok (.iinc 2 1, 3) := dec_at dlX1_allGood_0_ok 16 rfl
theorem dX1_allGood_27 : decode cX1_allGood 27 = .ok (.goto (-23), 3) := dec_at dlX1_allGood_0_ok 17 rfl
theorem dX1_allGood_30 : decode cX1_allGood 30 = .ok (.iload_n 1, 1) := dec_at dlX1_allGood_0_ok 18 rfl
theorem dX1_allGood_31 : decode cX1_allGood 31 = .ok (.ireturn, 1) := dec_at dlX1_allGood_0_ok 19 rfl
noncomputable def dlX1_softQuills_0 : List (Nat × Instr × Nat) := [(0, .iconst 0, 1), (1, .istore_n 1, 1), (2, .iconst 0, 1), (3, .istore_n 2, 1), (4, .iload_n 2, 1), (5, .aload_n 0, 1), (6, .getfield 34, 3), (9, .getfield 81, 3), (12, .if_icmp .ge 26, 3), (15, .aload_n 0, 1), (16, .getfield 25, 3), (19, .iload_n 2, 1), (20, .iaload, 1), (21, .bipush 50, 2), (23, .if_icmp .le 9, 3), (26, .iload_n 1, 1), (27, .iconst 1, 1), (28, .iload_n 2, 1), (29, .ishl, 1), (30, .ior, 1), (31, .istore_n 1, 1), (32, .iinc 2 1, 3), (35, .goto (-31), 3), (38, .iload_n 1, 1), (39, .ireturn, 1)]
theorem dlX1_softQuills_0_ok : dlX1_softQuills_0.all (fun r => decide (decode cX1_softQuills r.1 = .ok r.2)) = true := by decide +kernel
theorem dX1_softQuills_0 : decode cX1_softQuills 0 = .ok (.iconst 0, 1) := dec_at dlX1_softQuills_0_ok 0 rfl
theorem dX1_softQuills_1 : decode cX1_softQuills 1 = .ok (.istore_n 1, 1) := dec_at dlX1_softQuills_0_ok 1 rfl
theorem dX1_softQuills_2 : decode cX1_softQuills 2 = .ok (.iconst 0, 1) := dec_at dlX1_softQuills_0_ok 2 rfl
theorem dX1_softQuills_3 : decode cX1_softQuills 3 = .ok (.istore_n 2, 1) := dec_at dlX1_softQuills_0_ok 3 rfl
theorem dX1_softQuills_4 : decode cX1_softQuills 4 = .ok (.iload_n 2, 1) := dec_at dlX1_softQuills_0_ok 4 rfl
theorem dX1_softQuills_5 : decode cX1_softQuills 5 = .ok (.aload_n 0, 1) := dec_at dlX1_softQuills_0_ok 5 rfl
theorem dX1_softQuills_6 : decode cX1_softQuills 6 = .ok (.getfield 34, 3) := dec_at dlX1_softQuills_0_ok 6 rfl
theorem dX1_softQuills_9 : decode cX1_softQuills 9 = .ok (.getfield 81, 3) := dec_at dlX1_softQuills_0_ok 7 rfl
theorem dX1_softQuills_12 : decode cX1_softQuills 12 = .ok (.if_icmp .ge 26, 3) := dec_at dlX1_softQuills_0_ok 8 rfl
theorem dX1_softQuills_15 : decode cX1_softQuills 15 = .ok (.aload_n 0, 1) := dec_at dlX1_softQuills_0_ok 9 rfl
theorem dX1_softQuills_16 : decode cX1_softQuills 16 = .ok (.getfield 25, 3) := dec_at dlX1_softQuills_0_ok 10 rfl
theorem dX1_softQuills_19 : decode cX1_softQuills 19 = .ok (.iload_n 2, 1) := dec_at dlX1_softQuills_0_ok 11 rfl
theorem dX1_softQuills_20 : decode cX1_softQuills 20 = .ok (.iaload, 1) := dec_at dlX1_softQuills_0_ok 12 rfl
theorem dX1_softQuills_21 : decode cX1_softQuills 21 = .ok (.bipush 50, 2) := dec_at dlX1_softQuills_0_ok 13 rfl
theorem dX1_softQuills_23 : decode cX1_softQuills 23 = .ok (.if_icmp .le 9, 3) := dec_at dlX1_softQuills_0_ok 14 rfl
theorem dX1_softQuills_26 : decode cX1_softQuills 26 = .ok (.iload_n 1, 1) := dec_at dlX1_softQuills_0_ok 15 rfl
theorem dX1_softQuills_27 : decode cX1_softQuills 27 = .ok (.iconst 1, 1) := dec_at dlX1_softQuills_0_ok 16 rfl
theorem dX1_softQuills_28 : decode cX1_softQuills 28 = .ok (.iload_n 2, 1) := dec_at dlX1_softQuills_0_ok 17 rfl
theorem dX1_softQuills_29 : decode cX1_softQuills 29 = .ok (.ishl, 1) := dec_at dlX1_softQuills_0_ok 18 rfl
theorem dX1_softQuills_30 : decode cX1_softQuills 30 = .ok (.ior, 1) := dec_at dlX1_softQuills_0_ok 19 rfl
theorem dX1_softQuills_31 : decode cX1_softQuills 31 = .ok (.istore_n 1, 1) := dec_at dlX1_softQuills_0_ok 20 rfl
theorem dX1_softQuills_32 : decode cX1_softQuills 32 = .ok (.iinc 2 1, 3) := dec_at dlX1_softQuills_0_ok 21 rfl
theorem dX1_softQuills_35 : decode cX1_softQuills 35 = .ok (.goto (-31), 3) := dec_at dlX1_softQuills_0_ok 22 rfl
theorem dX1_softQuills_38 : decode cX1_softQuills 38 = .ok (.iload_n 1, 1) := dec_at dlX1_softQuills_0_ok 23 rfl
theorem dX1_softQuills_39 : decode cX1_softQuills 39 = .ok (.ireturn, 1) := dec_at dlX1_softQuills_0_ok 24 rfl
noncomputable def dlX2_init_0 : List (Nat × Instr × Nat) := [(0, .aload_n 0, 1), (1, .invokespecial 3, 3), (4, .aload_n 0, 1), (5, .iconst 0, 1), (6, .putfield 9, 3), (9, .aload_n 0, 1), (10, .bipush 6, 2), (12, .newarray .int, 2), (14, .putfield 15, 3), (17, .aload_n 0, 1), (18, .bipush 6, 2), (20, .newarray .int, 2), (22, .putfield 19, 3), (25, .aload_n 0, 1), (26, .bipush 6, 2), (28, .newarray .int, 2), (30, .putfield 22, 3), (33, .aload_n 0, 1), (34, .aload_n 1, 1), (35, .putfield 25, 3), (38, .return_, 1)]
theorem dlX2_init_0_ok : dlX2_init_0.all (fun r => decide (decode cX2_init r.1 = .ok r.2)) = true := by decide +kernel
theorem dX2_init_0 : decode cX2_init 0 = .ok (.aload_n 0, 1) := dec_at dlX2_init_0_ok 0 rfl
theorem dX2_init_1 : decode cX2_init 1 = .ok (.invokespecial 3, 3) := dec_at dlX2_init_0_ok 1 rfl
theorem dX2_init_4 : decode cX2_init 4 = .ok (.aload_n 0, 1) := dec_at dlX2_init_0_ok 2 rfl
theorem dX2_init_5 : decode cX2_init 5 = .ok (.iconst 0, 1) := dec_at dlX2_init_0_ok 3 rfl
theorem dX2_init_6 : decode cX2_init 6 = .ok (.putfield 9, 3) := dec_at dlX2_init_0_ok 4 rfl
theorem dX2_init_9 : decode cX2_init 9 = .ok (.aload_n 0, 1) := dec_at dlX2_init_0_ok 5 rfl
theorem dX2_init_10 : decode cX2_init 10 = .ok (.bipush 6, 2) := dec_at dlX2_init_0_ok 6 rfl
theorem dX2_init_12 : decode cX2_init 12 = .ok (.newarray .int, 2) := dec_at dlX2_init_0_ok 7 rfl
theorem dX2_init_14 : decode cX2_init 14 = .ok (.putfield 15, 3) := dec_at dlX2_init_0_ok 8 rfl
theorem dX2_init_17 : decode cX2_init 17 = .ok (.aload_n 0, 1) := dec_at dlX2_init_0_ok 9 rfl
theorem dX2_init_18 : decode cX2_init 18 = .ok (.bipush 6, 2) := dec_at dlX2_init_0_ok 10 rfl
theorem dX2_init_20 : decode cX2_init 20 = .ok (.newarray .int, 2) := dec_at dlX2_init_0_ok 11 rfl
theorem dX2_init_22 : decode cX2_init 22 = .ok (.putfield 19, 3) := dec_at dlX2_init_0_ok 12 rfl
theorem dX2_init_25 : decode cX2_init 25 = .ok (.aload_n 0, 1) := dec_at dlX2_init_0_ok 13 rfl
theorem dX2_init_26 : decode cX2_init 26 = .ok (.bipush 6, 2) := dec_at dlX2_init_0_ok 14 rfl
theorem dX2_init_28 : decode cX2_init 28 = .ok (.newarray .int, 2) := dec_at dlX2_init_0_ok 15 rfl
theorem dX2_init_30 : decode cX2_init 30 = .ok (.putfield 22, 3) := dec_at dlX2_init_0_ok 16 rfl
theorem dX2_init_33 : decode cX2_init 33 = .ok (.aload_n 0, 1) := dec_at dlX2_init_0_ok 17 rfl
theorem dX2_init_34 : decode cX2_init 34 = .ok (.aload_n 1, 1) := dec_at dlX2_init_0_ok 18 rfl
theorem dX2_init_35 : decode cX2_init 35 = .ok (.putfield 25, 3) := dec_at dlX2_init_0_ok 19 rfl
theorem dX2_init_38 : decode cX2_init 38 = .ok (.return_, 1) := dec_at dlX2_init_0_ok 20 rfl
noncomputable def dlX2_add_0 : List (Nat × Instr × Nat) := [(0, .aload_n 0, 1), (1, .getfield 9, 3), (4, .bipush 6, 2), (6, .if_icmp .lt 4, 3), (9, .return_, 1), (10, .aload_n 0, 1), (11, .getfield 15, 3), (14, .aload_n 0, 1), (15, .getfield 9, 3), (18, .iload_n 1, 1), (19, .iastore, 1), (20, .aload_n 0, 1), (21, .getfield 19, 3), (24, .aload_n 0, 1), (25, .getfield 9, 3), (28, .iload_n 2, 1), (29, .iastore, 1), (30, .aload_n 0, 1), (31, .getfield 22, 3), (34, .aload_n 0, 1), (35, .getfield 9, 3), (38, .iload_n 3, 1), (39, .iastore, 1), (40, .aload_n 0, 1), (41, .dup, 1), (42, .getfield 9, 3), (45, .iconst 1, 1), (46, .iadd, 1), (47, .putfield 9, 3), (50, .return_, 1)]
theorem dlX2_add_0_ok : dlX2_add_0.all (fun r => decide (decode cX2_add r.1 = .ok r.2)) = true := by decide +kernel
theorem dX2_add_0 : decode cX2_add 0 = .ok (.aload_n 0, 1) := dec_at dlX2_add_0_ok 0 rfl
theorem dX2_add_1 : decode cX2_add 1 = .ok (.getfield 9, 3) := dec_at dlX2_add_0_ok 1 rfl
theorem dX2_add_4 : decode cX2_add 4 = .ok (.bipush 6, 2) := dec_at dlX2_add_0_ok 2 rfl
theorem dX2_add_6 : decode cX2_add 6 = .ok (.if_icmp .lt 4, 3) := dec_at dlX2_add_0_ok 3 rfl
theorem dX2_add_9 : decode cX2_add 9 = .ok (.return_, 1) := dec_at dlX2_add_0_ok 4 rfl
theorem dX2_add_10 : decode cX2_add 10 = .ok (.aload_n 0, 1) := dec_at dlX2_add_0_ok 5 rfl
theorem dX2_add_11 : decode cX2_add 11 = .ok (.getfield 15, 3) := dec_at dlX2_add_0_ok 6 rfl
theorem dX2_add_14 : decode cX2_add 14 = .ok (.aload_n 0, 1) := dec_at dlX2_add_0_ok 7 rfl
theorem dX2_add_15 : decode cX2_add 15 = .ok (.getfield 9, 3) := dec_at dlX2_add_0_ok 8 rfl
theorem dX2_add_18 : decode cX2_add 18 = .ok (.iload_n 1, 1) := dec_at dlX2_add_0_ok 9 rfl
theorem dX2_add_19 : decode cX2_add 19 = .ok (.iastore, 1) := dec_at dlX2_add_0_ok 10 rfl
theorem dX2_add_20 : decode cX2_add 20 = .ok (.aload_n 0, 1) := dec_at dlX2_add_0_ok 11 rfl
theorem dX2_add_21 : decode cX2_add 21 = .ok (.getfield 19, 3) := dec_at dlX2_add_0_ok 12 rfl
theorem dX2_add_24 : decode cX2_add 24 = .ok (.aload_n 0, 1) := dec_at dlX2_add_0_ok 13 rfl
theorem dX2_add_25 : decode cX2_add 25 = .ok (.getfield 9, 3) := dec_at dlX2_add_0_ok 14 rfl
theorem dX2_add_28 : decode cX2_add 28 = .ok (.iload_n 2, 1) := dec_at dlX2_add_0_ok 15 rfl
theorem dX2_add_29 : decode cX2_add 29 = .ok (.iastore, 1) := dec_at dlX2_add_0_ok 16 rfl
theorem dX2_add_30 : decode cX2_add 30 = .ok (.aload_n 0, 1) := dec_at dlX2_add_0_ok 17 rfl
theorem dX2_add_31 : decode cX2_add 31 = .ok (.getfield 22, 3) := dec_at dlX2_add_0_ok 18 rfl
theorem dX2_add_34 : decode cX2_add 34 = .ok (.aload_n 0, 1) := dec_at dlX2_add_0_ok 19 rfl
theorem dX2_add_35 : decode cX2_add 35 = .ok (.getfield 9, 3) := dec_at dlX2_add_0_ok 20 rfl
theorem dX2_add_38 : decode cX2_add 38 = .ok (.iload_n 3, 1) := dec_at dlX2_add_0_ok 21 rfl
theorem dX2_add_39 : decode cX2_add 39 = .ok (.iastore, 1) := dec_at dlX2_add_0_ok 22 rfl
theorem dX2_add_40 : decode cX2_add 40 = .ok (.aload_n 0, 1) := dec_at dlX2_add_0_ok 23 rfl
theorem dX2_add_41 : decode cX2_add 41 = .ok (.dup, 1) := dec_at dlX2_add_0_ok 24 rfl
theorem dX2_add_42 : decode cX2_add 42 = .ok (.getfield 9, 3) := dec_at dlX2_add_0_ok 25 rfl
theorem dX2_add_45 : decode cX2_add 45 = .ok (.iconst 1, 1) := dec_at dlX2_add_0_ok 26 rfl
theorem dX2_add_46 : decode cX2_add 46 = .ok (.iadd, 1) := dec_at dlX2_add_0_ok 27 rfl
theorem dX2_add_47 : decode cX2_add 47 = .ok (.putfield 9, 3) := dec_at dlX2_add_0_ok 28 rfl
theorem dX2_add_50 : decode cX2_add 50 = .ok (.return_, 1) := dec_at dlX2_add_0_ok 29 rfl
set_option maxRecDepth 20000 in
theorem ggX2_fittingHands_X2_allFits : GoodIn wsX2_fittingHands wsX2_allFits := goodIn_s _ [(7, 3), (1, 1), (10, 48)] rfl (by decide +kernel)
set_option maxRecDepth 20000 in
theorem gX2_fittingHands_X2_allFits : GoodIn wsX2_fittingHands (wsV RX2 34 RX2 yX2_allFits wsX2_allFits) := goodIn_app (goodIn_s _ [(3, 4)] rfl (by decide +kernel)) ggX2_fittingHands_X2_allFits
noncomputable def dlX2_fittingHands_0 : List (Nat × Instr × Nat) := [(0, .iconst 0, 1), (1, .istore_n 1, 1), (2, .iconst 0, 1), (3, .istore_n 2, 1), (4, .iload_n 2, 1), (5, .aload_n 0, 1), (6, .getfield 25, 3), (9, .getfield 29, 3), (12, .if_icmp .ge 23, 3), (15, .aload_n 0, 1), (16, .iload_n 2, 1), (17, .invokevirtual 34, 3), (20, .ifCond .eq 9, 3), (23, .iload_n 1, 1), (24, .iconst 1, 1), (25, .iload_n 2, 1), (26, .ishl, 1), (27, .ior, 1), (28, .istore_n 1, 1), (29, .iinc 2 1, 3), (32, .goto (-28), 3), (35, .iload_n 1, 1), (36, .ireturn, 1)]
theorem dlX2_fittingHands_0_ok : dlX2_fittingHands_0.all (fun r => decide (decode cX2_fittingHands r.1 = .ok r.2)) = true := by decide +kernel
theorem dX2_fittingHands_0 : decode cX2_fittingHands 0 = .ok (.iconst 0, 1) := dec_at dlX2_fittingHands_0_ok 0 rfl
theorem dX2_fittingHands_1 : decode cX2_fittingHands 1 = .ok (.istore_n 1, 1) := dec_at dlX2_fittingHands_0_ok 1 rfl
theorem dX2_fittingHands_2 : decode cX2_fittingHands 2 = .ok (.iconst 0, 1) := dec_at dlX2_fittingHands_0_ok 2 rfl
theorem dX2_fittingHands_3 : decode cX2_fittingHands 3 = .ok (.istore_n 2, 1) := dec_at dlX2_fittingHands_0_ok 3 rfl
theorem dX2_fittingHands_4 : decode cX2_fittingHands 4 = .ok (.iload_n 2, 1) := dec_at dlX2_fittingHands_0_ok 4 rfl
theorem dX2_fittingHands_5 : decode cX2_fittingHands 5 = .ok (.aload_n 0, 1) := dec_at dlX2_fittingHands_0_ok 5 rfl
theorem dX2_fittingHands_6 : decode cX2_fittingHands 6 = .ok (.getfield 25, 3) := dec_at dlX2_fittingHands_0_ok 6 rfl
theorem dX2_fittingHands_9 : decode cX2_fittingHands 9 = .ok (.getfield 29, 3) := dec_at dlX2_fittingHands_0_ok 7 rfl
theorem dX2_fittingHands_12 : decode cX2_fittingHands 12 = .ok (.if_icmp .ge 23, 3) := dec_at dlX2_fittingHands_0_ok 8 rfl
theorem dX2_fittingHands_15 : decode cX2_fittingHands 15 = .ok (.aload_n 0, 1) := dec_at dlX2_fittingHands_0_ok 9 rfl
theorem dX2_fittingHands_16 : decode cX2_fittingHands 16 = .ok (.iload_n 2, 1) := dec_at dlX2_fittingHands_0_ok 10 rfl
theorem dX2_fittingHands_17 : decode cX2_fittingHands 17 = .ok (.invokevirtual 34, 3) := dec_at dlX2_fittingHands_0_ok 11 rfl
theorem dX2_fittingHands_20 : decode cX2_fittingHands 20 = .ok (.ifCond .eq 9, 3) := dec_at dlX2_fittingHands_0_ok 12 rfl
theorem dX2_fittingHands_23 : decode cX2_fittingHands 23 = .ok (.iload_n 1, 1) := dec_at dlX2_fittingHands_0_ok 13 rfl
theorem dX2_fittingHands_24 : decode cX2_fittingHands 24 = .ok (.iconst 1, 1) := dec_at dlX2_fittingHands_0_ok 14 rfl
theorem dX2_fittingHands_25 : decode cX2_fittingHands 25 = .ok (.iload_n 2, 1) := dec_at dlX2_fittingHands_0_ok 15 rfl
theorem dX2_fittingHands_26 : decode cX2_fittingHands 26 = .ok (.ishl, 1) := dec_at dlX2_fittingHands_0_ok 16 rfl
theorem dX2_fittingHands_27 : decode cX2_fittingHands 27 = .ok (.ior, 1) := dec_at dlX2_fittingHands_0_ok 17 rfl
theorem dX2_fittingHands_28 : decode cX2_fittingHands 28 = .ok (.istore_n 1, 1) := dec_at dlX2_fittingHands_0_ok 18 rfl
theorem dX2_fittingHands_29 : decode cX2_fittingHands 29 = .ok (.iinc 2 1, 3) := dec_at dlX2_fittingHands_0_ok 19 rfl
theorem dX2_fittingHands_32 : decode cX2_fittingHands 32 = .ok (.goto (-28), 3) := dec_at dlX2_fittingHands_0_ok 20 rfl
theorem dX2_fittingHands_35 : decode cX2_fittingHands 35 = .ok (.iload_n 1, 1) := dec_at dlX2_fittingHands_0_ok 21 rfl
theorem dX2_fittingHands_36 : decode cX2_fittingHands 36 = .ok (.ireturn, 1) := dec_at dlX2_fittingHands_0_ok 22 rfl
set_option maxRecDepth 20000 in
theorem ggX2_allFits_X5_wear : GoodIn wsX2_allFits wsX5_wear := goodIn_s _ [(10, 9), (9, 1), (19, 9), (39, 13)] rfl (by decide +kernel)
set_option maxRecDepth 20000 in
theorem gX2_allFits_X5_wear : GoodIn wsX2_allFits (wsV RX2 38 RX5 yX5_wear wsX5_wear) := goodIn_app (goodIn_s _ [(6, 4)] rfl (by decide +kernel)) ggX2_allFits_X5_wear
set_option maxRecDepth 20000 in
theorem ggX2_allFits_X10_softerBy : GoodIn wsX2_allFits wsX10_softerBy := goodIn_s _ [(30, 3), (14, 1), (33, 1)] rfl (by decide +kernel)
set_option maxRecDepth 20000 in
theorem gX2_allFits_X10_softerBy_n42 : GoodIn wsX2_allFits (wsX10_softerBy) := ggX2_allFits_X10_softerBy
noncomputable def dlX2_allFits_0 : List (Nat × Instr × Nat) := [(0, .iconst 0, 1), (1, .istore_n 2, 1), (2, .iload_n 2, 1), (3, .aload_n 0, 1), (4, .getfield 9, 3), (7, .if_icmp .ge 45, 3), (10, .iconst 0, 1), (11, .aload_n 0, 1), (12, .getfield 19, 3), (15, .iload_n 2, 1), (16, .iaload, 1), (17, .aload_n 0, 1), (18, .getfield 25, 3), (21, .aload_n 0, 1), (22, .getfield 15, 3), (25, .iload_n 2, 1), (26, .iaload, 1), (27, .iload_n 1, 1), (28, .invokevirtual 38, 3), (31, .imul, 1), (32, .invokestatic 42, 3), (35, .aload_n 0, 1), (36, .getfield 22, 3), (39, .iload_n 2, 1), (40, .iaload, 1), (41, .if_icmp .eq 5, 3), (44, .iconst 0, 1), (45, .ireturn, 1), (46, .iinc 2 1, 3), (49, .goto (-47), 3), (52, .iconst 1, 1)]
theorem dlX2_allFits_0_ok : dlX2_allFits_0.all (fun r => decide (decode cX2_allFits r.1 = .ok r.2)) = true := by decide +kernel
theorem dX2_allFits_0 : decode cX2_allFits 0 = .ok (.iconst 0, 1) := dec_at dlX2_allFits_0_ok 0 rfl
theorem dX2_allFits_1 : decode cX2_allFits 1 = .ok (.istore_n 2, 1) := dec_at dlX2_allFits_0_ok 1 rfl
theorem dX2_allFits_2 : decode cX2_allFits 2 = .ok (.iload_n 2, 1) := dec_at dlX2_allFits_0_ok 2 rfl
theorem dX2_allFits_3 : decode cX2_allFits 3 = .ok (.aload_n 0, 1) := dec_at dlX2_allFits_0_ok 3 rfl
theorem dX2_allFits_4 : decode cX2_allFits 4 = .ok (.getfield 9, 3) := dec_at dlX2_allFits_0_ok 4 rfl
theorem dX2_allFits_7 : decode cX2_allFits 7 = .ok (.if_icmp .ge 45, 3) := dec_at dlX2_allFits_0_ok 5 rfl
theorem dX2_allFits_10 : decode cX2_allFits 10 = .ok (.iconst 0, 1) := dec_at dlX2_allFits_0_ok 6 rfl
theorem dX2_allFits_11 : decode cX2_allFits 11 = .ok (.aload_n 0, 1) := dec_at dlX2_allFits_0_ok 7 rfl
theorem dX2_allFits_12 : decode cX2_allFits 12 = .ok (.getfield 19, 3) := dec_at dlX2_allFits_0_ok 8 rfl
theorem dX2_allFits_15 : decode cX2_allFits 15 = .ok (.iload_n 2, 1) := dec_at dlX2_allFits_0_ok 9 rfl
theorem dX2_allFits_16 : decode cX2_allFits 16 = .ok (.iaload, 1) := dec_at dlX2_allFits_0_ok 10 rfl
theorem dX2_allFits_17 : decode cX2_allFits 17 = .ok (.aload_n 0, 1) := dec_at dlX2_allFits_0_ok 11 rfl
theorem dX2_allFits_18 : decode cX2_allFits 18 = .ok (.getfield 25, 3) := dec_at dlX2_allFits_0_ok 12 rfl
theorem dX2_allFits_21 : decode cX2_allFits 21 = .ok (.aload_n 0, 1) := dec_at dlX2_allFits_0_ok 13 rfl
theorem dX2_allFits_22 : decode cX2_allFits 22 = .ok (.getfield 15, 3) := dec_at dlX2_allFits_0_ok 14 rfl
theorem dX2_allFits_25 : decode cX2_allFits 25 = .ok (.iload_n 2, 1) := dec_at dlX2_allFits_0_ok 15 rfl
theorem dX2_allFits_26 : decode cX2_allFits 26 = .ok (.iaload, 1) := dec_at dlX2_allFits_0_ok 16 rfl
theorem dX2_allFits_27 : decode cX2_allFits 27 = .ok (.iload_n 1, 1) := dec_at dlX2_allFits_0_ok 17 rfl
theorem dX2_allFits_28 : decode cX2_allFits 28 = .ok (.invokevirtual 38, 3) := dec_at dlX2_allFits_0_ok 18 rfl
theorem dX2_allFits_31 : decode cX2_allFits 31 = .ok (.imul, 1) := dec_at dlX2_allFits_0_ok 19 rfl
theorem dX2_allFits_32 : decode cX2_allFits 32 = .ok (.invokestatic 42, 3) := dec_at dlX2_allFits_0_ok 20 rfl
theorem dX2_allFits_35 : decode cX2_allFits 35 = .ok (.aload_n 0, 1) := dec_at dlX2_allFits_0_ok 21 rfl
theorem dX2_allFits_36 : decode cX2_allFits 36 = .ok (.getfield 22, 3) := dec_at dlX2_allFits_0_ok 22 rfl
theorem dX2_allFits_39 : decode cX2_allFits 39 = .ok (.iload_n 2, 1) := dec_at dlX2_allFits_0_ok 23 rfl
theorem dX2_allFits_40 : decode cX2_allFits 40 = .ok (.iaload, 1) := dec_at dlX2_allFits_0_ok 24 rfl
theorem dX2_allFits_41 : decode cX2_allFits 41 = .ok (.if_icmp .eq 5, 3) := dec_at dlX2_allFits_0_ok 25 rfl
theorem dX2_allFits_44 : decode cX2_allFits 44 = .ok (.iconst 0, 1) := dec_at dlX2_allFits_0_ok 26 rfl
theorem dX2_allFits_45 : decode cX2_allFits 45 = .ok (.ireturn, 1) := dec_at dlX2_allFits_0_ok 27 rfl
theorem dX2_allFits_46 : decode cX2_allFits 46 = .ok (.iinc 2 1, 3) := dec_at dlX2_allFits_0_ok 28 rfl
theorem dX2_allFits_49 : decode cX2_allFits 49 = .ok (.goto (-47), 3) := dec_at dlX2_allFits_0_ok 29 rfl
theorem dX2_allFits_52 : decode cX2_allFits 52 = .ok (.iconst 1, 1) := dec_at dlX2_allFits_0_ok 30 rfl
noncomputable def dlX2_allFits_53 : List (Nat × Instr × Nat) := [(53, .ireturn, 1)]
theorem dlX2_allFits_53_ok : dlX2_allFits_53.all (fun r => decide (decode cX2_allFits r.1 = .ok r.2)) = true := by decide +kernel
theorem dX2_allFits_53 : decode cX2_allFits 53 = .ok (.ireturn, 1) := dec_at dlX2_allFits_53_ok 0 rfl
set_option maxRecDepth 20000 in
theorem ggX2_bestToLookAt_X2_fittingHands : GoodIn wsX2_bestToLookAt wsX2_fittingHands := goodIn_s _ [(7, 1), (1, 1), (8, 4), (6, 1), (12, 33), (61, 18)] rfl (by decide +kernel)
set_option maxRecDepth 20000 in
theorem gX2_bestToLookAt_X2_fittingHands : GoodIn wsX2_bestToLookAt (wsV RX2 45 RX2 yX2_fittingHands wsX2_fittingHands) := goodIn_app (goodIn_s _ [(3, 4)] rfl (by decide +kernel)) ggX2_bestToLookAt_X2_fittingHands
set_option maxRecDepth 20000 in
theorem ggX2_bestToLookAt_J6_bitCount_0f7a4 : GoodIn wsX2_bestToLookAt wsJ6_bitCount_0f7a4 := goodIn_s _ [(48, 4)] rfl (by decide +kernel)
set_option maxRecDepth 20000 in
theorem gX2_bestToLookAt_J6_bitCount_0f7a4 : GoodIn wsX2_bestToLookAt (va_wsS RX2 49 yJ6_bitCount_0f7a4 wsJ6_bitCount_0f7a4) := goodIn_app (goodIn_s _ [(45, 3)] rfl (by decide +kernel)) ggX2_bestToLookAt_J6_bitCount_0f7a4
set_option maxRecDepth 20000 in
theorem ggX2_bestToLookAt_X2_greatestAlike : GoodIn wsX2_bestToLookAt wsX2_greatestAlike := goodIn_s _ [(55, 1), (1, 1), (8, 1), (56, 1), (24, 3), (57, 3), (6, 1), (60, 1), (17, 7), (27, 12), (61, 18)] rfl (by decide +kernel)
set_option maxRecDepth 20000 in
theorem gX2_bestToLookAt_X2_greatestAlike : GoodIn wsX2_bestToLookAt (wsV RX2 58 RX2 yX2_greatestAlike wsX2_greatestAlike) := goodIn_app (goodIn_s _ [(52, 3), (6, 1)] rfl (by decide +kernel)) ggX2_bestToLookAt_X2_greatestAlike
noncomputable def dlX2_bestToLookAt_0 : List (Nat × Instr × Nat) := [(0, .aload_n 0, 1), (1, .invokevirtual 45, 3), (4, .istore_n 1, 1), (5, .iconst (-1), 1), (6, .istore_n 2, 1), (7, .iload_n 1, 1), (8, .invokestatic 49, 3), (11, .istore_n 3, 1), (12, .iconst 0, 1), (13, .istore 4, 2), (15, .iload 4, 2), (17, .aload_n 0, 1), (18, .getfield 25, 3), (21, .getfield 55, 3), (24, .if_icmp .ge 30, 3), (27, .aload_n 0, 1), (28, .iload 4, 2), (30, .iload_n 1, 1), (31, .invokevirtual 58, 3), (34, .istore 5, 2), (36, .iload 5, 2), (38, .iload_n 3, 1), (39, .if_icmp .ge 9, 3), (42, .iload 5, 2), (44, .istore_n 3, 1), (45, .iload 4, 2), (47, .istore_n 2, 1), (48, .iinc 4 1, 3), (51, .goto (-36), 3), (54, .iload_n 2, 1), (55, .ireturn, 1)]
theorem dlX2_bestToLookAt_0_ok : dlX2_bestToLookAt_0.all (fun r => decide (decode cX2_bestToLookAt r.1 = .ok r.2)) = true := by decide +kernel
theorem dX2_bestToLookAt_0 : decode cX2_bestToLookAt 0 = .ok (.aload_n 0, 1) := dec_at dlX2_bestToLookAt_0_ok 0 rfl
theorem dX2_bestToLookAt_1 : decode cX2_bestToLookAt 1 = .ok (.invokevirtual 45, 3) := dec_at dlX2_bestToLookAt_0_ok 1 rfl
theorem dX2_bestToLookAt_4 : decode cX2_bestToLookAt 4 = .ok (.istore_n 1, 1) := dec_at dlX2_bestToLookAt_0_ok 2 rfl
theorem dX2_bestToLookAt_5 : decode cX2_bestToLookAt 5 = .ok (.iconst (-1), 1) := dec_at dlX2_bestToLookAt_0_ok 3 rfl
theorem dX2_bestToLookAt_6 : decode cX2_bestToLookAt 6 = .ok (.istore_n 2, 1) := dec_at dlX2_bestToLookAt_0_ok 4 rfl
theorem dX2_bestToLookAt_7 : decode cX2_bestToLookAt 7 = .ok (.iload_n 1, 1) := dec_at dlX2_bestToLookAt_0_ok 5 rfl
theorem dX2_bestToLookAt_8 : decode cX2_bestToLookAt 8 = .ok (.invokestatic 49, 3) := dec_at dlX2_bestToLookAt_0_ok 6 rfl
theorem dX2_bestToLookAt_11 : decode cX2_bestToLookAt 11 = .ok (.istore_n 3, 1) := dec_at dlX2_bestToLookAt_0_ok 7 rfl
theorem dX2_bestToLookAt_12 : decode cX2_bestToLookAt 12 = .ok (.iconst 0, 1) := dec_at dlX2_bestToLookAt_0_ok 8 rfl
theorem dX2_bestToLookAt_13 : decode cX2_bestToLookAt 13 = .ok (.istore 4, 2) := dec_at dlX2_bestToLookAt_0_ok 9 rfl
theorem dX2_bestToLookAt_15 : decode cX2_bestToLookAt 15 = .ok (.iload 4, 2) := dec_at dlX2_bestToLookAt_0_ok 10 rfl
theorem dX2_bestToLookAt_17 : decode cX2_bestToLookAt 17 = .ok (.aload_n 0, 1) := dec_at dlX2_bestToLookAt_0_ok 11 rfl
theorem dX2_bestToLookAt_18 : decode cX2_bestToLookAt 18 = .ok (.getfield 25, 3) := dec_at dlX2_bestToLookAt_0_ok 12 rfl
theorem dX2_bestToLookAt_21 : decode cX2_bestToLookAt 21 = .ok (.getfield 55, 3) := dec_at dlX2_bestToLookAt_0_ok 13 rfl
theorem dX2_bestToLookAt_24 : decode cX2_bestToLookAt 24 = .ok (.if_icmp .ge 30, 3) := dec_at dlX2_bestToLookAt_0_ok 14 rfl
theorem dX2_bestToLookAt_27 : decode cX2_bestToLookAt 27 = .ok (.aload_n 0, 1) := dec_at dlX2_bestToLookAt_0_ok 15 rfl
theorem dX2_bestToLookAt_28 : decode cX2_bestToLookAt 28 = .ok (.iload 4, 2) := dec_at dlX2_bestToLookAt_0_ok 16 rfl
theorem dX2_bestToLookAt_30 : decode cX2_bestToLookAt 30 = .ok (.iload_n 1, 1) := dec_at dlX2_bestToLookAt_0_ok 17 rfl
theorem dX2_bestToLookAt_31 : decode cX2_bestToLookAt 31 = .ok (.invokevirtual 58, 3) := dec_at dlX2_bestToLookAt_0_ok 18 rfl
theorem dX2_bestToLookAt_34 : decode cX2_bestToLookAt 34 = .ok (.istore 5, 2) := dec_at dlX2_bestToLookAt_0_ok 19 rfl
theorem dX2_bestToLookAt_36 : decode cX2_bestToLookAt 36 = .ok (.iload 5, 2) := dec_at dlX2_bestToLookAt_0_ok 20 rfl
theorem dX2_bestToLookAt_38 : decode cX2_bestToLookAt 38 = .ok (.iload_n 3, 1) := dec_at dlX2_bestToLookAt_0_ok 21 rfl
theorem dX2_bestToLookAt_39 : decode cX2_bestToLookAt 39 = .ok (.if_icmp .ge 9, 3) := dec_at dlX2_bestToLookAt_0_ok 22 rfl
theorem dX2_bestToLookAt_42 : decode cX2_bestToLookAt 42 = .ok (.iload 5, 2) := dec_at dlX2_bestToLookAt_0_ok 23 rfl
theorem dX2_bestToLookAt_44 : decode cX2_bestToLookAt 44 = .ok (.istore_n 3, 1) := dec_at dlX2_bestToLookAt_0_ok 24 rfl
theorem dX2_bestToLookAt_45 : decode cX2_bestToLookAt 45 = .ok (.iload 4, 2) := dec_at dlX2_bestToLookAt_0_ok 25 rfl
theorem dX2_bestToLookAt_47 : decode cX2_bestToLookAt 47 = .ok (.istore_n 2, 1) := dec_at dlX2_bestToLookAt_0_ok 26 rfl
theorem dX2_bestToLookAt_48 : decode cX2_bestToLookAt 48 = .ok (.iinc 4 1, 3) := dec_at dlX2_bestToLookAt_0_ok 27 rfl
theorem dX2_bestToLookAt_51 : decode cX2_bestToLookAt 51 = .ok (.goto (-36), 3) := dec_at dlX2_bestToLookAt_0_ok 28 rfl
theorem dX2_bestToLookAt_54 : decode cX2_bestToLookAt 54 = .ok (.iload_n 2, 1) := dec_at dlX2_bestToLookAt_0_ok 29 rfl
theorem dX2_bestToLookAt_55 : decode cX2_bestToLookAt 55 = .ok (.ireturn, 1) := dec_at dlX2_bestToLookAt_0_ok 30 rfl
set_option maxRecDepth 20000 in
theorem ggX2_greatestAlike_X2_alikeTo : GoodIn wsX2_greatestAlike wsX2_alikeTo := goodIn_s _ [(11, 1), (1, 2), (12, 7), (4, 3), (19, 30)] rfl (by decide +kernel)
set_option maxRecDepth 20000 in
theorem gX2_greatestAlike_X2_alikeTo : GoodIn wsX2_greatestAlike (wsV RX2 61 RX2 yX2_alikeTo wsX2_alikeTo) := goodIn_app (goodIn_s _ [(7, 4)] rfl (by decide +kernel)) ggX2_greatestAlike_X2_alikeTo
noncomputable def dlX2_greatestAlike_0 : List (Nat × Instr × Nat) := [(0, .iconst 0, 1), (1, .istore_n 3, 1), (2, .iconst 0, 1), (3, .istore 4, 2), (5, .iload 4, 2), (7, .aload_n 0, 1), (8, .getfield 25, 3), (11, .getfield 29, 3), (14, .if_icmp .ge 31, 3), (17, .iload_n 2, 1), (18, .iconst 1, 1), (19, .iload 4, 2), (21, .ishl, 1), (22, .iand, 1), (23, .ifCond .eq 16, 3), (26, .iload_n 3, 1), (27, .aload_n 0, 1), (28, .iload 4, 2), (30, .iload_n 1, 1), (31, .iload_n 2, 1), (32, .invokevirtual 61, 3), (35, .invokestatic 65, 3), (38, .istore_n 3, 1), (39, .iinc 4 1, 3), (42, .goto (-37), 3), (45, .iload_n 3, 1), (46, .ireturn, 1)]
theorem dlX2_greatestAlike_0_ok : dlX2_greatestAlike_0.all (fun r => decide (decode cX2_greatestAlike r.1 = .ok r.2)) = true := by decide +kernel
theorem dX2_greatestAlike_0 : decode cX2_greatestAlike 0 = .ok (.iconst 0, 1) := dec_at dlX2_greatestAlike_0_ok 0 rfl
theorem dX2_greatestAlike_1 : decode cX2_greatestAlike 1 = .ok (.istore_n 3, 1) := dec_at dlX2_greatestAlike_0_ok 1 rfl
theorem dX2_greatestAlike_2 : decode cX2_greatestAlike 2 = .ok (.iconst 0, 1) := dec_at dlX2_greatestAlike_0_ok 2 rfl
theorem dX2_greatestAlike_3 : decode cX2_greatestAlike 3 = .ok (.istore 4, 2) := dec_at dlX2_greatestAlike_0_ok 3 rfl
theorem dX2_greatestAlike_5 : decode cX2_greatestAlike 5 = .ok (.iload 4, 2) := dec_at dlX2_greatestAlike_0_ok 4 rfl
theorem dX2_greatestAlike_7 : decode cX2_greatestAlike 7 = .ok (.aload_n 0, 1) := dec_at dlX2_greatestAlike_0_ok 5 rfl
theorem dX2_greatestAlike_8 : decode cX2_greatestAlike 8 = .ok (.getfield 25, 3) := dec_at dlX2_greatestAlike_0_ok 6 rfl
theorem dX2_greatestAlike_11 : decode cX2_greatestAlike 11 = .ok (.getfield 29, 3) := dec_at dlX2_greatestAlike_0_ok 7 rfl
theorem dX2_greatestAlike_14 : decode cX2_greatestAlike 14 = .ok (.if_icmp .ge 31, 3) := dec_at dlX2_greatestAlike_0_ok 8 rfl
theorem dX2_greatestAlike_17 : decode cX2_greatestAlike 17 = .ok (.iload_n 2, 1) := dec_at dlX2_greatestAlike_0_ok 9 rfl
theorem dX2_greatestAlike_18 : decode cX2_greatestAlike 18 = .ok (.iconst 1, 1) := dec_at dlX2_greatestAlike_0_ok 10 rfl
theorem dX2_greatestAlike_19 : decode cX2_greatestAlike 19 = .ok (.iload 4, 2) := dec_at dlX2_greatestAlike_0_ok 11 rfl
theorem dX2_greatestAlike_21 : decode cX2_greatestAlike 21 = .ok (.ishl, 1) := dec_at dlX2_greatestAlike_0_ok 12 rfl
theorem dX2_greatestAlike_22 : decode cX2_greatestAlike 22 = .ok (.iand, 1) := dec_at dlX2_greatestAlike_0_ok 13 rfl
theorem dX2_greatestAlike_23 : decode cX2_greatestAlike 23 = .ok (.ifCond .eq 16, 3) := dec_at dlX2_greatestAlike_0_ok 14 rfl
theorem dX2_greatestAlike_26 : decode cX2_greatestAlike 26 = .ok (.iload_n 3, 1) := dec_at dlX2_greatestAlike_0_ok 15 rfl
theorem dX2_greatestAlike_27 : decode cX2_greatestAlike 27 = .ok (.aload_n 0, 1) := dec_at dlX2_greatestAlike_0_ok 16 rfl
theorem dX2_greatestAlike_28 : decode cX2_greatestAlike 28 = .ok (.iload 4, 2) := dec_at dlX2_greatestAlike_0_ok 17 rfl
theorem dX2_greatestAlike_30 : decode cX2_greatestAlike 30 = .ok (.iload_n 1, 1) := dec_at dlX2_greatestAlike_0_ok 18 rfl
theorem dX2_greatestAlike_31 : decode cX2_greatestAlike 31 = .ok (.iload_n 2, 1) := dec_at dlX2_greatestAlike_0_ok 19 rfl
theorem dX2_greatestAlike_32 : decode cX2_greatestAlike 32 = .ok (.invokevirtual 61, 3) := dec_at dlX2_greatestAlike_0_ok 20 rfl
theorem dX2_greatestAlike_35 : decode cX2_greatestAlike 35 = .ok (.invokestatic 65, 3) := dec_at dlX2_greatestAlike_0_ok 21 rfl
theorem dX2_greatestAlike_38 : decode cX2_greatestAlike 38 = .ok (.istore_n 3, 1) := dec_at dlX2_greatestAlike_0_ok 22 rfl
theorem dX2_greatestAlike_39 : decode cX2_greatestAlike 39 = .ok (.iinc 4 1, 3) := dec_at dlX2_greatestAlike_0_ok 23 rfl
theorem dX2_greatestAlike_42 : decode cX2_greatestAlike 42 = .ok (.goto (-37), 3) := dec_at dlX2_greatestAlike_0_ok 24 rfl
theorem dX2_greatestAlike_45 : decode cX2_greatestAlike 45 = .ok (.iload_n 3, 1) := dec_at dlX2_greatestAlike_0_ok 25 rfl
theorem dX2_greatestAlike_46 : decode cX2_greatestAlike 46 = .ok (.ireturn, 1) := dec_at dlX2_greatestAlike_0_ok 26 rfl
set_option maxRecDepth 20000 in
theorem ggX2_alikeTo_X5_wear : GoodIn wsX2_alikeTo wsX5_wear := goodIn_s _ [(7, 9), (6, 1), (16, 9), (30, 13)] rfl (by decide +kernel)
set_option maxRecDepth 20000 in
theorem gX2_alikeTo_X5_wear : GoodIn wsX2_alikeTo (wsV RX2 38 RX5 yX5_wear wsX5_wear) := goodIn_app (goodIn_s _ [(3, 4)] rfl (by decide +kernel)) ggX2_alikeTo_X5_wear
noncomputable def dlX2_alikeTo_0 : List (Nat × Instr × Nat) := [(0, .iconst 0, 1), (1, .istore 4, 2), (3, .iconst 0, 1), (4, .istore 5, 2), (6, .iload 5, 2), (8, .aload_n 0, 1), (9, .getfield 25, 3), (12, .getfield 29, 3), (15, .if_icmp .ge 43, 3), (18, .iload_n 3, 1), (19, .iconst 1, 1), (20, .iload 5, 2), (22, .ishl, 1), (23, .iand, 1), (24, .ifCond .eq 28, 3), (27, .aload_n 0, 1), (28, .getfield 25, 3), (31, .iload_n 2, 1), (32, .iload 5, 2), (34, .invokevirtual 38, 3), (37, .aload_n 0, 1), (38, .getfield 25, 3), (41, .iload_n 2, 1), (42, .iload_n 1, 1), (43, .invokevirtual 38, 3), (46, .if_icmp .ne 6, 3), (49, .iinc 4 1, 3), (52, .iinc 5 1, 3), (55, .goto (-49), 3), (58, .iload 4, 2), (60, .ireturn, 1)]
theorem dlX2_alikeTo_0_ok : dlX2_alikeTo_0.all (fun r => decide (decode cX2_alikeTo r.1 = .ok r.2)) = true := by decide +kernel
theorem dX2_alikeTo_0 : decode cX2_alikeTo 0 = .ok (.iconst 0, 1) := dec_at dlX2_alikeTo_0_ok 0 rfl
theorem dX2_alikeTo_1 : decode cX2_alikeTo 1 = .ok (.istore 4, 2) := dec_at dlX2_alikeTo_0_ok 1 rfl
theorem dX2_alikeTo_3 : decode cX2_alikeTo 3 = .ok (.iconst 0, 1) := dec_at dlX2_alikeTo_0_ok 2 rfl
theorem dX2_alikeTo_4 : decode cX2_alikeTo 4 = .ok (.istore 5, 2) := dec_at dlX2_alikeTo_0_ok 3 rfl
theorem dX2_alikeTo_6 : decode cX2_alikeTo 6 = .ok (.iload 5, 2) := dec_at dlX2_alikeTo_0_ok 4 rfl
theorem dX2_alikeTo_8 : decode cX2_alikeTo 8 = .ok (.aload_n 0, 1) := dec_at dlX2_alikeTo_0_ok 5 rfl
theorem dX2_alikeTo_9 : decode cX2_alikeTo 9 = .ok (.getfield 25, 3) := dec_at dlX2_alikeTo_0_ok 6 rfl
theorem dX2_alikeTo_12 : decode cX2_alikeTo 12 = .ok (.getfield 29, 3) := dec_at dlX2_alikeTo_0_ok 7 rfl
theorem dX2_alikeTo_15 : decode cX2_alikeTo 15 = .ok (.if_icmp .ge 43, 3) := dec_at dlX2_alikeTo_0_ok 8 rfl
theorem dX2_alikeTo_18 : decode cX2_alikeTo 18 = .ok (.iload_n 3, 1) := dec_at dlX2_alikeTo_0_ok 9 rfl
theorem dX2_alikeTo_19 : decode cX2_alikeTo 19 = .ok (.iconst 1, 1) := dec_at dlX2_alikeTo_0_ok 10 rfl
theorem dX2_alikeTo_20 : decode cX2_alikeTo 20 = .ok (.iload 5, 2) := dec_at dlX2_alikeTo_0_ok 11 rfl
theorem dX2_alikeTo_22 : decode cX2_alikeTo 22 = .ok (.ishl, 1) := dec_at dlX2_alikeTo_0_ok 12 rfl
theorem dX2_alikeTo_23 : decode cX2_alikeTo 23 = .ok (.iand, 1) := dec_at dlX2_alikeTo_0_ok 13 rfl
theorem dX2_alikeTo_24 : decode cX2_alikeTo 24 = .ok (.ifCond .eq 28, 3) := dec_at dlX2_alikeTo_0_ok 14 rfl
theorem dX2_alikeTo_27 : decode cX2_alikeTo 27 = .ok (.aload_n 0, 1) := dec_at dlX2_alikeTo_0_ok 15 rfl
theorem dX2_alikeTo_28 : decode cX2_alikeTo 28 = .ok (.getfield 25, 3) := dec_at dlX2_alikeTo_0_ok 16 rfl
theorem dX2_alikeTo_31 : decode cX2_alikeTo 31 = .ok (.iload_n 2, 1) := dec_at dlX2_alikeTo_0_ok 17 rfl
theorem dX2_alikeTo_32 : decode cX2_alikeTo 32 = .ok (.iload 5, 2) := dec_at dlX2_alikeTo_0_ok 18 rfl
theorem dX2_alikeTo_34 : decode cX2_alikeTo 34 = .ok (.invokevirtual 38, 3) := dec_at dlX2_alikeTo_0_ok 19 rfl
theorem dX2_alikeTo_37 : decode cX2_alikeTo 37 = .ok (.aload_n 0, 1) := dec_at dlX2_alikeTo_0_ok 20 rfl
theorem dX2_alikeTo_38 : decode cX2_alikeTo 38 = .ok (.getfield 25, 3) := dec_at dlX2_alikeTo_0_ok 21 rfl
theorem dX2_alikeTo_41 : decode cX2_alikeTo 41 = .ok (.iload_n 2, 1) := dec_at dlX2_alikeTo_0_ok 22 rfl
theorem dX2_alikeTo_42 : decode cX2_alikeTo 42 = .ok (.iload_n 1, 1) := dec_at dlX2_alikeTo_0_ok 23 rfl
theorem dX2_alikeTo_43 : decode cX2_alikeTo 43 = .ok (.invokevirtual 38, 3) := dec_at dlX2_alikeTo_0_ok 24 rfl
theorem dX2_alikeTo_46 : decode cX2_alikeTo 46 = .ok (.if_icmp .ne 6, 3) := dec_at dlX2_alikeTo_0_ok 25 rfl
theorem dX2_alikeTo_49 : decode cX2_alikeTo 49 = .ok (.iinc 4 1, 3) := dec_at dlX2_alikeTo_0_ok 26 rfl
theorem dX2_alikeTo_52 : decode cX2_alikeTo 52 = .ok (.iinc 5 1, 3) := dec_at dlX2_alikeTo_0_ok 27 rfl
theorem dX2_alikeTo_55 : decode cX2_alikeTo 55 = .ok (.goto (-49), 3) := dec_at dlX2_alikeTo_0_ok 28 rfl
theorem dX2_alikeTo_58 : decode cX2_alikeTo 58 = .ok (.iload 4, 2) := dec_at dlX2_alikeTo_0_ok 29 rfl
theorem dX2_alikeTo_60 : decode cX2_alikeTo 60 = .ok (.ireturn, 1) := dec_at dlX2_alikeTo_0_ok 30 rfl
set_option maxRecDepth 20000 in
theorem ggX3_init_X1_init : GoodIn wsX3_init wsX1_init := goodIn_s _ [(12, 2), (2, 2), (14, 9), (26, 8)] rfl (by decide +kernel)
set_option maxRecDepth 20000 in
theorem gX3_init_X1_init : GoodIn wsX3_init (wsX1_init) := ggX3_init_X1_init
noncomputable def dlX3_init_0 : List (Nat × Instr × Nat) := [(0, .aload_n 0, 1), (1, .invokespecial 1, 3), (4, .aload_n 0, 1), (5, .bipush 20, 2), (7, .anewarray 9, 3), (10, .putfield 11, 3), (13, .aload_n 0, 1), (14, .iconst 0, 1), (15, .putfield 15, 3), (18, .aload_n 0, 1), (19, .iconst 0, 1), (20, .putfield 19, 3), (23, .iconst 0, 1), (24, .istore_n 2, 1), (25, .iload_n 2, 1), (26, .bipush 20, 2), (28, .if_icmp .ge 23, 3), (31, .aload_n 0, 1), (32, .getfield 11, 3), (35, .iload_n 2, 1), (36, .new 9, 3), (39, .dup, 1), (40, .aload_n 1, 1), (41, .invokespecial 22, 3), (44, .aastore, 1), (45, .iinc 2 1, 3), (48, .goto (-23), 3), (51, .return_, 1)]
theorem dlX3_init_0_ok : dlX3_init_0.all (fun r => decide (decode cX3_init r.1 = .ok r.2)) = true := by decide +kernel
theorem dX3_init_0 : decode cX3_init 0 = .ok (.aload_n 0, 1) := dec_at dlX3_init_0_ok 0 rfl
theorem dX3_init_1 : decode cX3_init 1 = .ok (.invokespecial 1, 3) := dec_at dlX3_init_0_ok 1 rfl
theorem dX3_init_4 : decode cX3_init 4 = .ok (.aload_n 0, 1) := dec_at dlX3_init_0_ok 2 rfl
theorem dX3_init_5 : decode cX3_init 5 = .ok (.bipush 20, 2) := dec_at dlX3_init_0_ok 3 rfl
theorem dX3_init_7 : decode cX3_init 7 = .ok (.anewarray 9, 3) := dec_at dlX3_init_0_ok 4 rfl
theorem dX3_init_10 : decode cX3_init 10 = .ok (.putfield 11, 3) := dec_at dlX3_init_0_ok 5 rfl
theorem dX3_init_13 : decode cX3_init 13 = .ok (.aload_n 0, 1) := dec_at dlX3_init_0_ok 6 rfl
theorem dX3_init_14 : decode cX3_init 14 = .ok (.iconst 0, 1) := dec_at dlX3_init_0_ok 7 rfl
theorem dX3_init_15 : decode cX3_init 15 = .ok (.putfield 15, 3) := dec_at dlX3_init_0_ok 8 rfl
theorem dX3_init_18 : decode cX3_init 18 = .ok (.aload_n 0, 1) := dec_at dlX3_init_0_ok 9 rfl
theorem dX3_init_19 : decode cX3_init 19 = .ok (.iconst 0, 1) := dec_at dlX3_init_0_ok 10 rfl
theorem dX3_init_20 : decode cX3_init 20 = .ok (.putfield 19, 3) := dec_at dlX3_init_0_ok 11 rfl
theorem dX3_init_23 : decode cX3_init 23 = .ok (.iconst 0, 1) := dec_at dlX3_init_0_ok 12 rfl
theorem dX3_init_24 : decode cX3_init 24 = .ok (.istore_n 2, 1) := dec_at dlX3_init_0_ok 13 rfl
theorem dX3_init_25 : decode cX3_init 25 = .ok (.iload_n 2, 1) := dec_at dlX3_init_0_ok 14 rfl
theorem dX3_init_26 : decode cX3_init 26 = .ok (.bipush 20, 2) := dec_at dlX3_init_0_ok 15 rfl
theorem dX3_init_28 : decode cX3_init 28 = .ok (.if_icmp .ge 23, 3) := dec_at dlX3_init_0_ok 16 rfl
theorem dX3_init_31 : decode cX3_init 31 = .ok (.aload_n 0, 1) := dec_at dlX3_init_0_ok 17 rfl
theorem dX3_init_32 : decode cX3_init 32 = .ok (.getfield 11, 3) := dec_at dlX3_init_0_ok 18 rfl
theorem dX3_init_35 : decode cX3_init 35 = .ok (.iload_n 2, 1) := dec_at dlX3_init_0_ok 19 rfl
theorem dX3_init_36 : decode cX3_init 36 = .ok (.new 9, 3) := dec_at dlX3_init_0_ok 20 rfl
theorem dX3_init_39 : decode cX3_init 39 = .ok (.dup, 1) := dec_at dlX3_init_0_ok 21 rfl
theorem dX3_init_40 : decode cX3_init 40 = .ok (.aload_n 1, 1) := dec_at dlX3_init_0_ok 22 rfl
theorem dX3_init_41 : decode cX3_init 41 = .ok (.invokespecial 22, 3) := dec_at dlX3_init_0_ok 23 rfl
theorem dX3_init_44 : decode cX3_init 44 = .ok (.aastore, 1) := dec_at dlX3_init_0_ok 24 rfl
theorem dX3_init_45 : decode cX3_init 45 = .ok (.iinc 2 1, 3) := dec_at dlX3_init_0_ok 25 rfl
theorem dX3_init_48 : decode cX3_init 48 = .ok (.goto (-23), 3) := dec_at dlX3_init_0_ok 26 rfl
theorem dX3_init_51 : decode cX3_init 51 = .ok (.return_, 1) := dec_at dlX3_init_0_ok 27 rfl
noncomputable def dlX3_forget_0 : List (Nat × Instr × Nat) := [(0, .aload_n 0, 1), (1, .iconst 0, 1), (2, .putfield 19, 3), (5, .return_, 1)]
theorem dlX3_forget_0_ok : dlX3_forget_0.all (fun r => decide (decode cX3_forget r.1 = .ok r.2)) = true := by decide +kernel
theorem dX3_forget_0 : decode cX3_forget 0 = .ok (.aload_n 0, 1) := dec_at dlX3_forget_0_ok 0 rfl
theorem dX3_forget_1 : decode cX3_forget 1 = .ok (.iconst 0, 1) := dec_at dlX3_forget_0_ok 1 rfl
theorem dX3_forget_2 : decode cX3_forget 2 = .ok (.putfield 19, 3) := dec_at dlX3_forget_0_ok 2 rfl
theorem dX3_forget_5 : decode cX3_forget 5 = .ok (.return_, 1) := dec_at dlX3_forget_0_ok 3 rfl
set_option maxRecDepth 20000 in
theorem ggX3_push_X1_copyFrom : GoodIn wsX3_push wsX1_copyFrom := goodIn_s _ [(8, 12), (23, 8)] rfl (by decide +kernel)
set_option maxRecDepth 20000 in
theorem gX3_push_X1_copyFrom : GoodIn wsX3_push (wsV RX3 25 RX1 yX1_copyFrom wsX1_copyFrom) := goodIn_app (goodIn_s _ [(4, 4)] rfl (by decide +kernel)) ggX3_push_X1_copyFrom
noncomputable def dlX3_push_0 : List (Nat × Instr × Nat) := [(0, .aload_n 0, 1), (1, .getfield 11, 3), (4, .aload_n 0, 1), (5, .getfield 15, 3), (8, .aload_n 0, 1), (9, .getfield 19, 3), (12, .iadd, 1), (13, .bipush 20, 2), (15, .irem, 1), (16, .aaload, 1), (17, .aload_n 1, 1), (18, .invokevirtual 25, 3), (21, .aload_n 0, 1), (22, .getfield 19, 3), (25, .bipush 20, 2), (27, .if_icmp .ge 16, 3), (30, .aload_n 0, 1), (31, .dup, 1), (32, .getfield 19, 3), (35, .iconst 1, 1), (36, .iadd, 1), (37, .putfield 19, 3), (40, .goto 16, 3), (43, .aload_n 0, 1), (44, .aload_n 0, 1), (45, .getfield 15, 3), (48, .iconst 1, 1), (49, .iadd, 1), (50, .bipush 20, 2), (52, .irem, 1), (53, .putfield 15, 3)]
theorem dlX3_push_0_ok : dlX3_push_0.all (fun r => decide (decode cX3_push r.1 = .ok r.2)) = true := by decide +kernel
theorem dX3_push_0 : decode cX3_push 0 = .ok (.aload_n 0, 1) := dec_at dlX3_push_0_ok 0 rfl
theorem dX3_push_1 : decode cX3_push 1 = .ok (.getfield 11, 3) := dec_at dlX3_push_0_ok 1 rfl
theorem dX3_push_4 : decode cX3_push 4 = .ok (.aload_n 0, 1) := dec_at dlX3_push_0_ok 2 rfl
theorem dX3_push_5 : decode cX3_push 5 = .ok (.getfield 15, 3) := dec_at dlX3_push_0_ok 3 rfl
theorem dX3_push_8 : decode cX3_push 8 = .ok (.aload_n 0, 1) := dec_at dlX3_push_0_ok 4 rfl
theorem dX3_push_9 : decode cX3_push 9 = .ok (.getfield 19, 3) := dec_at dlX3_push_0_ok 5 rfl
theorem dX3_push_12 : decode cX3_push 12 = .ok (.iadd, 1) := dec_at dlX3_push_0_ok 6 rfl
theorem dX3_push_13 : decode cX3_push 13 = .ok (.bipush 20, 2) := dec_at dlX3_push_0_ok 7 rfl
theorem dX3_push_15 : decode cX3_push 15 = .ok (.irem, 1) := dec_at dlX3_push_0_ok 8 rfl
theorem dX3_push_16 : decode cX3_push 16 = .ok (.aaload, 1) := dec_at dlX3_push_0_ok 9 rfl
theorem dX3_push_17 : decode cX3_push 17 = .ok (.aload_n 1, 1) := dec_at dlX3_push_0_ok 10 rfl
theorem dX3_push_18 : decode cX3_push 18 = .ok (.invokevirtual 25, 3) := dec_at dlX3_push_0_ok 11 rfl
theorem dX3_push_21 : decode cX3_push 21 = .ok (.aload_n 0, 1) := dec_at dlX3_push_0_ok 12 rfl
theorem dX3_push_22 : decode cX3_push 22 = .ok (.getfield 19, 3) := dec_at dlX3_push_0_ok 13 rfl
theorem dX3_push_25 : decode cX3_push 25 = .ok (.bipush 20, 2) := dec_at dlX3_push_0_ok 14 rfl
theorem dX3_push_27 : decode cX3_push 27 = .ok (.if_icmp .ge 16, 3) := dec_at dlX3_push_0_ok 15 rfl
theorem dX3_push_30 : decode cX3_push 30 = .ok (.aload_n 0, 1) := dec_at dlX3_push_0_ok 16 rfl
theorem dX3_push_31 : decode cX3_push 31 = .ok (.dup, 1) := dec_at dlX3_push_0_ok 17 rfl
theorem dX3_push_32 : decode cX3_push 32 = .ok (.getfield 19, 3) := dec_at dlX3_push_0_ok 18 rfl
theorem dX3_push_35 : decode cX3_push 35 = .ok (.iconst 1, 1) := dec_at dlX3_push_0_ok 19 rfl
theorem dX3_push_36 : decode cX3_push 36 = .ok (.iadd, 1) := dec_at dlX3_push_0_ok 20 rfl
theorem dX3_push_37 : decode cX3_push 37 = .ok (.putfield 19, 3) := dec_at dlX3_push_0_ok 21 rfl
theorem dX3_push_40 : decode cX3_push 40 = .ok (.goto 16, 3) := dec_at dlX3_push_0_ok 22 rfl
theorem dX3_push_43 : decode cX3_push 43 = .ok (.aload_n 0, 1) := dec_at dlX3_push_0_ok 23 rfl
theorem dX3_push_44 : decode cX3_push 44 = .ok (.aload_n 0, 1) := dec_at dlX3_push_0_ok 24 rfl
theorem dX3_push_45 : decode cX3_push 45 = .ok (.getfield 15, 3) := dec_at dlX3_push_0_ok 25 rfl
theorem dX3_push_48 : decode cX3_push 48 = .ok (.iconst 1, 1) := dec_at dlX3_push_0_ok 26 rfl
theorem dX3_push_49 : decode cX3_push 49 = .ok (.iadd, 1) := dec_at dlX3_push_0_ok 27 rfl
theorem dX3_push_50 : decode cX3_push 50 = .ok (.bipush 20, 2) := dec_at dlX3_push_0_ok 28 rfl
theorem dX3_push_52 : decode cX3_push 52 = .ok (.irem, 1) := dec_at dlX3_push_0_ok 29 rfl
theorem dX3_push_53 : decode cX3_push 53 = .ok (.putfield 15, 3) := dec_at dlX3_push_0_ok 30 rfl
noncomputable def dlX3_push_56 : List (Nat × Instr × Nat) := [(56, .return_, 1)]
theorem dlX3_push_56_ok : dlX3_push_56.all (fun r => decide (decode cX3_push r.1 = .ok r.2)) = true := by decide +kernel
theorem dX3_push_56 : decode cX3_push 56 = .ok (.return_, 1) := dec_at dlX3_push_56_ok 0 rfl
set_option maxRecDepth 20000 in
theorem ggX3_popInto_X1_copyFrom : GoodIn wsX3_popInto wsX1_copyFrom := goodIn_s _ [(8, 12), (23, 8)] rfl (by decide +kernel)
set_option maxRecDepth 20000 in
theorem gX3_popInto_X1_copyFrom : GoodIn wsX3_popInto (wsV RX3 25 RX1 yX1_copyFrom wsX1_copyFrom) := goodIn_app (goodIn_s _ [(4, 4)] rfl (by decide +kernel)) ggX3_popInto_X1_copyFrom
noncomputable def dlX3_popInto_0 : List (Nat × Instr × Nat) := [(0, .aload_n 0, 1), (1, .getfield 19, 3), (4, .ifCond .gt 4, 3), (7, .return_, 1), (8, .aload_n 0, 1), (9, .dup, 1), (10, .getfield 19, 3), (13, .iconst 1, 1), (14, .isub, 1), (15, .putfield 19, 3), (18, .aload_n 1, 1), (19, .aload_n 0, 1), (20, .getfield 11, 3), (23, .aload_n 0, 1), (24, .getfield 15, 3), (27, .aload_n 0, 1), (28, .getfield 19, 3), (31, .iadd, 1), (32, .bipush 20, 2), (34, .irem, 1), (35, .aaload, 1), (36, .invokevirtual 25, 3), (39, .return_, 1)]
theorem dlX3_popInto_0_ok : dlX3_popInto_0.all (fun r => decide (decode cX3_popInto r.1 = .ok r.2)) = true := by decide +kernel
theorem dX3_popInto_0 : decode cX3_popInto 0 = .ok (.aload_n 0, 1) := dec_at dlX3_popInto_0_ok 0 rfl
theorem dX3_popInto_1 : decode cX3_popInto 1 = .ok (.getfield 19, 3) := dec_at dlX3_popInto_0_ok 1 rfl
theorem dX3_popInto_4 : decode cX3_popInto 4 = .ok (.ifCond .gt 4, 3) := dec_at dlX3_popInto_0_ok 2 rfl
theorem dX3_popInto_7 : decode cX3_popInto 7 = .ok (.return_, 1) := dec_at dlX3_popInto_0_ok 3 rfl
theorem dX3_popInto_8 : decode cX3_popInto 8 = .ok (.aload_n 0, 1) := dec_at dlX3_popInto_0_ok 4 rfl
theorem dX3_popInto_9 : decode cX3_popInto 9 = .ok (.dup, 1) := dec_at dlX3_popInto_0_ok 5 rfl
theorem dX3_popInto_10 : decode cX3_popInto 10 = .ok (.getfield 19, 3) := dec_at dlX3_popInto_0_ok 6 rfl
theorem dX3_popInto_13 : decode cX3_popInto 13 = .ok (.iconst 1, 1) := dec_at dlX3_popInto_0_ok 7 rfl
theorem dX3_popInto_14 : decode cX3_popInto 14 = .ok (.isub, 1) := dec_at dlX3_popInto_0_ok 8 rfl
theorem dX3_popInto_15 : decode cX3_popInto 15 = .ok (.putfield 19, 3) := dec_at dlX3_popInto_0_ok 9 rfl
theorem dX3_popInto_18 : decode cX3_popInto 18 = .ok (.aload_n 1, 1) := dec_at dlX3_popInto_0_ok 10 rfl
theorem dX3_popInto_19 : decode cX3_popInto 19 = .ok (.aload_n 0, 1) := dec_at dlX3_popInto_0_ok 11 rfl
theorem dX3_popInto_20 : decode cX3_popInto 20 = .ok (.getfield 11, 3) := dec_at dlX3_popInto_0_ok 12 rfl
theorem dX3_popInto_23 : decode cX3_popInto 23 = .ok (.aload_n 0, 1) := dec_at dlX3_popInto_0_ok 13 rfl
theorem dX3_popInto_24 : decode cX3_popInto 24 = .ok (.getfield 15, 3) := dec_at dlX3_popInto_0_ok 14 rfl
theorem dX3_popInto_27 : decode cX3_popInto 27 = .ok (.aload_n 0, 1) := dec_at dlX3_popInto_0_ok 15 rfl
theorem dX3_popInto_28 : decode cX3_popInto 28 = .ok (.getfield 19, 3) := dec_at dlX3_popInto_0_ok 16 rfl
theorem dX3_popInto_31 : decode cX3_popInto 31 = .ok (.iadd, 1) := dec_at dlX3_popInto_0_ok 17 rfl
theorem dX3_popInto_32 : decode cX3_popInto 32 = .ok (.bipush 20, 2) := dec_at dlX3_popInto_0_ok 18 rfl
theorem dX3_popInto_34 : decode cX3_popInto 34 = .ok (.irem, 1) := dec_at dlX3_popInto_0_ok 19 rfl
theorem dX3_popInto_35 : decode cX3_popInto 35 = .ok (.aaload, 1) := dec_at dlX3_popInto_0_ok 20 rfl
theorem dX3_popInto_36 : decode cX3_popInto 36 = .ok (.invokevirtual 25, 3) := dec_at dlX3_popInto_0_ok 21 rfl
theorem dX3_popInto_39 : decode cX3_popInto 39 = .ok (.return_, 1) := dec_at dlX3_popInto_0_ok 22 rfl
set_option maxRecDepth 20000 in
theorem ggX4_init_X1_init : GoodIn wsX4_init wsX1_init := goodIn_s _ [(14, 2), (2, 2), (16, 2), (6, 1), (18, 6), (27, 8)] rfl (by decide +kernel)
set_option maxRecDepth 20000 in
theorem gX4_init_X1_init : GoodIn wsX4_init (wsX1_init) := ggX4_init_X1_init
noncomputable def dlX4_init_0 : List (Nat × Instr × Nat) := [(0, .aload_n 0, 1), (1, .invokespecial 1, 3), (4, .aload_n 0, 1), (5, .iconst 2, 1), (6, .anewarray 9, 3), (9, .putfield 11, 3), (12, .aload_n 0, 1), (13, .iconst 2, 1), (14, .newarray .int, 2), (16, .putfield 15, 3), (19, .aload_n 0, 1), (20, .iconst 2, 1), (21, .newarray .boolean, 2), (23, .putfield 19, 3), (26, .iconst 0, 1), (27, .istore_n 2, 1), (28, .iload_n 2, 1), (29, .iconst 2, 1), (30, .if_icmp .ge 23, 3), (33, .aload_n 0, 1), (34, .getfield 11, 3), (37, .iload_n 2, 1), (38, .new 9, 3), (41, .dup, 1), (42, .aload_n 1, 1), (43, .invokespecial 23, 3), (46, .aastore, 1), (47, .iinc 2 1, 3), (50, .goto (-22), 3), (53, .return_, 1)]
theorem dlX4_init_0_ok : dlX4_init_0.all (fun r => decide (decode cX4_init r.1 = .ok r.2)) = true := by decide +kernel
theorem dX4_init_0 : decode cX4_init 0 = .ok (.aload_n 0, 1) := dec_at dlX4_init_0_ok 0 rfl
theorem dX4_init_1 : decode cX4_init 1 = .ok (.invokespecial 1, 3) := dec_at dlX4_init_0_ok 1 rfl
theorem dX4_init_4 : decode cX4_init 4 = .ok (.aload_n 0, 1) := dec_at dlX4_init_0_ok 2 rfl
theorem dX4_init_5 : decode cX4_init 5 = .ok (.iconst 2, 1) := dec_at dlX4_init_0_ok 3 rfl
theorem dX4_init_6 : decode cX4_init 6 = .ok (.anewarray 9, 3) := dec_at dlX4_init_0_ok 4 rfl
theorem dX4_init_9 : decode cX4_init 9 = .ok (.putfield 11, 3) := dec_at dlX4_init_0_ok 5 rfl
theorem dX4_init_12 : decode cX4_init 12 = .ok (.aload_n 0, 1) := dec_at dlX4_init_0_ok 6 rfl
theorem dX4_init_13 : decode cX4_init 13 = .ok (.iconst 2, 1) := dec_at dlX4_init_0_ok 7 rfl
theorem dX4_init_14 : decode cX4_init 14 = .ok (.newarray .int, 2) := dec_at dlX4_init_0_ok 8 rfl
theorem dX4_init_16 : decode cX4_init 16 = .ok (.putfield 15, 3) := dec_at dlX4_init_0_ok 9 rfl
theorem dX4_init_19 : decode cX4_init 19 = .ok (.aload_n 0, 1) := dec_at dlX4_init_0_ok 10 rfl
theorem dX4_init_20 : decode cX4_init 20 = .ok (.iconst 2, 1) := dec_at dlX4_init_0_ok 11 rfl
theorem dX4_init_21 : decode cX4_init 21 = .ok (.newarray .boolean, 2) := dec_at dlX4_init_0_ok 12 rfl
theorem dX4_init_23 : decode cX4_init 23 = .ok (.putfield 19, 3) := dec_at dlX4_init_0_ok 13 rfl
theorem dX4_init_26 : decode cX4_init 26 = .ok (.iconst 0, 1) := dec_at dlX4_init_0_ok 14 rfl
theorem dX4_init_27 : decode cX4_init 27 = .ok (.istore_n 2, 1) := dec_at dlX4_init_0_ok 15 rfl
theorem dX4_init_28 : decode cX4_init 28 = .ok (.iload_n 2, 1) := dec_at dlX4_init_0_ok 16 rfl
theorem dX4_init_29 : decode cX4_init 29 = .ok (.iconst 2, 1) := dec_at dlX4_init_0_ok 17 rfl
theorem dX4_init_30 : decode cX4_init 30 = .ok (.if_icmp .ge 23, 3) := dec_at dlX4_init_0_ok 18 rfl
theorem dX4_init_33 : decode cX4_init 33 = .ok (.aload_n 0, 1) := dec_at dlX4_init_0_ok 19 rfl
theorem dX4_init_34 : decode cX4_init 34 = .ok (.getfield 11, 3) := dec_at dlX4_init_0_ok 20 rfl
theorem dX4_init_37 : decode cX4_init 37 = .ok (.iload_n 2, 1) := dec_at dlX4_init_0_ok 21 rfl
theorem dX4_init_38 : decode cX4_init 38 = .ok (.new 9, 3) := dec_at dlX4_init_0_ok 22 rfl
theorem dX4_init_41 : decode cX4_init 41 = .ok (.dup, 1) := dec_at dlX4_init_0_ok 23 rfl
theorem dX4_init_42 : decode cX4_init 42 = .ok (.aload_n 1, 1) := dec_at dlX4_init_0_ok 24 rfl
theorem dX4_init_43 : decode cX4_init 43 = .ok (.invokespecial 23, 3) := dec_at dlX4_init_0_ok 25 rfl
theorem dX4_init_46 : decode cX4_init 46 = .ok (.aastore, 1) := dec_at dlX4_init_0_ok 26 rfl
theorem dX4_init_47 : decode cX4_init 47 = .ok (.iinc 2 1, 3) := dec_at dlX4_init_0_ok 27 rfl
theorem dX4_init_50 : decode cX4_init 50 = .ok (.goto (-22), 3) := dec_at dlX4_init_0_ok 28 rfl
theorem dX4_init_53 : decode cX4_init 53 = .ok (.return_, 1) := dec_at dlX4_init_0_ok 29 rfl
noncomputable def dlX4_forget_0 : List (Nat × Instr × Nat) := [(0, .iconst 0, 1), (1, .istore_n 1, 1), (2, .iload_n 1, 1), (3, .iconst 2, 1), (4, .if_icmp .ge 16, 3), (7, .aload_n 0, 1), (8, .getfield 19, 3), (11, .iload_n 1, 1), (12, .iconst 0, 1), (13, .bastore, 1), (14, .iinc 1 1, 3), (17, .goto (-15), 3), (20, .return_, 1)]
theorem dlX4_forget_0_ok : dlX4_forget_0.all (fun r => decide (decode cX4_forget r.1 = .ok r.2)) = true := by decide +kernel
theorem dX4_forget_0 : decode cX4_forget 0 = .ok (.iconst 0, 1) := dec_at dlX4_forget_0_ok 0 rfl
theorem dX4_forget_1 : decode cX4_forget 1 = .ok (.istore_n 1, 1) := dec_at dlX4_forget_0_ok 1 rfl
theorem dX4_forget_2 : decode cX4_forget 2 = .ok (.iload_n 1, 1) := dec_at dlX4_forget_0_ok 2 rfl
theorem dX4_forget_3 : decode cX4_forget 3 = .ok (.iconst 2, 1) := dec_at dlX4_forget_0_ok 3 rfl
theorem dX4_forget_4 : decode cX4_forget 4 = .ok (.if_icmp .ge 16, 3) := dec_at dlX4_forget_0_ok 4 rfl
theorem dX4_forget_7 : decode cX4_forget 7 = .ok (.aload_n 0, 1) := dec_at dlX4_forget_0_ok 5 rfl
theorem dX4_forget_8 : decode cX4_forget 8 = .ok (.getfield 19, 3) := dec_at dlX4_forget_0_ok 6 rfl
theorem dX4_forget_11 : decode cX4_forget 11 = .ok (.iload_n 1, 1) := dec_at dlX4_forget_0_ok 7 rfl
theorem dX4_forget_12 : decode cX4_forget 12 = .ok (.iconst 0, 1) := dec_at dlX4_forget_0_ok 8 rfl
theorem dX4_forget_13 : decode cX4_forget 13 = .ok (.bastore, 1) := dec_at dlX4_forget_0_ok 9 rfl
theorem dX4_forget_14 : decode cX4_forget 14 = .ok (.iinc 1 1, 3) := dec_at dlX4_forget_0_ok 10 rfl
theorem dX4_forget_17 : decode cX4_forget 17 = .ok (.goto (-15), 3) := dec_at dlX4_forget_0_ok 11 rfl
theorem dX4_forget_20 : decode cX4_forget 20 = .ok (.return_, 1) := dec_at dlX4_forget_0_ok 12 rfl
noncomputable def dlX5_init_0 : List (Nat × Instr × Nat) := [(0, .aload_n 0, 1), (1, .invokespecial 3, 3), (4, .aload_n 0, 1), (5, .iconst 0, 1), (6, .putfield 9, 3), (9, .aload_n 0, 1), (10, .iconst 0, 1), (11, .putfield 15, 3), (14, .aload_n 0, 1), (15, .iconst 0, 1), (16, .putfield 19, 3), (19, .aload_n 0, 1), (20, .iconst 0, 1), (21, .putfield 22, 3), (24, .aload_n 0, 1), (25, .iconst 0, 1), (26, .putfield 25, 3), (29, .aload_n 0, 1), (30, .bipush 8, 2), (32, .newarray .int, 2), (34, .putfield 28, 3), (37, .aload_n 0, 1), (38, .bipush 8, 2), (40, .newarray .int, 2), (42, .putfield 32, 3), (45, .aload_n 0, 1), (46, .bipush 8, 2), (48, .newarray .int, 2), (50, .putfield 35, 3), (53, .aload_n 0, 1), (54, .bipush 8, 2)]
theorem dlX5_init_0_ok : dlX5_init_0.all (fun r => decide (decode cX5_init r.1 = .ok r.2)) = true := by decide +kernel
theorem dX5_init_0 : decode cX5_init 0 = .ok (.aload_n 0, 1) := dec_at dlX5_init_0_ok 0 rfl
theorem dX5_init_1 : decode cX5_init 1 = .ok (.invokespecial 3, 3) := dec_at dlX5_init_0_ok 1 rfl
theorem dX5_init_4 : decode cX5_init 4 = .ok (.aload_n 0, 1) := dec_at dlX5_init_0_ok 2 rfl
theorem dX5_init_5 : decode cX5_init 5 = .ok (.iconst 0, 1) := dec_at dlX5_init_0_ok 3 rfl
theorem dX5_init_6 : decode cX5_init 6 = .ok (.putfield 9, 3) := dec_at dlX5_init_0_ok 4 rfl
theorem dX5_init_9 : decode cX5_init 9 = .ok (.aload_n 0, 1) := dec_at dlX5_init_0_ok 5 rfl
theorem dX5_init_10 : decode cX5_init 10 = .ok (.iconst 0, 1) := dec_at dlX5_init_0_ok 6 rfl
theorem dX5_init_11 : decode cX5_init 11 = .ok (.putfield 15, 3) := dec_at dlX5_init_0_ok 7 rfl
theorem dX5_init_14 : decode cX5_init 14 = .ok (.aload_n 0, 1) := dec_at dlX5_init_0_ok 8 rfl
theorem dX5_init_15 : decode cX5_init 15 = .ok (.iconst 0, 1) := dec_at dlX5_init_0_ok 9 rfl
theorem dX5_init_16 : decode cX5_init 16 = .ok (.putfield 19, 3) := dec_at dlX5_init_0_ok 10 rfl
theorem dX5_init_19 : decode cX5_init 19 = .ok (.aload_n 0, 1) := dec_at dlX5_init_0_ok 11 rfl
theorem dX5_init_20 : decode cX5_init 20 = .ok (.iconst 0, 1) := dec_at dlX5_init_0_ok 12 rfl
theorem dX5_init_21 : decode cX5_init 21 = .ok (.putfield 22, 3) := dec_at dlX5_init_0_ok 13 rfl
theorem dX5_init_24 : decode cX5_init 24 = .ok (.aload_n 0, 1) := dec_at dlX5_init_0_ok 14 rfl
theorem dX5_init_25 : decode cX5_init 25 = .ok (.iconst 0, 1) := dec_at dlX5_init_0_ok 15 rfl
theorem dX5_init_26 : decode cX5_init 26 = .ok (.putfield 25, 3) := dec_at dlX5_init_0_ok 16 rfl
theorem dX5_init_29 : decode cX5_init 29 = .ok (.aload_n 0, 1) := dec_at dlX5_init_0_ok 17 rfl
theorem dX5_init_30 : decode cX5_init 30 = .ok (.bipush 8, 2) := dec_at dlX5_init_0_ok 18 rfl
theorem dX5_init_32 : decode cX5_init 32 = .ok (.newarray .int, 2) := dec_at dlX5_init_0_ok 19 rfl
theorem dX5_init_34 : decode cX5_init 34 = .ok (.putfield 28, 3) := dec_at dlX5_init_0_ok 20 rfl
theorem dX5_init_37 : decode cX5_init 37 = .ok (.aload_n 0, 1) := dec_at dlX5_init_0_ok 21 rfl
theorem dX5_init_38 : decode cX5_init 38 = .ok (.bipush 8, 2) := dec_at dlX5_init_0_ok 22 rfl
theorem dX5_init_40 : decode cX5_init 40 = .ok (.newarray .int, 2) := dec_at dlX5_init_0_ok 23 rfl
theorem dX5_init_42 : decode cX5_init 42 = .ok (.putfield 32, 3) := dec_at dlX5_init_0_ok 24 rfl
theorem dX5_init_45 : decode cX5_init 45 = .ok (.aload_n 0, 1) := dec_at dlX5_init_0_ok 25 rfl
theorem dX5_init_46 : decode cX5_init 46 = .ok (.bipush 8, 2) := dec_at dlX5_init_0_ok 26 rfl
theorem dX5_init_48 : decode cX5_init 48 = .ok (.newarray .int, 2) := dec_at dlX5_init_0_ok 27 rfl
theorem dX5_init_50 : decode cX5_init 50 = .ok (.putfield 35, 3) := dec_at dlX5_init_0_ok 28 rfl
theorem dX5_init_53 : decode cX5_init 53 = .ok (.aload_n 0, 1) := dec_at dlX5_init_0_ok 29 rfl
theorem dX5_init_54 : decode cX5_init 54 = .ok (.bipush 8, 2) := dec_at dlX5_init_0_ok 30 rfl
noncomputable def dlX5_init_56 : List (Nat × Instr × Nat) := [(56, .newarray .int, 2), (58, .putfield 38, 3), (61, .aload_n 0, 1), (62, .bipush 8, 2), (64, .newarray .int, 2), (66, .putfield 41, 3), (69, .aload_n 0, 1), (70, .iconst 4, 1), (71, .newarray .int, 2), (73, .putfield 44, 3), (76, .aload_n 0, 1), (77, .iconst 4, 1), (78, .newarray .int, 2), (80, .putfield 47, 3), (83, .aload_n 0, 1), (84, .iconst 4, 1), (85, .newarray .int, 2), (87, .putfield 50, 3), (90, .return_, 1)]
theorem dlX5_init_56_ok : dlX5_init_56.all (fun r => decide (decode cX5_init r.1 = .ok r.2)) = true := by decide +kernel
theorem dX5_init_56 : decode cX5_init 56 = .ok (.newarray .int, 2) := dec_at dlX5_init_56_ok 0 rfl
theorem dX5_init_58 : decode cX5_init 58 = .ok (.putfield 38, 3) := dec_at dlX5_init_56_ok 1 rfl
theorem dX5_init_61 : decode cX5_init 61 = .ok (.aload_n 0, 1) := dec_at dlX5_init_56_ok 2 rfl
theorem dX5_init_62 : decode cX5_init 62 = .ok (.bipush 8, 2) := dec_at dlX5_init_56_ok 3 rfl
theorem dX5_init_64 : decode cX5_init 64 = .ok (.newarray .int, 2) := dec_at dlX5_init_56_ok 4 rfl
theorem dX5_init_66 : decode cX5_init 66 = .ok (.putfield 41, 3) := dec_at dlX5_init_56_ok 5 rfl
theorem dX5_init_69 : decode cX5_init 69 = .ok (.aload_n 0, 1) := dec_at dlX5_init_56_ok 6 rfl
theorem dX5_init_70 : decode cX5_init 70 = .ok (.iconst 4, 1) := dec_at dlX5_init_56_ok 7 rfl
theorem dX5_init_71 : decode cX5_init 71 = .ok (.newarray .int, 2) := dec_at dlX5_init_56_ok 8 rfl
theorem dX5_init_73 : decode cX5_init 73 = .ok (.putfield 44, 3) := dec_at dlX5_init_56_ok 9 rfl
theorem dX5_init_76 : decode cX5_init 76 = .ok (.aload_n 0, 1) := dec_at dlX5_init_56_ok 10 rfl
theorem dX5_init_77 : decode cX5_init 77 = .ok (.iconst 4, 1) := dec_at dlX5_init_56_ok 11 rfl
theorem dX5_init_78 : decode cX5_init 78 = .ok (.newarray .int, 2) := dec_at dlX5_init_56_ok 12 rfl
theorem dX5_init_80 : decode cX5_init 80 = .ok (.putfield 47, 3) := dec_at dlX5_init_56_ok 13 rfl
theorem dX5_init_83 : decode cX5_init 83 = .ok (.aload_n 0, 1) := dec_at dlX5_init_56_ok 14 rfl
theorem dX5_init_84 : decode cX5_init 84 = .ok (.iconst 4, 1) := dec_at dlX5_init_56_ok 15 rfl
theorem dX5_init_85 : decode cX5_init 85 = .ok (.newarray .int, 2) := dec_at dlX5_init_56_ok 16 rfl
theorem dX5_init_87 : decode cX5_init 87 = .ok (.putfield 50, 3) := dec_at dlX5_init_56_ok 17 rfl
theorem dX5_init_90 : decode cX5_init 90 = .ok (.return_, 1) := dec_at dlX5_init_56_ok 18 rfl
noncomputable def dlX5_clear_0 : List (Nat × Instr × Nat) := [(0, .aload_n 0, 1), (1, .iconst 0, 1), (2, .putfield 9, 3), (5, .aload_n 0, 1), (6, .iconst 0, 1), (7, .putfield 15, 3), (10, .aload_n 0, 1), (11, .iconst 0, 1), (12, .putfield 19, 3), (15, .aload_n 0, 1), (16, .iconst 0, 1), (17, .putfield 22, 3), (20, .aload_n 0, 1), (21, .iconst 0, 1), (22, .putfield 25, 3), (25, .return_, 1)]
theorem dlX5_clear_0_ok : dlX5_clear_0.all (fun r => decide (decode cX5_clear r.1 = .ok r.2)) = true := by decide +kernel
theorem dX5_clear_0 : decode cX5_clear 0 = .ok (.aload_n 0, 1) := dec_at dlX5_clear_0_ok 0 rfl
theorem dX5_clear_1 : decode cX5_clear 1 = .ok (.iconst 0, 1) := dec_at dlX5_clear_0_ok 1 rfl
theorem dX5_clear_2 : decode cX5_clear 2 = .ok (.putfield 9, 3) := dec_at dlX5_clear_0_ok 2 rfl
theorem dX5_clear_5 : decode cX5_clear 5 = .ok (.aload_n 0, 1) := dec_at dlX5_clear_0_ok 3 rfl
theorem dX5_clear_6 : decode cX5_clear 6 = .ok (.iconst 0, 1) := dec_at dlX5_clear_0_ok 4 rfl
theorem dX5_clear_7 : decode cX5_clear 7 = .ok (.putfield 15, 3) := dec_at dlX5_clear_0_ok 5 rfl
theorem dX5_clear_10 : decode cX5_clear 10 = .ok (.aload_n 0, 1) := dec_at dlX5_clear_0_ok 6 rfl
theorem dX5_clear_11 : decode cX5_clear 11 = .ok (.iconst 0, 1) := dec_at dlX5_clear_0_ok 7 rfl
theorem dX5_clear_12 : decode cX5_clear 12 = .ok (.putfield 19, 3) := dec_at dlX5_clear_0_ok 8 rfl
theorem dX5_clear_15 : decode cX5_clear 15 = .ok (.aload_n 0, 1) := dec_at dlX5_clear_0_ok 9 rfl
theorem dX5_clear_16 : decode cX5_clear 16 = .ok (.iconst 0, 1) := dec_at dlX5_clear_0_ok 10 rfl
theorem dX5_clear_17 : decode cX5_clear 17 = .ok (.putfield 22, 3) := dec_at dlX5_clear_0_ok 11 rfl
theorem dX5_clear_20 : decode cX5_clear 20 = .ok (.aload_n 0, 1) := dec_at dlX5_clear_0_ok 12 rfl
theorem dX5_clear_21 : decode cX5_clear 21 = .ok (.iconst 0, 1) := dec_at dlX5_clear_0_ok 13 rfl
theorem dX5_clear_22 : decode cX5_clear 22 = .ok (.putfield 25, 3) := dec_at dlX5_clear_0_ok 14 rfl
theorem dX5_clear_25 : decode cX5_clear 25 = .ok (.return_, 1) := dec_at dlX5_clear_0_ok 15 rfl
noncomputable def dlX5_copyFrom_0 : List (Nat × Instr × Nat) := [(0, .aload_n 0, 1), (1, .aload_n 1, 1), (2, .getfield 9, 3), (5, .putfield 9, 3), (8, .aload_n 0, 1), (9, .aload_n 1, 1), (10, .getfield 15, 3), (13, .putfield 15, 3), (16, .aload_n 0, 1), (17, .aload_n 1, 1), (18, .getfield 19, 3), (21, .putfield 19, 3), (24, .aload_n 0, 1), (25, .aload_n 1, 1), (26, .getfield 22, 3), (29, .putfield 22, 3), (32, .aload_n 0, 1), (33, .aload_n 1, 1), (34, .getfield 25, 3), (37, .putfield 25, 3), (40, .aload_n 1, 1), (41, .getfield 28, 3), (44, .iconst 0, 1), (45, .aload_n 0, 1), (46, .getfield 28, 3), (49, .iconst 0, 1), (50, .bipush 8, 2), (52, .invokestatic 53, 3), (55, .aload_n 1, 1), (56, .getfield 32, 3), (59, .iconst 0, 1)]
theorem dlX5_copyFrom_0_ok : dlX5_copyFrom_0.all (fun r => decide (decode cX5_copyFrom r.1 = .ok r.2)) = true := by decide +kernel
theorem dX5_copyFrom_0 : decode cX5_copyFrom 0 = .ok (.aload_n 0, 1) := dec_at dlX5_copyFrom_0_ok 0 rfl
theorem dX5_copyFrom_1 : decode cX5_copyFrom 1 = .ok (.aload_n 1, 1) := dec_at dlX5_copyFrom_0_ok 1 rfl
theorem dX5_copyFrom_2 : decode cX5_copyFrom 2 = .ok (.getfield 9, 3) := dec_at dlX5_copyFrom_0_ok 2 rfl
theorem dX5_copyFrom_5 : decode cX5_copyFrom 5 = .ok (.putfield 9, 3) := dec_at dlX5_copyFrom_0_ok 3 rfl
theorem dX5_copyFrom_8 : decode cX5_copyFrom 8 = .ok (.aload_n 0, 1) := dec_at dlX5_copyFrom_0_ok 4 rfl
theorem dX5_copyFrom_9 : decode cX5_copyFrom 9 = .ok (.aload_n 1, 1) := dec_at dlX5_copyFrom_0_ok 5 rfl
theorem dX5_copyFrom_10 : decode cX5_copyFrom 10 = .ok (.getfield 15, 3) := dec_at dlX5_copyFrom_0_ok 6 rfl
theorem dX5_copyFrom_13 : decode cX5_copyFrom 13 = .ok (.putfield 15, 3) := dec_at dlX5_copyFrom_0_ok 7 rfl
theorem dX5_copyFrom_16 : decode cX5_copyFrom 16 = .ok (.aload_n 0, 1) := dec_at dlX5_copyFrom_0_ok 8 rfl
theorem dX5_copyFrom_17 : decode cX5_copyFrom 17 = .ok (.aload_n 1, 1) := dec_at dlX5_copyFrom_0_ok 9 rfl
theorem dX5_copyFrom_18 : decode cX5_copyFrom 18 = .ok (.getfield 19, 3) := dec_at dlX5_copyFrom_0_ok 10 rfl
theorem dX5_copyFrom_21 : decode cX5_copyFrom 21 = .ok (.putfield 19, 3) := dec_at dlX5_copyFrom_0_ok 11 rfl
theorem dX5_copyFrom_24 : decode cX5_copyFrom 24 = .ok (.aload_n 0, 1) := dec_at dlX5_copyFrom_0_ok 12 rfl
theorem dX5_copyFrom_25 : decode cX5_copyFrom 25 = .ok (.aload_n 1, 1) := dec_at dlX5_copyFrom_0_ok 13 rfl
theorem dX5_copyFrom_26 : decode cX5_copyFrom 26 = .ok (.getfield 22, 3) := dec_at dlX5_copyFrom_0_ok 14 rfl
theorem dX5_copyFrom_29 : decode cX5_copyFrom 29 = .ok (.putfield 22, 3) := dec_at dlX5_copyFrom_0_ok 15 rfl
theorem dX5_copyFrom_32 : decode cX5_copyFrom 32 = .ok (.aload_n 0, 1) := dec_at dlX5_copyFrom_0_ok 16 rfl
theorem dX5_copyFrom_33 : decode cX5_copyFrom 33 = .ok (.aload_n 1, 1) := dec_at dlX5_copyFrom_0_ok 17 rfl
theorem dX5_copyFrom_34 : decode cX5_copyFrom 34 = .ok (.getfield 25, 3) := dec_at dlX5_copyFrom_0_ok 18 rfl
theorem dX5_copyFrom_37 : decode cX5_copyFrom 37 = .ok (.putfield 25, 3) := dec_at dlX5_copyFrom_0_ok 19 rfl
theorem dX5_copyFrom_40 : decode cX5_copyFrom 40 = .ok (.aload_n 1, 1) := dec_at dlX5_copyFrom_0_ok 20 rfl
theorem dX5_copyFrom_41 : decode cX5_copyFrom 41 = .ok (.getfield 28, 3) := dec_at dlX5_copyFrom_0_ok 21 rfl
theorem dX5_copyFrom_44 : decode cX5_copyFrom 44 = .ok (.iconst 0, 1) := dec_at dlX5_copyFrom_0_ok 22 rfl
theorem dX5_copyFrom_45 : decode cX5_copyFrom 45 = .ok (.aload_n 0, 1) := dec_at dlX5_copyFrom_0_ok 23 rfl
theorem dX5_copyFrom_46 : decode cX5_copyFrom 46 = .ok (.getfield 28, 3) := dec_at dlX5_copyFrom_0_ok 24 rfl
theorem dX5_copyFrom_49 : decode cX5_copyFrom 49 = .ok (.iconst 0, 1) := dec_at dlX5_copyFrom_0_ok 25 rfl
theorem dX5_copyFrom_50 : decode cX5_copyFrom 50 = .ok (.bipush 8, 2) := dec_at dlX5_copyFrom_0_ok 26 rfl
theorem dX5_copyFrom_52 : decode cX5_copyFrom 52 = .ok (.invokestatic 53, 3) := dec_at dlX5_copyFrom_0_ok 27 rfl
theorem dX5_copyFrom_55 : decode cX5_copyFrom 55 = .ok (.aload_n 1, 1) := dec_at dlX5_copyFrom_0_ok 28 rfl
theorem dX5_copyFrom_56 : decode cX5_copyFrom 56 = .ok (.getfield 32, 3) := dec_at dlX5_copyFrom_0_ok 29 rfl
theorem dX5_copyFrom_59 : decode cX5_copyFrom 59 = .ok (.iconst 0, 1) := dec_at dlX5_copyFrom_0_ok 30 rfl
noncomputable def dlX5_copyFrom_60 : List (Nat × Instr × Nat) := [(60, .aload_n 0, 1), (61, .getfield 32, 3), (64, .iconst 0, 1), (65, .bipush 8, 2), (67, .invokestatic 53, 3), (70, .aload_n 1, 1), (71, .getfield 35, 3), (74, .iconst 0, 1), (75, .aload_n 0, 1), (76, .getfield 35, 3), (79, .iconst 0, 1), (80, .bipush 8, 2), (82, .invokestatic 53, 3), (85, .aload_n 1, 1), (86, .getfield 38, 3), (89, .iconst 0, 1), (90, .aload_n 0, 1), (91, .getfield 38, 3), (94, .iconst 0, 1), (95, .bipush 8, 2), (97, .invokestatic 53, 3), (100, .aload_n 1, 1), (101, .getfield 41, 3), (104, .iconst 0, 1), (105, .aload_n 0, 1), (106, .getfield 41, 3), (109, .iconst 0, 1), (110, .bipush 8, 2), (112, .invokestatic 53, 3), (115, .aload_n 1, 1), (116, .getfield 44, 3)]
theorem dlX5_copyFrom_60_ok : dlX5_copyFrom_60.all (fun r => decide (decode cX5_copyFrom r.1 = .ok r.2)) = true := by decide +kernel
theorem dX5_copyFrom_60 : decode cX5_copyFrom 60 = .ok (.aload_n 0, 1) := dec_at dlX5_copyFrom_60_ok 0 rfl
theorem dX5_copyFrom_61 : decode cX5_copyFrom 61 = .ok (.getfield 32, 3) := dec_at dlX5_copyFrom_60_ok 1 rfl
theorem dX5_copyFrom_64 : decode cX5_copyFrom 64 = .ok (.iconst 0, 1) := dec_at dlX5_copyFrom_60_ok 2 rfl
theorem dX5_copyFrom_65 : decode cX5_copyFrom 65 = .ok (.bipush 8, 2) := dec_at dlX5_copyFrom_60_ok 3 rfl
theorem dX5_copyFrom_67 : decode cX5_copyFrom 67 = .ok (.invokestatic 53, 3) := dec_at dlX5_copyFrom_60_ok 4 rfl
theorem dX5_copyFrom_70 : decode cX5_copyFrom 70 = .ok (.aload_n 1, 1) := dec_at dlX5_copyFrom_60_ok 5 rfl
theorem dX5_copyFrom_71 : decode cX5_copyFrom 71 = .ok (.getfield 35, 3) := dec_at dlX5_copyFrom_60_ok 6 rfl
theorem dX5_copyFrom_74 : decode cX5_copyFrom 74 = .ok (.iconst 0, 1) := dec_at dlX5_copyFrom_60_ok 7 rfl
theorem dX5_copyFrom_75 : decode cX5_copyFrom 75 = .ok (.aload_n 0, 1) := dec_at dlX5_copyFrom_60_ok 8 rfl
theorem dX5_copyFrom_76 : decode cX5_copyFrom 76 = .ok (.getfield 35, 3) := dec_at dlX5_copyFrom_60_ok 9 rfl
theorem dX5_copyFrom_79 : decode cX5_copyFrom 79 = .ok (.iconst 0, 1) := dec_at dlX5_copyFrom_60_ok 10 rfl
theorem dX5_copyFrom_80 : decode cX5_copyFrom 80 = .ok (.bipush 8, 2) := dec_at dlX5_copyFrom_60_ok 11 rfl
theorem dX5_copyFrom_82 : decode cX5_copyFrom 82 = .ok (.invokestatic 53, 3) := dec_at dlX5_copyFrom_60_ok 12 rfl
theorem dX5_copyFrom_85 : decode cX5_copyFrom 85 = .ok (.aload_n 1, 1) := dec_at dlX5_copyFrom_60_ok 13 rfl
theorem dX5_copyFrom_86 : decode cX5_copyFrom 86 = .ok (.getfield 38, 3) := dec_at dlX5_copyFrom_60_ok 14 rfl
theorem dX5_copyFrom_89 : decode cX5_copyFrom 89 = .ok (.iconst 0, 1) := dec_at dlX5_copyFrom_60_ok 15 rfl
theorem dX5_copyFrom_90 : decode cX5_copyFrom 90 = .ok (.aload_n 0, 1) := dec_at dlX5_copyFrom_60_ok 16 rfl
theorem dX5_copyFrom_91 : decode cX5_copyFrom 91 = .ok (.getfield 38, 3) := dec_at dlX5_copyFrom_60_ok 17 rfl
theorem dX5_copyFrom_94 : decode cX5_copyFrom 94 = .ok (.iconst 0, 1) := dec_at dlX5_copyFrom_60_ok 18 rfl
theorem dX5_copyFrom_95 : decode cX5_copyFrom 95 = .ok (.bipush 8, 2) := dec_at dlX5_copyFrom_60_ok 19 rfl
theorem dX5_copyFrom_97 : decode cX5_copyFrom 97 = .ok (.invokestatic 53, 3) := dec_at dlX5_copyFrom_60_ok 20 rfl
theorem dX5_copyFrom_100 : decode cX5_copyFrom 100 = .ok (.aload_n 1, 1) := dec_at dlX5_copyFrom_60_ok 21 rfl
theorem dX5_copyFrom_101 : decode cX5_copyFrom 101 = .ok (.getfield 41, 3) := dec_at dlX5_copyFrom_60_ok 22 rfl
theorem dX5_copyFrom_104 : decode cX5_copyFrom 104 = .ok (.iconst 0, 1) := dec_at dlX5_copyFrom_60_ok 23 rfl
theorem dX5_copyFrom_105 : decode cX5_copyFrom 105 = .ok (.aload_n 0, 1) := dec_at dlX5_copyFrom_60_ok 24 rfl
theorem dX5_copyFrom_106 : decode cX5_copyFrom 106 = .ok (.getfield 41, 3) := dec_at dlX5_copyFrom_60_ok 25 rfl
theorem dX5_copyFrom_109 : decode cX5_copyFrom 109 = .ok (.iconst 0, 1) := dec_at dlX5_copyFrom_60_ok 26 rfl
theorem dX5_copyFrom_110 : decode cX5_copyFrom 110 = .ok (.bipush 8, 2) := dec_at dlX5_copyFrom_60_ok 27 rfl
theorem dX5_copyFrom_112 : decode cX5_copyFrom 112 = .ok (.invokestatic 53, 3) := dec_at dlX5_copyFrom_60_ok 28 rfl
theorem dX5_copyFrom_115 : decode cX5_copyFrom 115 = .ok (.aload_n 1, 1) := dec_at dlX5_copyFrom_60_ok 29 rfl
theorem dX5_copyFrom_116 : decode cX5_copyFrom 116 = .ok (.getfield 44, 3) := dec_at dlX5_copyFrom_60_ok 30 rfl
noncomputable def dlX5_copyFrom_119 : List (Nat × Instr × Nat) := [(119, .iconst 0, 1), (120, .aload_n 0, 1), (121, .getfield 44, 3), (124, .iconst 0, 1), (125, .iconst 4, 1), (126, .invokestatic 53, 3), (129, .aload_n 1, 1), (130, .getfield 47, 3), (133, .iconst 0, 1), (134, .aload_n 0, 1), (135, .getfield 47, 3), (138, .iconst 0, 1), (139, .iconst 4, 1), (140, .invokestatic 53, 3), (143, .aload_n 1, 1), (144, .getfield 50, 3), (147, .iconst 0, 1), (148, .aload_n 0, 1), (149, .getfield 50, 3), (152, .iconst 0, 1), (153, .iconst 4, 1), (154, .invokestatic 53, 3), (157, .return_, 1)]
theorem dlX5_copyFrom_119_ok : dlX5_copyFrom_119.all (fun r => decide (decode cX5_copyFrom r.1 = .ok r.2)) = true := by decide +kernel
theorem dX5_copyFrom_119 : decode cX5_copyFrom 119 = .ok (.iconst 0, 1) := dec_at dlX5_copyFrom_119_ok 0 rfl
theorem dX5_copyFrom_120 : decode cX5_copyFrom 120 = .ok (.aload_n 0, 1) := dec_at dlX5_copyFrom_119_ok 1 rfl
theorem dX5_copyFrom_121 : decode cX5_copyFrom 121 = .ok (.getfield 44, 3) := dec_at dlX5_copyFrom_119_ok 2 rfl
theorem dX5_copyFrom_124 : decode cX5_copyFrom 124 = .ok (.iconst 0, 1) := dec_at dlX5_copyFrom_119_ok 3 rfl
theorem dX5_copyFrom_125 : decode cX5_copyFrom 125 = .ok (.iconst 4, 1) := dec_at dlX5_copyFrom_119_ok 4 rfl
theorem dX5_copyFrom_126 : decode cX5_copyFrom 126 = .ok (.invokestatic 53, 3) := dec_at dlX5_copyFrom_119_ok 5 rfl
theorem dX5_copyFrom_129 : decode cX5_copyFrom 129 = .ok (.aload_n 1, 1) := dec_at dlX5_copyFrom_119_ok 6 rfl
theorem dX5_copyFrom_130 : decode cX5_copyFrom 130 = .ok (.getfield 47, 3) := dec_at dlX5_copyFrom_119_ok 7 rfl
theorem dX5_copyFrom_133 : decode cX5_copyFrom 133 = .ok (.iconst 0, 1) := dec_at dlX5_copyFrom_119_ok 8 rfl
theorem dX5_copyFrom_134 : decode cX5_copyFrom 134 = .ok (.aload_n 0, 1) := dec_at dlX5_copyFrom_119_ok 9 rfl
theorem dX5_copyFrom_135 : decode cX5_copyFrom 135 = .ok (.getfield 47, 3) := dec_at dlX5_copyFrom_119_ok 10 rfl
theorem dX5_copyFrom_138 : decode cX5_copyFrom 138 = .ok (.iconst 0, 1) := dec_at dlX5_copyFrom_119_ok 11 rfl
theorem dX5_copyFrom_139 : decode cX5_copyFrom 139 = .ok (.iconst 4, 1) := dec_at dlX5_copyFrom_119_ok 12 rfl
theorem dX5_copyFrom_140 : decode cX5_copyFrom 140 = .ok (.invokestatic 53, 3) := dec_at dlX5_copyFrom_119_ok 13 rfl
theorem dX5_copyFrom_143 : decode cX5_copyFrom 143 = .ok (.aload_n 1, 1) := dec_at dlX5_copyFrom_119_ok 14 rfl
theorem dX5_copyFrom_144 : decode cX5_copyFrom 144 = .ok (.getfield 50, 3) := dec_at dlX5_copyFrom_119_ok 15 rfl
theorem dX5_copyFrom_147 : decode cX5_copyFrom 147 = .ok (.iconst 0, 1) := dec_at dlX5_copyFrom_119_ok 16 rfl
theorem dX5_copyFrom_148 : decode cX5_copyFrom 148 = .ok (.aload_n 0, 1) := dec_at dlX5_copyFrom_119_ok 17 rfl
theorem dX5_copyFrom_149 : decode cX5_copyFrom 149 = .ok (.getfield 50, 3) := dec_at dlX5_copyFrom_119_ok 18 rfl
theorem dX5_copyFrom_152 : decode cX5_copyFrom 152 = .ok (.iconst 0, 1) := dec_at dlX5_copyFrom_119_ok 19 rfl
theorem dX5_copyFrom_153 : decode cX5_copyFrom 153 = .ok (.iconst 4, 1) := dec_at dlX5_copyFrom_119_ok 20 rfl
theorem dX5_copyFrom_154 : decode cX5_copyFrom 154 = .ok (.invokestatic 53, 3) := dec_at dlX5_copyFrom_119_ok 21 rfl
theorem dX5_copyFrom_157 : decode cX5_copyFrom 157 = .ok (.return_, 1) := dec_at dlX5_copyFrom_119_ok 22 rfl
noncomputable def dlX5_setBlade_0 : List (Nat × Instr × Nat) := [(0, .aload_n 0, 1), (1, .iconst 1, 1), (2, .putfield 9, 3), (5, .aload_n 0, 1), (6, .aload_n 1, 1), (7, .iconst 0, 1), (8, .iaload, 1), (9, .putfield 15, 3), (12, .aload_n 0, 1), (13, .aload_n 1, 1), (14, .iconst 1, 1), (15, .iaload, 1), (16, .putfield 19, 3), (19, .return_, 1)]
theorem dlX5_setBlade_0_ok : dlX5_setBlade_0.all (fun r => decide (decode cX5_setBlade r.1 = .ok r.2)) = true := by decide +kernel
theorem dX5_setBlade_0 : decode cX5_setBlade 0 = .ok (.aload_n 0, 1) := dec_at dlX5_setBlade_0_ok 0 rfl
theorem dX5_setBlade_1 : decode cX5_setBlade 1 = .ok (.iconst 1, 1) := dec_at dlX5_setBlade_0_ok 1 rfl
theorem dX5_setBlade_2 : decode cX5_setBlade 2 = .ok (.putfield 9, 3) := dec_at dlX5_setBlade_0_ok 2 rfl
theorem dX5_setBlade_5 : decode cX5_setBlade 5 = .ok (.aload_n 0, 1) := dec_at dlX5_setBlade_0_ok 3 rfl
theorem dX5_setBlade_6 : decode cX5_setBlade 6 = .ok (.aload_n 1, 1) := dec_at dlX5_setBlade_0_ok 4 rfl
theorem dX5_setBlade_7 : decode cX5_setBlade 7 = .ok (.iconst 0, 1) := dec_at dlX5_setBlade_0_ok 5 rfl
theorem dX5_setBlade_8 : decode cX5_setBlade 8 = .ok (.iaload, 1) := dec_at dlX5_setBlade_0_ok 6 rfl
theorem dX5_setBlade_9 : decode cX5_setBlade 9 = .ok (.putfield 15, 3) := dec_at dlX5_setBlade_0_ok 7 rfl
theorem dX5_setBlade_12 : decode cX5_setBlade 12 = .ok (.aload_n 0, 1) := dec_at dlX5_setBlade_0_ok 8 rfl
theorem dX5_setBlade_13 : decode cX5_setBlade 13 = .ok (.aload_n 1, 1) := dec_at dlX5_setBlade_0_ok 9 rfl
theorem dX5_setBlade_14 : decode cX5_setBlade 14 = .ok (.iconst 1, 1) := dec_at dlX5_setBlade_0_ok 10 rfl
theorem dX5_setBlade_15 : decode cX5_setBlade 15 = .ok (.iaload, 1) := dec_at dlX5_setBlade_0_ok 11 rfl
theorem dX5_setBlade_16 : decode cX5_setBlade 16 = .ok (.putfield 19, 3) := dec_at dlX5_setBlade_0_ok 12 rfl
theorem dX5_setBlade_19 : decode cX5_setBlade 19 = .ok (.return_, 1) := dec_at dlX5_setBlade_0_ok 13 rfl
noncomputable def dlX5_addQuill_0 : List (Nat × Instr × Nat) := [(0, .aload_n 0, 1), (1, .getfield 22, 3), (4, .bipush 8, 2), (6, .if_icmp .lt 4, 3), (9, .return_, 1), (10, .aload_n 0, 1), (11, .getfield 28, 3), (14, .aload_n 0, 1), (15, .getfield 22, 3), (18, .aload_n 1, 1), (19, .iconst 0, 1), (20, .iaload, 1), (21, .iastore, 1), (22, .aload_n 0, 1), (23, .getfield 32, 3), (26, .aload_n 0, 1), (27, .getfield 22, 3), (30, .aload_n 1, 1), (31, .iconst 1, 1), (32, .iaload, 1), (33, .iastore, 1), (34, .aload_n 0, 1), (35, .getfield 35, 3), (38, .aload_n 0, 1), (39, .getfield 22, 3), (42, .aload_n 1, 1), (43, .iconst 2, 1), (44, .iaload, 1), (45, .iastore, 1), (46, .aload_n 0, 1), (47, .getfield 38, 3)]
theorem dlX5_addQuill_0_ok : dlX5_addQuill_0.all (fun r => decide (decode cX5_addQuill r.1 = .ok r.2)) = true := by decide +kernel
theorem dX5_addQuill_0 : decode cX5_addQuill 0 = .ok (.aload_n 0, 1) := dec_at dlX5_addQuill_0_ok 0 rfl
theorem dX5_addQuill_1 : decode cX5_addQuill 1 = .ok (.getfield 22, 3) := dec_at dlX5_addQuill_0_ok 1 rfl
theorem dX5_addQuill_4 : decode cX5_addQuill 4 = .ok (.bipush 8, 2) := dec_at dlX5_addQuill_0_ok 2 rfl
theorem dX5_addQuill_6 : decode cX5_addQuill 6 = .ok (.if_icmp .lt 4, 3) := dec_at dlX5_addQuill_0_ok 3 rfl
theorem dX5_addQuill_9 : decode cX5_addQuill 9 = .ok (.return_, 1) := dec_at dlX5_addQuill_0_ok 4 rfl
theorem dX5_addQuill_10 : decode cX5_addQuill 10 = .ok (.aload_n 0, 1) := dec_at dlX5_addQuill_0_ok 5 rfl
theorem dX5_addQuill_11 : decode cX5_addQuill 11 = .ok (.getfield 28, 3) := dec_at dlX5_addQuill_0_ok 6 rfl
theorem dX5_addQuill_14 : decode cX5_addQuill 14 = .ok (.aload_n 0, 1) := dec_at dlX5_addQuill_0_ok 7 rfl
theorem dX5_addQuill_15 : decode cX5_addQuill 15 = .ok (.getfield 22, 3) := dec_at dlX5_addQuill_0_ok 8 rfl
theorem dX5_addQuill_18 : decode cX5_addQuill 18 = .ok (.aload_n 1, 1) := dec_at dlX5_addQuill_0_ok 9 rfl
theorem dX5_addQuill_19 : decode cX5_addQuill 19 = .ok (.iconst 0, 1) := dec_at dlX5_addQuill_0_ok 10 rfl
theorem dX5_addQuill_20 : decode cX5_addQuill 20 = .ok (.iaload, 1) := dec_at dlX5_addQuill_0_ok 11 rfl
theorem dX5_addQuill_21 : decode cX5_addQuill 21 = .ok (.iastore, 1) := dec_at dlX5_addQuill_0_ok 12 rfl
theorem dX5_addQuill_22 : decode cX5_addQuill 22 = .ok (.aload_n 0, 1) := dec_at dlX5_addQuill_0_ok 13 rfl
theorem dX5_addQuill_23 : decode cX5_addQuill 23 = .ok (.getfield 32, 3) := dec_at dlX5_addQuill_0_ok 14 rfl
theorem dX5_addQuill_26 : decode cX5_addQuill 26 = .ok (.aload_n 0, 1) := dec_at dlX5_addQuill_0_ok 15 rfl
theorem dX5_addQuill_27 : decode cX5_addQuill 27 = .ok (.getfield 22, 3) := dec_at dlX5_addQuill_0_ok 16 rfl
theorem dX5_addQuill_30 : decode cX5_addQuill 30 = .ok (.aload_n 1, 1) := dec_at dlX5_addQuill_0_ok 17 rfl
theorem dX5_addQuill_31 : decode cX5_addQuill 31 = .ok (.iconst 1, 1) := dec_at dlX5_addQuill_0_ok 18 rfl
theorem dX5_addQuill_32 : decode cX5_addQuill 32 = .ok (.iaload, 1) := dec_at dlX5_addQuill_0_ok 19 rfl
theorem dX5_addQuill_33 : decode cX5_addQuill 33 = .ok (.iastore, 1) := dec_at dlX5_addQuill_0_ok 20 rfl
theorem dX5_addQuill_34 : decode cX5_addQuill 34 = .ok (.aload_n 0, 1) := dec_at dlX5_addQuill_0_ok 21 rfl
theorem dX5_addQuill_35 : decode cX5_addQuill 35 = .ok (.getfield 35, 3) := dec_at dlX5_addQuill_0_ok 22 rfl
theorem dX5_addQuill_38 : decode cX5_addQuill 38 = .ok (.aload_n 0, 1) := dec_at dlX5_addQuill_0_ok 23 rfl
theorem dX5_addQuill_39 : decode cX5_addQuill 39 = .ok (.getfield 22, 3) := dec_at dlX5_addQuill_0_ok 24 rfl
theorem dX5_addQuill_42 : decode cX5_addQuill 42 = .ok (.aload_n 1, 1) := dec_at dlX5_addQuill_0_ok 25 rfl
theorem dX5_addQuill_43 : decode cX5_addQuill 43 = .ok (.iconst 2, 1) := dec_at dlX5_addQuill_0_ok 26 rfl
theorem dX5_addQuill_44 : decode cX5_addQuill 44 = .ok (.iaload, 1) := dec_at dlX5_addQuill_0_ok 27 rfl
theorem dX5_addQuill_45 : decode cX5_addQuill 45 = .ok (.iastore, 1) := dec_at dlX5_addQuill_0_ok 28 rfl
theorem dX5_addQuill_46 : decode cX5_addQuill 46 = .ok (.aload_n 0, 1) := dec_at dlX5_addQuill_0_ok 29 rfl
theorem dX5_addQuill_47 : decode cX5_addQuill 47 = .ok (.getfield 38, 3) := dec_at dlX5_addQuill_0_ok 30 rfl
noncomputable def dlX5_addQuill_50 : List (Nat × Instr × Nat) := [(50, .aload_n 0, 1), (51, .getfield 22, 3), (54, .aload_n 1, 1), (55, .iconst 3, 1), (56, .iaload, 1), (57, .iastore, 1), (58, .aload_n 0, 1), (59, .getfield 41, 3), (62, .aload_n 0, 1), (63, .getfield 22, 3), (66, .aload_n 1, 1), (67, .iconst 4, 1), (68, .iaload, 1), (69, .iastore, 1), (70, .aload_n 0, 1), (71, .dup, 1), (72, .getfield 22, 3), (75, .iconst 1, 1), (76, .iadd, 1), (77, .putfield 22, 3), (80, .return_, 1)]
theorem dlX5_addQuill_50_ok : dlX5_addQuill_50.all (fun r => decide (decode cX5_addQuill r.1 = .ok r.2)) = true := by decide +kernel
theorem dX5_addQuill_50 : decode cX5_addQuill 50 = .ok (.aload_n 0, 1) := dec_at dlX5_addQuill_50_ok 0 rfl
theorem dX5_addQuill_51 : decode cX5_addQuill 51 = .ok (.getfield 22, 3) := dec_at dlX5_addQuill_50_ok 1 rfl
theorem dX5_addQuill_54 : decode cX5_addQuill 54 = .ok (.aload_n 1, 1) := dec_at dlX5_addQuill_50_ok 2 rfl
theorem dX5_addQuill_55 : decode cX5_addQuill 55 = .ok (.iconst 3, 1) := dec_at dlX5_addQuill_50_ok 3 rfl
theorem dX5_addQuill_56 : decode cX5_addQuill 56 = .ok (.iaload, 1) := dec_at dlX5_addQuill_50_ok 4 rfl
theorem dX5_addQuill_57 : decode cX5_addQuill 57 = .ok (.iastore, 1) := dec_at dlX5_addQuill_50_ok 5 rfl
theorem dX5_addQuill_58 : decode cX5_addQuill 58 = .ok (.aload_n 0, 1) := dec_at dlX5_addQuill_50_ok 6 rfl
theorem dX5_addQuill_59 : decode cX5_addQuill 59 = .ok (.getfield 41, 3) := dec_at dlX5_addQuill_50_ok 7 rfl
theorem dX5_addQuill_62 : decode cX5_addQuill 62 = .ok (.aload_n 0, 1) := dec_at dlX5_addQuill_50_ok 8 rfl
theorem dX5_addQuill_63 : decode cX5_addQuill 63 = .ok (.getfield 22, 3) := dec_at dlX5_addQuill_50_ok 9 rfl
theorem dX5_addQuill_66 : decode cX5_addQuill 66 = .ok (.aload_n 1, 1) := dec_at dlX5_addQuill_50_ok 10 rfl
theorem dX5_addQuill_67 : decode cX5_addQuill 67 = .ok (.iconst 4, 1) := dec_at dlX5_addQuill_50_ok 11 rfl
theorem dX5_addQuill_68 : decode cX5_addQuill 68 = .ok (.iaload, 1) := dec_at dlX5_addQuill_50_ok 12 rfl
theorem dX5_addQuill_69 : decode cX5_addQuill 69 = .ok (.iastore, 1) := dec_at dlX5_addQuill_50_ok 13 rfl
theorem dX5_addQuill_70 : decode cX5_addQuill 70 = .ok (.aload_n 0, 1) := dec_at dlX5_addQuill_50_ok 14 rfl
theorem dX5_addQuill_71 : decode cX5_addQuill 71 = .ok (.dup, 1) := dec_at dlX5_addQuill_50_ok 15 rfl
theorem dX5_addQuill_72 : decode cX5_addQuill 72 = .ok (.getfield 22, 3) := dec_at dlX5_addQuill_50_ok 16 rfl
theorem dX5_addQuill_75 : decode cX5_addQuill 75 = .ok (.iconst 1, 1) := dec_at dlX5_addQuill_50_ok 17 rfl
theorem dX5_addQuill_76 : decode cX5_addQuill 76 = .ok (.iadd, 1) := dec_at dlX5_addQuill_50_ok 18 rfl
theorem dX5_addQuill_77 : decode cX5_addQuill 77 = .ok (.putfield 22, 3) := dec_at dlX5_addQuill_50_ok 19 rfl
theorem dX5_addQuill_80 : decode cX5_addQuill 80 = .ok (.return_, 1) := dec_at dlX5_addQuill_50_ok 20 rfl
noncomputable def dlX5_addHand_0 : List (Nat × Instr × Nat) := [(0, .aload_n 0, 1), (1, .getfield 25, 3), (4, .iconst 4, 1), (5, .if_icmp .lt 4, 3), (8, .return_, 1), (9, .aload_n 0, 1), (10, .getfield 44, 3), (13, .aload_n 0, 1), (14, .getfield 25, 3), (17, .aload_n 1, 1), (18, .iconst 0, 1), (19, .iaload, 1), (20, .iastore, 1), (21, .aload_n 0, 1), (22, .getfield 47, 3), (25, .aload_n 0, 1), (26, .getfield 25, 3), (29, .aload_n 1, 1), (30, .iconst 1, 1), (31, .iaload, 1), (32, .iastore, 1), (33, .aload_n 0, 1), (34, .getfield 50, 3), (37, .aload_n 0, 1), (38, .getfield 25, 3), (41, .aload_n 1, 1), (42, .iconst 2, 1), (43, .iaload, 1), (44, .iastore, 1), (45, .aload_n 0, 1), (46, .dup, 1)]
theorem dlX5_addHand_0_ok : dlX5_addHand_0.all (fun r => decide (decode cX5_addHand r.1 = .ok r.2)) = true := by decide +kernel
theorem dX5_addHand_0 : decode cX5_addHand 0 = .ok (.aload_n 0, 1) := dec_at dlX5_addHand_0_ok 0 rfl
theorem dX5_addHand_1 : decode cX5_addHand 1 = .ok (.getfield 25, 3) := dec_at dlX5_addHand_0_ok 1 rfl
theorem dX5_addHand_4 : decode cX5_addHand 4 = .ok (.iconst 4, 1) := dec_at dlX5_addHand_0_ok 2 rfl
theorem dX5_addHand_5 : decode cX5_addHand 5 = .ok (.if_icmp .lt 4, 3) := dec_at dlX5_addHand_0_ok 3 rfl
theorem dX5_addHand_8 : decode cX5_addHand 8 = .ok (.return_, 1) := dec_at dlX5_addHand_0_ok 4 rfl
theorem dX5_addHand_9 : decode cX5_addHand 9 = .ok (.aload_n 0, 1) := dec_at dlX5_addHand_0_ok 5 rfl
theorem dX5_addHand_10 : decode cX5_addHand 10 = .ok (.getfield 44, 3) := dec_at dlX5_addHand_0_ok 6 rfl
theorem dX5_addHand_13 : decode cX5_addHand 13 = .ok (.aload_n 0, 1) := dec_at dlX5_addHand_0_ok 7 rfl
theorem dX5_addHand_14 : decode cX5_addHand 14 = .ok (.getfield 25, 3) := dec_at dlX5_addHand_0_ok 8 rfl
theorem dX5_addHand_17 : decode cX5_addHand 17 = .ok (.aload_n 1, 1) := dec_at dlX5_addHand_0_ok 9 rfl
theorem dX5_addHand_18 : decode cX5_addHand 18 = .ok (.iconst 0, 1) := dec_at dlX5_addHand_0_ok 10 rfl
theorem dX5_addHand_19 : decode cX5_addHand 19 = .ok (.iaload, 1) := dec_at dlX5_addHand_0_ok 11 rfl
theorem dX5_addHand_20 : decode cX5_addHand 20 = .ok (.iastore, 1) := dec_at dlX5_addHand_0_ok 12 rfl
theorem dX5_addHand_21 : decode cX5_addHand 21 = .ok (.aload_n 0, 1) := dec_at dlX5_addHand_0_ok 13 rfl
theorem dX5_addHand_22 : decode cX5_addHand 22 = .ok (.getfield 47, 3) := dec_at dlX5_addHand_0_ok 14 rfl
theorem dX5_addHand_25 : decode cX5_addHand 25 = .ok (.aload_n 0, 1) := dec_at dlX5_addHand_0_ok 15 rfl
theorem dX5_addHand_26 : decode cX5_addHand 26 = .ok (.getfield 25, 3) := dec_at dlX5_addHand_0_ok 16 rfl
theorem dX5_addHand_29 : decode cX5_addHand 29 = .ok (.aload_n 1, 1) := dec_at dlX5_addHand_0_ok 17 rfl
theorem dX5_addHand_30 : decode cX5_addHand 30 = .ok (.iconst 1, 1) := dec_at dlX5_addHand_0_ok 18 rfl
theorem dX5_addHand_31 : decode cX5_addHand 31 = .ok (.iaload, 1) := dec_at dlX5_addHand_0_ok 19 rfl
theorem dX5_addHand_32 : decode cX5_addHand 32 = .ok (.iastore, 1) := dec_at dlX5_addHand_0_ok 20 rfl
theorem dX5_addHand_33 : decode cX5_addHand 33 = .ok (.aload_n 0, 1) := dec_at dlX5_addHand_0_ok 21 rfl
theorem dX5_addHand_34 : decode cX5_addHand 34 = .ok (.getfield 50, 3) := dec_at dlX5_addHand_0_ok 22 rfl
theorem dX5_addHand_37 : decode cX5_addHand 37 = .ok (.aload_n 0, 1) := dec_at dlX5_addHand_0_ok 23 rfl
theorem dX5_addHand_38 : decode cX5_addHand 38 = .ok (.getfield 25, 3) := dec_at dlX5_addHand_0_ok 24 rfl
theorem dX5_addHand_41 : decode cX5_addHand 41 = .ok (.aload_n 1, 1) := dec_at dlX5_addHand_0_ok 25 rfl
theorem dX5_addHand_42 : decode cX5_addHand 42 = .ok (.iconst 2, 1) := dec_at dlX5_addHand_0_ok 26 rfl
theorem dX5_addHand_43 : decode cX5_addHand 43 = .ok (.iaload, 1) := dec_at dlX5_addHand_0_ok 27 rfl
theorem dX5_addHand_44 : decode cX5_addHand 44 = .ok (.iastore, 1) := dec_at dlX5_addHand_0_ok 28 rfl
theorem dX5_addHand_45 : decode cX5_addHand 45 = .ok (.aload_n 0, 1) := dec_at dlX5_addHand_0_ok 29 rfl
theorem dX5_addHand_46 : decode cX5_addHand 46 = .ok (.dup, 1) := dec_at dlX5_addHand_0_ok 30 rfl
noncomputable def dlX5_addHand_47 : List (Nat × Instr × Nat) := [(47, .getfield 25, 3), (50, .iconst 1, 1), (51, .iadd, 1), (52, .putfield 25, 3), (55, .return_, 1)]
theorem dlX5_addHand_47_ok : dlX5_addHand_47.all (fun r => decide (decode cX5_addHand r.1 = .ok r.2)) = true := by decide +kernel
theorem dX5_addHand_47 : decode cX5_addHand 47 = .ok (.getfield 25, 3) := dec_at dlX5_addHand_47_ok 0 rfl
theorem dX5_addHand_50 : decode cX5_addHand 50 = .ok (.iconst 1, 1) := dec_at dlX5_addHand_47_ok 1 rfl
theorem dX5_addHand_51 : decode cX5_addHand 51 = .ok (.iadd, 1) := dec_at dlX5_addHand_47_ok 2 rfl
theorem dX5_addHand_52 : decode cX5_addHand 52 = .ok (.putfield 25, 3) := dec_at dlX5_addHand_47_ok 3 rfl
theorem dX5_addHand_55 : decode cX5_addHand 55 = .ok (.return_, 1) := dec_at dlX5_addHand_47_ok 4 rfl
noncomputable def dlX5_hardness_0 : List (Nat × Instr × Nat) := [(0, .aload_n 0, 1), (1, .getfield 32, 3), (4, .iload_n 1, 1), (5, .iaload, 1), (6, .tableswitch 48 2 4 #[26, 26, 37], 26), (32, .iconst 2, 1), (33, .aload_n 0, 1), (34, .getfield 35, 3), (37, .iload_n 1, 1), (38, .iaload, 1), (39, .iadd, 1), (40, .iconst 3, 1), (41, .iadd, 1), (42, .ireturn, 1), (43, .iconst 2, 1), (44, .aload_n 0, 1), (45, .getfield 35, 3), (48, .iload_n 1, 1), (49, .iaload, 1), (50, .iadd, 1), (51, .iconst 2, 1), (52, .iadd, 1), (53, .ireturn, 1), (54, .iconst 2, 1), (55, .aload_n 0, 1), (56, .getfield 35, 3), (59, .iload_n 1, 1), (60, .iaload, 1), (61, .iadd, 1), (62, .iconst 1, 1), (63, .iadd, 1)]
theorem dlX5_hardness_0_ok : dlX5_hardness_0.all (fun r => decide (decode cX5_hardness r.1 = .ok r.2)) = true := by decide +kernel
theorem dX5_hardness_0 : decode cX5_hardness 0 = .ok (.aload_n 0, 1) := dec_at dlX5_hardness_0_ok 0 rfl
theorem dX5_hardness_1 : decode cX5_hardness 1 = .ok (.getfield 32, 3) := dec_at dlX5_hardness_0_ok 1 rfl
theorem dX5_hardness_4 : decode cX5_hardness 4 = .ok (.iload_n 1, 1) := dec_at dlX5_hardness_0_ok 2 rfl
theorem dX5_hardness_5 : decode cX5_hardness 5 = .ok (.iaload, 1) := dec_at dlX5_hardness_0_ok 3 rfl
theorem dX5_hardness_6 : decode cX5_hardness 6 = .ok (.tableswitch 48 2 4 #[26, 26, 37], 26) := dec_at dlX5_hardness_0_ok 4 rfl
theorem dX5_hardness_32 : decode cX5_hardness 32 = .ok (.iconst 2, 1) := dec_at dlX5_hardness_0_ok 5 rfl
theorem dX5_hardness_33 : decode cX5_hardness 33 = .ok (.aload_n 0, 1) := dec_at dlX5_hardness_0_ok 6 rfl
theorem dX5_hardness_34 : decode cX5_hardness 34 = .ok (.getfield 35, 3) := dec_at dlX5_hardness_0_ok 7 rfl
theorem dX5_hardness_37 : decode cX5_hardness 37 = .ok (.iload_n 1, 1) := dec_at dlX5_hardness_0_ok 8 rfl
theorem dX5_hardness_38 : decode cX5_hardness 38 = .ok (.iaload, 1) := dec_at dlX5_hardness_0_ok 9 rfl
theorem dX5_hardness_39 : decode cX5_hardness 39 = .ok (.iadd, 1) := dec_at dlX5_hardness_0_ok 10 rfl
theorem dX5_hardness_40 : decode cX5_hardness 40 = .ok (.iconst 3, 1) := dec_at dlX5_hardness_0_ok 11 rfl
theorem dX5_hardness_41 : decode cX5_hardness 41 = .ok (.iadd, 1) := dec_at dlX5_hardness_0_ok 12 rfl
theorem dX5_hardness_42 : decode cX5_hardness 42 = .ok (.ireturn, 1) := dec_at dlX5_hardness_0_ok 13 rfl
theorem dX5_hardness_43 : decode cX5_hardness 43 = .ok (.iconst 2, 1) := dec_at dlX5_hardness_0_ok 14 rfl
theorem dX5_hardness_44 : decode cX5_hardness 44 = .ok (.aload_n 0, 1) := dec_at dlX5_hardness_0_ok 15 rfl
theorem dX5_hardness_45 : decode cX5_hardness 45 = .ok (.getfield 35, 3) := dec_at dlX5_hardness_0_ok 16 rfl
theorem dX5_hardness_48 : decode cX5_hardness 48 = .ok (.iload_n 1, 1) := dec_at dlX5_hardness_0_ok 17 rfl
theorem dX5_hardness_49 : decode cX5_hardness 49 = .ok (.iaload, 1) := dec_at dlX5_hardness_0_ok 18 rfl
theorem dX5_hardness_50 : decode cX5_hardness 50 = .ok (.iadd, 1) := dec_at dlX5_hardness_0_ok 19 rfl
theorem dX5_hardness_51 : decode cX5_hardness 51 = .ok (.iconst 2, 1) := dec_at dlX5_hardness_0_ok 20 rfl
theorem dX5_hardness_52 : decode cX5_hardness 52 = .ok (.iadd, 1) := dec_at dlX5_hardness_0_ok 21 rfl
theorem dX5_hardness_53 : decode cX5_hardness 53 = .ok (.ireturn, 1) := dec_at dlX5_hardness_0_ok 22 rfl
theorem dX5_hardness_54 : decode cX5_hardness 54 = .ok (.iconst 2, 1) := dec_at dlX5_hardness_0_ok 23 rfl
theorem dX5_hardness_55 : decode cX5_hardness 55 = .ok (.aload_n 0, 1) := dec_at dlX5_hardness_0_ok 24 rfl
theorem dX5_hardness_56 : decode cX5_hardness 56 = .ok (.getfield 35, 3) := dec_at dlX5_hardness_0_ok 25 rfl
theorem dX5_hardness_59 : decode cX5_hardness 59 = .ok (.iload_n 1, 1) := dec_at dlX5_hardness_0_ok 26 rfl
theorem dX5_hardness_60 : decode cX5_hardness 60 = .ok (.iaload, 1) := dec_at dlX5_hardness_0_ok 27 rfl
theorem dX5_hardness_61 : decode cX5_hardness 61 = .ok (.iadd, 1) := dec_at dlX5_hardness_0_ok 28 rfl
theorem dX5_hardness_62 : decode cX5_hardness 62 = .ok (.iconst 1, 1) := dec_at dlX5_hardness_0_ok 29 rfl
theorem dX5_hardness_63 : decode cX5_hardness 63 = .ok (.iadd, 1) := dec_at dlX5_hardness_0_ok 30 rfl
noncomputable def dlX5_hardness_64 : List (Nat × Instr × Nat) := [(64, .ireturn, 1)]
theorem dlX5_hardness_64_ok : dlX5_hardness_64.all (fun r => decide (decode cX5_hardness r.1 = .ok r.2)) = true := by decide +kernel
theorem dX5_hardness_64 : decode cX5_hardness 64 = .ok (.ireturn, 1) := dec_at dlX5_hardness_64_ok 0 rfl
noncomputable def dlX5_fits_0 : List (Nat × Instr × Nat) := [(0, .aload_n 0, 1), (1, .getfield 28, 3), (4, .iload_n 1, 1), (5, .iaload, 1), (6, .aload_n 0, 1), (7, .getfield 44, 3), (10, .iload_n 2, 1), (11, .iaload, 1), (12, .if_icmp .ne 7, 3), (15, .iconst 1, 1), (16, .goto 4, 3), (19, .iconst 0, 1), (20, .ireturn, 1)]
theorem dlX5_fits_0_ok : dlX5_fits_0.all (fun r => decide (decode cX5_fits r.1 = .ok r.2)) = true := by decide +kernel
theorem dX5_fits_0 : decode cX5_fits 0 = .ok (.aload_n 0, 1) := dec_at dlX5_fits_0_ok 0 rfl
theorem dX5_fits_1 : decode cX5_fits 1 = .ok (.getfield 28, 3) := dec_at dlX5_fits_0_ok 1 rfl
theorem dX5_fits_4 : decode cX5_fits 4 = .ok (.iload_n 1, 1) := dec_at dlX5_fits_0_ok 2 rfl
theorem dX5_fits_5 : decode cX5_fits 5 = .ok (.iaload, 1) := dec_at dlX5_fits_0_ok 3 rfl
theorem dX5_fits_6 : decode cX5_fits 6 = .ok (.aload_n 0, 1) := dec_at dlX5_fits_0_ok 4 rfl
theorem dX5_fits_7 : decode cX5_fits 7 = .ok (.getfield 44, 3) := dec_at dlX5_fits_0_ok 5 rfl
theorem dX5_fits_10 : decode cX5_fits 10 = .ok (.iload_n 2, 1) := dec_at dlX5_fits_0_ok 6 rfl
theorem dX5_fits_11 : decode cX5_fits 11 = .ok (.iaload, 1) := dec_at dlX5_fits_0_ok 7 rfl
theorem dX5_fits_12 : decode cX5_fits 12 = .ok (.if_icmp .ne 7, 3) := dec_at dlX5_fits_0_ok 8 rfl
theorem dX5_fits_15 : decode cX5_fits 15 = .ok (.iconst 1, 1) := dec_at dlX5_fits_0_ok 9 rfl
theorem dX5_fits_16 : decode cX5_fits 16 = .ok (.goto 4, 3) := dec_at dlX5_fits_0_ok 10 rfl
theorem dX5_fits_19 : decode cX5_fits 19 = .ok (.iconst 0, 1) := dec_at dlX5_fits_0_ok 11 rfl
theorem dX5_fits_20 : decode cX5_fits 20 = .ok (.ireturn, 1) := dec_at dlX5_fits_0_ok 12 rfl
set_option maxRecDepth 20000 in
theorem ggX5_wear_X5_hardness : GoodIn wsX5_wear wsX5_hardness := goodIn_s _ [(10, 3), (19, 13)] rfl (by decide +kernel)
set_option maxRecDepth 20000 in
theorem gX5_wear_X5_hardness : GoodIn wsX5_wear (wsV RX5 59 RX5 yX5_hardness wsX5_hardness) := goodIn_app (goodIn_s _ [(6, 4)] rfl (by decide +kernel)) ggX5_wear_X5_hardness
set_option maxRecDepth 20000 in
theorem ggX5_wear_X5_fits : GoodIn wsX5_wear wsX5_fits := goodIn_s _ [(16, 16)] rfl (by decide +kernel)
set_option maxRecDepth 20000 in
theorem gX5_wear_X5_fits : GoodIn wsX5_wear (wsV RX5 69 RX5 yX5_fits wsX5_fits) := goodIn_app (goodIn_s _ [(13, 3), (9, 1)] rfl (by decide +kernel)) ggX5_wear_X5_fits
noncomputable def dlX5_wear_0 : List (Nat × Instr × Nat) := [(0, .iconst 1, 1), (1, .bipush 12, 2), (3, .aload_n 0, 1), (4, .getfield 47, 3), (7, .iload_n 2, 1), (8, .iaload, 1), (9, .imul, 1), (10, .iconst 1, 1), (11, .aload_n 0, 1), (12, .iload_n 1, 1), (13, .invokevirtual 59, 3), (16, .invokestatic 63, 3), (19, .idiv, 1), (20, .invokestatic 63, 3), (23, .istore_n 3, 1), (24, .aload_n 0, 1), (25, .iload_n 1, 1), (26, .iload_n 2, 1), (27, .invokevirtual 69, 3), (30, .ifCond .eq 7, 3), (33, .iload_n 3, 1), (34, .goto 6, 3), (37, .iload_n 3, 1), (38, .iconst 4, 1), (39, .iadd, 1), (40, .ireturn, 1)]
theorem dlX5_wear_0_ok : dlX5_wear_0.all (fun r => decide (decode cX5_wear r.1 = .ok r.2)) = true := by decide +kernel
theorem dX5_wear_0 : decode cX5_wear 0 = .ok (.iconst 1, 1) := dec_at dlX5_wear_0_ok 0 rfl
theorem dX5_wear_1 : decode cX5_wear 1 = .ok (.bipush 12, 2) := dec_at dlX5_wear_0_ok 1 rfl
theorem dX5_wear_3 : decode cX5_wear 3 = .ok (.aload_n 0, 1) := dec_at dlX5_wear_0_ok 2 rfl
theorem dX5_wear_4 : decode cX5_wear 4 = .ok (.getfield 47, 3) := dec_at dlX5_wear_0_ok 3 rfl
theorem dX5_wear_7 : decode cX5_wear 7 = .ok (.iload_n 2, 1) := dec_at dlX5_wear_0_ok 4 rfl
theorem dX5_wear_8 : decode cX5_wear 8 = .ok (.iaload, 1) := dec_at dlX5_wear_0_ok 5 rfl
theorem dX5_wear_9 : decode cX5_wear 9 = .ok (.imul, 1) := dec_at dlX5_wear_0_ok 6 rfl
theorem dX5_wear_10 : decode cX5_wear 10 = .ok (.iconst 1, 1) := dec_at dlX5_wear_0_ok 7 rfl
theorem dX5_wear_11 : decode cX5_wear 11 = .ok (.aload_n 0, 1) := dec_at dlX5_wear_0_ok 8 rfl
theorem dX5_wear_12 : decode cX5_wear 12 = .ok (.iload_n 1, 1) := dec_at dlX5_wear_0_ok 9 rfl
theorem dX5_wear_13 : decode cX5_wear 13 = .ok (.invokevirtual 59, 3) := dec_at dlX5_wear_0_ok 10 rfl
theorem dX5_wear_16 : decode cX5_wear 16 = .ok (.invokestatic 63, 3) := dec_at dlX5_wear_0_ok 11 rfl
theorem dX5_wear_19 : decode cX5_wear 19 = .ok (.idiv, 1) := dec_at dlX5_wear_0_ok 12 rfl
theorem dX5_wear_20 : decode cX5_wear 20 = .ok (.invokestatic 63, 3) := dec_at dlX5_wear_0_ok 13 rfl
theorem dX5_wear_23 : decode cX5_wear 23 = .ok (.istore_n 3, 1) := dec_at dlX5_wear_0_ok 14 rfl
theorem dX5_wear_24 : decode cX5_wear 24 = .ok (.aload_n 0, 1) := dec_at dlX5_wear_0_ok 15 rfl
theorem dX5_wear_25 : decode cX5_wear 25 = .ok (.iload_n 1, 1) := dec_at dlX5_wear_0_ok 16 rfl
theorem dX5_wear_26 : decode cX5_wear 26 = .ok (.iload_n 2, 1) := dec_at dlX5_wear_0_ok 17 rfl
theorem dX5_wear_27 : decode cX5_wear 27 = .ok (.invokevirtual 69, 3) := dec_at dlX5_wear_0_ok 18 rfl
theorem dX5_wear_30 : decode cX5_wear 30 = .ok (.ifCond .eq 7, 3) := dec_at dlX5_wear_0_ok 19 rfl
theorem dX5_wear_33 : decode cX5_wear 33 = .ok (.iload_n 3, 1) := dec_at dlX5_wear_0_ok 20 rfl
theorem dX5_wear_34 : decode cX5_wear 34 = .ok (.goto 6, 3) := dec_at dlX5_wear_0_ok 21 rfl
theorem dX5_wear_37 : decode cX5_wear 37 = .ok (.iload_n 3, 1) := dec_at dlX5_wear_0_ok 22 rfl
theorem dX5_wear_38 : decode cX5_wear 38 = .ok (.iconst 4, 1) := dec_at dlX5_wear_0_ok 23 rfl
theorem dX5_wear_39 : decode cX5_wear 39 = .ok (.iadd, 1) := dec_at dlX5_wear_0_ok 24 rfl
theorem dX5_wear_40 : decode cX5_wear 40 = .ok (.ireturn, 1) := dec_at dlX5_wear_0_ok 25 rfl
noncomputable def dlX5_likesNib_0 : List (Nat × Instr × Nat) := [(0, .iload_n 2, 1), (1, .aload_n 0, 1), (2, .getfield 50, 3), (5, .iload_n 1, 1), (6, .iaload, 1), (7, .isub, 1), (8, .invokestatic 73, 3), (11, .iconst 1, 1), (12, .if_icmp .gt 7, 3), (15, .iconst 1, 1), (16, .goto 4, 3), (19, .iconst 0, 1), (20, .ireturn, 1)]
theorem dlX5_likesNib_0_ok : dlX5_likesNib_0.all (fun r => decide (decode cX5_likesNib r.1 = .ok r.2)) = true := by decide +kernel
theorem dX5_likesNib_0 : decode cX5_likesNib 0 = .ok (.iload_n 2, 1) := dec_at dlX5_likesNib_0_ok 0 rfl
theorem dX5_likesNib_1 : decode cX5_likesNib 1 = .ok (.aload_n 0, 1) := dec_at dlX5_likesNib_0_ok 1 rfl
theorem dX5_likesNib_2 : decode cX5_likesNib 2 = .ok (.getfield 50, 3) := dec_at dlX5_likesNib_0_ok 2 rfl
theorem dX5_likesNib_5 : decode cX5_likesNib 5 = .ok (.iload_n 1, 1) := dec_at dlX5_likesNib_0_ok 3 rfl
theorem dX5_likesNib_6 : decode cX5_likesNib 6 = .ok (.iaload, 1) := dec_at dlX5_likesNib_0_ok 4 rfl
theorem dX5_likesNib_7 : decode cX5_likesNib 7 = .ok (.isub, 1) := dec_at dlX5_likesNib_0_ok 5 rfl
theorem dX5_likesNib_8 : decode cX5_likesNib 8 = .ok (.invokestatic 73, 3) := dec_at dlX5_likesNib_0_ok 6 rfl
theorem dX5_likesNib_11 : decode cX5_likesNib 11 = .ok (.iconst 1, 1) := dec_at dlX5_likesNib_0_ok 7 rfl
theorem dX5_likesNib_12 : decode cX5_likesNib 12 = .ok (.if_icmp .gt 7, 3) := dec_at dlX5_likesNib_0_ok 8 rfl
theorem dX5_likesNib_15 : decode cX5_likesNib 15 = .ok (.iconst 1, 1) := dec_at dlX5_likesNib_0_ok 9 rfl
theorem dX5_likesNib_16 : decode cX5_likesNib 16 = .ok (.goto 4, 3) := dec_at dlX5_likesNib_0_ok 10 rfl
theorem dX5_likesNib_19 : decode cX5_likesNib 19 = .ok (.iconst 0, 1) := dec_at dlX5_likesNib_0_ok 11 rfl
theorem dX5_likesNib_20 : decode cX5_likesNib 20 = .ok (.ireturn, 1) := dec_at dlX5_likesNib_0_ok 12 rfl
set_option maxRecDepth 20000 in
theorem ggX6_init_X1_init : GoodIn wsX6_init wsX1_init := goodIn_s _ [(18, 2), (2, 2), (20, 2), (6, 1), (22, 6), (35, 8)] rfl (by decide +kernel)
set_option maxRecDepth 20000 in
theorem gX6_init_X1_init : GoodIn wsX6_init (wsX1_init) := ggX6_init_X1_init
noncomputable def dlX6_init_0 : List (Nat × Instr × Nat) := [(0, .aload_n 0, 1), (1, .invokespecial 3, 3), (4, .aload_n 0, 1), (5, .ldc 11, 2), (7, .putfield 12, 3), (10, .aload_n 0, 1), (11, .iconst 4, 1), (12, .newarray .int, 2), (14, .putfield 16, 3), (17, .aload_n 0, 1), (18, .iconst 4, 1), (19, .newarray .int, 2), (21, .putfield 20, 3), (24, .aload_n 0, 1), (25, .iconst 0, 1), (26, .putfield 23, 3), (29, .aload_n 0, 1), (30, .iconst 0, 1), (31, .putfield 26, 3), (34, .aload_n 0, 1), (35, .aload_n 1, 1), (36, .putfield 29, 3), (39, .aload_n 0, 1), (40, .new 33, 3), (43, .dup, 1), (44, .aload_n 1, 1), (45, .invokespecial 35, 3), (48, .putfield 38, 3), (51, .return_, 1)]
theorem dlX6_init_0_ok : dlX6_init_0.all (fun r => decide (decode cX6_init r.1 = .ok r.2)) = true := by decide +kernel
theorem dX6_init_0 : decode cX6_init 0 = .ok (.aload_n 0, 1) := dec_at dlX6_init_0_ok 0 rfl
theorem dX6_init_1 : decode cX6_init 1 = .ok (.invokespecial 3, 3) := dec_at dlX6_init_0_ok 1 rfl
theorem dX6_init_4 : decode cX6_init 4 = .ok (.aload_n 0, 1) := dec_at dlX6_init_0_ok 2 rfl
theorem dX6_init_5 : decode cX6_init 5 = .ok (.ldc 11, 2) := dec_at dlX6_init_0_ok 3 rfl
theorem dX6_init_7 : decode cX6_init 7 = .ok (.putfield 12, 3) := dec_at dlX6_init_0_ok 4 rfl
theorem dX6_init_10 : decode cX6_init 10 = .ok (.aload_n 0, 1) := dec_at dlX6_init_0_ok 5 rfl
theorem dX6_init_11 : decode cX6_init 11 = .ok (.iconst 4, 1) := dec_at dlX6_init_0_ok 6 rfl
theorem dX6_init_12 : decode cX6_init 12 = .ok (.newarray .int, 2) := dec_at dlX6_init_0_ok 7 rfl
theorem dX6_init_14 : decode cX6_init 14 = .ok (.putfield 16, 3) := dec_at dlX6_init_0_ok 8 rfl
theorem dX6_init_17 : decode cX6_init 17 = .ok (.aload_n 0, 1) := dec_at dlX6_init_0_ok 9 rfl
theorem dX6_init_18 : decode cX6_init 18 = .ok (.iconst 4, 1) := dec_at dlX6_init_0_ok 10 rfl
theorem dX6_init_19 : decode cX6_init 19 = .ok (.newarray .int, 2) := dec_at dlX6_init_0_ok 11 rfl
theorem dX6_init_21 : decode cX6_init 21 = .ok (.putfield 20, 3) := dec_at dlX6_init_0_ok 12 rfl
theorem dX6_init_24 : decode cX6_init 24 = .ok (.aload_n 0, 1) := dec_at dlX6_init_0_ok 13 rfl
theorem dX6_init_25 : decode cX6_init 25 = .ok (.iconst 0, 1) := dec_at dlX6_init_0_ok 14 rfl
theorem dX6_init_26 : decode cX6_init 26 = .ok (.putfield 23, 3) := dec_at dlX6_init_0_ok 15 rfl
theorem dX6_init_29 : decode cX6_init 29 = .ok (.aload_n 0, 1) := dec_at dlX6_init_0_ok 16 rfl
theorem dX6_init_30 : decode cX6_init 30 = .ok (.iconst 0, 1) := dec_at dlX6_init_0_ok 17 rfl
theorem dX6_init_31 : decode cX6_init 31 = .ok (.putfield 26, 3) := dec_at dlX6_init_0_ok 18 rfl
theorem dX6_init_34 : decode cX6_init 34 = .ok (.aload_n 0, 1) := dec_at dlX6_init_0_ok 19 rfl
theorem dX6_init_35 : decode cX6_init 35 = .ok (.aload_n 1, 1) := dec_at dlX6_init_0_ok 20 rfl
theorem dX6_init_36 : decode cX6_init 36 = .ok (.putfield 29, 3) := dec_at dlX6_init_0_ok 21 rfl
theorem dX6_init_39 : decode cX6_init 39 = .ok (.aload_n 0, 1) := dec_at dlX6_init_0_ok 22 rfl
theorem dX6_init_40 : decode cX6_init 40 = .ok (.new 33, 3) := dec_at dlX6_init_0_ok 23 rfl
theorem dX6_init_43 : decode cX6_init 43 = .ok (.dup, 1) := dec_at dlX6_init_0_ok 24 rfl
theorem dX6_init_44 : decode cX6_init 44 = .ok (.aload_n 1, 1) := dec_at dlX6_init_0_ok 25 rfl
theorem dX6_init_45 : decode cX6_init 45 = .ok (.invokespecial 35, 3) := dec_at dlX6_init_0_ok 26 rfl
theorem dX6_init_48 : decode cX6_init 48 = .ok (.putfield 38, 3) := dec_at dlX6_init_0_ok 27 rfl
theorem dX6_init_51 : decode cX6_init 51 = .ok (.return_, 1) := dec_at dlX6_init_0_ok 28 rfl
set_option maxRecDepth 20000 in
theorem ggX6_find_X1_copyFrom : GoodIn wsX6_find wsX1_copyFrom := goodIn_s _ [(14, 12), (105, 8)] rfl (by decide +kernel)
set_option maxRecDepth 20000 in
theorem gX6_find_X1_copyFrom : GoodIn wsX6_find (wsV RX6 42 RX1 yX1_copyFrom wsX1_copyFrom) := goodIn_app (goodIn_s _ [(10, 4)] rfl (by decide +kernel)) ggX6_find_X1_copyFrom
set_option maxRecDepth 20000 in
theorem ggX6_find_X6_tryPage : GoodIn wsX6_find wsX6_tryPage := goodIn_s _ [(30, 1), (7, 1), (9, 1), (31, 3), (19, 3), (34, 6), (29, 1), (40, 1), (1, 1), (41, 4), (2, 1), (45, 3), (13, 1), (48, 1), (17, 1), (49, 4), (16, 1), (53, 6), (22, 1), (59, 1), (4, 3), (23, 1), (15, 1), (60, 5), (24, 2), (65, 33), (26, 3), (98, 7), (113, 13), (105, 8)] rfl (by decide +kernel)
set_option maxRecDepth 20000 in
theorem gX6_find_X6_tryPage : GoodIn wsX6_find (wsV RX6 52 RX6 yX6_tryPage wsX6_tryPage) := goodIn_app (goodIn_s _ [(26, 4)] rfl (by decide +kernel)) ggX6_find_X6_tryPage
noncomputable def dlX6_find_0 : List (Nat × Instr × Nat) := [(0, .aload_n 0, 1), (1, .getfield 38, 3), (4, .aload_n 1, 1), (5, .invokevirtual 42, 3), (8, .aload_n 0, 1), (9, .iload_n 2, 1), (10, .putfield 23, 3), (13, .aload_n 0, 1), (14, .iload_n 3, 1), (15, .iconst 4, 1), (16, .invokestatic 46, 3), (19, .putfield 26, 3), (22, .aload_n 0, 1), (23, .ldc 11, 2), (25, .putfield 12, 3), (28, .aload_n 0, 1), (29, .iconst 0, 1), (30, .iconst (-1), 1), (31, .iconst 0, 1), (32, .invokevirtual 52, 3), (35, .aload_n 0, 1), (36, .getfield 12, 3), (39, .ldc 11, 2), (41, .if_icmp .ge 7, 3), (44, .iconst 1, 1), (45, .goto 4, 3), (48, .iconst 0, 1), (49, .ireturn, 1)]
theorem dlX6_find_0_ok : dlX6_find_0.all (fun r => decide (decode cX6_find r.1 = .ok r.2)) = true := by decide +kernel
theorem dX6_find_0 : decode cX6_find 0 = .ok (.aload_n 0, 1) := dec_at dlX6_find_0_ok 0 rfl
theorem dX6_find_1 : decode cX6_find 1 = .ok (.getfield 38, 3) := dec_at dlX6_find_0_ok 1 rfl
theorem dX6_find_4 : decode cX6_find 4 = .ok (.aload_n 1, 1) := dec_at dlX6_find_0_ok 2 rfl
theorem dX6_find_5 : decode cX6_find 5 = .ok (.invokevirtual 42, 3) := dec_at dlX6_find_0_ok 3 rfl
theorem dX6_find_8 : decode cX6_find 8 = .ok (.aload_n 0, 1) := dec_at dlX6_find_0_ok 4 rfl
theorem dX6_find_9 : decode cX6_find 9 = .ok (.iload_n 2, 1) := dec_at dlX6_find_0_ok 5 rfl
theorem dX6_find_10 : decode cX6_find 10 = .ok (.putfield 23, 3) := dec_at dlX6_find_0_ok 6 rfl
theorem dX6_find_13 : decode cX6_find 13 = .ok (.aload_n 0, 1) := dec_at dlX6_find_0_ok 7 rfl
theorem dX6_find_14 : decode cX6_find 14 = .ok (.iload_n 3, 1) := dec_at dlX6_find_0_ok 8 rfl
theorem dX6_find_15 : decode cX6_find 15 = .ok (.iconst 4, 1) := dec_at dlX6_find_0_ok 9 rfl
theorem dX6_find_16 : decode cX6_find 16 = .ok (.invokestatic 46, 3) := dec_at dlX6_find_0_ok 10 rfl
theorem dX6_find_19 : decode cX6_find 19 = .ok (.putfield 26, 3) := dec_at dlX6_find_0_ok 11 rfl
theorem dX6_find_22 : decode cX6_find 22 = .ok (.aload_n 0, 1) := dec_at dlX6_find_0_ok 12 rfl
theorem dX6_find_23 : decode cX6_find 23 = .ok (.ldc 11, 2) := dec_at dlX6_find_0_ok 13 rfl
theorem dX6_find_25 : decode cX6_find 25 = .ok (.putfield 12, 3) := dec_at dlX6_find_0_ok 14 rfl
theorem dX6_find_28 : decode cX6_find 28 = .ok (.aload_n 0, 1) := dec_at dlX6_find_0_ok 15 rfl
theorem dX6_find_29 : decode cX6_find 29 = .ok (.iconst 0, 1) := dec_at dlX6_find_0_ok 16 rfl
theorem dX6_find_30 : decode cX6_find 30 = .ok (.iconst (-1), 1) := dec_at dlX6_find_0_ok 17 rfl
theorem dX6_find_31 : decode cX6_find 31 = .ok (.iconst 0, 1) := dec_at dlX6_find_0_ok 18 rfl
theorem dX6_find_32 : decode cX6_find 32 = .ok (.invokevirtual 52, 3) := dec_at dlX6_find_0_ok 19 rfl
theorem dX6_find_35 : decode cX6_find 35 = .ok (.aload_n 0, 1) := dec_at dlX6_find_0_ok 20 rfl
theorem dX6_find_36 : decode cX6_find 36 = .ok (.getfield 12, 3) := dec_at dlX6_find_0_ok 21 rfl
theorem dX6_find_39 : decode cX6_find 39 = .ok (.ldc 11, 2) := dec_at dlX6_find_0_ok 22 rfl
theorem dX6_find_41 : decode cX6_find 41 = .ok (.if_icmp .ge 7, 3) := dec_at dlX6_find_0_ok 23 rfl
theorem dX6_find_44 : decode cX6_find 44 = .ok (.iconst 1, 1) := dec_at dlX6_find_0_ok 24 rfl
theorem dX6_find_45 : decode cX6_find 45 = .ok (.goto 4, 3) := dec_at dlX6_find_0_ok 25 rfl
theorem dX6_find_48 : decode cX6_find 48 = .ok (.iconst 0, 1) := dec_at dlX6_find_0_ok 26 rfl
theorem dX6_find_49 : decode cX6_find 49 = .ok (.ireturn, 1) := dec_at dlX6_find_0_ok 27 rfl
set_option maxRecDepth 20000 in
theorem ggX6_tryPage_X6_tryQuill : GoodIn wsX6_tryPage wsX6_tryQuill := goodIn_s _ [(16, 1), (1, 2), (17, 6), (3, 1), (23, 67), (15, 1), (0, 1), (4, 11), (90, 28)] rfl (by decide +kernel)
set_option maxRecDepth 20000 in
theorem gX6_tryPage_X6_tryQuill : GoodIn wsX6_tryPage (wsV RX6 67 RX6 yX6_tryQuill wsX6_tryQuill) := goodIn_app (goodIn_s _ [(12, 4)] rfl (by decide +kernel)) ggX6_tryPage_X6_tryQuill
noncomputable def dlX6_tryPage_0 : List (Nat × Instr × Nat) := [(0, .iload_n 1, 1), (1, .aload_n 0, 1), (2, .getfield 26, 3), (5, .if_icmp .lt 23, 3), (8, .aload_n 0, 1), (9, .iload_n 3, 1), (10, .putfield 12, 3), (13, .aload_n 0, 1), (14, .getfield 20, 3), (17, .iconst 0, 1), (18, .aload_n 0, 1), (19, .getfield 16, 3), (22, .iconst 0, 1), (23, .iconst 4, 1), (24, .invokestatic 56, 3), (27, .return_, 1), (28, .iconst 0, 1), (29, .istore 4, 2), (31, .iload 4, 2), (33, .aload_n 0, 1), (34, .getfield 29, 3), (37, .getfield 62, 3), (40, .if_icmp .ge 63, 3), (43, .iload_n 2, 1), (44, .iconst (-1), 1), (45, .if_icmp .eq 9, 3), (48, .iload_n 2, 1), (49, .iload 4, 2), (51, .if_icmp .ne 7, 3), (54, .iconst 0, 1), (55, .goto 4, 3)]
theorem dlX6_tryPage_0_ok : dlX6_tryPage_0.all (fun r => decide (decode cX6_tryPage r.1 = .ok r.2)) = true := by decide +kernel
theorem dX6_tryPage_0 : decode cX6_tryPage 0 = .ok (.iload_n 1, 1) := dec_at dlX6_tryPage_0_ok 0 rfl
theorem dX6_tryPage_1 : decode cX6_tryPage 1 = .ok (.aload_n 0, 1) := dec_at dlX6_tryPage_0_ok 1 rfl
theorem dX6_tryPage_2 : decode cX6_tryPage 2 = .ok (.getfield 26, 3) := dec_at dlX6_tryPage_0_ok 2 rfl
theorem dX6_tryPage_5 : decode cX6_tryPage 5 = .ok (.if_icmp .lt 23, 3) := dec_at dlX6_tryPage_0_ok 3 rfl
theorem dX6_tryPage_8 : decode cX6_tryPage 8 = .ok (.aload_n 0, 1) := dec_at dlX6_tryPage_0_ok 4 rfl
theorem dX6_tryPage_9 : decode cX6_tryPage 9 = .ok (.iload_n 3, 1) := dec_at dlX6_tryPage_0_ok 5 rfl
theorem dX6_tryPage_10 : decode cX6_tryPage 10 = .ok (.putfield 12, 3) := dec_at dlX6_tryPage_0_ok 6 rfl
theorem dX6_tryPage_13 : decode cX6_tryPage 13 = .ok (.aload_n 0, 1) := dec_at dlX6_tryPage_0_ok 7 rfl
theorem dX6_tryPage_14 : decode cX6_tryPage 14 = .ok (.getfield 20, 3) := dec_at dlX6_tryPage_0_ok 8 rfl
theorem dX6_tryPage_17 : decode cX6_tryPage 17 = .ok (.iconst 0, 1) := dec_at dlX6_tryPage_0_ok 9 rfl
theorem dX6_tryPage_18 : decode cX6_tryPage 18 = .ok (.aload_n 0, 1) := dec_at dlX6_tryPage_0_ok 10 rfl
theorem dX6_tryPage_19 : decode cX6_tryPage 19 = .ok (.getfield 16, 3) := dec_at dlX6_tryPage_0_ok 11 rfl
theorem dX6_tryPage_22 : decode cX6_tryPage 22 = .ok (.iconst 0, 1) := dec_at dlX6_tryPage_0_ok 12 rfl
theorem dX6_tryPage_23 : decode cX6_tryPage 23 = .ok (.iconst 4, 1) := dec_at dlX6_tryPage_0_ok 13 rfl
theorem dX6_tryPage_24 : decode cX6_tryPage 24 = .ok (.invokestatic 56, 3) := dec_at dlX6_tryPage_0_ok 14 rfl
theorem dX6_tryPage_27 : decode cX6_tryPage 27 = .ok (.return_, 1) := dec_at dlX6_tryPage_0_ok 15 rfl
theorem dX6_tryPage_28 : decode cX6_tryPage 28 = .ok (.iconst 0, 1) := dec_at dlX6_tryPage_0_ok 16 rfl
theorem dX6_tryPage_29 : decode cX6_tryPage 29 = .ok (.istore 4, 2) := dec_at dlX6_tryPage_0_ok 17 rfl
theorem dX6_tryPage_31 : decode cX6_tryPage 31 = .ok (.iload 4, 2) := dec_at dlX6_tryPage_0_ok 18 rfl
theorem dX6_tryPage_33 : decode cX6_tryPage 33 = .ok (.aload_n 0, 1) := dec_at dlX6_tryPage_0_ok 19 rfl
theorem dX6_tryPage_34 : decode cX6_tryPage 34 = .ok (.getfield 29, 3) := dec_at dlX6_tryPage_0_ok 20 rfl
theorem dX6_tryPage_37 : decode cX6_tryPage 37 = .ok (.getfield 62, 3) := dec_at dlX6_tryPage_0_ok 21 rfl
theorem dX6_tryPage_40 : decode cX6_tryPage 40 = .ok (.if_icmp .ge 63, 3) := dec_at dlX6_tryPage_0_ok 22 rfl
theorem dX6_tryPage_43 : decode cX6_tryPage 43 = .ok (.iload_n 2, 1) := dec_at dlX6_tryPage_0_ok 23 rfl
theorem dX6_tryPage_44 : decode cX6_tryPage 44 = .ok (.iconst (-1), 1) := dec_at dlX6_tryPage_0_ok 24 rfl
theorem dX6_tryPage_45 : decode cX6_tryPage 45 = .ok (.if_icmp .eq 9, 3) := dec_at dlX6_tryPage_0_ok 25 rfl
theorem dX6_tryPage_48 : decode cX6_tryPage 48 = .ok (.iload_n 2, 1) := dec_at dlX6_tryPage_0_ok 26 rfl
theorem dX6_tryPage_49 : decode cX6_tryPage 49 = .ok (.iload 4, 2) := dec_at dlX6_tryPage_0_ok 27 rfl
theorem dX6_tryPage_51 : decode cX6_tryPage 51 = .ok (.if_icmp .ne 7, 3) := dec_at dlX6_tryPage_0_ok 28 rfl
theorem dX6_tryPage_54 : decode cX6_tryPage 54 = .ok (.iconst 0, 1) := dec_at dlX6_tryPage_0_ok 29 rfl
theorem dX6_tryPage_55 : decode cX6_tryPage 55 = .ok (.goto 4, 3) := dec_at dlX6_tryPage_0_ok 30 rfl
noncomputable def dlX6_tryPage_58 : List (Nat × Instr × Nat) := [(58, .iconst 1, 1), (59, .istore 5, 2), (61, .iload_n 3, 1), (62, .iload 5, 2), (64, .iadd, 1), (65, .iconst 2, 1), (66, .iadd, 1), (67, .istore 6, 2), (69, .aload_n 0, 1), (70, .iload_n 1, 1), (71, .iload 4, 2), (73, .iload 6, 2), (75, .iconst 0, 1), (76, .invokevirtual 67, 3), (79, .aload_n 0, 1), (80, .iload_n 1, 1), (81, .iload 4, 2), (83, .iload 6, 2), (85, .aload_n 0, 1), (86, .getfield 29, 3), (89, .getfield 71, 3), (92, .iadd, 1), (93, .iconst 1, 1), (94, .invokevirtual 67, 3), (97, .iinc 4 1, 3), (100, .goto (-69), 3), (103, .return_, 1)]
theorem dlX6_tryPage_58_ok : dlX6_tryPage_58.all (fun r => decide (decode cX6_tryPage r.1 = .ok r.2)) = true := by decide +kernel
theorem dX6_tryPage_58 : decode cX6_tryPage 58 = .ok (.iconst 1, 1) := dec_at dlX6_tryPage_58_ok 0 rfl
theorem dX6_tryPage_59 : decode cX6_tryPage 59 = .ok (.istore 5, 2) := dec_at dlX6_tryPage_58_ok 1 rfl
theorem dX6_tryPage_61 : decode cX6_tryPage 61 = .ok (.iload_n 3, 1) := dec_at dlX6_tryPage_58_ok 2 rfl
theorem dX6_tryPage_62 : decode cX6_tryPage 62 = .ok (.iload 5, 2) := dec_at dlX6_tryPage_58_ok 3 rfl
theorem dX6_tryPage_64 : decode cX6_tryPage 64 = .ok (.iadd, 1) := dec_at dlX6_tryPage_58_ok 4 rfl
theorem dX6_tryPage_65 : decode cX6_tryPage 65 = .ok (.iconst 2, 1) := dec_at dlX6_tryPage_58_ok 5 rfl
theorem dX6_tryPage_66 : decode cX6_tryPage 66 = .ok (.iadd, 1) := dec_at dlX6_tryPage_58_ok 6 rfl
theorem dX6_tryPage_67 : decode cX6_tryPage 67 = .ok (.istore 6, 2) := dec_at dlX6_tryPage_58_ok 7 rfl
theorem dX6_tryPage_69 : decode cX6_tryPage 69 = .ok (.aload_n 0, 1) := dec_at dlX6_tryPage_58_ok 8 rfl
theorem dX6_tryPage_70 : decode cX6_tryPage 70 = .ok (.iload_n 1, 1) := dec_at dlX6_tryPage_58_ok 9 rfl
theorem dX6_tryPage_71 : decode cX6_tryPage 71 = .ok (.iload 4, 2) := dec_at dlX6_tryPage_58_ok 10 rfl
theorem dX6_tryPage_73 : decode cX6_tryPage 73 = .ok (.iload 6, 2) := dec_at dlX6_tryPage_58_ok 11 rfl
theorem dX6_tryPage_75 : decode cX6_tryPage 75 = .ok (.iconst 0, 1) := dec_at dlX6_tryPage_58_ok 12 rfl
theorem dX6_tryPage_76 : decode cX6_tryPage 76 = .ok (.invokevirtual 67, 3) := dec_at dlX6_tryPage_58_ok 13 rfl
theorem dX6_tryPage_79 : decode cX6_tryPage 79 = .ok (.aload_n 0, 1) := dec_at dlX6_tryPage_58_ok 14 rfl
theorem dX6_tryPage_80 : decode cX6_tryPage 80 = .ok (.iload_n 1, 1) := dec_at dlX6_tryPage_58_ok 15 rfl
theorem dX6_tryPage_81 : decode cX6_tryPage 81 = .ok (.iload 4, 2) := dec_at dlX6_tryPage_58_ok 16 rfl
theorem dX6_tryPage_83 : decode cX6_tryPage 83 = .ok (.iload 6, 2) := dec_at dlX6_tryPage_58_ok 17 rfl
theorem dX6_tryPage_85 : decode cX6_tryPage 85 = .ok (.aload_n 0, 1) := dec_at dlX6_tryPage_58_ok 18 rfl
theorem dX6_tryPage_86 : decode cX6_tryPage 86 = .ok (.getfield 29, 3) := dec_at dlX6_tryPage_58_ok 19 rfl
theorem dX6_tryPage_89 : decode cX6_tryPage 89 = .ok (.getfield 71, 3) := dec_at dlX6_tryPage_58_ok 20 rfl
theorem dX6_tryPage_92 : decode cX6_tryPage 92 = .ok (.iadd, 1) := dec_at dlX6_tryPage_58_ok 21 rfl
theorem dX6_tryPage_93 : decode cX6_tryPage 93 = .ok (.iconst 1, 1) := dec_at dlX6_tryPage_58_ok 22 rfl
theorem dX6_tryPage_94 : decode cX6_tryPage 94 = .ok (.invokevirtual 67, 3) := dec_at dlX6_tryPage_58_ok 23 rfl
theorem dX6_tryPage_97 : decode cX6_tryPage 97 = .ok (.iinc 4 1, 3) := dec_at dlX6_tryPage_58_ok 24 rfl
theorem dX6_tryPage_100 : decode cX6_tryPage 100 = .ok (.goto (-69), 3) := dec_at dlX6_tryPage_58_ok 25 rfl
theorem dX6_tryPage_103 : decode cX6_tryPage 103 = .ok (.return_, 1) := dec_at dlX6_tryPage_58_ok 26 rfl
set_option maxRecDepth 20000 in
theorem ggX6_tryQuill_X1_canMend : GoodIn wsX6_tryQuill wsX1_canMend := goodIn_s _ [(14, 5), (13, 1), (19, 4), (110, 8), (97, 13)] rfl (by decide +kernel)
set_option maxRecDepth 20000 in
theorem gX6_tryQuill_X1_canMend : GoodIn wsX6_tryQuill (wsV RX6 74 RX1 yX1_canMend wsX1_canMend) := goodIn_app (goodIn_s _ [(10, 4)] rfl (by decide +kernel)) ggX6_tryQuill_X1_canMend
set_option maxRecDepth 20000 in
theorem ggX6_tryQuill_X1_mendQuill : GoodIn wsX6_tryQuill wsX1_mendQuill := goodIn_s _ [(26, 1), (15, 1), (27, 6), (20, 1), (33, 1), (21, 1), (34, 1), (16, 3), (13, 1), (19, 1), (22, 1), (110, 8), (97, 13)] rfl (by decide +kernel)
set_option maxRecDepth 20000 in
theorem gX6_tryQuill_X1_mendQuill : GoodIn wsX6_tryQuill (wsV RX6 90 RX1 yX1_mendQuill wsX1_mendQuill) := goodIn_app (goodIn_s _ [(23, 3), (13, 1)] rfl (by decide +kernel)) ggX6_tryQuill_X1_mendQuill
set_option maxRecDepth 20000 in
theorem ggX6_tryQuill_X1_writePage : GoodIn wsX6_tryQuill wsX1_writePage := goodIn_s _ [(38, 1), (32, 1), (21, 1), (27, 1), (39, 2), (33, 1), (41, 8), (30, 1), (49, 17), (29, 1), (31, 1), (66, 8), (110, 8), (97, 13)] rfl (by decide +kernel)
set_option maxRecDepth 20000 in
theorem gX6_tryQuill_X1_writePage : GoodIn wsX6_tryQuill (wsV RX6 94 RX1 yX1_writePage wsX1_writePage) := goodIn_app (goodIn_s _ [(35, 3), (13, 1)] rfl (by decide +kernel)) ggX6_tryQuill_X1_writePage
set_option maxRecDepth 20000 in
theorem ggX6_tryQuill_X6_tryPage : GoodIn wsX6_tryQuill wsX6_tryPage := goodIn_s _ [(78, 1), (1, 2), (9, 1), (79, 11), (77, 1), (0, 1), (3, 6), (10, 67), (90, 28)] rfl (by decide +kernel)
set_option maxRecDepth 20000 in
theorem gX6_tryQuill_X6_tryPage : GoodIn wsX6_tryQuill (wsV RX6 52 RX6 yX6_tryPage wsX6_tryPage) := goodIn_app (goodIn_s _ [(74, 4)] rfl (by decide +kernel)) ggX6_tryQuill_X6_tryPage
noncomputable def dlX6_tryQuill_0 : List (Nat × Instr × Nat) := [(0, .iload_n 3, 1), (1, .iconst 2, 1), (2, .aload_n 0, 1), (3, .getfield 26, 3), (6, .iload_n 1, 1), (7, .isub, 1), (8, .iconst 1, 1), (9, .isub, 1), (10, .imul, 1), (11, .iadd, 1), (12, .istore 5, 2), (14, .iload 5, 2), (16, .aload_n 0, 1), (17, .getfield 12, 3), (20, .if_icmp .ge 19, 3), (23, .iload 4, 2), (25, .ifCond .eq 15, 3), (28, .aload_n 0, 1), (29, .getfield 38, 3), (32, .iload_n 2, 1), (33, .invokevirtual 74, 3), (36, .ifCond .ne 4, 3), (39, .return_, 1), (40, .aload_n 0, 1), (41, .getfield 38, 3), (44, .getfield 78, 3), (47, .iload_n 2, 1), (48, .iaload, 1), (49, .istore 6, 2), (51, .aload_n 0, 1), (52, .getfield 38, 3)]
theorem dlX6_tryQuill_0_ok : dlX6_tryQuill_0.all (fun r => decide (decode cX6_tryQuill r.1 = .ok r.2)) = true := by decide +kernel
theorem dX6_tryQuill_0 : decode cX6_tryQuill 0 = .ok (.iload_n 3, 1) := dec_at dlX6_tryQuill_0_ok 0 rfl
theorem dX6_tryQuill_1 : decode cX6_tryQuill 1 = .ok (.iconst 2, 1) := dec_at dlX6_tryQuill_0_ok 1 rfl
theorem dX6_tryQuill_2 : decode cX6_tryQuill 2 = .ok (.aload_n 0, 1) := dec_at dlX6_tryQuill_0_ok 2 rfl
theorem dX6_tryQuill_3 : decode cX6_tryQuill 3 = .ok (.getfield 26, 3) := dec_at dlX6_tryQuill_0_ok 3 rfl
theorem dX6_tryQuill_6 : decode cX6_tryQuill 6 = .ok (.iload_n 1, 1) := dec_at dlX6_tryQuill_0_ok 4 rfl
theorem dX6_tryQuill_7 : decode cX6_tryQuill 7 = .ok (.isub, 1) := dec_at dlX6_tryQuill_0_ok 5 rfl
theorem dX6_tryQuill_8 : decode cX6_tryQuill 8 = .ok (.iconst 1, 1) := dec_at dlX6_tryQuill_0_ok 6 rfl
theorem dX6_tryQuill_9 : decode cX6_tryQuill 9 = .ok (.isub, 1) := dec_at dlX6_tryQuill_0_ok 7 rfl
theorem dX6_tryQuill_10 : decode cX6_tryQuill 10 = .ok (.imul, 1) := dec_at dlX6_tryQuill_0_ok 8 rfl
theorem dX6_tryQuill_11 : decode cX6_tryQuill 11 = .ok (.iadd, 1) := dec_at dlX6_tryQuill_0_ok 9 rfl
theorem dX6_tryQuill_12 : decode cX6_tryQuill 12 = .ok (.istore 5, 2) := dec_at dlX6_tryQuill_0_ok 10 rfl
theorem dX6_tryQuill_14 : decode cX6_tryQuill 14 = .ok (.iload 5, 2) := dec_at dlX6_tryQuill_0_ok 11 rfl
theorem dX6_tryQuill_16 : decode cX6_tryQuill 16 = .ok (.aload_n 0, 1) := dec_at dlX6_tryQuill_0_ok 12 rfl
theorem dX6_tryQuill_17 : decode cX6_tryQuill 17 = .ok (.getfield 12, 3) := dec_at dlX6_tryQuill_0_ok 13 rfl
theorem dX6_tryQuill_20 : decode cX6_tryQuill 20 = .ok (.if_icmp .ge 19, 3) := dec_at dlX6_tryQuill_0_ok 14 rfl
theorem dX6_tryQuill_23 : decode cX6_tryQuill 23 = .ok (.iload 4, 2) := dec_at dlX6_tryQuill_0_ok 15 rfl
theorem dX6_tryQuill_25 : decode cX6_tryQuill 25 = .ok (.ifCond .eq 15, 3) := dec_at dlX6_tryQuill_0_ok 16 rfl
theorem dX6_tryQuill_28 : decode cX6_tryQuill 28 = .ok (.aload_n 0, 1) := dec_at dlX6_tryQuill_0_ok 17 rfl
theorem dX6_tryQuill_29 : decode cX6_tryQuill 29 = .ok (.getfield 38, 3) := dec_at dlX6_tryQuill_0_ok 18 rfl
theorem dX6_tryQuill_32 : decode cX6_tryQuill 32 = .ok (.iload_n 2, 1) := dec_at dlX6_tryQuill_0_ok 19 rfl
theorem dX6_tryQuill_33 : decode cX6_tryQuill 33 = .ok (.invokevirtual 74, 3) := dec_at dlX6_tryQuill_0_ok 20 rfl
theorem dX6_tryQuill_36 : decode cX6_tryQuill 36 = .ok (.ifCond .ne 4, 3) := dec_at dlX6_tryQuill_0_ok 21 rfl
theorem dX6_tryQuill_39 : decode cX6_tryQuill 39 = .ok (.return_, 1) := dec_at dlX6_tryQuill_0_ok 22 rfl
theorem dX6_tryQuill_40 : decode cX6_tryQuill 40 = .ok (.aload_n 0, 1) := dec_at dlX6_tryQuill_0_ok 23 rfl
theorem dX6_tryQuill_41 : decode cX6_tryQuill 41 = .ok (.getfield 38, 3) := dec_at dlX6_tryQuill_0_ok 24 rfl
theorem dX6_tryQuill_44 : decode cX6_tryQuill 44 = .ok (.getfield 78, 3) := dec_at dlX6_tryQuill_0_ok 25 rfl
theorem dX6_tryQuill_47 : decode cX6_tryQuill 47 = .ok (.iload_n 2, 1) := dec_at dlX6_tryQuill_0_ok 26 rfl
theorem dX6_tryQuill_48 : decode cX6_tryQuill 48 = .ok (.iaload, 1) := dec_at dlX6_tryQuill_0_ok 27 rfl
theorem dX6_tryQuill_49 : decode cX6_tryQuill 49 = .ok (.istore 6, 2) := dec_at dlX6_tryQuill_0_ok 28 rfl
theorem dX6_tryQuill_51 : decode cX6_tryQuill 51 = .ok (.aload_n 0, 1) := dec_at dlX6_tryQuill_0_ok 29 rfl
theorem dX6_tryQuill_52 : decode cX6_tryQuill 52 = .ok (.getfield 38, 3) := dec_at dlX6_tryQuill_0_ok 30 rfl
noncomputable def dlX6_tryQuill_55 : List (Nat × Instr × Nat) := [(55, .getfield 81, 3), (58, .iload_n 2, 1), (59, .iaload, 1), (60, .istore 7, 2), (62, .aload_n 0, 1), (63, .getfield 38, 3), (66, .getfield 84, 3), (69, .iload_n 2, 1), (70, .iaload, 1), (71, .istore 8, 2), (73, .aload_n 0, 1), (74, .getfield 38, 3), (77, .getfield 87, 3), (80, .istore 9, 2), (82, .iload 4, 2), (84, .ifCond .eq 11, 3), (87, .aload_n 0, 1), (88, .getfield 38, 3), (91, .iload_n 2, 1), (92, .invokevirtual 90, 3), (95, .aload_n 0, 1), (96, .getfield 38, 3), (99, .iload_n 2, 1), (100, .aload_n 0, 1), (101, .getfield 23, 3), (104, .invokevirtual 94, 3), (107, .ifCond .eq 31, 3), (110, .aload_n 0, 1), (111, .getfield 20, 3), (114, .iload_n 1, 1), (115, .iload 4, 2)]
theorem dlX6_tryQuill_55_ok : dlX6_tryQuill_55.all (fun r => decide (decode cX6_tryQuill r.1 = .ok r.2)) = true := by decide +kernel
theorem dX6_tryQuill_55 : decode cX6_tryQuill 55 = .ok (.getfield 81, 3) := dec_at dlX6_tryQuill_55_ok 0 rfl
theorem dX6_tryQuill_58 : decode cX6_tryQuill 58 = .ok (.iload_n 2, 1) := dec_at dlX6_tryQuill_55_ok 1 rfl
theorem dX6_tryQuill_59 : decode cX6_tryQuill 59 = .ok (.iaload, 1) := dec_at dlX6_tryQuill_55_ok 2 rfl
theorem dX6_tryQuill_60 : decode cX6_tryQuill 60 = .ok (.istore 7, 2) := dec_at dlX6_tryQuill_55_ok 3 rfl
theorem dX6_tryQuill_62 : decode cX6_tryQuill 62 = .ok (.aload_n 0, 1) := dec_at dlX6_tryQuill_55_ok 4 rfl
theorem dX6_tryQuill_63 : decode cX6_tryQuill 63 = .ok (.getfield 38, 3) := dec_at dlX6_tryQuill_55_ok 5 rfl
theorem dX6_tryQuill_66 : decode cX6_tryQuill 66 = .ok (.getfield 84, 3) := dec_at dlX6_tryQuill_55_ok 6 rfl
theorem dX6_tryQuill_69 : decode cX6_tryQuill 69 = .ok (.iload_n 2, 1) := dec_at dlX6_tryQuill_55_ok 7 rfl
theorem dX6_tryQuill_70 : decode cX6_tryQuill 70 = .ok (.iaload, 1) := dec_at dlX6_tryQuill_55_ok 8 rfl
theorem dX6_tryQuill_71 : decode cX6_tryQuill 71 = .ok (.istore 8, 2) := dec_at dlX6_tryQuill_55_ok 9 rfl
theorem dX6_tryQuill_73 : decode cX6_tryQuill 73 = .ok (.aload_n 0, 1) := dec_at dlX6_tryQuill_55_ok 10 rfl
theorem dX6_tryQuill_74 : decode cX6_tryQuill 74 = .ok (.getfield 38, 3) := dec_at dlX6_tryQuill_55_ok 11 rfl
theorem dX6_tryQuill_77 : decode cX6_tryQuill 77 = .ok (.getfield 87, 3) := dec_at dlX6_tryQuill_55_ok 12 rfl
theorem dX6_tryQuill_80 : decode cX6_tryQuill 80 = .ok (.istore 9, 2) := dec_at dlX6_tryQuill_55_ok 13 rfl
theorem dX6_tryQuill_82 : decode cX6_tryQuill 82 = .ok (.iload 4, 2) := dec_at dlX6_tryQuill_55_ok 14 rfl
theorem dX6_tryQuill_84 : decode cX6_tryQuill 84 = .ok (.ifCond .eq 11, 3) := dec_at dlX6_tryQuill_55_ok 15 rfl
theorem dX6_tryQuill_87 : decode cX6_tryQuill 87 = .ok (.aload_n 0, 1) := dec_at dlX6_tryQuill_55_ok 16 rfl
theorem dX6_tryQuill_88 : decode cX6_tryQuill 88 = .ok (.getfield 38, 3) := dec_at dlX6_tryQuill_55_ok 17 rfl
theorem dX6_tryQuill_91 : decode cX6_tryQuill 91 = .ok (.iload_n 2, 1) := dec_at dlX6_tryQuill_55_ok 18 rfl
theorem dX6_tryQuill_92 : decode cX6_tryQuill 92 = .ok (.invokevirtual 90, 3) := dec_at dlX6_tryQuill_55_ok 19 rfl
theorem dX6_tryQuill_95 : decode cX6_tryQuill 95 = .ok (.aload_n 0, 1) := dec_at dlX6_tryQuill_55_ok 20 rfl
theorem dX6_tryQuill_96 : decode cX6_tryQuill 96 = .ok (.getfield 38, 3) := dec_at dlX6_tryQuill_55_ok 21 rfl
theorem dX6_tryQuill_99 : decode cX6_tryQuill 99 = .ok (.iload_n 2, 1) := dec_at dlX6_tryQuill_55_ok 22 rfl
theorem dX6_tryQuill_100 : decode cX6_tryQuill 100 = .ok (.aload_n 0, 1) := dec_at dlX6_tryQuill_55_ok 23 rfl
theorem dX6_tryQuill_101 : decode cX6_tryQuill 101 = .ok (.getfield 23, 3) := dec_at dlX6_tryQuill_55_ok 24 rfl
theorem dX6_tryQuill_104 : decode cX6_tryQuill 104 = .ok (.invokevirtual 94, 3) := dec_at dlX6_tryQuill_55_ok 25 rfl
theorem dX6_tryQuill_107 : decode cX6_tryQuill 107 = .ok (.ifCond .eq 31, 3) := dec_at dlX6_tryQuill_55_ok 26 rfl
theorem dX6_tryQuill_110 : decode cX6_tryQuill 110 = .ok (.aload_n 0, 1) := dec_at dlX6_tryQuill_55_ok 27 rfl
theorem dX6_tryQuill_111 : decode cX6_tryQuill 111 = .ok (.getfield 20, 3) := dec_at dlX6_tryQuill_55_ok 28 rfl
theorem dX6_tryQuill_114 : decode cX6_tryQuill 114 = .ok (.iload_n 1, 1) := dec_at dlX6_tryQuill_55_ok 29 rfl
theorem dX6_tryQuill_115 : decode cX6_tryQuill 115 = .ok (.iload 4, 2) := dec_at dlX6_tryQuill_55_ok 30 rfl
noncomputable def dlX6_tryQuill_117 : List (Nat × Instr × Nat) := [(117, .ifCond .eq 10, 3), (120, .iload_n 2, 1), (121, .bipush 10, 2), (123, .iadd, 1), (124, .goto 4, 3), (127, .iload_n 2, 1), (128, .iastore, 1), (129, .aload_n 0, 1), (130, .iload_n 1, 1), (131, .iconst 1, 1), (132, .iadd, 1), (133, .iload_n 2, 1), (134, .iload_n 3, 1), (135, .invokevirtual 52, 3), (138, .aload_n 0, 1), (139, .getfield 38, 3), (142, .getfield 78, 3), (145, .iload_n 2, 1), (146, .iload 6, 2), (148, .iastore, 1), (149, .aload_n 0, 1), (150, .getfield 38, 3), (153, .getfield 81, 3), (156, .iload_n 2, 1), (157, .iload 7, 2), (159, .iastore, 1), (160, .aload_n 0, 1), (161, .getfield 38, 3), (164, .getfield 84, 3), (167, .iload_n 2, 1), (168, .iload 8, 2)]
theorem dlX6_tryQuill_117_ok : dlX6_tryQuill_117.all (fun r => decide (decode cX6_tryQuill r.1 = .ok r.2)) = true := by decide +kernel
theorem dX6_tryQuill_117 : decode cX6_tryQuill 117 = .ok (.ifCond .eq 10, 3) := dec_at dlX6_tryQuill_117_ok 0 rfl
theorem dX6_tryQuill_120 : decode cX6_tryQuill 120 = .ok (.iload_n 2, 1) := dec_at dlX6_tryQuill_117_ok 1 rfl
theorem dX6_tryQuill_121 : decode cX6_tryQuill 121 = .ok (.bipush 10, 2) := dec_at dlX6_tryQuill_117_ok 2 rfl
theorem dX6_tryQuill_123 : decode cX6_tryQuill 123 = .ok (.iadd, 1) := dec_at dlX6_tryQuill_117_ok 3 rfl
theorem dX6_tryQuill_124 : decode cX6_tryQuill 124 = .ok (.goto 4, 3) := dec_at dlX6_tryQuill_117_ok 4 rfl
theorem dX6_tryQuill_127 : decode cX6_tryQuill 127 = .ok (.iload_n 2, 1) := dec_at dlX6_tryQuill_117_ok 5 rfl
theorem dX6_tryQuill_128 : decode cX6_tryQuill 128 = .ok (.iastore, 1) := dec_at dlX6_tryQuill_117_ok 6 rfl
theorem dX6_tryQuill_129 : decode cX6_tryQuill 129 = .ok (.aload_n 0, 1) := dec_at dlX6_tryQuill_117_ok 7 rfl
theorem dX6_tryQuill_130 : decode cX6_tryQuill 130 = .ok (.iload_n 1, 1) := dec_at dlX6_tryQuill_117_ok 8 rfl
theorem dX6_tryQuill_131 : decode cX6_tryQuill 131 = .ok (.iconst 1, 1) := dec_at dlX6_tryQuill_117_ok 9 rfl
theorem dX6_tryQuill_132 : decode cX6_tryQuill 132 = .ok (.iadd, 1) := dec_at dlX6_tryQuill_117_ok 10 rfl
theorem dX6_tryQuill_133 : decode cX6_tryQuill 133 = .ok (.iload_n 2, 1) := dec_at dlX6_tryQuill_117_ok 11 rfl
theorem dX6_tryQuill_134 : decode cX6_tryQuill 134 = .ok (.iload_n 3, 1) := dec_at dlX6_tryQuill_117_ok 12 rfl
theorem dX6_tryQuill_135 : decode cX6_tryQuill 135 = .ok (.invokevirtual 52, 3) := dec_at dlX6_tryQuill_117_ok 13 rfl
theorem dX6_tryQuill_138 : decode cX6_tryQuill 138 = .ok (.aload_n 0, 1) := dec_at dlX6_tryQuill_117_ok 14 rfl
theorem dX6_tryQuill_139 : decode cX6_tryQuill 139 = .ok (.getfield 38, 3) := dec_at dlX6_tryQuill_117_ok 15 rfl
theorem dX6_tryQuill_142 : decode cX6_tryQuill 142 = .ok (.getfield 78, 3) := dec_at dlX6_tryQuill_117_ok 16 rfl
theorem dX6_tryQuill_145 : decode cX6_tryQuill 145 = .ok (.iload_n 2, 1) := dec_at dlX6_tryQuill_117_ok 17 rfl
theorem dX6_tryQuill_146 : decode cX6_tryQuill 146 = .ok (.iload 6, 2) := dec_at dlX6_tryQuill_117_ok 18 rfl
theorem dX6_tryQuill_148 : decode cX6_tryQuill 148 = .ok (.iastore, 1) := dec_at dlX6_tryQuill_117_ok 19 rfl
theorem dX6_tryQuill_149 : decode cX6_tryQuill 149 = .ok (.aload_n 0, 1) := dec_at dlX6_tryQuill_117_ok 20 rfl
theorem dX6_tryQuill_150 : decode cX6_tryQuill 150 = .ok (.getfield 38, 3) := dec_at dlX6_tryQuill_117_ok 21 rfl
theorem dX6_tryQuill_153 : decode cX6_tryQuill 153 = .ok (.getfield 81, 3) := dec_at dlX6_tryQuill_117_ok 22 rfl
theorem dX6_tryQuill_156 : decode cX6_tryQuill 156 = .ok (.iload_n 2, 1) := dec_at dlX6_tryQuill_117_ok 23 rfl
theorem dX6_tryQuill_157 : decode cX6_tryQuill 157 = .ok (.iload 7, 2) := dec_at dlX6_tryQuill_117_ok 24 rfl
theorem dX6_tryQuill_159 : decode cX6_tryQuill 159 = .ok (.iastore, 1) := dec_at dlX6_tryQuill_117_ok 25 rfl
theorem dX6_tryQuill_160 : decode cX6_tryQuill 160 = .ok (.aload_n 0, 1) := dec_at dlX6_tryQuill_117_ok 26 rfl
theorem dX6_tryQuill_161 : decode cX6_tryQuill 161 = .ok (.getfield 38, 3) := dec_at dlX6_tryQuill_117_ok 27 rfl
theorem dX6_tryQuill_164 : decode cX6_tryQuill 164 = .ok (.getfield 84, 3) := dec_at dlX6_tryQuill_117_ok 28 rfl
theorem dX6_tryQuill_167 : decode cX6_tryQuill 167 = .ok (.iload_n 2, 1) := dec_at dlX6_tryQuill_117_ok 29 rfl
theorem dX6_tryQuill_168 : decode cX6_tryQuill 168 = .ok (.iload 8, 2) := dec_at dlX6_tryQuill_117_ok 30 rfl
noncomputable def dlX6_tryQuill_170 : List (Nat × Instr × Nat) := [(170, .iastore, 1), (171, .aload_n 0, 1), (172, .getfield 38, 3), (175, .iload 9, 2), (177, .putfield 87, 3), (180, .return_, 1)]
theorem dlX6_tryQuill_170_ok : dlX6_tryQuill_170.all (fun r => decide (decode cX6_tryQuill r.1 = .ok r.2)) = true := by decide +kernel
theorem dX6_tryQuill_170 : decode cX6_tryQuill 170 = .ok (.iastore, 1) := dec_at dlX6_tryQuill_170_ok 0 rfl
theorem dX6_tryQuill_171 : decode cX6_tryQuill 171 = .ok (.aload_n 0, 1) := dec_at dlX6_tryQuill_170_ok 1 rfl
theorem dX6_tryQuill_172 : decode cX6_tryQuill 172 = .ok (.getfield 38, 3) := dec_at dlX6_tryQuill_170_ok 2 rfl
theorem dX6_tryQuill_175 : decode cX6_tryQuill 175 = .ok (.iload 9, 2) := dec_at dlX6_tryQuill_170_ok 3 rfl
theorem dX6_tryQuill_177 : decode cX6_tryQuill 177 = .ok (.putfield 87, 3) := dec_at dlX6_tryQuill_170_ok 4 rfl
theorem dX6_tryQuill_180 : decode cX6_tryQuill 180 = .ok (.return_, 1) := dec_at dlX6_tryQuill_170_ok 5 rfl
set_option maxRecDepth 20000 in
theorem ggX7_init_X5_init : GoodIn wsX7_init wsX5_init := goodIn_s _ [(16, 2), (2, 2), (18, 5), (9, 1), (23, 21)] rfl (by decide +kernel)
set_option maxRecDepth 20000 in
theorem gX7_init_X5_init_n11 : GoodIn wsX7_init (wsX5_init) := ggX7_init_X5_init
noncomputable def dlX7_init_0 : List (Nat × Instr × Nat) := [(0, .aload_n 0, 1), (1, .invokespecial 3, 3), (4, .aload_n 0, 1), (5, .new 9, 3), (8, .dup, 1), (9, .invokespecial 11, 3), (12, .putfield 12, 3), (15, .aload_n 0, 1), (16, .iconst (-1), 1), (17, .putfield 18, 3), (20, .aload_n 0, 1), (21, .iconst 5, 1), (22, .newarray .int, 2), (24, .putfield 22, 3), (27, .aload_n 0, 1), (28, .sipush 220, 3), (31, .newarray .int, 2), (33, .putfield 26, 3), (36, .aload_n 0, 1), (37, .iconst 0, 1), (38, .putfield 29, 3), (41, .aload_n 0, 1), (42, .iconst 0, 1), (43, .putfield 32, 3), (46, .aload_n 0, 1), (47, .iconst 0, 1), (48, .putfield 35, 3), (51, .return_, 1)]
theorem dlX7_init_0_ok : dlX7_init_0.all (fun r => decide (decode cX7_init r.1 = .ok r.2)) = true := by decide +kernel
theorem dX7_init_0 : decode cX7_init 0 = .ok (.aload_n 0, 1) := dec_at dlX7_init_0_ok 0 rfl
theorem dX7_init_1 : decode cX7_init 1 = .ok (.invokespecial 3, 3) := dec_at dlX7_init_0_ok 1 rfl
theorem dX7_init_4 : decode cX7_init 4 = .ok (.aload_n 0, 1) := dec_at dlX7_init_0_ok 2 rfl
theorem dX7_init_5 : decode cX7_init 5 = .ok (.new 9, 3) := dec_at dlX7_init_0_ok 3 rfl
theorem dX7_init_8 : decode cX7_init 8 = .ok (.dup, 1) := dec_at dlX7_init_0_ok 4 rfl
theorem dX7_init_9 : decode cX7_init 9 = .ok (.invokespecial 11, 3) := dec_at dlX7_init_0_ok 5 rfl
theorem dX7_init_12 : decode cX7_init 12 = .ok (.putfield 12, 3) := dec_at dlX7_init_0_ok 6 rfl
theorem dX7_init_15 : decode cX7_init 15 = .ok (.aload_n 0, 1) := dec_at dlX7_init_0_ok 7 rfl
theorem dX7_init_16 : decode cX7_init 16 = .ok (.iconst (-1), 1) := dec_at dlX7_init_0_ok 8 rfl
theorem dX7_init_17 : decode cX7_init 17 = .ok (.putfield 18, 3) := dec_at dlX7_init_0_ok 9 rfl
theorem dX7_init_20 : decode cX7_init 20 = .ok (.aload_n 0, 1) := dec_at dlX7_init_0_ok 10 rfl
theorem dX7_init_21 : decode cX7_init 21 = .ok (.iconst 5, 1) := dec_at dlX7_init_0_ok 11 rfl
theorem dX7_init_22 : decode cX7_init 22 = .ok (.newarray .int, 2) := dec_at dlX7_init_0_ok 12 rfl
theorem dX7_init_24 : decode cX7_init 24 = .ok (.putfield 22, 3) := dec_at dlX7_init_0_ok 13 rfl
theorem dX7_init_27 : decode cX7_init 27 = .ok (.aload_n 0, 1) := dec_at dlX7_init_0_ok 14 rfl
theorem dX7_init_28 : decode cX7_init 28 = .ok (.sipush 220, 3) := dec_at dlX7_init_0_ok 15 rfl
theorem dX7_init_31 : decode cX7_init 31 = .ok (.newarray .int, 2) := dec_at dlX7_init_0_ok 16 rfl
theorem dX7_init_33 : decode cX7_init 33 = .ok (.putfield 26, 3) := dec_at dlX7_init_0_ok 17 rfl
theorem dX7_init_36 : decode cX7_init 36 = .ok (.aload_n 0, 1) := dec_at dlX7_init_0_ok 18 rfl
theorem dX7_init_37 : decode cX7_init 37 = .ok (.iconst 0, 1) := dec_at dlX7_init_0_ok 19 rfl
theorem dX7_init_38 : decode cX7_init 38 = .ok (.putfield 29, 3) := dec_at dlX7_init_0_ok 20 rfl
theorem dX7_init_41 : decode cX7_init 41 = .ok (.aload_n 0, 1) := dec_at dlX7_init_0_ok 21 rfl
theorem dX7_init_42 : decode cX7_init 42 = .ok (.iconst 0, 1) := dec_at dlX7_init_0_ok 22 rfl
theorem dX7_init_43 : decode cX7_init 43 = .ok (.putfield 32, 3) := dec_at dlX7_init_0_ok 23 rfl
theorem dX7_init_46 : decode cX7_init 46 = .ok (.aload_n 0, 1) := dec_at dlX7_init_0_ok 24 rfl
theorem dX7_init_47 : decode cX7_init 47 = .ok (.iconst 0, 1) := dec_at dlX7_init_0_ok 25 rfl
theorem dX7_init_48 : decode cX7_init 48 = .ok (.putfield 35, 3) := dec_at dlX7_init_0_ok 26 rfl
theorem dX7_init_51 : decode cX7_init 51 = .ok (.return_, 1) := dec_at dlX7_init_0_ok 27 rfl
set_option maxRecDepth 20000 in
theorem ggX7_readText_X5_clear : GoodIn wsX7_readText wsX5_clear := goodIn_s _ [(22, 6), (100, 13)] rfl (by decide +kernel)
set_option maxRecDepth 20000 in
theorem gX7_readText_X5_clear : GoodIn wsX7_readText (wsV RX7 38 RX5 yX5_clear wsX5_clear) := goodIn_app (goodIn_s _ [(18, 4)] rfl (by decide +kernel)) ggX7_readText_X5_clear
set_option maxRecDepth 20000 in
theorem ggX7_readText_X7_skipBlanks : GoodIn wsX7_readText wsX7_skipBlanks := goodIn_s _ [(32, 1), (2, 1), (12, 2), (93, 7)] rfl (by decide +kernel)
set_option maxRecDepth 20000 in
theorem gX7_readText_X7_skipBlanks : GoodIn wsX7_readText (wsV RX7 56 RX7 yX7_skipBlanks wsX7_skipBlanks) := goodIn_app (goodIn_s _ [(28, 4)] rfl (by decide +kernel)) ggX7_readText_X7_skipBlanks
set_option maxRecDepth 20000 in
theorem ggX7_readText_X7_readClause : GoodIn wsX7_readText wsX7_readClause := goodIn_s _ [(36, 1), (1, 1), (37, 1), (2, 1), (38, 12), (31, 1), (50, 1), (12, 2), (51, 4), (3, 2), (55, 8), (5, 4), (63, 4), (28, 3), (32, 1), (67, 9), (21, 1), (76, 1), (23, 3), (77, 4), (26, 1), (81, 9), (27, 1), (90, 23)] rfl (by decide +kernel)
set_option maxRecDepth 20000 in
theorem gX7_readText_X7_readClause : GoodIn wsX7_readText (wsV RX7 59 RX7 yX7_readClause wsX7_readClause) := goodIn_app (goodIn_s _ [(33, 3), (31, 1)] rfl (by decide +kernel)) ggX7_readText_X7_readClause
noncomputable def dlX7_readText_0 : List (Nat × Instr × Nat) := [(0, .aload_n 0, 1), (1, .getfield 12, 3), (4, .invokevirtual 38, 3), (7, .aload_n 0, 1), (8, .iconst 0, 1), (9, .putfield 32, 3), (12, .aload_n 0, 1), (13, .iconst 0, 1), (14, .putfield 35, 3), (17, .aload_n 0, 1), (18, .iconst (-1), 1), (19, .putfield 18, 3), (22, .aload_n 0, 1), (23, .iconst 0, 1), (24, .iload_n 2, 1), (25, .aload_n 1, 1), (26, .arraylength, 1), (27, .sipush 220, 3), (30, .invokestatic 41, 3), (33, .invokestatic 41, 3), (36, .invokestatic 47, 3), (39, .putfield 29, 3), (42, .aload_n 1, 1), (43, .iconst 0, 1), (44, .aload_n 0, 1), (45, .getfield 26, 3), (48, .iconst 0, 1), (49, .aload_n 0, 1), (50, .getfield 29, 3), (53, .invokestatic 50, 3), (56, .iconst 0, 1)]
theorem dlX7_readText_0_ok : dlX7_readText_0.all (fun r => decide (decode cX7_readText r.1 = .ok r.2)) = true := by decide +kernel
theorem dX7_readText_0 : decode cX7_readText 0 = .ok (.aload_n 0, 1) := dec_at dlX7_readText_0_ok 0 rfl
theorem dX7_readText_1 : decode cX7_readText 1 = .ok (.getfield 12, 3) := dec_at dlX7_readText_0_ok 1 rfl
theorem dX7_readText_4 : decode cX7_readText 4 = .ok (.invokevirtual 38, 3) := dec_at dlX7_readText_0_ok 2 rfl
theorem dX7_readText_7 : decode cX7_readText 7 = .ok (.aload_n 0, 1) := dec_at dlX7_readText_0_ok 3 rfl
theorem dX7_readText_8 : decode cX7_readText 8 = .ok (.iconst 0, 1) := dec_at dlX7_readText_0_ok 4 rfl
theorem dX7_readText_9 : decode cX7_readText 9 = .ok (.putfield 32, 3) := dec_at dlX7_readText_0_ok 5 rfl
theorem dX7_readText_12 : decode cX7_readText 12 = .ok (.aload_n 0, 1) := dec_at dlX7_readText_0_ok 6 rfl
theorem dX7_readText_13 : decode cX7_readText 13 = .ok (.iconst 0, 1) := dec_at dlX7_readText_0_ok 7 rfl
theorem dX7_readText_14 : decode cX7_readText 14 = .ok (.putfield 35, 3) := dec_at dlX7_readText_0_ok 8 rfl
theorem dX7_readText_17 : decode cX7_readText 17 = .ok (.aload_n 0, 1) := dec_at dlX7_readText_0_ok 9 rfl
theorem dX7_readText_18 : decode cX7_readText 18 = .ok (.iconst (-1), 1) := dec_at dlX7_readText_0_ok 10 rfl
theorem dX7_readText_19 : decode cX7_readText 19 = .ok (.putfield 18, 3) := dec_at dlX7_readText_0_ok 11 rfl
theorem dX7_readText_22 : decode cX7_readText 22 = .ok (.aload_n 0, 1) := dec_at dlX7_readText_0_ok 12 rfl
theorem dX7_readText_23 : decode cX7_readText 23 = .ok (.iconst 0, 1) := dec_at dlX7_readText_0_ok 13 rfl
theorem dX7_readText_24 : decode cX7_readText 24 = .ok (.iload_n 2, 1) := dec_at dlX7_readText_0_ok 14 rfl
theorem dX7_readText_25 : decode cX7_readText 25 = .ok (.aload_n 1, 1) := dec_at dlX7_readText_0_ok 15 rfl
theorem dX7_readText_26 : decode cX7_readText 26 = .ok (.arraylength, 1) := dec_at dlX7_readText_0_ok 16 rfl
theorem dX7_readText_27 : decode cX7_readText 27 = .ok (.sipush 220, 3) := dec_at dlX7_readText_0_ok 17 rfl
theorem dX7_readText_30 : decode cX7_readText 30 = .ok (.invokestatic 41, 3) := dec_at dlX7_readText_0_ok 18 rfl
theorem dX7_readText_33 : decode cX7_readText 33 = .ok (.invokestatic 41, 3) := dec_at dlX7_readText_0_ok 19 rfl
theorem dX7_readText_36 : decode cX7_readText 36 = .ok (.invokestatic 47, 3) := dec_at dlX7_readText_0_ok 20 rfl
theorem dX7_readText_39 : decode cX7_readText 39 = .ok (.putfield 29, 3) := dec_at dlX7_readText_0_ok 21 rfl
theorem dX7_readText_42 : decode cX7_readText 42 = .ok (.aload_n 1, 1) := dec_at dlX7_readText_0_ok 22 rfl
theorem dX7_readText_43 : decode cX7_readText 43 = .ok (.iconst 0, 1) := dec_at dlX7_readText_0_ok 23 rfl
theorem dX7_readText_44 : decode cX7_readText 44 = .ok (.aload_n 0, 1) := dec_at dlX7_readText_0_ok 24 rfl
theorem dX7_readText_45 : decode cX7_readText 45 = .ok (.getfield 26, 3) := dec_at dlX7_readText_0_ok 25 rfl
theorem dX7_readText_48 : decode cX7_readText 48 = .ok (.iconst 0, 1) := dec_at dlX7_readText_0_ok 26 rfl
theorem dX7_readText_49 : decode cX7_readText 49 = .ok (.aload_n 0, 1) := dec_at dlX7_readText_0_ok 27 rfl
theorem dX7_readText_50 : decode cX7_readText 50 = .ok (.getfield 29, 3) := dec_at dlX7_readText_0_ok 28 rfl
theorem dX7_readText_53 : decode cX7_readText 53 = .ok (.invokestatic 50, 3) := dec_at dlX7_readText_0_ok 29 rfl
theorem dX7_readText_56 : decode cX7_readText 56 = .ok (.iconst 0, 1) := dec_at dlX7_readText_0_ok 30 rfl
noncomputable def dlX7_readText_57 : List (Nat × Instr × Nat) := [(57, .istore_n 3, 1), (58, .iload_n 3, 1), (59, .aload_n 0, 1), (60, .getfield 29, 3), (63, .if_icmp .gt 38, 3), (66, .aload_n 0, 1), (67, .invokevirtual 56, 3), (70, .aload_n 0, 1), (71, .getfield 35, 3), (74, .ifCond .ne 27, 3), (77, .aload_n 0, 1), (78, .getfield 32, 3), (81, .aload_n 0, 1), (82, .getfield 29, 3), (85, .if_icmp .lt 6, 3), (88, .goto 13, 3), (91, .aload_n 0, 1), (92, .invokevirtual 59, 3), (95, .iinc 3 1, 3), (98, .goto (-40), 3), (101, .aload_n 0, 1), (102, .getfield 35, 3), (105, .ireturn, 1)]
theorem dlX7_readText_57_ok : dlX7_readText_57.all (fun r => decide (decode cX7_readText r.1 = .ok r.2)) = true := by decide +kernel
theorem dX7_readText_57 : decode cX7_readText 57 = .ok (.istore_n 3, 1) := dec_at dlX7_readText_57_ok 0 rfl
theorem dX7_readText_58 : decode cX7_readText 58 = .ok (.iload_n 3, 1) := dec_at dlX7_readText_57_ok 1 rfl
theorem dX7_readText_59 : decode cX7_readText 59 = .ok (.aload_n 0, 1) := dec_at dlX7_readText_57_ok 2 rfl
theorem dX7_readText_60 : decode cX7_readText 60 = .ok (.getfield 29, 3) := dec_at dlX7_readText_57_ok 3 rfl
theorem dX7_readText_63 : decode cX7_readText 63 = .ok (.if_icmp .gt 38, 3) := dec_at dlX7_readText_57_ok 4 rfl
theorem dX7_readText_66 : decode cX7_readText 66 = .ok (.aload_n 0, 1) := dec_at dlX7_readText_57_ok 5 rfl
theorem dX7_readText_67 : decode cX7_readText 67 = .ok (.invokevirtual 56, 3) := dec_at dlX7_readText_57_ok 6 rfl
theorem dX7_readText_70 : decode cX7_readText 70 = .ok (.aload_n 0, 1) := dec_at dlX7_readText_57_ok 7 rfl
theorem dX7_readText_71 : decode cX7_readText 71 = .ok (.getfield 35, 3) := dec_at dlX7_readText_57_ok 8 rfl
theorem dX7_readText_74 : decode cX7_readText 74 = .ok (.ifCond .ne 27, 3) := dec_at dlX7_readText_57_ok 9 rfl
theorem dX7_readText_77 : decode cX7_readText 77 = .ok (.aload_n 0, 1) := dec_at dlX7_readText_57_ok 10 rfl
theorem dX7_readText_78 : decode cX7_readText 78 = .ok (.getfield 32, 3) := dec_at dlX7_readText_57_ok 11 rfl
theorem dX7_readText_81 : decode cX7_readText 81 = .ok (.aload_n 0, 1) := dec_at dlX7_readText_57_ok 12 rfl
theorem dX7_readText_82 : decode cX7_readText 82 = .ok (.getfield 29, 3) := dec_at dlX7_readText_57_ok 13 rfl
theorem dX7_readText_85 : decode cX7_readText 85 = .ok (.if_icmp .lt 6, 3) := dec_at dlX7_readText_57_ok 14 rfl
theorem dX7_readText_88 : decode cX7_readText 88 = .ok (.goto 13, 3) := dec_at dlX7_readText_57_ok 15 rfl
theorem dX7_readText_91 : decode cX7_readText 91 = .ok (.aload_n 0, 1) := dec_at dlX7_readText_57_ok 16 rfl
theorem dX7_readText_92 : decode cX7_readText 92 = .ok (.invokevirtual 59, 3) := dec_at dlX7_readText_57_ok 17 rfl
theorem dX7_readText_95 : decode cX7_readText 95 = .ok (.iinc 3 1, 3) := dec_at dlX7_readText_57_ok 18 rfl
theorem dX7_readText_98 : decode cX7_readText 98 = .ok (.goto (-40), 3) := dec_at dlX7_readText_57_ok 19 rfl
theorem dX7_readText_101 : decode cX7_readText 101 = .ok (.aload_n 0, 1) := dec_at dlX7_readText_57_ok 20 rfl
theorem dX7_readText_102 : decode cX7_readText 102 = .ok (.getfield 35, 3) := dec_at dlX7_readText_57_ok 21 rfl
theorem dX7_readText_105 : decode cX7_readText 105 = .ok (.ireturn, 1) := dec_at dlX7_readText_57_ok 22 rfl
set_option maxRecDepth 20000 in
theorem ggX7_readClause_X7_letterHere : GoodIn wsX7_readClause wsX7_letterHere := goodIn_s _ [(17, 1), (3, 1), (18, 2), (78, 7)] rfl (by decide +kernel)
set_option maxRecDepth 20000 in
theorem gX7_readClause_X7_letterHere : GoodIn wsX7_readClause (wsV RX7 62 RX7 yX7_letterHere wsX7_letterHere) := goodIn_app (goodIn_s _ [(13, 4)] rfl (by decide +kernel)) ggX7_readClause_X7_letterHere
set_option maxRecDepth 20000 in
theorem ggX7_readClause_X7_fail : GoodIn wsX7_readClause wsX7_fail := goodIn_s _ [(23, 3), (78, 7)] rfl (by decide +kernel)
set_option maxRecDepth 20000 in
theorem gX7_readClause_X7_fail : GoodIn wsX7_readClause (wsV RX7 70 RX7 yX7_fail wsX7_fail) := goodIn_app (goodIn_s _ [(20, 3), (16, 1)] rfl (by decide +kernel)) ggX7_readClause_X7_fail
set_option maxRecDepth 20000 in
theorem ggX7_readClause_X7_startWord : GoodIn wsX7_readClause wsX7_startWord := goodIn_s _ [(29, 1), (3, 1), (20, 3), (16, 1), (23, 3), (78, 7)] rfl (by decide +kernel)
set_option maxRecDepth 20000 in
theorem gX7_readClause_X7_startWord : GoodIn wsX7_readClause (wsV RX7 74 RX7 yX7_startWord wsX7_startWord) := goodIn_app (goodIn_s _ [(26, 3), (16, 1)] rfl (by decide +kernel)) ggX7_readClause_X7_startWord
set_option maxRecDepth 20000 in
theorem ggX7_readClause_X7_readNumbers : GoodIn wsX7_readClause wsX7_readNumbers := goodIn_s _ [(33, 5), (3, 1), (38, 3), (16, 1), (41, 1), (18, 2), (6, 1), (42, 7), (20, 6), (49, 3), (13, 3), (17, 1), (78, 7)] rfl (by decide +kernel)
set_option maxRecDepth 20000 in
theorem gX7_readClause_X7_readNumbers : GoodIn wsX7_readClause (wsV RX7 84 RX7 yX7_readNumbers wsX7_readNumbers) := goodIn_app (goodIn_s _ [(30, 3), (16, 1)] rfl (by decide +kernel)) ggX7_readClause_X7_readNumbers
set_option maxRecDepth 20000 in
theorem ggX7_readClause_X5_setBlade : GoodIn wsX7_readClause wsX5_setBlade := goodIn_s _ [(56, 4), (85, 13)] rfl (by decide +kernel)
set_option maxRecDepth 20000 in
theorem gX7_readClause_X5_setBlade : GoodIn wsX7_readClause (wsV RX7 88 RX5 yX5_setBlade wsX5_setBlade) := goodIn_app (goodIn_s _ [(52, 4)] rfl (by decide +kernel)) ggX7_readClause_X5_setBlade
set_option maxRecDepth 20000 in
theorem ggX7_readClause_X5_addQuill : GoodIn wsX7_readClause wsX5_addQuill := goodIn_s _ [(63, 7), (85, 13)] rfl (by decide +kernel)
set_option maxRecDepth 20000 in
theorem gX7_readClause_X5_addQuill : GoodIn wsX7_readClause (wsV RX7 101 RX5 yX5_addQuill wsX5_addQuill) := goodIn_app (goodIn_s _ [(60, 3), (55, 1)] rfl (by decide +kernel)) ggX7_readClause_X5_addQuill
set_option maxRecDepth 20000 in
theorem ggX7_readClause_X5_addHand : GoodIn wsX7_readClause wsX5_addHand := goodIn_s _ [(73, 5), (85, 13)] rfl (by decide +kernel)
set_option maxRecDepth 20000 in
theorem gX7_readClause_X5_addHand : GoodIn wsX7_readClause (wsV RX7 113 RX5 yX5_addHand wsX5_addHand) := goodIn_app (goodIn_s _ [(70, 3), (55, 1)] rfl (by decide +kernel)) ggX7_readClause_X5_addHand
noncomputable def dlX7_readClause_0 : List (Nat × Instr × Nat) := [(0, .aload_n 0, 1), (1, .invokevirtual 62, 3), (4, .istore_n 1, 1), (5, .aload_n 0, 1), (6, .getfield 12, 3), (9, .getfield 66, 3), (12, .ifCond .ne 19, 3), (15, .iload_n 1, 1), (16, .bipush 111, 2), (18, .if_icmp .eq 13, 3), (21, .aload_n 0, 1), (22, .iconst 1, 1), (23, .aload_n 0, 1), (24, .getfield 32, 3), (27, .invokevirtual 70, 3), (30, .return_, 1), (31, .iload_n 1, 1), (32, .lookupswitch 178 #[(104, 128), (111, 36), (113, 77)], 36), (68, .aload_n 0, 1), (69, .aload_n 0, 1), (70, .getfield 12, 3), (73, .getfield 66, 3), (76, .invokevirtual 74, 3), (79, .ifCond .eq 140, 3), (82, .aload_n 0, 1), (83, .getstatic 78, 3), (86, .getstatic 81, 3), (89, .invokevirtual 84, 3), (92, .ifCond .eq 127, 3), (95, .aload_n 0, 1), (96, .getfield 12, 3)]
theorem dlX7_readClause_0_ok : dlX7_readClause_0.all (fun r => decide (decode cX7_readClause r.1 = .ok r.2)) = true := by decide +kernel
theorem dX7_readClause_0 : decode cX7_readClause 0 = .ok (.aload_n 0, 1) := dec_at dlX7_readClause_0_ok 0 rfl
theorem dX7_readClause_1 : decode cX7_readClause 1 = .ok (.invokevirtual 62, 3) := dec_at dlX7_readClause_0_ok 1 rfl
theorem dX7_readClause_4 : decode cX7_readClause 4 = .ok (.istore_n 1, 1) := dec_at dlX7_readClause_0_ok 2 rfl
theorem dX7_readClause_5 : decode cX7_readClause 5 = .ok (.aload_n 0, 1) := dec_at dlX7_readClause_0_ok 3 rfl
theorem dX7_readClause_6 : decode cX7_readClause 6 = .ok (.getfield 12, 3) := dec_at dlX7_readClause_0_ok 4 rfl
theorem dX7_readClause_9 : decode cX7_readClause 9 = .ok (.getfield 66, 3) := dec_at dlX7_readClause_0_ok 5 rfl
theorem dX7_readClause_12 : decode cX7_readClause 12 = .ok (.ifCond .ne 19, 3) := dec_at dlX7_readClause_0_ok 6 rfl
theorem dX7_readClause_15 : decode cX7_readClause 15 = .ok (.iload_n 1, 1) := dec_at dlX7_readClause_0_ok 7 rfl
theorem dX7_readClause_16 : decode cX7_readClause 16 = .ok (.bipush 111, 2) := dec_at dlX7_readClause_0_ok 8 rfl
theorem dX7_readClause_18 : decode cX7_readClause 18 = .ok (.if_icmp .eq 13, 3) := dec_at dlX7_readClause_0_ok 9 rfl
theorem dX7_readClause_21 : decode cX7_readClause 21 = .ok (.aload_n 0, 1) := dec_at dlX7_readClause_0_ok 10 rfl
theorem dX7_readClause_22 : decode cX7_readClause 22 = .ok (.iconst 1, 1) := dec_at dlX7_readClause_0_ok 11 rfl
theorem dX7_readClause_23 : decode cX7_readClause 23 = .ok (.aload_n 0, 1) := dec_at dlX7_readClause_0_ok 12 rfl
theorem dX7_readClause_24 : decode cX7_readClause 24 = .ok (.getfield 32, 3) := dec_at dlX7_readClause_0_ok 13 rfl
theorem dX7_readClause_27 : decode cX7_readClause 27 = .ok (.invokevirtual 70, 3) := dec_at dlX7_readClause_0_ok 14 rfl
theorem dX7_readClause_30 : decode cX7_readClause 30 = .ok (.return_, 1) := dec_at dlX7_readClause_0_ok 15 rfl
theorem dX7_readClause_31 : decode cX7_readClause 31 = .ok (.iload_n 1, 1) := dec_at dlX7_readClause_0_ok 16 rfl
theorem dX7_readClause_32 : decode cX7_readClause 32 = .ok (.lookupswitch 178 #[(104, 128), (111, 36), (113, 77)], 36) := dec_at dlX7_readClause_0_ok 17 rfl
theorem dX7_readClause_68 : decode cX7_readClause 68 = .ok (.aload_n 0, 1) := dec_at dlX7_readClause_0_ok 18 rfl
theorem dX7_readClause_69 : decode cX7_readClause 69 = .ok (.aload_n 0, 1) := dec_at dlX7_readClause_0_ok 19 rfl
theorem dX7_readClause_70 : decode cX7_readClause 70 = .ok (.getfield 12, 3) := dec_at dlX7_readClause_0_ok 20 rfl
theorem dX7_readClause_73 : decode cX7_readClause 73 = .ok (.getfield 66, 3) := dec_at dlX7_readClause_0_ok 21 rfl
theorem dX7_readClause_76 : decode cX7_readClause 76 = .ok (.invokevirtual 74, 3) := dec_at dlX7_readClause_0_ok 22 rfl
theorem dX7_readClause_79 : decode cX7_readClause 79 = .ok (.ifCond .eq 140, 3) := dec_at dlX7_readClause_0_ok 23 rfl
theorem dX7_readClause_82 : decode cX7_readClause 82 = .ok (.aload_n 0, 1) := dec_at dlX7_readClause_0_ok 24 rfl
theorem dX7_readClause_83 : decode cX7_readClause 83 = .ok (.getstatic 78, 3) := dec_at dlX7_readClause_0_ok 25 rfl
theorem dX7_readClause_86 : decode cX7_readClause 86 = .ok (.getstatic 81, 3) := dec_at dlX7_readClause_0_ok 26 rfl
theorem dX7_readClause_89 : decode cX7_readClause 89 = .ok (.invokevirtual 84, 3) := dec_at dlX7_readClause_0_ok 27 rfl
theorem dX7_readClause_92 : decode cX7_readClause 92 = .ok (.ifCond .eq 127, 3) := dec_at dlX7_readClause_0_ok 28 rfl
theorem dX7_readClause_95 : decode cX7_readClause 95 = .ok (.aload_n 0, 1) := dec_at dlX7_readClause_0_ok 29 rfl
theorem dX7_readClause_96 : decode cX7_readClause 96 = .ok (.getfield 12, 3) := dec_at dlX7_readClause_0_ok 30 rfl
noncomputable def dlX7_readClause_99 : List (Nat × Instr × Nat) := [(99, .aload_n 0, 1), (100, .getfield 22, 3), (103, .invokevirtual 88, 3), (106, .goto 113, 3), (109, .aload_n 0, 1), (110, .aload_n 0, 1), (111, .getfield 12, 3), (114, .getfield 92, 3), (117, .bipush 8, 2), (119, .if_icmp .lt 7, 3), (122, .iconst 1, 1), (123, .goto 4, 3), (126, .iconst 0, 1), (127, .invokevirtual 74, 3), (130, .ifCond .eq 89, 3), (133, .aload_n 0, 1), (134, .getstatic 95, 3), (137, .getstatic 98, 3), (140, .invokevirtual 84, 3), (143, .ifCond .eq 76, 3), (146, .aload_n 0, 1), (147, .getfield 12, 3), (150, .aload_n 0, 1), (151, .getfield 22, 3), (154, .invokevirtual 101, 3), (157, .goto 62, 3), (160, .aload_n 0, 1), (161, .aload_n 0, 1), (162, .getfield 12, 3), (165, .getfield 104, 3), (168, .iconst 4, 1)]
theorem dlX7_readClause_99_ok : dlX7_readClause_99.all (fun r => decide (decode cX7_readClause r.1 = .ok r.2)) = true := by decide +kernel
theorem dX7_readClause_99 : decode cX7_readClause 99 = .ok (.aload_n 0, 1) := dec_at dlX7_readClause_99_ok 0 rfl
theorem dX7_readClause_100 : decode cX7_readClause 100 = .ok (.getfield 22, 3) := dec_at dlX7_readClause_99_ok 1 rfl
theorem dX7_readClause_103 : decode cX7_readClause 103 = .ok (.invokevirtual 88, 3) := dec_at dlX7_readClause_99_ok 2 rfl
theorem dX7_readClause_106 : decode cX7_readClause 106 = .ok (.goto 113, 3) := dec_at dlX7_readClause_99_ok 3 rfl
theorem dX7_readClause_109 : decode cX7_readClause 109 = .ok (.aload_n 0, 1) := dec_at dlX7_readClause_99_ok 4 rfl
theorem dX7_readClause_110 : decode cX7_readClause 110 = .ok (.aload_n 0, 1) := dec_at dlX7_readClause_99_ok 5 rfl
theorem dX7_readClause_111 : decode cX7_readClause 111 = .ok (.getfield 12, 3) := dec_at dlX7_readClause_99_ok 6 rfl
theorem dX7_readClause_114 : decode cX7_readClause 114 = .ok (.getfield 92, 3) := dec_at dlX7_readClause_99_ok 7 rfl
theorem dX7_readClause_117 : decode cX7_readClause 117 = .ok (.bipush 8, 2) := dec_at dlX7_readClause_99_ok 8 rfl
theorem dX7_readClause_119 : decode cX7_readClause 119 = .ok (.if_icmp .lt 7, 3) := dec_at dlX7_readClause_99_ok 9 rfl
theorem dX7_readClause_122 : decode cX7_readClause 122 = .ok (.iconst 1, 1) := dec_at dlX7_readClause_99_ok 10 rfl
theorem dX7_readClause_123 : decode cX7_readClause 123 = .ok (.goto 4, 3) := dec_at dlX7_readClause_99_ok 11 rfl
theorem dX7_readClause_126 : decode cX7_readClause 126 = .ok (.iconst 0, 1) := dec_at dlX7_readClause_99_ok 12 rfl
theorem dX7_readClause_127 : decode cX7_readClause 127 = .ok (.invokevirtual 74, 3) := dec_at dlX7_readClause_99_ok 13 rfl
theorem dX7_readClause_130 : decode cX7_readClause 130 = .ok (.ifCond .eq 89, 3) := dec_at dlX7_readClause_99_ok 14 rfl
theorem dX7_readClause_133 : decode cX7_readClause 133 = .ok (.aload_n 0, 1) := dec_at dlX7_readClause_99_ok 15 rfl
theorem dX7_readClause_134 : decode cX7_readClause 134 = .ok (.getstatic 95, 3) := dec_at dlX7_readClause_99_ok 16 rfl
theorem dX7_readClause_137 : decode cX7_readClause 137 = .ok (.getstatic 98, 3) := dec_at dlX7_readClause_99_ok 17 rfl
theorem dX7_readClause_140 : decode cX7_readClause 140 = .ok (.invokevirtual 84, 3) := dec_at dlX7_readClause_99_ok 18 rfl
theorem dX7_readClause_143 : decode cX7_readClause 143 = .ok (.ifCond .eq 76, 3) := dec_at dlX7_readClause_99_ok 19 rfl
theorem dX7_readClause_146 : decode cX7_readClause 146 = .ok (.aload_n 0, 1) := dec_at dlX7_readClause_99_ok 20 rfl
theorem dX7_readClause_147 : decode cX7_readClause 147 = .ok (.getfield 12, 3) := dec_at dlX7_readClause_99_ok 21 rfl
theorem dX7_readClause_150 : decode cX7_readClause 150 = .ok (.aload_n 0, 1) := dec_at dlX7_readClause_99_ok 22 rfl
theorem dX7_readClause_151 : decode cX7_readClause 151 = .ok (.getfield 22, 3) := dec_at dlX7_readClause_99_ok 23 rfl
theorem dX7_readClause_154 : decode cX7_readClause 154 = .ok (.invokevirtual 101, 3) := dec_at dlX7_readClause_99_ok 24 rfl
theorem dX7_readClause_157 : decode cX7_readClause 157 = .ok (.goto 62, 3) := dec_at dlX7_readClause_99_ok 25 rfl
theorem dX7_readClause_160 : decode cX7_readClause 160 = .ok (.aload_n 0, 1) := dec_at dlX7_readClause_99_ok 26 rfl
theorem dX7_readClause_161 : decode cX7_readClause 161 = .ok (.aload_n 0, 1) := dec_at dlX7_readClause_99_ok 27 rfl
theorem dX7_readClause_162 : decode cX7_readClause 162 = .ok (.getfield 12, 3) := dec_at dlX7_readClause_99_ok 28 rfl
theorem dX7_readClause_165 : decode cX7_readClause 165 = .ok (.getfield 104, 3) := dec_at dlX7_readClause_99_ok 29 rfl
theorem dX7_readClause_168 : decode cX7_readClause 168 = .ok (.iconst 4, 1) := dec_at dlX7_readClause_99_ok 30 rfl
noncomputable def dlX7_readClause_169 : List (Nat × Instr × Nat) := [(169, .if_icmp .lt 7, 3), (172, .iconst 1, 1), (173, .goto 4, 3), (176, .iconst 0, 1), (177, .invokevirtual 74, 3), (180, .ifCond .eq 39, 3), (183, .aload_n 0, 1), (184, .getstatic 107, 3), (187, .getstatic 110, 3), (190, .invokevirtual 84, 3), (193, .ifCond .eq 26, 3), (196, .aload_n 0, 1), (197, .getfield 12, 3), (200, .aload_n 0, 1), (201, .getfield 22, 3), (204, .invokevirtual 113, 3), (207, .goto 12, 3), (210, .aload_n 0, 1), (211, .iconst 1, 1), (212, .aload_n 0, 1), (213, .getfield 32, 3), (216, .invokevirtual 70, 3), (219, .return_, 1)]
theorem dlX7_readClause_169_ok : dlX7_readClause_169.all (fun r => decide (decode cX7_readClause r.1 = .ok r.2)) = true := by decide +kernel
theorem dX7_readClause_169 : decode cX7_readClause 169 = .ok (.if_icmp .lt 7, 3) := dec_at dlX7_readClause_169_ok 0 rfl
theorem dX7_readClause_172 : decode cX7_readClause 172 = .ok (.iconst 1, 1) := dec_at dlX7_readClause_169_ok 1 rfl
theorem dX7_readClause_173 : decode cX7_readClause 173 = .ok (.goto 4, 3) := dec_at dlX7_readClause_169_ok 2 rfl
theorem dX7_readClause_176 : decode cX7_readClause 176 = .ok (.iconst 0, 1) := dec_at dlX7_readClause_169_ok 3 rfl
theorem dX7_readClause_177 : decode cX7_readClause 177 = .ok (.invokevirtual 74, 3) := dec_at dlX7_readClause_169_ok 4 rfl
theorem dX7_readClause_180 : decode cX7_readClause 180 = .ok (.ifCond .eq 39, 3) := dec_at dlX7_readClause_169_ok 5 rfl
theorem dX7_readClause_183 : decode cX7_readClause 183 = .ok (.aload_n 0, 1) := dec_at dlX7_readClause_169_ok 6 rfl
theorem dX7_readClause_184 : decode cX7_readClause 184 = .ok (.getstatic 107, 3) := dec_at dlX7_readClause_169_ok 7 rfl
theorem dX7_readClause_187 : decode cX7_readClause 187 = .ok (.getstatic 110, 3) := dec_at dlX7_readClause_169_ok 8 rfl
theorem dX7_readClause_190 : decode cX7_readClause 190 = .ok (.invokevirtual 84, 3) := dec_at dlX7_readClause_169_ok 9 rfl
theorem dX7_readClause_193 : decode cX7_readClause 193 = .ok (.ifCond .eq 26, 3) := dec_at dlX7_readClause_169_ok 10 rfl
theorem dX7_readClause_196 : decode cX7_readClause 196 = .ok (.aload_n 0, 1) := dec_at dlX7_readClause_169_ok 11 rfl
theorem dX7_readClause_197 : decode cX7_readClause 197 = .ok (.getfield 12, 3) := dec_at dlX7_readClause_169_ok 12 rfl
theorem dX7_readClause_200 : decode cX7_readClause 200 = .ok (.aload_n 0, 1) := dec_at dlX7_readClause_169_ok 13 rfl
theorem dX7_readClause_201 : decode cX7_readClause 201 = .ok (.getfield 22, 3) := dec_at dlX7_readClause_169_ok 14 rfl
theorem dX7_readClause_204 : decode cX7_readClause 204 = .ok (.invokevirtual 113, 3) := dec_at dlX7_readClause_169_ok 15 rfl
theorem dX7_readClause_207 : decode cX7_readClause 207 = .ok (.goto 12, 3) := dec_at dlX7_readClause_169_ok 16 rfl
theorem dX7_readClause_210 : decode cX7_readClause 210 = .ok (.aload_n 0, 1) := dec_at dlX7_readClause_169_ok 17 rfl
theorem dX7_readClause_211 : decode cX7_readClause 211 = .ok (.iconst 1, 1) := dec_at dlX7_readClause_169_ok 18 rfl
theorem dX7_readClause_212 : decode cX7_readClause 212 = .ok (.aload_n 0, 1) := dec_at dlX7_readClause_169_ok 19 rfl
theorem dX7_readClause_213 : decode cX7_readClause 213 = .ok (.getfield 32, 3) := dec_at dlX7_readClause_169_ok 20 rfl
theorem dX7_readClause_216 : decode cX7_readClause 216 = .ok (.invokevirtual 70, 3) := dec_at dlX7_readClause_169_ok 21 rfl
theorem dX7_readClause_219 : decode cX7_readClause 219 = .ok (.return_, 1) := dec_at dlX7_readClause_169_ok 22 rfl
set_option maxRecDepth 20000 in
theorem ggX7_startWord_X7_fail : GoodIn wsX7_startWord wsX7_fail := goodIn_s _ [(6, 10)] rfl (by decide +kernel)
set_option maxRecDepth 20000 in
theorem gX7_startWord_X7_fail : GoodIn wsX7_startWord (wsV RX7 70 RX7 yX7_fail wsX7_fail) := goodIn_app (goodIn_s _ [(2, 4)] rfl (by decide +kernel)) ggX7_startWord_X7_fail
noncomputable def dlX7_startWord_0 : List (Nat × Instr × Nat) := [(0, .iload_n 1, 1), (1, .ifCond .eq 14, 3), (4, .aload_n 0, 1), (5, .iconst 3, 1), (6, .aload_n 0, 1), (7, .getfield 32, 3), (10, .invokevirtual 70, 3), (13, .iconst 0, 1), (14, .ireturn, 1), (15, .aload_n 0, 1), (16, .dup, 1), (17, .getfield 32, 3), (20, .iconst 1, 1), (21, .iadd, 1), (22, .putfield 32, 3), (25, .iconst 1, 1), (26, .ireturn, 1)]
theorem dlX7_startWord_0_ok : dlX7_startWord_0.all (fun r => decide (decode cX7_startWord r.1 = .ok r.2)) = true := by decide +kernel
theorem dX7_startWord_0 : decode cX7_startWord 0 = .ok (.iload_n 1, 1) := dec_at dlX7_startWord_0_ok 0 rfl
theorem dX7_startWord_1 : decode cX7_startWord 1 = .ok (.ifCond .eq 14, 3) := dec_at dlX7_startWord_0_ok 1 rfl
theorem dX7_startWord_4 : decode cX7_startWord 4 = .ok (.aload_n 0, 1) := dec_at dlX7_startWord_0_ok 2 rfl
theorem dX7_startWord_5 : decode cX7_startWord 5 = .ok (.iconst 3, 1) := dec_at dlX7_startWord_0_ok 3 rfl
theorem dX7_startWord_6 : decode cX7_startWord 6 = .ok (.aload_n 0, 1) := dec_at dlX7_startWord_0_ok 4 rfl
theorem dX7_startWord_7 : decode cX7_startWord 7 = .ok (.getfield 32, 3) := dec_at dlX7_startWord_0_ok 5 rfl
theorem dX7_startWord_10 : decode cX7_startWord 10 = .ok (.invokevirtual 70, 3) := dec_at dlX7_startWord_0_ok 6 rfl
theorem dX7_startWord_13 : decode cX7_startWord 13 = .ok (.iconst 0, 1) := dec_at dlX7_startWord_0_ok 7 rfl
theorem dX7_startWord_14 : decode cX7_startWord 14 = .ok (.ireturn, 1) := dec_at dlX7_startWord_0_ok 8 rfl
theorem dX7_startWord_15 : decode cX7_startWord 15 = .ok (.aload_n 0, 1) := dec_at dlX7_startWord_0_ok 9 rfl
theorem dX7_startWord_16 : decode cX7_startWord 16 = .ok (.dup, 1) := dec_at dlX7_startWord_0_ok 10 rfl
theorem dX7_startWord_17 : decode cX7_startWord 17 = .ok (.getfield 32, 3) := dec_at dlX7_startWord_0_ok 11 rfl
theorem dX7_startWord_20 : decode cX7_startWord 20 = .ok (.iconst 1, 1) := dec_at dlX7_startWord_0_ok 12 rfl
theorem dX7_startWord_21 : decode cX7_startWord 21 = .ok (.iadd, 1) := dec_at dlX7_startWord_0_ok 13 rfl
theorem dX7_startWord_22 : decode cX7_startWord 22 = .ok (.putfield 32, 3) := dec_at dlX7_startWord_0_ok 14 rfl
theorem dX7_startWord_25 : decode cX7_startWord 25 = .ok (.iconst 1, 1) := dec_at dlX7_startWord_0_ok 15 rfl
theorem dX7_startWord_26 : decode cX7_startWord 26 = .ok (.ireturn, 1) := dec_at dlX7_startWord_0_ok 16 rfl
set_option maxRecDepth 20000 in
theorem ggX7_readNumbers_X7_readNumber : GoodIn wsX7_readNumbers wsX7_readNumber := goodIn_s _ [(10, 1), (5, 1), (11, 6), (9, 1), (17, 13), (34, 7)] rfl (by decide +kernel)
set_option maxRecDepth 20000 in
theorem gX7_readNumbers_X7_readNumber : GoodIn wsX7_readNumbers (wsV RX7 116 RX7 yX7_readNumber wsX7_readNumber) := goodIn_app (goodIn_s _ [(6, 4)] rfl (by decide +kernel)) ggX7_readNumbers_X7_readNumber
set_option maxRecDepth 20000 in
theorem ggX7_readNumbers_X7_skipBlanks : GoodIn wsX7_readNumbers wsX7_skipBlanks := goodIn_s _ [(17, 1), (5, 1), (11, 2), (34, 7)] rfl (by decide +kernel)
set_option maxRecDepth 20000 in
theorem gX7_readNumbers_X7_skipBlanks : GoodIn wsX7_readNumbers (wsV RX7 56 RX7 yX7_skipBlanks wsX7_skipBlanks) := goodIn_app (goodIn_s _ [(14, 3), (9, 1)] rfl (by decide +kernel)) ggX7_readNumbers_X7_skipBlanks
set_option maxRecDepth 20000 in
theorem ggX7_readNumbers_X7_letterHere : GoodIn wsX7_readNumbers wsX7_letterHere := goodIn_s _ [(33, 1), (5, 1), (11, 2), (34, 7)] rfl (by decide +kernel)
set_option maxRecDepth 20000 in
theorem gX7_readNumbers_X7_letterHere : GoodIn wsX7_readNumbers (wsV RX7 62 RX7 yX7_letterHere wsX7_letterHere) := goodIn_app (goodIn_s _ [(30, 3), (9, 1)] rfl (by decide +kernel)) ggX7_readNumbers_X7_letterHere
set_option maxRecDepth 20000 in
theorem ggX7_readNumbers_X7_fail : GoodIn wsX7_readNumbers wsX7_fail := goodIn_s _ [(24, 3), (34, 7)] rfl (by decide +kernel)
set_option maxRecDepth 20000 in
theorem gX7_readNumbers_X7_fail : GoodIn wsX7_readNumbers (wsV RX7 70 RX7 yX7_fail wsX7_fail) := goodIn_app (goodIn_s _ [(21, 3), (9, 1)] rfl (by decide +kernel)) ggX7_readNumbers_X7_fail
noncomputable def dlX7_readNumbers_0 : List (Nat × Instr × Nat) := [(0, .iconst 5, 1), (1, .aload_n 1, 1), (2, .arraylength, 1), (3, .aload_n 2, 1), (4, .arraylength, 1), (5, .invokestatic 41, 3), (8, .invokestatic 41, 3), (11, .istore_n 3, 1), (12, .iconst 0, 1), (13, .istore 4, 2), (15, .iload 4, 2), (17, .iload_n 3, 1), (18, .if_icmp .ge 28, 3), (21, .aload_n 0, 1), (22, .iload 4, 2), (24, .aload_n 1, 1), (25, .iload 4, 2), (27, .iaload, 1), (28, .aload_n 2, 1), (29, .iload 4, 2), (31, .iaload, 1), (32, .invokevirtual 116, 3), (35, .ifCond .ne 5, 3), (38, .iconst 0, 1), (39, .ireturn, 1), (40, .iinc 4 1, 3), (43, .goto (-28), 3), (46, .aload_n 0, 1), (47, .invokevirtual 56, 3), (50, .aload_n 0, 1), (51, .invokevirtual 62, 3)]
theorem dlX7_readNumbers_0_ok : dlX7_readNumbers_0.all (fun r => decide (decode cX7_readNumbers r.1 = .ok r.2)) = true := by decide +kernel
theorem dX7_readNumbers_0 : decode cX7_readNumbers 0 = .ok (.iconst 5, 1) := dec_at dlX7_readNumbers_0_ok 0 rfl
theorem dX7_readNumbers_1 : decode cX7_readNumbers 1 = .ok (.aload_n 1, 1) := dec_at dlX7_readNumbers_0_ok 1 rfl
theorem dX7_readNumbers_2 : decode cX7_readNumbers 2 = .ok (.arraylength, 1) := dec_at dlX7_readNumbers_0_ok 2 rfl
theorem dX7_readNumbers_3 : decode cX7_readNumbers 3 = .ok (.aload_n 2, 1) := dec_at dlX7_readNumbers_0_ok 3 rfl
theorem dX7_readNumbers_4 : decode cX7_readNumbers 4 = .ok (.arraylength, 1) := dec_at dlX7_readNumbers_0_ok 4 rfl
theorem dX7_readNumbers_5 : decode cX7_readNumbers 5 = .ok (.invokestatic 41, 3) := dec_at dlX7_readNumbers_0_ok 5 rfl
theorem dX7_readNumbers_8 : decode cX7_readNumbers 8 = .ok (.invokestatic 41, 3) := dec_at dlX7_readNumbers_0_ok 6 rfl
theorem dX7_readNumbers_11 : decode cX7_readNumbers 11 = .ok (.istore_n 3, 1) := dec_at dlX7_readNumbers_0_ok 7 rfl
theorem dX7_readNumbers_12 : decode cX7_readNumbers 12 = .ok (.iconst 0, 1) := dec_at dlX7_readNumbers_0_ok 8 rfl
theorem dX7_readNumbers_13 : decode cX7_readNumbers 13 = .ok (.istore 4, 2) := dec_at dlX7_readNumbers_0_ok 9 rfl
theorem dX7_readNumbers_15 : decode cX7_readNumbers 15 = .ok (.iload 4, 2) := dec_at dlX7_readNumbers_0_ok 10 rfl
theorem dX7_readNumbers_17 : decode cX7_readNumbers 17 = .ok (.iload_n 3, 1) := dec_at dlX7_readNumbers_0_ok 11 rfl
theorem dX7_readNumbers_18 : decode cX7_readNumbers 18 = .ok (.if_icmp .ge 28, 3) := dec_at dlX7_readNumbers_0_ok 12 rfl
theorem dX7_readNumbers_21 : decode cX7_readNumbers 21 = .ok (.aload_n 0, 1) := dec_at dlX7_readNumbers_0_ok 13 rfl
theorem dX7_readNumbers_22 : decode cX7_readNumbers 22 = .ok (.iload 4, 2) := dec_at dlX7_readNumbers_0_ok 14 rfl
theorem dX7_readNumbers_24 : decode cX7_readNumbers 24 = .ok (.aload_n 1, 1) := dec_at dlX7_readNumbers_0_ok 15 rfl
theorem dX7_readNumbers_25 : decode cX7_readNumbers 25 = .ok (.iload 4, 2) := dec_at dlX7_readNumbers_0_ok 16 rfl
theorem dX7_readNumbers_27 : decode cX7_readNumbers 27 = .ok (.iaload, 1) := dec_at dlX7_readNumbers_0_ok 17 rfl
theorem dX7_readNumbers_28 : decode cX7_readNumbers 28 = .ok (.aload_n 2, 1) := dec_at dlX7_readNumbers_0_ok 18 rfl
theorem dX7_readNumbers_29 : decode cX7_readNumbers 29 = .ok (.iload 4, 2) := dec_at dlX7_readNumbers_0_ok 19 rfl
theorem dX7_readNumbers_31 : decode cX7_readNumbers 31 = .ok (.iaload, 1) := dec_at dlX7_readNumbers_0_ok 20 rfl
theorem dX7_readNumbers_32 : decode cX7_readNumbers 32 = .ok (.invokevirtual 116, 3) := dec_at dlX7_readNumbers_0_ok 21 rfl
theorem dX7_readNumbers_35 : decode cX7_readNumbers 35 = .ok (.ifCond .ne 5, 3) := dec_at dlX7_readNumbers_0_ok 22 rfl
theorem dX7_readNumbers_38 : decode cX7_readNumbers 38 = .ok (.iconst 0, 1) := dec_at dlX7_readNumbers_0_ok 23 rfl
theorem dX7_readNumbers_39 : decode cX7_readNumbers 39 = .ok (.ireturn, 1) := dec_at dlX7_readNumbers_0_ok 24 rfl
theorem dX7_readNumbers_40 : decode cX7_readNumbers 40 = .ok (.iinc 4 1, 3) := dec_at dlX7_readNumbers_0_ok 25 rfl
theorem dX7_readNumbers_43 : decode cX7_readNumbers 43 = .ok (.goto (-28), 3) := dec_at dlX7_readNumbers_0_ok 26 rfl
theorem dX7_readNumbers_46 : decode cX7_readNumbers 46 = .ok (.aload_n 0, 1) := dec_at dlX7_readNumbers_0_ok 27 rfl
theorem dX7_readNumbers_47 : decode cX7_readNumbers 47 = .ok (.invokevirtual 56, 3) := dec_at dlX7_readNumbers_0_ok 28 rfl
theorem dX7_readNumbers_50 : decode cX7_readNumbers 50 = .ok (.aload_n 0, 1) := dec_at dlX7_readNumbers_0_ok 29 rfl
theorem dX7_readNumbers_51 : decode cX7_readNumbers 51 = .ok (.invokevirtual 62, 3) := dec_at dlX7_readNumbers_0_ok 30 rfl
noncomputable def dlX7_readNumbers_54 : List (Nat × Instr × Nat) := [(54, .bipush 59, 2), (56, .if_icmp .eq 14, 3), (59, .aload_n 0, 1), (60, .iconst 1, 1), (61, .aload_n 0, 1), (62, .getfield 32, 3), (65, .invokevirtual 70, 3), (68, .iconst 0, 1), (69, .ireturn, 1), (70, .aload_n 0, 1), (71, .dup, 1), (72, .getfield 32, 3), (75, .iconst 1, 1), (76, .iadd, 1), (77, .putfield 32, 3), (80, .iconst 1, 1), (81, .ireturn, 1)]
theorem dlX7_readNumbers_54_ok : dlX7_readNumbers_54.all (fun r => decide (decode cX7_readNumbers r.1 = .ok r.2)) = true := by decide +kernel
theorem dX7_readNumbers_54 : decode cX7_readNumbers 54 = .ok (.bipush 59, 2) := dec_at dlX7_readNumbers_54_ok 0 rfl
theorem dX7_readNumbers_56 : decode cX7_readNumbers 56 = .ok (.if_icmp .eq 14, 3) := dec_at dlX7_readNumbers_54_ok 1 rfl
theorem dX7_readNumbers_59 : decode cX7_readNumbers 59 = .ok (.aload_n 0, 1) := dec_at dlX7_readNumbers_54_ok 2 rfl
theorem dX7_readNumbers_60 : decode cX7_readNumbers 60 = .ok (.iconst 1, 1) := dec_at dlX7_readNumbers_54_ok 3 rfl
theorem dX7_readNumbers_61 : decode cX7_readNumbers 61 = .ok (.aload_n 0, 1) := dec_at dlX7_readNumbers_54_ok 4 rfl
theorem dX7_readNumbers_62 : decode cX7_readNumbers 62 = .ok (.getfield 32, 3) := dec_at dlX7_readNumbers_54_ok 5 rfl
theorem dX7_readNumbers_65 : decode cX7_readNumbers 65 = .ok (.invokevirtual 70, 3) := dec_at dlX7_readNumbers_54_ok 6 rfl
theorem dX7_readNumbers_68 : decode cX7_readNumbers 68 = .ok (.iconst 0, 1) := dec_at dlX7_readNumbers_54_ok 7 rfl
theorem dX7_readNumbers_69 : decode cX7_readNumbers 69 = .ok (.ireturn, 1) := dec_at dlX7_readNumbers_54_ok 8 rfl
theorem dX7_readNumbers_70 : decode cX7_readNumbers 70 = .ok (.aload_n 0, 1) := dec_at dlX7_readNumbers_54_ok 9 rfl
theorem dX7_readNumbers_71 : decode cX7_readNumbers 71 = .ok (.dup, 1) := dec_at dlX7_readNumbers_54_ok 10 rfl
theorem dX7_readNumbers_72 : decode cX7_readNumbers 72 = .ok (.getfield 32, 3) := dec_at dlX7_readNumbers_54_ok 11 rfl
theorem dX7_readNumbers_75 : decode cX7_readNumbers 75 = .ok (.iconst 1, 1) := dec_at dlX7_readNumbers_54_ok 12 rfl
theorem dX7_readNumbers_76 : decode cX7_readNumbers 76 = .ok (.iadd, 1) := dec_at dlX7_readNumbers_54_ok 13 rfl
theorem dX7_readNumbers_77 : decode cX7_readNumbers 77 = .ok (.putfield 32, 3) := dec_at dlX7_readNumbers_54_ok 14 rfl
theorem dX7_readNumbers_80 : decode cX7_readNumbers 80 = .ok (.iconst 1, 1) := dec_at dlX7_readNumbers_54_ok 15 rfl
theorem dX7_readNumbers_81 : decode cX7_readNumbers 81 = .ok (.ireturn, 1) := dec_at dlX7_readNumbers_54_ok 16 rfl
set_option maxRecDepth 20000 in
theorem ggX7_readNumber_X7_skipBlanks : GoodIn wsX7_readNumber wsX7_skipBlanks := goodIn_s _ [(9, 1), (1, 3), (22, 7)] rfl (by decide +kernel)
set_option maxRecDepth 20000 in
theorem gX7_readNumber_X7_skipBlanks : GoodIn wsX7_readNumber (wsV RX7 56 RX7 yX7_skipBlanks wsX7_skipBlanks) := goodIn_app (goodIn_s _ [(5, 4)] rfl (by decide +kernel)) ggX7_readNumber_X7_skipBlanks
set_option maxRecDepth 20000 in
theorem ggX7_readNumber_X7_isFigure : GoodIn wsX7_readNumber wsX7_isFigure := goodIn_s _ [(12, 1)] rfl (by decide +kernel)
set_option maxRecDepth 20000 in
theorem gX7_readNumber_X7_isFigure : GoodIn wsX7_readNumber (va_wsS RX7 120 yX7_isFigure wsX7_isFigure) := goodIn_app (goodIn_s _ [(10, 2), (8, 1)] rfl (by decide +kernel)) ggX7_readNumber_X7_isFigure
set_option maxRecDepth 20000 in
theorem ggX7_readNumber_X7_fail : GoodIn wsX7_readNumber wsX7_fail := goodIn_s _ [(16, 3), (22, 7)] rfl (by decide +kernel)
set_option maxRecDepth 20000 in
theorem gX7_readNumber_X7_fail : GoodIn wsX7_readNumber (wsV RX7 70 RX7 yX7_fail wsX7_fail) := goodIn_app (goodIn_s _ [(13, 3), (8, 1)] rfl (by decide +kernel)) ggX7_readNumber_X7_fail
set_option maxRecDepth 20000 in
theorem ggX7_readNumber_X10_within : GoodIn wsX7_readNumber wsX10_within := goodIn_s _ [(21, 1)] rfl (by decide +kernel)
set_option maxRecDepth 20000 in
theorem gX7_readNumber_X10_within_n124 : GoodIn wsX7_readNumber (wsX10_within) := ggX7_readNumber_X10_within
noncomputable def dlX7_readNumber_0 : List (Nat × Instr × Nat) := [(0, .aload_n 0, 1), (1, .invokevirtual 56, 3), (4, .aload_n 0, 1), (5, .getfield 32, 3), (8, .istore 4, 2), (10, .iconst 0, 1), (11, .istore 5, 2), (13, .aload_n 0, 1), (14, .getfield 32, 3), (17, .aload_n 0, 1), (18, .getfield 29, 3), (21, .if_icmp .ge 62, 3), (24, .aload_n 0, 1), (25, .getfield 26, 3), (28, .aload_n 0, 1), (29, .getfield 32, 3), (32, .iaload, 1), (33, .invokestatic 120, 3), (36, .ifCond .eq 47, 3), (39, .aload_n 0, 1), (40, .getfield 32, 3), (43, .iload 4, 2), (45, .isub, 1), (46, .iconst 3, 1), (47, .if_icmp .ge 23, 3), (50, .iload 5, 2), (52, .bipush 10, 2), (54, .imul, 1), (55, .aload_n 0, 1), (56, .getfield 26, 3), (59, .aload_n 0, 1)]
theorem dlX7_readNumber_0_ok : dlX7_readNumber_0.all (fun r => decide (decode cX7_readNumber r.1 = .ok r.2)) = true := by decide +kernel
theorem dX7_readNumber_0 : decode cX7_readNumber 0 = .ok (.aload_n 0, 1) := dec_at dlX7_readNumber_0_ok 0 rfl
theorem dX7_readNumber_1 : decode cX7_readNumber 1 = .ok (.invokevirtual 56, 3) := dec_at dlX7_readNumber_0_ok 1 rfl
theorem dX7_readNumber_4 : decode cX7_readNumber 4 = .ok (.aload_n 0, 1) := dec_at dlX7_readNumber_0_ok 2 rfl
theorem dX7_readNumber_5 : decode cX7_readNumber 5 = .ok (.getfield 32, 3) := dec_at dlX7_readNumber_0_ok 3 rfl
theorem dX7_readNumber_8 : decode cX7_readNumber 8 = .ok (.istore 4, 2) := dec_at dlX7_readNumber_0_ok 4 rfl
theorem dX7_readNumber_10 : decode cX7_readNumber 10 = .ok (.iconst 0, 1) := dec_at dlX7_readNumber_0_ok 5 rfl
theorem dX7_readNumber_11 : decode cX7_readNumber 11 = .ok (.istore 5, 2) := dec_at dlX7_readNumber_0_ok 6 rfl
theorem dX7_readNumber_13 : decode cX7_readNumber 13 = .ok (.aload_n 0, 1) := dec_at dlX7_readNumber_0_ok 7 rfl
theorem dX7_readNumber_14 : decode cX7_readNumber 14 = .ok (.getfield 32, 3) := dec_at dlX7_readNumber_0_ok 8 rfl
theorem dX7_readNumber_17 : decode cX7_readNumber 17 = .ok (.aload_n 0, 1) := dec_at dlX7_readNumber_0_ok 9 rfl
theorem dX7_readNumber_18 : decode cX7_readNumber 18 = .ok (.getfield 29, 3) := dec_at dlX7_readNumber_0_ok 10 rfl
theorem dX7_readNumber_21 : decode cX7_readNumber 21 = .ok (.if_icmp .ge 62, 3) := dec_at dlX7_readNumber_0_ok 11 rfl
theorem dX7_readNumber_24 : decode cX7_readNumber 24 = .ok (.aload_n 0, 1) := dec_at dlX7_readNumber_0_ok 12 rfl
theorem dX7_readNumber_25 : decode cX7_readNumber 25 = .ok (.getfield 26, 3) := dec_at dlX7_readNumber_0_ok 13 rfl
theorem dX7_readNumber_28 : decode cX7_readNumber 28 = .ok (.aload_n 0, 1) := dec_at dlX7_readNumber_0_ok 14 rfl
theorem dX7_readNumber_29 : decode cX7_readNumber 29 = .ok (.getfield 32, 3) := dec_at dlX7_readNumber_0_ok 15 rfl
theorem dX7_readNumber_32 : decode cX7_readNumber 32 = .ok (.iaload, 1) := dec_at dlX7_readNumber_0_ok 16 rfl
theorem dX7_readNumber_33 : decode cX7_readNumber 33 = .ok (.invokestatic 120, 3) := dec_at dlX7_readNumber_0_ok 17 rfl
theorem dX7_readNumber_36 : decode cX7_readNumber 36 = .ok (.ifCond .eq 47, 3) := dec_at dlX7_readNumber_0_ok 18 rfl
theorem dX7_readNumber_39 : decode cX7_readNumber 39 = .ok (.aload_n 0, 1) := dec_at dlX7_readNumber_0_ok 19 rfl
theorem dX7_readNumber_40 : decode cX7_readNumber 40 = .ok (.getfield 32, 3) := dec_at dlX7_readNumber_0_ok 20 rfl
theorem dX7_readNumber_43 : decode cX7_readNumber 43 = .ok (.iload 4, 2) := dec_at dlX7_readNumber_0_ok 21 rfl
theorem dX7_readNumber_45 : decode cX7_readNumber 45 = .ok (.isub, 1) := dec_at dlX7_readNumber_0_ok 22 rfl
theorem dX7_readNumber_46 : decode cX7_readNumber 46 = .ok (.iconst 3, 1) := dec_at dlX7_readNumber_0_ok 23 rfl
theorem dX7_readNumber_47 : decode cX7_readNumber 47 = .ok (.if_icmp .ge 23, 3) := dec_at dlX7_readNumber_0_ok 24 rfl
theorem dX7_readNumber_50 : decode cX7_readNumber 50 = .ok (.iload 5, 2) := dec_at dlX7_readNumber_0_ok 25 rfl
theorem dX7_readNumber_52 : decode cX7_readNumber 52 = .ok (.bipush 10, 2) := dec_at dlX7_readNumber_0_ok 26 rfl
theorem dX7_readNumber_54 : decode cX7_readNumber 54 = .ok (.imul, 1) := dec_at dlX7_readNumber_0_ok 27 rfl
theorem dX7_readNumber_55 : decode cX7_readNumber 55 = .ok (.aload_n 0, 1) := dec_at dlX7_readNumber_0_ok 28 rfl
theorem dX7_readNumber_56 : decode cX7_readNumber 56 = .ok (.getfield 26, 3) := dec_at dlX7_readNumber_0_ok 29 rfl
theorem dX7_readNumber_59 : decode cX7_readNumber 59 = .ok (.aload_n 0, 1) := dec_at dlX7_readNumber_0_ok 30 rfl
noncomputable def dlX7_readNumber_60 : List (Nat × Instr × Nat) := [(60, .getfield 32, 3), (63, .iaload, 1), (64, .iadd, 1), (65, .bipush 48, 2), (67, .isub, 1), (68, .istore 5, 2), (70, .aload_n 0, 1), (71, .dup, 1), (72, .getfield 32, 3), (75, .iconst 1, 1), (76, .iadd, 1), (77, .putfield 32, 3), (80, .goto (-67), 3), (83, .aload_n 0, 1), (84, .getfield 32, 3), (87, .iload 4, 2), (89, .if_icmp .ne 14, 3), (92, .aload_n 0, 1), (93, .iconst 1, 1), (94, .aload_n 0, 1), (95, .getfield 32, 3), (98, .invokevirtual 70, 3), (101, .iconst 0, 1), (102, .ireturn, 1), (103, .aload_n 0, 1), (104, .getfield 32, 3), (107, .iload 4, 2), (109, .isub, 1), (110, .iconst 3, 1), (111, .if_icmp .gt 13, 3), (114, .iload 5, 2)]
theorem dlX7_readNumber_60_ok : dlX7_readNumber_60.all (fun r => decide (decode cX7_readNumber r.1 = .ok r.2)) = true := by decide +kernel
theorem dX7_readNumber_60 : decode cX7_readNumber 60 = .ok (.getfield 32, 3) := dec_at dlX7_readNumber_60_ok 0 rfl
theorem dX7_readNumber_63 : decode cX7_readNumber 63 = .ok (.iaload, 1) := dec_at dlX7_readNumber_60_ok 1 rfl
theorem dX7_readNumber_64 : decode cX7_readNumber 64 = .ok (.iadd, 1) := dec_at dlX7_readNumber_60_ok 2 rfl
theorem dX7_readNumber_65 : decode cX7_readNumber 65 = .ok (.bipush 48, 2) := dec_at dlX7_readNumber_60_ok 3 rfl
theorem dX7_readNumber_67 : decode cX7_readNumber 67 = .ok (.isub, 1) := dec_at dlX7_readNumber_60_ok 4 rfl
theorem dX7_readNumber_68 : decode cX7_readNumber 68 = .ok (.istore 5, 2) := dec_at dlX7_readNumber_60_ok 5 rfl
theorem dX7_readNumber_70 : decode cX7_readNumber 70 = .ok (.aload_n 0, 1) := dec_at dlX7_readNumber_60_ok 6 rfl
theorem dX7_readNumber_71 : decode cX7_readNumber 71 = .ok (.dup, 1) := dec_at dlX7_readNumber_60_ok 7 rfl
theorem dX7_readNumber_72 : decode cX7_readNumber 72 = .ok (.getfield 32, 3) := dec_at dlX7_readNumber_60_ok 8 rfl
theorem dX7_readNumber_75 : decode cX7_readNumber 75 = .ok (.iconst 1, 1) := dec_at dlX7_readNumber_60_ok 9 rfl
theorem dX7_readNumber_76 : decode cX7_readNumber 76 = .ok (.iadd, 1) := dec_at dlX7_readNumber_60_ok 10 rfl
theorem dX7_readNumber_77 : decode cX7_readNumber 77 = .ok (.putfield 32, 3) := dec_at dlX7_readNumber_60_ok 11 rfl
theorem dX7_readNumber_80 : decode cX7_readNumber 80 = .ok (.goto (-67), 3) := dec_at dlX7_readNumber_60_ok 12 rfl
theorem dX7_readNumber_83 : decode cX7_readNumber 83 = .ok (.aload_n 0, 1) := dec_at dlX7_readNumber_60_ok 13 rfl
theorem dX7_readNumber_84 : decode cX7_readNumber 84 = .ok (.getfield 32, 3) := dec_at dlX7_readNumber_60_ok 14 rfl
theorem dX7_readNumber_87 : decode cX7_readNumber 87 = .ok (.iload 4, 2) := dec_at dlX7_readNumber_60_ok 15 rfl
theorem dX7_readNumber_89 : decode cX7_readNumber 89 = .ok (.if_icmp .ne 14, 3) := dec_at dlX7_readNumber_60_ok 16 rfl
theorem dX7_readNumber_92 : decode cX7_readNumber 92 = .ok (.aload_n 0, 1) := dec_at dlX7_readNumber_60_ok 17 rfl
theorem dX7_readNumber_93 : decode cX7_readNumber 93 = .ok (.iconst 1, 1) := dec_at dlX7_readNumber_60_ok 18 rfl
theorem dX7_readNumber_94 : decode cX7_readNumber 94 = .ok (.aload_n 0, 1) := dec_at dlX7_readNumber_60_ok 19 rfl
theorem dX7_readNumber_95 : decode cX7_readNumber 95 = .ok (.getfield 32, 3) := dec_at dlX7_readNumber_60_ok 20 rfl
theorem dX7_readNumber_98 : decode cX7_readNumber 98 = .ok (.invokevirtual 70, 3) := dec_at dlX7_readNumber_60_ok 21 rfl
theorem dX7_readNumber_101 : decode cX7_readNumber 101 = .ok (.iconst 0, 1) := dec_at dlX7_readNumber_60_ok 22 rfl
theorem dX7_readNumber_102 : decode cX7_readNumber 102 = .ok (.ireturn, 1) := dec_at dlX7_readNumber_60_ok 23 rfl
theorem dX7_readNumber_103 : decode cX7_readNumber 103 = .ok (.aload_n 0, 1) := dec_at dlX7_readNumber_60_ok 24 rfl
theorem dX7_readNumber_104 : decode cX7_readNumber 104 = .ok (.getfield 32, 3) := dec_at dlX7_readNumber_60_ok 25 rfl
theorem dX7_readNumber_107 : decode cX7_readNumber 107 = .ok (.iload 4, 2) := dec_at dlX7_readNumber_60_ok 26 rfl
theorem dX7_readNumber_109 : decode cX7_readNumber 109 = .ok (.isub, 1) := dec_at dlX7_readNumber_60_ok 27 rfl
theorem dX7_readNumber_110 : decode cX7_readNumber 110 = .ok (.iconst 3, 1) := dec_at dlX7_readNumber_60_ok 28 rfl
theorem dX7_readNumber_111 : decode cX7_readNumber 111 = .ok (.if_icmp .gt 13, 3) := dec_at dlX7_readNumber_60_ok 29 rfl
theorem dX7_readNumber_114 : decode cX7_readNumber 114 = .ok (.iload 5, 2) := dec_at dlX7_readNumber_60_ok 30 rfl
noncomputable def dlX7_readNumber_116 : List (Nat × Instr × Nat) := [(116, .iload_n 2, 1), (117, .iload_n 3, 1), (118, .invokestatic 124, 3), (121, .ifCond .ne 12, 3), (124, .aload_n 0, 1), (125, .iconst 2, 1), (126, .iload 4, 2), (128, .invokevirtual 70, 3), (131, .iconst 0, 1), (132, .ireturn, 1), (133, .aload_n 0, 1), (134, .getfield 22, 3), (137, .iload_n 1, 1), (138, .iload 5, 2), (140, .iastore, 1), (141, .iconst 1, 1), (142, .ireturn, 1)]
theorem dlX7_readNumber_116_ok : dlX7_readNumber_116.all (fun r => decide (decode cX7_readNumber r.1 = .ok r.2)) = true := by decide +kernel
theorem dX7_readNumber_116 : decode cX7_readNumber 116 = .ok (.iload_n 2, 1) := dec_at dlX7_readNumber_116_ok 0 rfl
theorem dX7_readNumber_117 : decode cX7_readNumber 117 = .ok (.iload_n 3, 1) := dec_at dlX7_readNumber_116_ok 1 rfl
theorem dX7_readNumber_118 : decode cX7_readNumber 118 = .ok (.invokestatic 124, 3) := dec_at dlX7_readNumber_116_ok 2 rfl
theorem dX7_readNumber_121 : decode cX7_readNumber 121 = .ok (.ifCond .ne 12, 3) := dec_at dlX7_readNumber_116_ok 3 rfl
theorem dX7_readNumber_124 : decode cX7_readNumber 124 = .ok (.aload_n 0, 1) := dec_at dlX7_readNumber_116_ok 4 rfl
theorem dX7_readNumber_125 : decode cX7_readNumber 125 = .ok (.iconst 2, 1) := dec_at dlX7_readNumber_116_ok 5 rfl
theorem dX7_readNumber_126 : decode cX7_readNumber 126 = .ok (.iload 4, 2) := dec_at dlX7_readNumber_116_ok 6 rfl
theorem dX7_readNumber_128 : decode cX7_readNumber 128 = .ok (.invokevirtual 70, 3) := dec_at dlX7_readNumber_116_ok 7 rfl
theorem dX7_readNumber_131 : decode cX7_readNumber 131 = .ok (.iconst 0, 1) := dec_at dlX7_readNumber_116_ok 8 rfl
theorem dX7_readNumber_132 : decode cX7_readNumber 132 = .ok (.ireturn, 1) := dec_at dlX7_readNumber_116_ok 9 rfl
theorem dX7_readNumber_133 : decode cX7_readNumber 133 = .ok (.aload_n 0, 1) := dec_at dlX7_readNumber_116_ok 10 rfl
theorem dX7_readNumber_134 : decode cX7_readNumber 134 = .ok (.getfield 22, 3) := dec_at dlX7_readNumber_116_ok 11 rfl
theorem dX7_readNumber_137 : decode cX7_readNumber 137 = .ok (.iload_n 1, 1) := dec_at dlX7_readNumber_116_ok 12 rfl
theorem dX7_readNumber_138 : decode cX7_readNumber 138 = .ok (.iload 5, 2) := dec_at dlX7_readNumber_116_ok 13 rfl
theorem dX7_readNumber_140 : decode cX7_readNumber 140 = .ok (.iastore, 1) := dec_at dlX7_readNumber_116_ok 14 rfl
theorem dX7_readNumber_141 : decode cX7_readNumber 141 = .ok (.iconst 1, 1) := dec_at dlX7_readNumber_116_ok 15 rfl
theorem dX7_readNumber_142 : decode cX7_readNumber 142 = .ok (.ireturn, 1) := dec_at dlX7_readNumber_116_ok 16 rfl
noncomputable def dlX7_skipBlanks_0 : List (Nat × Instr × Nat) := [(0, .aload_n 0, 1), (1, .getfield 32, 3), (4, .aload_n 0, 1), (5, .getfield 29, 3), (8, .if_icmp .ge 30, 3), (11, .aload_n 0, 1), (12, .getfield 26, 3), (15, .aload_n 0, 1), (16, .getfield 32, 3), (19, .iaload, 1), (20, .bipush 32, 2), (22, .if_icmp .ne 16, 3), (25, .aload_n 0, 1), (26, .dup, 1), (27, .getfield 32, 3), (30, .iconst 1, 1), (31, .iadd, 1), (32, .putfield 32, 3), (35, .goto (-35), 3), (38, .return_, 1)]
theorem dlX7_skipBlanks_0_ok : dlX7_skipBlanks_0.all (fun r => decide (decode cX7_skipBlanks r.1 = .ok r.2)) = true := by decide +kernel
theorem dX7_skipBlanks_0 : decode cX7_skipBlanks 0 = .ok (.aload_n 0, 1) := dec_at dlX7_skipBlanks_0_ok 0 rfl
theorem dX7_skipBlanks_1 : decode cX7_skipBlanks 1 = .ok (.getfield 32, 3) := dec_at dlX7_skipBlanks_0_ok 1 rfl
theorem dX7_skipBlanks_4 : decode cX7_skipBlanks 4 = .ok (.aload_n 0, 1) := dec_at dlX7_skipBlanks_0_ok 2 rfl
theorem dX7_skipBlanks_5 : decode cX7_skipBlanks 5 = .ok (.getfield 29, 3) := dec_at dlX7_skipBlanks_0_ok 3 rfl
theorem dX7_skipBlanks_8 : decode cX7_skipBlanks 8 = .ok (.if_icmp .ge 30, 3) := dec_at dlX7_skipBlanks_0_ok 4 rfl
theorem dX7_skipBlanks_11 : decode cX7_skipBlanks 11 = .ok (.aload_n 0, 1) := dec_at dlX7_skipBlanks_0_ok 5 rfl
theorem dX7_skipBlanks_12 : decode cX7_skipBlanks 12 = .ok (.getfield 26, 3) := dec_at dlX7_skipBlanks_0_ok 6 rfl
theorem dX7_skipBlanks_15 : decode cX7_skipBlanks 15 = .ok (.aload_n 0, 1) := dec_at dlX7_skipBlanks_0_ok 7 rfl
theorem dX7_skipBlanks_16 : decode cX7_skipBlanks 16 = .ok (.getfield 32, 3) := dec_at dlX7_skipBlanks_0_ok 8 rfl
theorem dX7_skipBlanks_19 : decode cX7_skipBlanks 19 = .ok (.iaload, 1) := dec_at dlX7_skipBlanks_0_ok 9 rfl
theorem dX7_skipBlanks_20 : decode cX7_skipBlanks 20 = .ok (.bipush 32, 2) := dec_at dlX7_skipBlanks_0_ok 10 rfl
theorem dX7_skipBlanks_22 : decode cX7_skipBlanks 22 = .ok (.if_icmp .ne 16, 3) := dec_at dlX7_skipBlanks_0_ok 11 rfl
theorem dX7_skipBlanks_25 : decode cX7_skipBlanks 25 = .ok (.aload_n 0, 1) := dec_at dlX7_skipBlanks_0_ok 12 rfl
theorem dX7_skipBlanks_26 : decode cX7_skipBlanks 26 = .ok (.dup, 1) := dec_at dlX7_skipBlanks_0_ok 13 rfl
theorem dX7_skipBlanks_27 : decode cX7_skipBlanks 27 = .ok (.getfield 32, 3) := dec_at dlX7_skipBlanks_0_ok 14 rfl
theorem dX7_skipBlanks_30 : decode cX7_skipBlanks 30 = .ok (.iconst 1, 1) := dec_at dlX7_skipBlanks_0_ok 15 rfl
theorem dX7_skipBlanks_31 : decode cX7_skipBlanks 31 = .ok (.iadd, 1) := dec_at dlX7_skipBlanks_0_ok 16 rfl
theorem dX7_skipBlanks_32 : decode cX7_skipBlanks 32 = .ok (.putfield 32, 3) := dec_at dlX7_skipBlanks_0_ok 17 rfl
theorem dX7_skipBlanks_35 : decode cX7_skipBlanks 35 = .ok (.goto (-35), 3) := dec_at dlX7_skipBlanks_0_ok 18 rfl
theorem dX7_skipBlanks_38 : decode cX7_skipBlanks 38 = .ok (.return_, 1) := dec_at dlX7_skipBlanks_0_ok 19 rfl
noncomputable def dlX7_letterHere_0 : List (Nat × Instr × Nat) := [(0, .aload_n 0, 1), (1, .getfield 32, 3), (4, .aload_n 0, 1), (5, .getfield 29, 3), (8, .if_icmp .ge 15, 3), (11, .aload_n 0, 1), (12, .getfield 26, 3), (15, .aload_n 0, 1), (16, .getfield 32, 3), (19, .iaload, 1), (20, .goto 4, 3), (23, .iconst (-1), 1), (24, .ireturn, 1)]
theorem dlX7_letterHere_0_ok : dlX7_letterHere_0.all (fun r => decide (decode cX7_letterHere r.1 = .ok r.2)) = true := by decide +kernel
theorem dX7_letterHere_0 : decode cX7_letterHere 0 = .ok (.aload_n 0, 1) := dec_at dlX7_letterHere_0_ok 0 rfl
theorem dX7_letterHere_1 : decode cX7_letterHere 1 = .ok (.getfield 32, 3) := dec_at dlX7_letterHere_0_ok 1 rfl
theorem dX7_letterHere_4 : decode cX7_letterHere 4 = .ok (.aload_n 0, 1) := dec_at dlX7_letterHere_0_ok 2 rfl
theorem dX7_letterHere_5 : decode cX7_letterHere 5 = .ok (.getfield 29, 3) := dec_at dlX7_letterHere_0_ok 3 rfl
theorem dX7_letterHere_8 : decode cX7_letterHere 8 = .ok (.if_icmp .ge 15, 3) := dec_at dlX7_letterHere_0_ok 4 rfl
theorem dX7_letterHere_11 : decode cX7_letterHere 11 = .ok (.aload_n 0, 1) := dec_at dlX7_letterHere_0_ok 5 rfl
theorem dX7_letterHere_12 : decode cX7_letterHere 12 = .ok (.getfield 26, 3) := dec_at dlX7_letterHere_0_ok 6 rfl
theorem dX7_letterHere_15 : decode cX7_letterHere 15 = .ok (.aload_n 0, 1) := dec_at dlX7_letterHere_0_ok 7 rfl
theorem dX7_letterHere_16 : decode cX7_letterHere 16 = .ok (.getfield 32, 3) := dec_at dlX7_letterHere_0_ok 8 rfl
theorem dX7_letterHere_19 : decode cX7_letterHere 19 = .ok (.iaload, 1) := dec_at dlX7_letterHere_0_ok 9 rfl
theorem dX7_letterHere_20 : decode cX7_letterHere 20 = .ok (.goto 4, 3) := dec_at dlX7_letterHere_0_ok 10 rfl
theorem dX7_letterHere_23 : decode cX7_letterHere 23 = .ok (.iconst (-1), 1) := dec_at dlX7_letterHere_0_ok 11 rfl
theorem dX7_letterHere_24 : decode cX7_letterHere 24 = .ok (.ireturn, 1) := dec_at dlX7_letterHere_0_ok 12 rfl
noncomputable def dlX7_fail_0 : List (Nat × Instr × Nat) := [(0, .aload_n 0, 1), (1, .iload_n 1, 1), (2, .putfield 35, 3), (5, .aload_n 0, 1), (6, .iload_n 2, 1), (7, .putfield 18, 3), (10, .return_, 1)]
theorem dlX7_fail_0_ok : dlX7_fail_0.all (fun r => decide (decode cX7_fail r.1 = .ok r.2)) = true := by decide +kernel
theorem dX7_fail_0 : decode cX7_fail 0 = .ok (.aload_n 0, 1) := dec_at dlX7_fail_0_ok 0 rfl
theorem dX7_fail_1 : decode cX7_fail 1 = .ok (.iload_n 1, 1) := dec_at dlX7_fail_0_ok 1 rfl
theorem dX7_fail_2 : decode cX7_fail 2 = .ok (.putfield 35, 3) := dec_at dlX7_fail_0_ok 2 rfl
theorem dX7_fail_5 : decode cX7_fail 5 = .ok (.aload_n 0, 1) := dec_at dlX7_fail_0_ok 3 rfl
theorem dX7_fail_6 : decode cX7_fail 6 = .ok (.iload_n 2, 1) := dec_at dlX7_fail_0_ok 4 rfl
theorem dX7_fail_7 : decode cX7_fail 7 = .ok (.putfield 18, 3) := dec_at dlX7_fail_0_ok 5 rfl
theorem dX7_fail_10 : decode cX7_fail 10 = .ok (.return_, 1) := dec_at dlX7_fail_0_ok 6 rfl
noncomputable def dlX7_isFigure_0 : List (Nat × Instr × Nat) := [(0, .iload_n 0, 1), (1, .bipush 48, 2), (3, .if_icmp .lt 13, 3), (6, .iload_n 0, 1), (7, .bipush 57, 2), (9, .if_icmp .gt 7, 3), (12, .iconst 1, 1), (13, .goto 4, 3), (16, .iconst 0, 1), (17, .ireturn, 1)]
theorem dlX7_isFigure_0_ok : dlX7_isFigure_0.all (fun r => decide (decode cX7_isFigure r.1 = .ok r.2)) = true := by decide +kernel
theorem dX7_isFigure_0 : decode cX7_isFigure 0 = .ok (.iload_n 0, 1) := dec_at dlX7_isFigure_0_ok 0 rfl
theorem dX7_isFigure_1 : decode cX7_isFigure 1 = .ok (.bipush 48, 2) := dec_at dlX7_isFigure_0_ok 1 rfl
theorem dX7_isFigure_3 : decode cX7_isFigure 3 = .ok (.if_icmp .lt 13, 3) := dec_at dlX7_isFigure_0_ok 2 rfl
theorem dX7_isFigure_6 : decode cX7_isFigure 6 = .ok (.iload_n 0, 1) := dec_at dlX7_isFigure_0_ok 3 rfl
theorem dX7_isFigure_7 : decode cX7_isFigure 7 = .ok (.bipush 57, 2) := dec_at dlX7_isFigure_0_ok 4 rfl
theorem dX7_isFigure_9 : decode cX7_isFigure 9 = .ok (.if_icmp .gt 7, 3) := dec_at dlX7_isFigure_0_ok 5 rfl
theorem dX7_isFigure_12 : decode cX7_isFigure 12 = .ok (.iconst 1, 1) := dec_at dlX7_isFigure_0_ok 6 rfl
theorem dX7_isFigure_13 : decode cX7_isFigure 13 = .ok (.goto 4, 3) := dec_at dlX7_isFigure_0_ok 7 rfl
theorem dX7_isFigure_16 : decode cX7_isFigure 16 = .ok (.iconst 0, 1) := dec_at dlX7_isFigure_0_ok 8 rfl
theorem dX7_isFigure_17 : decode cX7_isFigure 17 = .ok (.ireturn, 1) := dec_at dlX7_isFigure_0_ok 9 rfl
noncomputable def dlX8_init_0 : List (Nat × Instr × Nat) := [(0, .aload_n 0, 1), (1, .invokespecial 3, 3), (4, .aload_n 0, 1), (5, .iconst (-1), 1), (6, .putfield 9, 3), (9, .aload_n 0, 1), (10, .iconst 4, 1), (11, .newarray .int, 2), (13, .putfield 15, 3), (16, .aload_n 0, 1), (17, .iconst 4, 1), (18, .newarray .int, 2), (20, .putfield 19, 3), (23, .aload_n 0, 1), (24, .bipush 32, 2), (26, .newarray .int, 2), (28, .putfield 22, 3), (31, .aload_n 0, 1), (32, .aload_n 1, 1), (33, .putfield 25, 3), (36, .aload_n 0, 1), (37, .aload_n 2, 1), (38, .putfield 29, 3), (41, .return_, 1)]
theorem dlX8_init_0_ok : dlX8_init_0.all (fun r => decide (decode cX8_init r.1 = .ok r.2)) = true := by decide +kernel
theorem dX8_init_0 : decode cX8_init 0 = .ok (.aload_n 0, 1) := dec_at dlX8_init_0_ok 0 rfl
theorem dX8_init_1 : decode cX8_init 1 = .ok (.invokespecial 3, 3) := dec_at dlX8_init_0_ok 1 rfl
theorem dX8_init_4 : decode cX8_init 4 = .ok (.aload_n 0, 1) := dec_at dlX8_init_0_ok 2 rfl
theorem dX8_init_5 : decode cX8_init 5 = .ok (.iconst (-1), 1) := dec_at dlX8_init_0_ok 3 rfl
theorem dX8_init_6 : decode cX8_init 6 = .ok (.putfield 9, 3) := dec_at dlX8_init_0_ok 4 rfl
theorem dX8_init_9 : decode cX8_init 9 = .ok (.aload_n 0, 1) := dec_at dlX8_init_0_ok 5 rfl
theorem dX8_init_10 : decode cX8_init 10 = .ok (.iconst 4, 1) := dec_at dlX8_init_0_ok 6 rfl
theorem dX8_init_11 : decode cX8_init 11 = .ok (.newarray .int, 2) := dec_at dlX8_init_0_ok 7 rfl
theorem dX8_init_13 : decode cX8_init 13 = .ok (.putfield 15, 3) := dec_at dlX8_init_0_ok 8 rfl
theorem dX8_init_16 : decode cX8_init 16 = .ok (.aload_n 0, 1) := dec_at dlX8_init_0_ok 9 rfl
theorem dX8_init_17 : decode cX8_init 17 = .ok (.iconst 4, 1) := dec_at dlX8_init_0_ok 10 rfl
theorem dX8_init_18 : decode cX8_init 18 = .ok (.newarray .int, 2) := dec_at dlX8_init_0_ok 11 rfl
theorem dX8_init_20 : decode cX8_init 20 = .ok (.putfield 19, 3) := dec_at dlX8_init_0_ok 12 rfl
theorem dX8_init_23 : decode cX8_init 23 = .ok (.aload_n 0, 1) := dec_at dlX8_init_0_ok 13 rfl
theorem dX8_init_24 : decode cX8_init 24 = .ok (.bipush 32, 2) := dec_at dlX8_init_0_ok 14 rfl
theorem dX8_init_26 : decode cX8_init 26 = .ok (.newarray .int, 2) := dec_at dlX8_init_0_ok 15 rfl
theorem dX8_init_28 : decode cX8_init 28 = .ok (.putfield 22, 3) := dec_at dlX8_init_0_ok 16 rfl
theorem dX8_init_31 : decode cX8_init 31 = .ok (.aload_n 0, 1) := dec_at dlX8_init_0_ok 17 rfl
theorem dX8_init_32 : decode cX8_init 32 = .ok (.aload_n 1, 1) := dec_at dlX8_init_0_ok 18 rfl
theorem dX8_init_33 : decode cX8_init 33 = .ok (.putfield 25, 3) := dec_at dlX8_init_0_ok 19 rfl
theorem dX8_init_36 : decode cX8_init 36 = .ok (.aload_n 0, 1) := dec_at dlX8_init_0_ok 20 rfl
theorem dX8_init_37 : decode cX8_init 37 = .ok (.aload_n 2, 1) := dec_at dlX8_init_0_ok 21 rfl
theorem dX8_init_38 : decode cX8_init 38 = .ok (.putfield 29, 3) := dec_at dlX8_init_0_ok 22 rfl
theorem dX8_init_41 : decode cX8_init 41 = .ok (.return_, 1) := dec_at dlX8_init_0_ok 23 rfl
set_option maxRecDepth 20000 in
theorem ggX8_find_X9_goodNow : GoodIn wsX8_find wsX9_goodNow := goodIn_s _ [(11, 6), (10, 1), (17, 39), (94, 11), (81, 13)] rfl (by decide +kernel)
set_option maxRecDepth 20000 in
theorem gX8_find_X9_goodNow : GoodIn wsX8_find (wsV RX8 41 RX9 yX9_goodNow wsX9_goodNow) := goodIn_app (goodIn_s _ [(7, 4)] rfl (by decide +kernel)) ggX8_find_X9_goodNow
set_option maxRecDepth 20000 in
theorem ggX8_find_X8_giveFrom : GoodIn wsX8_find wsX8_giveFrom := goodIn_s _ [(60, 1), (1, 3), (61, 3), (59, 1), (64, 1), (6, 1), (65, 10), (4, 1), (56, 3), (75, 19)] rfl (by decide +kernel)
set_option maxRecDepth 20000 in
theorem gX8_find_X8_giveFrom : GoodIn wsX8_find (wsV RX8 47 RX8 yX8_giveFrom wsX8_giveFrom) := goodIn_app (goodIn_s _ [(56, 4)] rfl (by decide +kernel)) ggX8_find_X8_giveFrom
noncomputable def dlX8_find_0 : List (Nat × Instr × Nat) := [(0, .iconst 0, 1), (1, .istore_n 1, 1), (2, .iload_n 1, 1), (3, .aload_n 0, 1), (4, .getfield 25, 3), (7, .getfield 33, 3), (10, .if_icmp .ge 48, 3), (13, .iconst 0, 1), (14, .istore_n 2, 1), (15, .iload_n 2, 1), (16, .aload_n 0, 1), (17, .getfield 25, 3), (20, .getfield 38, 3), (23, .if_icmp .ge 29, 3), (26, .aload_n 0, 1), (27, .getfield 22, 3), (30, .iload_n 1, 1), (31, .bipush 8, 2), (33, .imul, 1), (34, .iload_n 2, 1), (35, .iadd, 1), (36, .aload_n 0, 1), (37, .getfield 29, 3), (40, .iload_n 2, 1), (41, .iload_n 1, 1), (42, .invokevirtual 41, 3), (45, .iastore, 1), (46, .iinc 2 1, 3), (49, .goto (-34), 3), (52, .iinc 1 1, 3), (55, .goto (-53), 3)]
theorem dlX8_find_0_ok : dlX8_find_0.all (fun r => decide (decode cX8_find r.1 = .ok r.2)) = true := by decide +kernel
theorem dX8_find_0 : decode cX8_find 0 = .ok (.iconst 0, 1) := dec_at dlX8_find_0_ok 0 rfl
theorem dX8_find_1 : decode cX8_find 1 = .ok (.istore_n 1, 1) := dec_at dlX8_find_0_ok 1 rfl
theorem dX8_find_2 : decode cX8_find 2 = .ok (.iload_n 1, 1) := dec_at dlX8_find_0_ok 2 rfl
theorem dX8_find_3 : decode cX8_find 3 = .ok (.aload_n 0, 1) := dec_at dlX8_find_0_ok 3 rfl
theorem dX8_find_4 : decode cX8_find 4 = .ok (.getfield 25, 3) := dec_at dlX8_find_0_ok 4 rfl
theorem dX8_find_7 : decode cX8_find 7 = .ok (.getfield 33, 3) := dec_at dlX8_find_0_ok 5 rfl
theorem dX8_find_10 : decode cX8_find 10 = .ok (.if_icmp .ge 48, 3) := dec_at dlX8_find_0_ok 6 rfl
theorem dX8_find_13 : decode cX8_find 13 = .ok (.iconst 0, 1) := dec_at dlX8_find_0_ok 7 rfl
theorem dX8_find_14 : decode cX8_find 14 = .ok (.istore_n 2, 1) := dec_at dlX8_find_0_ok 8 rfl
theorem dX8_find_15 : decode cX8_find 15 = .ok (.iload_n 2, 1) := dec_at dlX8_find_0_ok 9 rfl
theorem dX8_find_16 : decode cX8_find 16 = .ok (.aload_n 0, 1) := dec_at dlX8_find_0_ok 10 rfl
theorem dX8_find_17 : decode cX8_find 17 = .ok (.getfield 25, 3) := dec_at dlX8_find_0_ok 11 rfl
theorem dX8_find_20 : decode cX8_find 20 = .ok (.getfield 38, 3) := dec_at dlX8_find_0_ok 12 rfl
theorem dX8_find_23 : decode cX8_find 23 = .ok (.if_icmp .ge 29, 3) := dec_at dlX8_find_0_ok 13 rfl
theorem dX8_find_26 : decode cX8_find 26 = .ok (.aload_n 0, 1) := dec_at dlX8_find_0_ok 14 rfl
theorem dX8_find_27 : decode cX8_find 27 = .ok (.getfield 22, 3) := dec_at dlX8_find_0_ok 15 rfl
theorem dX8_find_30 : decode cX8_find 30 = .ok (.iload_n 1, 1) := dec_at dlX8_find_0_ok 16 rfl
theorem dX8_find_31 : decode cX8_find 31 = .ok (.bipush 8, 2) := dec_at dlX8_find_0_ok 17 rfl
theorem dX8_find_33 : decode cX8_find 33 = .ok (.imul, 1) := dec_at dlX8_find_0_ok 18 rfl
theorem dX8_find_34 : decode cX8_find 34 = .ok (.iload_n 2, 1) := dec_at dlX8_find_0_ok 19 rfl
theorem dX8_find_35 : decode cX8_find 35 = .ok (.iadd, 1) := dec_at dlX8_find_0_ok 20 rfl
theorem dX8_find_36 : decode cX8_find 36 = .ok (.aload_n 0, 1) := dec_at dlX8_find_0_ok 21 rfl
theorem dX8_find_37 : decode cX8_find 37 = .ok (.getfield 29, 3) := dec_at dlX8_find_0_ok 22 rfl
theorem dX8_find_40 : decode cX8_find 40 = .ok (.iload_n 2, 1) := dec_at dlX8_find_0_ok 23 rfl
theorem dX8_find_41 : decode cX8_find 41 = .ok (.iload_n 1, 1) := dec_at dlX8_find_0_ok 24 rfl
theorem dX8_find_42 : decode cX8_find 42 = .ok (.invokevirtual 41, 3) := dec_at dlX8_find_0_ok 25 rfl
theorem dX8_find_45 : decode cX8_find 45 = .ok (.iastore, 1) := dec_at dlX8_find_0_ok 26 rfl
theorem dX8_find_46 : decode cX8_find 46 = .ok (.iinc 2 1, 3) := dec_at dlX8_find_0_ok 27 rfl
theorem dX8_find_49 : decode cX8_find 49 = .ok (.goto (-34), 3) := dec_at dlX8_find_0_ok 28 rfl
theorem dX8_find_52 : decode cX8_find 52 = .ok (.iinc 1 1, 3) := dec_at dlX8_find_0_ok 29 rfl
theorem dX8_find_55 : decode cX8_find 55 = .ok (.goto (-53), 3) := dec_at dlX8_find_0_ok 30 rfl
noncomputable def dlX8_find_58 : List (Nat × Instr × Nat) := [(58, .aload_n 0, 1), (59, .iconst (-1), 1), (60, .putfield 9, 3), (63, .aload_n 0, 1), (64, .iconst 0, 1), (65, .iconst 0, 1), (66, .iconst 0, 1), (67, .invokevirtual 47, 3), (70, .return_, 1)]
theorem dlX8_find_58_ok : dlX8_find_58.all (fun r => decide (decode cX8_find r.1 = .ok r.2)) = true := by decide +kernel
theorem dX8_find_58 : decode cX8_find 58 = .ok (.aload_n 0, 1) := dec_at dlX8_find_58_ok 0 rfl
theorem dX8_find_59 : decode cX8_find 59 = .ok (.iconst (-1), 1) := dec_at dlX8_find_58_ok 1 rfl
theorem dX8_find_60 : decode cX8_find 60 = .ok (.putfield 9, 3) := dec_at dlX8_find_58_ok 2 rfl
theorem dX8_find_63 : decode cX8_find 63 = .ok (.aload_n 0, 1) := dec_at dlX8_find_58_ok 3 rfl
theorem dX8_find_64 : decode cX8_find 64 = .ok (.iconst 0, 1) := dec_at dlX8_find_58_ok 4 rfl
theorem dX8_find_65 : decode cX8_find 65 = .ok (.iconst 0, 1) := dec_at dlX8_find_58_ok 5 rfl
theorem dX8_find_66 : decode cX8_find 66 = .ok (.iconst 0, 1) := dec_at dlX8_find_58_ok 6 rfl
theorem dX8_find_67 : decode cX8_find 67 = .ok (.invokevirtual 47, 3) := dec_at dlX8_find_58_ok 7 rfl
theorem dX8_find_70 : decode cX8_find 70 = .ok (.return_, 1) := dec_at dlX8_find_58_ok 8 rfl
set_option maxRecDepth 20000 in
theorem ggX8_giveFrom_X8_keepIfBetter : GoodIn wsX8_giveFrom wsX8_keepIfBetter := goodIn_s _ [(8, 8), (24, 6)] rfl (by decide +kernel)
set_option maxRecDepth 20000 in
theorem gX8_giveFrom_X8_keepIfBetter : GoodIn wsX8_giveFrom (wsV RX8 51 RX8 yX8_keepIfBetter wsX8_keepIfBetter) := goodIn_app (goodIn_s _ [(4, 4)] rfl (by decide +kernel)) ggX8_giveFrom_X8_keepIfBetter
set_option maxRecDepth 20000 in
theorem ggX8_giveFrom_X8_giveQuill : GoodIn wsX8_giveFrom wsX8_giveQuill := goodIn_s _ [(19, 1), (10, 1), (20, 4), (7, 1), (0, 7), (8, 2), (11, 8), (24, 19)] rfl (by decide +kernel)
set_option maxRecDepth 20000 in
theorem gX8_giveFrom_X8_giveQuill : GoodIn wsX8_giveFrom (wsV RX8 55 RX8 yX8_giveQuill wsX8_giveQuill) := goodIn_app (goodIn_s _ [(16, 3), (7, 1)] rfl (by decide +kernel)) ggX8_giveFrom_X8_giveQuill
noncomputable def dlX8_giveFrom_0 : List (Nat × Instr × Nat) := [(0, .iload_n 1, 1), (1, .aload_n 0, 1), (2, .getfield 25, 3), (5, .getfield 33, 3), (8, .if_icmp .ge 8, 3), (11, .iload_n 1, 1), (12, .iconst 4, 1), (13, .if_icmp .lt 9, 3), (16, .aload_n 0, 1), (17, .iload_n 3, 1), (18, .invokevirtual 51, 3), (21, .return_, 1), (22, .iconst 0, 1), (23, .istore 4, 2), (25, .iload 4, 2), (27, .aload_n 0, 1), (28, .getfield 25, 3), (31, .getfield 38, 3), (34, .if_icmp .ge 27, 3), (37, .iload_n 2, 1), (38, .iconst 1, 1), (39, .iload 4, 2), (41, .ishl, 1), (42, .iand, 1), (43, .ifCond .ne 12, 3), (46, .aload_n 0, 1), (47, .iload_n 1, 1), (48, .iload 4, 2), (50, .iload_n 2, 1), (51, .iload_n 3, 1), (52, .invokevirtual 55, 3)]
theorem dlX8_giveFrom_0_ok : dlX8_giveFrom_0.all (fun r => decide (decode cX8_giveFrom r.1 = .ok r.2)) = true := by decide +kernel
theorem dX8_giveFrom_0 : decode cX8_giveFrom 0 = .ok (.iload_n 1, 1) := dec_at dlX8_giveFrom_0_ok 0 rfl
theorem dX8_giveFrom_1 : decode cX8_giveFrom 1 = .ok (.aload_n 0, 1) := dec_at dlX8_giveFrom_0_ok 1 rfl
theorem dX8_giveFrom_2 : decode cX8_giveFrom 2 = .ok (.getfield 25, 3) := dec_at dlX8_giveFrom_0_ok 2 rfl
theorem dX8_giveFrom_5 : decode cX8_giveFrom 5 = .ok (.getfield 33, 3) := dec_at dlX8_giveFrom_0_ok 3 rfl
theorem dX8_giveFrom_8 : decode cX8_giveFrom 8 = .ok (.if_icmp .ge 8, 3) := dec_at dlX8_giveFrom_0_ok 4 rfl
theorem dX8_giveFrom_11 : decode cX8_giveFrom 11 = .ok (.iload_n 1, 1) := dec_at dlX8_giveFrom_0_ok 5 rfl
theorem dX8_giveFrom_12 : decode cX8_giveFrom 12 = .ok (.iconst 4, 1) := dec_at dlX8_giveFrom_0_ok 6 rfl
theorem dX8_giveFrom_13 : decode cX8_giveFrom 13 = .ok (.if_icmp .lt 9, 3) := dec_at dlX8_giveFrom_0_ok 7 rfl
theorem dX8_giveFrom_16 : decode cX8_giveFrom 16 = .ok (.aload_n 0, 1) := dec_at dlX8_giveFrom_0_ok 8 rfl
theorem dX8_giveFrom_17 : decode cX8_giveFrom 17 = .ok (.iload_n 3, 1) := dec_at dlX8_giveFrom_0_ok 9 rfl
theorem dX8_giveFrom_18 : decode cX8_giveFrom 18 = .ok (.invokevirtual 51, 3) := dec_at dlX8_giveFrom_0_ok 10 rfl
theorem dX8_giveFrom_21 : decode cX8_giveFrom 21 = .ok (.return_, 1) := dec_at dlX8_giveFrom_0_ok 11 rfl
theorem dX8_giveFrom_22 : decode cX8_giveFrom 22 = .ok (.iconst 0, 1) := dec_at dlX8_giveFrom_0_ok 12 rfl
theorem dX8_giveFrom_23 : decode cX8_giveFrom 23 = .ok (.istore 4, 2) := dec_at dlX8_giveFrom_0_ok 13 rfl
theorem dX8_giveFrom_25 : decode cX8_giveFrom 25 = .ok (.iload 4, 2) := dec_at dlX8_giveFrom_0_ok 14 rfl
theorem dX8_giveFrom_27 : decode cX8_giveFrom 27 = .ok (.aload_n 0, 1) := dec_at dlX8_giveFrom_0_ok 15 rfl
theorem dX8_giveFrom_28 : decode cX8_giveFrom 28 = .ok (.getfield 25, 3) := dec_at dlX8_giveFrom_0_ok 16 rfl
theorem dX8_giveFrom_31 : decode cX8_giveFrom 31 = .ok (.getfield 38, 3) := dec_at dlX8_giveFrom_0_ok 17 rfl
theorem dX8_giveFrom_34 : decode cX8_giveFrom 34 = .ok (.if_icmp .ge 27, 3) := dec_at dlX8_giveFrom_0_ok 18 rfl
theorem dX8_giveFrom_37 : decode cX8_giveFrom 37 = .ok (.iload_n 2, 1) := dec_at dlX8_giveFrom_0_ok 19 rfl
theorem dX8_giveFrom_38 : decode cX8_giveFrom 38 = .ok (.iconst 1, 1) := dec_at dlX8_giveFrom_0_ok 20 rfl
theorem dX8_giveFrom_39 : decode cX8_giveFrom 39 = .ok (.iload 4, 2) := dec_at dlX8_giveFrom_0_ok 21 rfl
theorem dX8_giveFrom_41 : decode cX8_giveFrom 41 = .ok (.ishl, 1) := dec_at dlX8_giveFrom_0_ok 22 rfl
theorem dX8_giveFrom_42 : decode cX8_giveFrom 42 = .ok (.iand, 1) := dec_at dlX8_giveFrom_0_ok 23 rfl
theorem dX8_giveFrom_43 : decode cX8_giveFrom 43 = .ok (.ifCond .ne 12, 3) := dec_at dlX8_giveFrom_0_ok 24 rfl
theorem dX8_giveFrom_46 : decode cX8_giveFrom 46 = .ok (.aload_n 0, 1) := dec_at dlX8_giveFrom_0_ok 25 rfl
theorem dX8_giveFrom_47 : decode cX8_giveFrom 47 = .ok (.iload_n 1, 1) := dec_at dlX8_giveFrom_0_ok 26 rfl
theorem dX8_giveFrom_48 : decode cX8_giveFrom 48 = .ok (.iload 4, 2) := dec_at dlX8_giveFrom_0_ok 27 rfl
theorem dX8_giveFrom_50 : decode cX8_giveFrom 50 = .ok (.iload_n 2, 1) := dec_at dlX8_giveFrom_0_ok 28 rfl
theorem dX8_giveFrom_51 : decode cX8_giveFrom 51 = .ok (.iload_n 3, 1) := dec_at dlX8_giveFrom_0_ok 29 rfl
theorem dX8_giveFrom_52 : decode cX8_giveFrom 52 = .ok (.invokevirtual 55, 3) := dec_at dlX8_giveFrom_0_ok 30 rfl
noncomputable def dlX8_giveFrom_55 : List (Nat × Instr × Nat) := [(55, .iinc 4 1, 3), (58, .goto (-33), 3), (61, .return_, 1)]
theorem dlX8_giveFrom_55_ok : dlX8_giveFrom_55.all (fun r => decide (decode cX8_giveFrom r.1 = .ok r.2)) = true := by decide +kernel
theorem dX8_giveFrom_55 : decode cX8_giveFrom 55 = .ok (.iinc 4 1, 3) := dec_at dlX8_giveFrom_55_ok 0 rfl
theorem dX8_giveFrom_58 : decode cX8_giveFrom 58 = .ok (.goto (-33), 3) := dec_at dlX8_giveFrom_55_ok 1 rfl
theorem dX8_giveFrom_61 : decode cX8_giveFrom 61 = .ok (.return_, 1) := dec_at dlX8_giveFrom_55_ok 2 rfl
set_option maxRecDepth 20000 in
theorem ggX8_giveQuill_X8_giveFrom : GoodIn wsX8_giveQuill wsX8_giveFrom := goodIn_s _ [(7, 7), (6, 1), (14, 2), (1, 1), (16, 8), (0, 1), (2, 4), (24, 19)] rfl (by decide +kernel)
set_option maxRecDepth 20000 in
theorem gX8_giveQuill_X8_giveFrom : GoodIn wsX8_giveQuill (wsV RX8 47 RX8 yX8_giveFrom wsX8_giveFrom) := goodIn_app (goodIn_s _ [(3, 4)] rfl (by decide +kernel)) ggX8_giveQuill_X8_giveFrom
noncomputable def dlX8_giveQuill_0 : List (Nat × Instr × Nat) := [(0, .aload_n 0, 1), (1, .getfield 19, 3), (4, .iload_n 1, 1), (5, .iload_n 2, 1), (6, .iastore, 1), (7, .aload_n 0, 1), (8, .iload_n 1, 1), (9, .iconst 1, 1), (10, .iadd, 1), (11, .iload_n 3, 1), (12, .iconst 1, 1), (13, .iload_n 2, 1), (14, .ishl, 1), (15, .ior, 1), (16, .iload 4, 2), (18, .aload_n 0, 1), (19, .getfield 22, 3), (22, .iload_n 1, 1), (23, .bipush 8, 2), (25, .imul, 1), (26, .iload_n 2, 1), (27, .iadd, 1), (28, .iaload, 1), (29, .iadd, 1), (30, .invokevirtual 47, 3), (33, .return_, 1)]
theorem dlX8_giveQuill_0_ok : dlX8_giveQuill_0.all (fun r => decide (decode cX8_giveQuill r.1 = .ok r.2)) = true := by decide +kernel
theorem dX8_giveQuill_0 : decode cX8_giveQuill 0 = .ok (.aload_n 0, 1) := dec_at dlX8_giveQuill_0_ok 0 rfl
theorem dX8_giveQuill_1 : decode cX8_giveQuill 1 = .ok (.getfield 19, 3) := dec_at dlX8_giveQuill_0_ok 1 rfl
theorem dX8_giveQuill_4 : decode cX8_giveQuill 4 = .ok (.iload_n 1, 1) := dec_at dlX8_giveQuill_0_ok 2 rfl
theorem dX8_giveQuill_5 : decode cX8_giveQuill 5 = .ok (.iload_n 2, 1) := dec_at dlX8_giveQuill_0_ok 3 rfl
theorem dX8_giveQuill_6 : decode cX8_giveQuill 6 = .ok (.iastore, 1) := dec_at dlX8_giveQuill_0_ok 4 rfl
theorem dX8_giveQuill_7 : decode cX8_giveQuill 7 = .ok (.aload_n 0, 1) := dec_at dlX8_giveQuill_0_ok 5 rfl
theorem dX8_giveQuill_8 : decode cX8_giveQuill 8 = .ok (.iload_n 1, 1) := dec_at dlX8_giveQuill_0_ok 6 rfl
theorem dX8_giveQuill_9 : decode cX8_giveQuill 9 = .ok (.iconst 1, 1) := dec_at dlX8_giveQuill_0_ok 7 rfl
theorem dX8_giveQuill_10 : decode cX8_giveQuill 10 = .ok (.iadd, 1) := dec_at dlX8_giveQuill_0_ok 8 rfl
theorem dX8_giveQuill_11 : decode cX8_giveQuill 11 = .ok (.iload_n 3, 1) := dec_at dlX8_giveQuill_0_ok 9 rfl
theorem dX8_giveQuill_12 : decode cX8_giveQuill 12 = .ok (.iconst 1, 1) := dec_at dlX8_giveQuill_0_ok 10 rfl
theorem dX8_giveQuill_13 : decode cX8_giveQuill 13 = .ok (.iload_n 2, 1) := dec_at dlX8_giveQuill_0_ok 11 rfl
theorem dX8_giveQuill_14 : decode cX8_giveQuill 14 = .ok (.ishl, 1) := dec_at dlX8_giveQuill_0_ok 12 rfl
theorem dX8_giveQuill_15 : decode cX8_giveQuill 15 = .ok (.ior, 1) := dec_at dlX8_giveQuill_0_ok 13 rfl
theorem dX8_giveQuill_16 : decode cX8_giveQuill 16 = .ok (.iload 4, 2) := dec_at dlX8_giveQuill_0_ok 14 rfl
theorem dX8_giveQuill_18 : decode cX8_giveQuill 18 = .ok (.aload_n 0, 1) := dec_at dlX8_giveQuill_0_ok 15 rfl
theorem dX8_giveQuill_19 : decode cX8_giveQuill 19 = .ok (.getfield 22, 3) := dec_at dlX8_giveQuill_0_ok 16 rfl
theorem dX8_giveQuill_22 : decode cX8_giveQuill 22 = .ok (.iload_n 1, 1) := dec_at dlX8_giveQuill_0_ok 17 rfl
theorem dX8_giveQuill_23 : decode cX8_giveQuill 23 = .ok (.bipush 8, 2) := dec_at dlX8_giveQuill_0_ok 18 rfl
theorem dX8_giveQuill_25 : decode cX8_giveQuill 25 = .ok (.imul, 1) := dec_at dlX8_giveQuill_0_ok 19 rfl
theorem dX8_giveQuill_26 : decode cX8_giveQuill 26 = .ok (.iload_n 2, 1) := dec_at dlX8_giveQuill_0_ok 20 rfl
theorem dX8_giveQuill_27 : decode cX8_giveQuill 27 = .ok (.iadd, 1) := dec_at dlX8_giveQuill_0_ok 21 rfl
theorem dX8_giveQuill_28 : decode cX8_giveQuill 28 = .ok (.iaload, 1) := dec_at dlX8_giveQuill_0_ok 22 rfl
theorem dX8_giveQuill_29 : decode cX8_giveQuill 29 = .ok (.iadd, 1) := dec_at dlX8_giveQuill_0_ok 23 rfl
theorem dX8_giveQuill_30 : decode cX8_giveQuill 30 = .ok (.invokevirtual 47, 3) := dec_at dlX8_giveQuill_0_ok 24 rfl
theorem dX8_giveQuill_33 : decode cX8_giveQuill 33 = .ok (.return_, 1) := dec_at dlX8_giveQuill_0_ok 25 rfl
noncomputable def dlX8_keepIfBetter_0 : List (Nat × Instr × Nat) := [(0, .iload_n 1, 1), (1, .aload_n 0, 1), (2, .getfield 9, 3), (5, .if_icmp .le 22, 3), (8, .aload_n 0, 1), (9, .iload_n 1, 1), (10, .putfield 9, 3), (13, .aload_n 0, 1), (14, .getfield 19, 3), (17, .iconst 0, 1), (18, .aload_n 0, 1), (19, .getfield 15, 3), (22, .iconst 0, 1), (23, .iconst 4, 1), (24, .invokestatic 59, 3), (27, .return_, 1)]
theorem dlX8_keepIfBetter_0_ok : dlX8_keepIfBetter_0.all (fun r => decide (decode cX8_keepIfBetter r.1 = .ok r.2)) = true := by decide +kernel
theorem dX8_keepIfBetter_0 : decode cX8_keepIfBetter 0 = .ok (.iload_n 1, 1) := dec_at dlX8_keepIfBetter_0_ok 0 rfl
theorem dX8_keepIfBetter_1 : decode cX8_keepIfBetter 1 = .ok (.aload_n 0, 1) := dec_at dlX8_keepIfBetter_0_ok 1 rfl
theorem dX8_keepIfBetter_2 : decode cX8_keepIfBetter 2 = .ok (.getfield 9, 3) := dec_at dlX8_keepIfBetter_0_ok 2 rfl
theorem dX8_keepIfBetter_5 : decode cX8_keepIfBetter 5 = .ok (.if_icmp .le 22, 3) := dec_at dlX8_keepIfBetter_0_ok 3 rfl
theorem dX8_keepIfBetter_8 : decode cX8_keepIfBetter 8 = .ok (.aload_n 0, 1) := dec_at dlX8_keepIfBetter_0_ok 4 rfl
theorem dX8_keepIfBetter_9 : decode cX8_keepIfBetter 9 = .ok (.iload_n 1, 1) := dec_at dlX8_keepIfBetter_0_ok 5 rfl
theorem dX8_keepIfBetter_10 : decode cX8_keepIfBetter 10 = .ok (.putfield 9, 3) := dec_at dlX8_keepIfBetter_0_ok 6 rfl
theorem dX8_keepIfBetter_13 : decode cX8_keepIfBetter 13 = .ok (.aload_n 0, 1) := dec_at dlX8_keepIfBetter_0_ok 7 rfl
theorem dX8_keepIfBetter_14 : decode cX8_keepIfBetter 14 = .ok (.getfield 19, 3) := dec_at dlX8_keepIfBetter_0_ok 8 rfl
theorem dX8_keepIfBetter_17 : decode cX8_keepIfBetter 17 = .ok (.iconst 0, 1) := dec_at dlX8_keepIfBetter_0_ok 9 rfl
theorem dX8_keepIfBetter_18 : decode cX8_keepIfBetter 18 = .ok (.aload_n 0, 1) := dec_at dlX8_keepIfBetter_0_ok 10 rfl
theorem dX8_keepIfBetter_19 : decode cX8_keepIfBetter 19 = .ok (.getfield 15, 3) := dec_at dlX8_keepIfBetter_0_ok 11 rfl
theorem dX8_keepIfBetter_22 : decode cX8_keepIfBetter 22 = .ok (.iconst 0, 1) := dec_at dlX8_keepIfBetter_0_ok 12 rfl
theorem dX8_keepIfBetter_23 : decode cX8_keepIfBetter 23 = .ok (.iconst 4, 1) := dec_at dlX8_keepIfBetter_0_ok 13 rfl
theorem dX8_keepIfBetter_24 : decode cX8_keepIfBetter 24 = .ok (.invokestatic 59, 3) := dec_at dlX8_keepIfBetter_0_ok 14 rfl
theorem dX8_keepIfBetter_27 : decode cX8_keepIfBetter 27 = .ok (.return_, 1) := dec_at dlX8_keepIfBetter_0_ok 15 rfl
noncomputable def dlX9_init_0 : List (Nat × Instr × Nat) := [(0, .aload_n 0, 1), (1, .invokespecial 3, 3), (4, .aload_n 0, 1), (5, .bipush 9, 2), (7, .newarray .int, 2), (9, .putfield 11, 3), (12, .aload_n 0, 1), (13, .aload_n 1, 1), (14, .putfield 15, 3), (17, .aload_n 0, 1), (18, .aload_n 2, 1), (19, .putfield 19, 3), (22, .return_, 1)]
theorem dlX9_init_0_ok : dlX9_init_0.all (fun r => decide (decode cX9_init r.1 = .ok r.2)) = true := by decide +kernel
theorem dX9_init_0 : decode cX9_init 0 = .ok (.aload_n 0, 1) := dec_at dlX9_init_0_ok 0 rfl
theorem dX9_init_1 : decode cX9_init 1 = .ok (.invokespecial 3, 3) := dec_at dlX9_init_0_ok 1 rfl
theorem dX9_init_4 : decode cX9_init 4 = .ok (.aload_n 0, 1) := dec_at dlX9_init_0_ok 2 rfl
theorem dX9_init_5 : decode cX9_init 5 = .ok (.bipush 9, 2) := dec_at dlX9_init_0_ok 3 rfl
theorem dX9_init_7 : decode cX9_init 7 = .ok (.newarray .int, 2) := dec_at dlX9_init_0_ok 4 rfl
theorem dX9_init_9 : decode cX9_init 9 = .ok (.putfield 11, 3) := dec_at dlX9_init_0_ok 5 rfl
theorem dX9_init_12 : decode cX9_init 12 = .ok (.aload_n 0, 1) := dec_at dlX9_init_0_ok 6 rfl
theorem dX9_init_13 : decode cX9_init 13 = .ok (.aload_n 1, 1) := dec_at dlX9_init_0_ok 7 rfl
theorem dX9_init_14 : decode cX9_init 14 = .ok (.putfield 15, 3) := dec_at dlX9_init_0_ok 8 rfl
theorem dX9_init_17 : decode cX9_init 17 = .ok (.aload_n 0, 1) := dec_at dlX9_init_0_ok 9 rfl
theorem dX9_init_18 : decode cX9_init 18 = .ok (.aload_n 2, 1) := dec_at dlX9_init_0_ok 10 rfl
theorem dX9_init_19 : decode cX9_init 19 = .ok (.putfield 19, 3) := dec_at dlX9_init_0_ok 11 rfl
theorem dX9_init_22 : decode cX9_init 22 = .ok (.return_, 1) := dec_at dlX9_init_0_ok 12 rfl
set_option maxRecDepth 20000 in
theorem ggX9_goodNow_X9_goodFrom : GoodIn wsX9_goodNow wsX9_goodFrom := goodIn_s _ [(7, 2), (1, 1), (9, 61)] rfl (by decide +kernel)
set_option maxRecDepth 20000 in
theorem gX9_goodNow_X9_goodFrom : GoodIn wsX9_goodNow (wsV RX9 28 RX9 yX9_goodFrom wsX9_goodFrom) := goodIn_app (goodIn_s _ [(3, 4)] rfl (by decide +kernel)) ggX9_goodNow_X9_goodFrom
noncomputable def dlX9_goodNow_0 : List (Nat × Instr × Nat) := [(0, .aload_n 0, 1), (1, .iload_n 1, 1), (2, .iload_n 2, 1), (3, .aload_n 0, 1), (4, .getfield 19, 3), (7, .getfield 23, 3), (10, .iload_n 1, 1), (11, .iaload, 1), (12, .invokevirtual 28, 3), (15, .ireturn, 1)]
theorem dlX9_goodNow_0_ok : dlX9_goodNow_0.all (fun r => decide (decode cX9_goodNow r.1 = .ok r.2)) = true := by decide +kernel
theorem dX9_goodNow_0 : decode cX9_goodNow 0 = .ok (.aload_n 0, 1) := dec_at dlX9_goodNow_0_ok 0 rfl
theorem dX9_goodNow_1 : decode cX9_goodNow 1 = .ok (.iload_n 1, 1) := dec_at dlX9_goodNow_0_ok 1 rfl
theorem dX9_goodNow_2 : decode cX9_goodNow 2 = .ok (.iload_n 2, 1) := dec_at dlX9_goodNow_0_ok 2 rfl
theorem dX9_goodNow_3 : decode cX9_goodNow 3 = .ok (.aload_n 0, 1) := dec_at dlX9_goodNow_0_ok 3 rfl
theorem dX9_goodNow_4 : decode cX9_goodNow 4 = .ok (.getfield 19, 3) := dec_at dlX9_goodNow_0_ok 4 rfl
theorem dX9_goodNow_7 : decode cX9_goodNow 7 = .ok (.getfield 23, 3) := dec_at dlX9_goodNow_0_ok 5 rfl
theorem dX9_goodNow_10 : decode cX9_goodNow 10 = .ok (.iload_n 1, 1) := dec_at dlX9_goodNow_0_ok 6 rfl
theorem dX9_goodNow_11 : decode cX9_goodNow 11 = .ok (.iaload, 1) := dec_at dlX9_goodNow_0_ok 7 rfl
theorem dX9_goodNow_12 : decode cX9_goodNow 12 = .ok (.invokevirtual 28, 3) := dec_at dlX9_goodNow_0_ok 8 rfl
theorem dX9_goodNow_15 : decode cX9_goodNow 15 = .ok (.ireturn, 1) := dec_at dlX9_goodNow_0_ok 9 rfl
set_option maxRecDepth 20000 in
theorem ggX9_goodFrom_X5_likesNib : GoodIn wsX9_goodFrom wsX5_likesNib := goodIn_s _ [(8, 6), (51, 13)] rfl (by decide +kernel)
set_option maxRecDepth 20000 in
theorem gX9_goodFrom_X5_likesNib : GoodIn wsX9_goodFrom (wsV RX9 35 RX5 yX5_likesNib wsX5_likesNib) := goodIn_app (goodIn_s _ [(4, 4)] rfl (by decide +kernel)) ggX9_goodFrom_X5_likesNib
set_option maxRecDepth 20000 in
theorem ggX9_goodFrom_X5_wear : GoodIn wsX9_goodFrom wsX5_wear := goodIn_s _ [(17, 4), (12, 1), (21, 4), (7, 1), (25, 9), (51, 13)] rfl (by decide +kernel)
set_option maxRecDepth 20000 in
theorem gX9_goodFrom_X5_wear : GoodIn wsX9_goodFrom (wsV RX9 41 RX5 yX5_wear wsX5_wear) := goodIn_app (goodIn_s _ [(14, 3), (7, 1)] rfl (by decide +kernel)) ggX9_goodFrom_X5_wear
set_option maxRecDepth 20000 in
theorem ggX9_goodFrom_X10_softerBy : GoodIn wsX9_goodFrom wsX10_softerBy := goodIn_s _ [(36, 3), (12, 1), (39, 1)] rfl (by decide +kernel)
set_option maxRecDepth 20000 in
theorem gX9_goodFrom_X10_softerBy_n45 : GoodIn wsX9_goodFrom (wsX10_softerBy) := ggX9_goodFrom_X10_softerBy
noncomputable def dlX9_goodFrom_0 : List (Nat × Instr × Nat) := [(0, .aload_n 0, 1), (1, .getfield 15, 3), (4, .iload_n 2, 1), (5, .aload_n 0, 1), (6, .getfield 19, 3), (9, .getfield 32, 3), (12, .iload_n 1, 1), (13, .iaload, 1), (14, .invokevirtual 35, 3), (17, .ifCond .ne 5, 3), (20, .iconst 0, 1), (21, .ireturn, 1), (22, .aload_n 0, 1), (23, .getfield 15, 3), (26, .iload_n 1, 1), (27, .iload_n 2, 1), (28, .invokevirtual 41, 3), (31, .istore 4, 2), (33, .iload_n 3, 1), (34, .iload 4, 2), (36, .invokestatic 45, 3), (39, .istore 5, 2), (41, .iconst 0, 1), (42, .istore 6, 2), (44, .iload 6, 2), (46, .sipush 999, 3), (49, .if_icmp .ge 25, 3), (52, .iload 5, 2), (54, .bipush 50, 2), (56, .if_icmp .gt 18, 3), (59, .iinc 6 1, 3)]
theorem dlX9_goodFrom_0_ok : dlX9_goodFrom_0.all (fun r => decide (decode cX9_goodFrom r.1 = .ok r.2)) = true := by decide +kernel
theorem dX9_goodFrom_0 : decode cX9_goodFrom 0 = .ok (.aload_n 0, 1) := dec_at dlX9_goodFrom_0_ok 0 rfl
theorem dX9_goodFrom_1 : decode cX9_goodFrom 1 = .ok (.getfield 15, 3) := dec_at dlX9_goodFrom_0_ok 1 rfl
theorem dX9_goodFrom_4 : decode cX9_goodFrom 4 = .ok (.iload_n 2, 1) := dec_at dlX9_goodFrom_0_ok 2 rfl
theorem dX9_goodFrom_5 : decode cX9_goodFrom 5 = .ok (.aload_n 0, 1) := dec_at dlX9_goodFrom_0_ok 3 rfl
theorem dX9_goodFrom_6 : decode cX9_goodFrom 6 = .ok (.getfield 19, 3) := dec_at dlX9_goodFrom_0_ok 4 rfl
theorem dX9_goodFrom_9 : decode cX9_goodFrom 9 = .ok (.getfield 32, 3) := dec_at dlX9_goodFrom_0_ok 5 rfl
theorem dX9_goodFrom_12 : decode cX9_goodFrom 12 = .ok (.iload_n 1, 1) := dec_at dlX9_goodFrom_0_ok 6 rfl
theorem dX9_goodFrom_13 : decode cX9_goodFrom 13 = .ok (.iaload, 1) := dec_at dlX9_goodFrom_0_ok 7 rfl
theorem dX9_goodFrom_14 : decode cX9_goodFrom 14 = .ok (.invokevirtual 35, 3) := dec_at dlX9_goodFrom_0_ok 8 rfl
theorem dX9_goodFrom_17 : decode cX9_goodFrom 17 = .ok (.ifCond .ne 5, 3) := dec_at dlX9_goodFrom_0_ok 9 rfl
theorem dX9_goodFrom_20 : decode cX9_goodFrom 20 = .ok (.iconst 0, 1) := dec_at dlX9_goodFrom_0_ok 10 rfl
theorem dX9_goodFrom_21 : decode cX9_goodFrom 21 = .ok (.ireturn, 1) := dec_at dlX9_goodFrom_0_ok 11 rfl
theorem dX9_goodFrom_22 : decode cX9_goodFrom 22 = .ok (.aload_n 0, 1) := dec_at dlX9_goodFrom_0_ok 12 rfl
theorem dX9_goodFrom_23 : decode cX9_goodFrom 23 = .ok (.getfield 15, 3) := dec_at dlX9_goodFrom_0_ok 13 rfl
theorem dX9_goodFrom_26 : decode cX9_goodFrom 26 = .ok (.iload_n 1, 1) := dec_at dlX9_goodFrom_0_ok 14 rfl
theorem dX9_goodFrom_27 : decode cX9_goodFrom 27 = .ok (.iload_n 2, 1) := dec_at dlX9_goodFrom_0_ok 15 rfl
theorem dX9_goodFrom_28 : decode cX9_goodFrom 28 = .ok (.invokevirtual 41, 3) := dec_at dlX9_goodFrom_0_ok 16 rfl
theorem dX9_goodFrom_31 : decode cX9_goodFrom 31 = .ok (.istore 4, 2) := dec_at dlX9_goodFrom_0_ok 17 rfl
theorem dX9_goodFrom_33 : decode cX9_goodFrom 33 = .ok (.iload_n 3, 1) := dec_at dlX9_goodFrom_0_ok 18 rfl
theorem dX9_goodFrom_34 : decode cX9_goodFrom 34 = .ok (.iload 4, 2) := dec_at dlX9_goodFrom_0_ok 19 rfl
theorem dX9_goodFrom_36 : decode cX9_goodFrom 36 = .ok (.invokestatic 45, 3) := dec_at dlX9_goodFrom_0_ok 20 rfl
theorem dX9_goodFrom_39 : decode cX9_goodFrom 39 = .ok (.istore 5, 2) := dec_at dlX9_goodFrom_0_ok 21 rfl
theorem dX9_goodFrom_41 : decode cX9_goodFrom 41 = .ok (.iconst 0, 1) := dec_at dlX9_goodFrom_0_ok 22 rfl
theorem dX9_goodFrom_42 : decode cX9_goodFrom 42 = .ok (.istore 6, 2) := dec_at dlX9_goodFrom_0_ok 23 rfl
theorem dX9_goodFrom_44 : decode cX9_goodFrom 44 = .ok (.iload 6, 2) := dec_at dlX9_goodFrom_0_ok 24 rfl
theorem dX9_goodFrom_46 : decode cX9_goodFrom 46 = .ok (.sipush 999, 3) := dec_at dlX9_goodFrom_0_ok 25 rfl
theorem dX9_goodFrom_49 : decode cX9_goodFrom 49 = .ok (.if_icmp .ge 25, 3) := dec_at dlX9_goodFrom_0_ok 26 rfl
theorem dX9_goodFrom_52 : decode cX9_goodFrom 52 = .ok (.iload 5, 2) := dec_at dlX9_goodFrom_0_ok 27 rfl
theorem dX9_goodFrom_54 : decode cX9_goodFrom 54 = .ok (.bipush 50, 2) := dec_at dlX9_goodFrom_0_ok 28 rfl
theorem dX9_goodFrom_56 : decode cX9_goodFrom 56 = .ok (.if_icmp .gt 18, 3) := dec_at dlX9_goodFrom_0_ok 29 rfl
theorem dX9_goodFrom_59 : decode cX9_goodFrom 59 = .ok (.iinc 6 1, 3) := dec_at dlX9_goodFrom_0_ok 30 rfl
noncomputable def dlX9_goodFrom_62 : List (Nat × Instr × Nat) := [(62, .iload 5, 2), (64, .iload 4, 2), (66, .invokestatic 45, 3), (69, .istore 5, 2), (71, .goto (-27), 3), (74, .iload 6, 2), (76, .ireturn, 1)]
theorem dlX9_goodFrom_62_ok : dlX9_goodFrom_62.all (fun r => decide (decode cX9_goodFrom r.1 = .ok r.2)) = true := by decide +kernel
theorem dX9_goodFrom_62 : decode cX9_goodFrom 62 = .ok (.iload 5, 2) := dec_at dlX9_goodFrom_62_ok 0 rfl
theorem dX9_goodFrom_64 : decode cX9_goodFrom 64 = .ok (.iload 4, 2) := dec_at dlX9_goodFrom_62_ok 1 rfl
theorem dX9_goodFrom_66 : decode cX9_goodFrom 66 = .ok (.invokestatic 45, 3) := dec_at dlX9_goodFrom_62_ok 2 rfl
theorem dX9_goodFrom_69 : decode cX9_goodFrom 69 = .ok (.istore 5, 2) := dec_at dlX9_goodFrom_62_ok 3 rfl
theorem dX9_goodFrom_71 : decode cX9_goodFrom 71 = .ok (.goto (-27), 3) := dec_at dlX9_goodFrom_62_ok 4 rfl
theorem dX9_goodFrom_74 : decode cX9_goodFrom 74 = .ok (.iload 6, 2) := dec_at dlX9_goodFrom_62_ok 5 rfl
theorem dX9_goodFrom_76 : decode cX9_goodFrom 76 = .ok (.ireturn, 1) := dec_at dlX9_goodFrom_62_ok 6 rfl
set_option maxRecDepth 20000 in
theorem ggX9_goodInLife_X9_goodNow : GoodIn wsX9_goodInLife wsX9_goodNow := goodIn_s _ [(11, 1), (1, 1), (12, 4), (10, 1), (16, 11), (5, 1), (27, 25), (4, 1), (6, 1), (52, 24)] rfl (by decide +kernel)
set_option maxRecDepth 20000 in
theorem gX9_goodInLife_X9_goodNow : GoodIn wsX9_goodInLife (wsV RX9 48 RX9 yX9_goodNow wsX9_goodNow) := goodIn_app (goodIn_s _ [(7, 4)] rfl (by decide +kernel)) ggX9_goodInLife_X9_goodNow
set_option maxRecDepth 20000 in
theorem ggX9_goodInLife_X9_goodFrom : GoodIn wsX9_goodInLife wsX9_goodFrom := goodIn_s _ [(16, 2), (1, 1), (18, 9), (5, 1), (27, 25), (4, 1), (6, 1), (52, 24)] rfl (by decide +kernel)
set_option maxRecDepth 20000 in
theorem gX9_goodInLife_X9_goodFrom : GoodIn wsX9_goodInLife (wsV RX9 28 RX9 yX9_goodFrom wsX9_goodFrom) := goodIn_app (goodIn_s _ [(13, 3), (10, 1)] rfl (by decide +kernel)) ggX9_goodInLife_X9_goodFrom
noncomputable def dlX9_goodInLife_0 : List (Nat × Instr × Nat) := [(0, .aload_n 0, 1), (1, .iload_n 1, 1), (2, .iload_n 2, 1), (3, .invokevirtual 48, 3), (6, .istore_n 3, 1), (7, .aload_n 0, 1), (8, .iload_n 1, 1), (9, .iload_n 2, 1), (10, .iconst 0, 1), (11, .invokevirtual 28, 3), (14, .istore 4, 2), (16, .aload_n 0, 1), (17, .getfield 19, 3), (20, .getfield 51, 3), (23, .iload_n 1, 1), (24, .iaload, 1), (25, .istore 5, 2), (27, .iload 5, 2), (29, .iconst 5, 1), (30, .if_icmp .lt 14, 3), (33, .iload_n 3, 1), (34, .iload 4, 2), (36, .iadd, 1), (37, .istore_n 3, 1), (38, .iinc 5 (-5), 3), (41, .goto (-14), 3), (44, .sipush 999, 3), (47, .iload_n 3, 1), (48, .invokestatic 54, 3), (51, .ireturn, 1)]
theorem dlX9_goodInLife_0_ok : dlX9_goodInLife_0.all (fun r => decide (decode cX9_goodInLife r.1 = .ok r.2)) = true := by decide +kernel
theorem dX9_goodInLife_0 : decode cX9_goodInLife 0 = .ok (.aload_n 0, 1) := dec_at dlX9_goodInLife_0_ok 0 rfl
theorem dX9_goodInLife_1 : decode cX9_goodInLife 1 = .ok (.iload_n 1, 1) := dec_at dlX9_goodInLife_0_ok 1 rfl
theorem dX9_goodInLife_2 : decode cX9_goodInLife 2 = .ok (.iload_n 2, 1) := dec_at dlX9_goodInLife_0_ok 2 rfl
theorem dX9_goodInLife_3 : decode cX9_goodInLife 3 = .ok (.invokevirtual 48, 3) := dec_at dlX9_goodInLife_0_ok 3 rfl
theorem dX9_goodInLife_6 : decode cX9_goodInLife 6 = .ok (.istore_n 3, 1) := dec_at dlX9_goodInLife_0_ok 4 rfl
theorem dX9_goodInLife_7 : decode cX9_goodInLife 7 = .ok (.aload_n 0, 1) := dec_at dlX9_goodInLife_0_ok 5 rfl
theorem dX9_goodInLife_8 : decode cX9_goodInLife 8 = .ok (.iload_n 1, 1) := dec_at dlX9_goodInLife_0_ok 6 rfl
theorem dX9_goodInLife_9 : decode cX9_goodInLife 9 = .ok (.iload_n 2, 1) := dec_at dlX9_goodInLife_0_ok 7 rfl
theorem dX9_goodInLife_10 : decode cX9_goodInLife 10 = .ok (.iconst 0, 1) := dec_at dlX9_goodInLife_0_ok 8 rfl
theorem dX9_goodInLife_11 : decode cX9_goodInLife 11 = .ok (.invokevirtual 28, 3) := dec_at dlX9_goodInLife_0_ok 9 rfl
theorem dX9_goodInLife_14 : decode cX9_goodInLife 14 = .ok (.istore 4, 2) := dec_at dlX9_goodInLife_0_ok 10 rfl
theorem dX9_goodInLife_16 : decode cX9_goodInLife 16 = .ok (.aload_n 0, 1) := dec_at dlX9_goodInLife_0_ok 11 rfl
theorem dX9_goodInLife_17 : decode cX9_goodInLife 17 = .ok (.getfield 19, 3) := dec_at dlX9_goodInLife_0_ok 12 rfl
theorem dX9_goodInLife_20 : decode cX9_goodInLife 20 = .ok (.getfield 51, 3) := dec_at dlX9_goodInLife_0_ok 13 rfl
theorem dX9_goodInLife_23 : decode cX9_goodInLife 23 = .ok (.iload_n 1, 1) := dec_at dlX9_goodInLife_0_ok 14 rfl
theorem dX9_goodInLife_24 : decode cX9_goodInLife 24 = .ok (.iaload, 1) := dec_at dlX9_goodInLife_0_ok 15 rfl
theorem dX9_goodInLife_25 : decode cX9_goodInLife 25 = .ok (.istore 5, 2) := dec_at dlX9_goodInLife_0_ok 16 rfl
theorem dX9_goodInLife_27 : decode cX9_goodInLife 27 = .ok (.iload 5, 2) := dec_at dlX9_goodInLife_0_ok 17 rfl
theorem dX9_goodInLife_29 : decode cX9_goodInLife 29 = .ok (.iconst 5, 1) := dec_at dlX9_goodInLife_0_ok 18 rfl
theorem dX9_goodInLife_30 : decode cX9_goodInLife 30 = .ok (.if_icmp .lt 14, 3) := dec_at dlX9_goodInLife_0_ok 19 rfl
theorem dX9_goodInLife_33 : decode cX9_goodInLife 33 = .ok (.iload_n 3, 1) := dec_at dlX9_goodInLife_0_ok 20 rfl
theorem dX9_goodInLife_34 : decode cX9_goodInLife 34 = .ok (.iload 4, 2) := dec_at dlX9_goodInLife_0_ok 21 rfl
theorem dX9_goodInLife_36 : decode cX9_goodInLife 36 = .ok (.iadd, 1) := dec_at dlX9_goodInLife_0_ok 22 rfl
theorem dX9_goodInLife_37 : decode cX9_goodInLife 37 = .ok (.istore_n 3, 1) := dec_at dlX9_goodInLife_0_ok 23 rfl
theorem dX9_goodInLife_38 : decode cX9_goodInLife 38 = .ok (.iinc 5 (-5), 3) := dec_at dlX9_goodInLife_0_ok 24 rfl
theorem dX9_goodInLife_41 : decode cX9_goodInLife 41 = .ok (.goto (-14), 3) := dec_at dlX9_goodInLife_0_ok 25 rfl
theorem dX9_goodInLife_44 : decode cX9_goodInLife 44 = .ok (.sipush 999, 3) := dec_at dlX9_goodInLife_0_ok 26 rfl
theorem dX9_goodInLife_47 : decode cX9_goodInLife 47 = .ok (.iload_n 3, 1) := dec_at dlX9_goodInLife_0_ok 27 rfl
theorem dX9_goodInLife_48 : decode cX9_goodInLife 48 = .ok (.invokestatic 54, 3) := dec_at dlX9_goodInLife_0_ok 28 rfl
theorem dX9_goodInLife_51 : decode cX9_goodInLife 51 = .ok (.ireturn, 1) := dec_at dlX9_goodInLife_0_ok 29 rfl
set_option maxRecDepth 20000 in
theorem ggX9_fewestByTurns_X5_likesNib : GoodIn wsX9_fewestByTurns wsX5_likesNib := goodIn_s _ [(9, 6), (61, 13)] rfl (by decide +kernel)
set_option maxRecDepth 20000 in
theorem gX9_fewestByTurns_X5_likesNib : GoodIn wsX9_fewestByTurns (wsV RX9 35 RX5 yX5_likesNib wsX5_likesNib) := goodIn_app (goodIn_s _ [(5, 4)] rfl (by decide +kernel)) ggX9_fewestByTurns_X5_likesNib
set_option maxRecDepth 20000 in
theorem ggX9_fewestByTurns_X5_wear : GoodIn wsX9_fewestByTurns wsX5_wear := goodIn_s _ [(18, 4), (13, 1), (22, 4), (8, 1), (26, 9), (61, 13)] rfl (by decide +kernel)
set_option maxRecDepth 20000 in
theorem gX9_fewestByTurns_X5_wear : GoodIn wsX9_fewestByTurns (wsV RX9 41 RX5 yX5_wear wsX5_wear) := goodIn_app (goodIn_s _ [(15, 3), (8, 1)] rfl (by decide +kernel)) ggX9_fewestByTurns_X5_wear
set_option maxRecDepth 20000 in
theorem ggX9_fewestByTurns_X9_turnsDo : GoodIn wsX9_fewestByTurns wsX9_turnsDo := goodIn_s _ [(39, 7), (13, 1), (46, 4), (21, 2), (50, 3)] rfl (by decide +kernel)
set_option maxRecDepth 20000 in
theorem gX9_fewestByTurns_X9_turnsDo : GoodIn wsX9_fewestByTurns (wsV RX9 59 RX9 yX9_turnsDo wsX9_turnsDo) := goodIn_app (goodIn_s _ [(35, 4)] rfl (by decide +kernel)) ggX9_fewestByTurns_X9_turnsDo
noncomputable def dlX9_fewestByTurns_0 : List (Nat × Instr × Nat) := [(0, .aload_n 0, 1), (1, .getfield 15, 3), (4, .iload_n 2, 1), (5, .aload_n 0, 1), (6, .getfield 19, 3), (9, .getfield 32, 3), (12, .iload_n 1, 1), (13, .iaload, 1), (14, .invokevirtual 35, 3), (17, .ifCond .ne 5, 3), (20, .iconst (-1), 1), (21, .ireturn, 1), (22, .iconst 1, 1), (23, .istore_n 3, 1), (24, .iload_n 3, 1), (25, .bipush 9, 2), (27, .if_icmp .gt 37, 3), (30, .aload_n 0, 1), (31, .iload_n 3, 1), (32, .aload_n 0, 1), (33, .getfield 19, 3), (36, .getfield 23, 3), (39, .iload_n 1, 1), (40, .iaload, 1), (41, .aload_n 0, 1), (42, .getfield 15, 3), (45, .iload_n 1, 1), (46, .iload_n 2, 1), (47, .invokevirtual 41, 3), (50, .invokevirtual 59, 3), (53, .ifCond .eq 5, 3)]
theorem dlX9_fewestByTurns_0_ok : dlX9_fewestByTurns_0.all (fun r => decide (decode cX9_fewestByTurns r.1 = .ok r.2)) = true := by decide +kernel
theorem dX9_fewestByTurns_0 : decode cX9_fewestByTurns 0 = .ok (.aload_n 0, 1) := dec_at dlX9_fewestByTurns_0_ok 0 rfl
theorem dX9_fewestByTurns_1 : decode cX9_fewestByTurns 1 = .ok (.getfield 15, 3) := dec_at dlX9_fewestByTurns_0_ok 1 rfl
theorem dX9_fewestByTurns_4 : decode cX9_fewestByTurns 4 = .ok (.iload_n 2, 1) := dec_at dlX9_fewestByTurns_0_ok 2 rfl
theorem dX9_fewestByTurns_5 : decode cX9_fewestByTurns 5 = .ok (.aload_n 0, 1) := dec_at dlX9_fewestByTurns_0_ok 3 rfl
theorem dX9_fewestByTurns_6 : decode cX9_fewestByTurns 6 = .ok (.getfield 19, 3) := dec_at dlX9_fewestByTurns_0_ok 4 rfl
theorem dX9_fewestByTurns_9 : decode cX9_fewestByTurns 9 = .ok (.getfield 32, 3) := dec_at dlX9_fewestByTurns_0_ok 5 rfl
theorem dX9_fewestByTurns_12 : decode cX9_fewestByTurns 12 = .ok (.iload_n 1, 1) := dec_at dlX9_fewestByTurns_0_ok 6 rfl
theorem dX9_fewestByTurns_13 : decode cX9_fewestByTurns 13 = .ok (.iaload, 1) := dec_at dlX9_fewestByTurns_0_ok 7 rfl
theorem dX9_fewestByTurns_14 : decode cX9_fewestByTurns 14 = .ok (.invokevirtual 35, 3) := dec_at dlX9_fewestByTurns_0_ok 8 rfl
theorem dX9_fewestByTurns_17 : decode cX9_fewestByTurns 17 = .ok (.ifCond .ne 5, 3) := dec_at dlX9_fewestByTurns_0_ok 9 rfl
theorem dX9_fewestByTurns_20 : decode cX9_fewestByTurns 20 = .ok (.iconst (-1), 1) := dec_at dlX9_fewestByTurns_0_ok 10 rfl
theorem dX9_fewestByTurns_21 : decode cX9_fewestByTurns 21 = .ok (.ireturn, 1) := dec_at dlX9_fewestByTurns_0_ok 11 rfl
theorem dX9_fewestByTurns_22 : decode cX9_fewestByTurns 22 = .ok (.iconst 1, 1) := dec_at dlX9_fewestByTurns_0_ok 12 rfl
theorem dX9_fewestByTurns_23 : decode cX9_fewestByTurns 23 = .ok (.istore_n 3, 1) := dec_at dlX9_fewestByTurns_0_ok 13 rfl
theorem dX9_fewestByTurns_24 : decode cX9_fewestByTurns 24 = .ok (.iload_n 3, 1) := dec_at dlX9_fewestByTurns_0_ok 14 rfl
theorem dX9_fewestByTurns_25 : decode cX9_fewestByTurns 25 = .ok (.bipush 9, 2) := dec_at dlX9_fewestByTurns_0_ok 15 rfl
theorem dX9_fewestByTurns_27 : decode cX9_fewestByTurns 27 = .ok (.if_icmp .gt 37, 3) := dec_at dlX9_fewestByTurns_0_ok 16 rfl
theorem dX9_fewestByTurns_30 : decode cX9_fewestByTurns 30 = .ok (.aload_n 0, 1) := dec_at dlX9_fewestByTurns_0_ok 17 rfl
theorem dX9_fewestByTurns_31 : decode cX9_fewestByTurns 31 = .ok (.iload_n 3, 1) := dec_at dlX9_fewestByTurns_0_ok 18 rfl
theorem dX9_fewestByTurns_32 : decode cX9_fewestByTurns 32 = .ok (.aload_n 0, 1) := dec_at dlX9_fewestByTurns_0_ok 19 rfl
theorem dX9_fewestByTurns_33 : decode cX9_fewestByTurns 33 = .ok (.getfield 19, 3) := dec_at dlX9_fewestByTurns_0_ok 20 rfl
theorem dX9_fewestByTurns_36 : decode cX9_fewestByTurns 36 = .ok (.getfield 23, 3) := dec_at dlX9_fewestByTurns_0_ok 21 rfl
theorem dX9_fewestByTurns_39 : decode cX9_fewestByTurns 39 = .ok (.iload_n 1, 1) := dec_at dlX9_fewestByTurns_0_ok 22 rfl
theorem dX9_fewestByTurns_40 : decode cX9_fewestByTurns 40 = .ok (.iaload, 1) := dec_at dlX9_fewestByTurns_0_ok 23 rfl
theorem dX9_fewestByTurns_41 : decode cX9_fewestByTurns 41 = .ok (.aload_n 0, 1) := dec_at dlX9_fewestByTurns_0_ok 24 rfl
theorem dX9_fewestByTurns_42 : decode cX9_fewestByTurns 42 = .ok (.getfield 15, 3) := dec_at dlX9_fewestByTurns_0_ok 25 rfl
theorem dX9_fewestByTurns_45 : decode cX9_fewestByTurns 45 = .ok (.iload_n 1, 1) := dec_at dlX9_fewestByTurns_0_ok 26 rfl
theorem dX9_fewestByTurns_46 : decode cX9_fewestByTurns 46 = .ok (.iload_n 2, 1) := dec_at dlX9_fewestByTurns_0_ok 27 rfl
theorem dX9_fewestByTurns_47 : decode cX9_fewestByTurns 47 = .ok (.invokevirtual 41, 3) := dec_at dlX9_fewestByTurns_0_ok 28 rfl
theorem dX9_fewestByTurns_50 : decode cX9_fewestByTurns 50 = .ok (.invokevirtual 59, 3) := dec_at dlX9_fewestByTurns_0_ok 29 rfl
theorem dX9_fewestByTurns_53 : decode cX9_fewestByTurns 53 = .ok (.ifCond .eq 5, 3) := dec_at dlX9_fewestByTurns_0_ok 30 rfl
noncomputable def dlX9_fewestByTurns_56 : List (Nat × Instr × Nat) := [(56, .iload_n 3, 1), (57, .ireturn, 1), (58, .iinc 3 1, 3), (61, .goto (-37), 3), (64, .iconst (-1), 1), (65, .ireturn, 1)]
theorem dlX9_fewestByTurns_56_ok : dlX9_fewestByTurns_56.all (fun r => decide (decode cX9_fewestByTurns r.1 = .ok r.2)) = true := by decide +kernel
theorem dX9_fewestByTurns_56 : decode cX9_fewestByTurns 56 = .ok (.iload_n 3, 1) := dec_at dlX9_fewestByTurns_56_ok 0 rfl
theorem dX9_fewestByTurns_57 : decode cX9_fewestByTurns 57 = .ok (.ireturn, 1) := dec_at dlX9_fewestByTurns_56_ok 1 rfl
theorem dX9_fewestByTurns_58 : decode cX9_fewestByTurns 58 = .ok (.iinc 3 1, 3) := dec_at dlX9_fewestByTurns_56_ok 2 rfl
theorem dX9_fewestByTurns_61 : decode cX9_fewestByTurns 61 = .ok (.goto (-37), 3) := dec_at dlX9_fewestByTurns_56_ok 3 rfl
theorem dX9_fewestByTurns_64 : decode cX9_fewestByTurns 64 = .ok (.iconst (-1), 1) := dec_at dlX9_fewestByTurns_56_ok 4 rfl
theorem dX9_fewestByTurns_65 : decode cX9_fewestByTurns 65 = .ok (.ireturn, 1) := dec_at dlX9_fewestByTurns_56_ok 5 rfl
set_option maxRecDepth 20000 in
theorem ggX9_turnsDo_X10_softerBy : GoodIn wsX9_turnsDo wsX10_softerBy := goodIn_s _ [(4, 5)] rfl (by decide +kernel)
set_option maxRecDepth 20000 in
theorem gX9_turnsDo_X10_softerBy_n45 : GoodIn wsX9_turnsDo (wsX10_softerBy) := ggX9_turnsDo_X10_softerBy
set_option maxRecDepth 20000 in
theorem ggX9_turnsDo_X10_driedSoftness : GoodIn wsX9_turnsDo wsX10_driedSoftness := goodIn_s _ [(10, 3), (7, 1), (13, 1)] rfl (by decide +kernel)
set_option maxRecDepth 20000 in
theorem gX9_turnsDo_X10_driedSoftness_n63 : GoodIn wsX9_turnsDo (wsX10_driedSoftness) := ggX9_turnsDo_X10_driedSoftness
noncomputable def dlX9_turnsDo_0 : List (Nat × Instr × Nat) := [(0, .iload_n 1, 1), (1, .iconst 1, 1), (2, .if_icmp .lt 9, 3), (5, .iload_n 1, 1), (6, .bipush 9, 2), (8, .if_icmp .le 5, 3), (11, .iconst 0, 1), (12, .ireturn, 1), (13, .iconst 0, 1), (14, .istore 4, 2), (16, .iload 4, 2), (18, .iload_n 1, 1), (19, .if_icmp .ge 17, 3), (22, .aload_n 0, 1), (23, .getfield 11, 3), (26, .iload 4, 2), (28, .iload_n 2, 1), (29, .iastore, 1), (30, .iinc 4 1, 3), (33, .goto (-17), 3), (36, .iconst 0, 1), (37, .istore 4, 2), (39, .iload 4, 2), (41, .bipush 20, 2), (43, .if_icmp .ge 83, 3), (46, .iload 4, 2), (48, .iload_n 1, 1), (49, .irem, 1), (50, .istore 5, 2), (52, .iconst 0, 1), (53, .istore 6, 2)]
theorem dlX9_turnsDo_0_ok : dlX9_turnsDo_0.all (fun r => decide (decode cX9_turnsDo r.1 = .ok r.2)) = true := by decide +kernel
theorem dX9_turnsDo_0 : decode cX9_turnsDo 0 = .ok (.iload_n 1, 1) := dec_at dlX9_turnsDo_0_ok 0 rfl
theorem dX9_turnsDo_1 : decode cX9_turnsDo 1 = .ok (.iconst 1, 1) := dec_at dlX9_turnsDo_0_ok 1 rfl
theorem dX9_turnsDo_2 : decode cX9_turnsDo 2 = .ok (.if_icmp .lt 9, 3) := dec_at dlX9_turnsDo_0_ok 2 rfl
theorem dX9_turnsDo_5 : decode cX9_turnsDo 5 = .ok (.iload_n 1, 1) := dec_at dlX9_turnsDo_0_ok 3 rfl
theorem dX9_turnsDo_6 : decode cX9_turnsDo 6 = .ok (.bipush 9, 2) := dec_at dlX9_turnsDo_0_ok 4 rfl
theorem dX9_turnsDo_8 : decode cX9_turnsDo 8 = .ok (.if_icmp .le 5, 3) := dec_at dlX9_turnsDo_0_ok 5 rfl
theorem dX9_turnsDo_11 : decode cX9_turnsDo 11 = .ok (.iconst 0, 1) := dec_at dlX9_turnsDo_0_ok 6 rfl
theorem dX9_turnsDo_12 : decode cX9_turnsDo 12 = .ok (.ireturn, 1) := dec_at dlX9_turnsDo_0_ok 7 rfl
theorem dX9_turnsDo_13 : decode cX9_turnsDo 13 = .ok (.iconst 0, 1) := dec_at dlX9_turnsDo_0_ok 8 rfl
theorem dX9_turnsDo_14 : decode cX9_turnsDo 14 = .ok (.istore 4, 2) := dec_at dlX9_turnsDo_0_ok 9 rfl
theorem dX9_turnsDo_16 : decode cX9_turnsDo 16 = .ok (.iload 4, 2) := dec_at dlX9_turnsDo_0_ok 10 rfl
theorem dX9_turnsDo_18 : decode cX9_turnsDo 18 = .ok (.iload_n 1, 1) := dec_at dlX9_turnsDo_0_ok 11 rfl
theorem dX9_turnsDo_19 : decode cX9_turnsDo 19 = .ok (.if_icmp .ge 17, 3) := dec_at dlX9_turnsDo_0_ok 12 rfl
theorem dX9_turnsDo_22 : decode cX9_turnsDo 22 = .ok (.aload_n 0, 1) := dec_at dlX9_turnsDo_0_ok 13 rfl
theorem dX9_turnsDo_23 : decode cX9_turnsDo 23 = .ok (.getfield 11, 3) := dec_at dlX9_turnsDo_0_ok 14 rfl
theorem dX9_turnsDo_26 : decode cX9_turnsDo 26 = .ok (.iload 4, 2) := dec_at dlX9_turnsDo_0_ok 15 rfl
theorem dX9_turnsDo_28 : decode cX9_turnsDo 28 = .ok (.iload_n 2, 1) := dec_at dlX9_turnsDo_0_ok 16 rfl
theorem dX9_turnsDo_29 : decode cX9_turnsDo 29 = .ok (.iastore, 1) := dec_at dlX9_turnsDo_0_ok 17 rfl
theorem dX9_turnsDo_30 : decode cX9_turnsDo 30 = .ok (.iinc 4 1, 3) := dec_at dlX9_turnsDo_0_ok 18 rfl
theorem dX9_turnsDo_33 : decode cX9_turnsDo 33 = .ok (.goto (-17), 3) := dec_at dlX9_turnsDo_0_ok 19 rfl
theorem dX9_turnsDo_36 : decode cX9_turnsDo 36 = .ok (.iconst 0, 1) := dec_at dlX9_turnsDo_0_ok 20 rfl
theorem dX9_turnsDo_37 : decode cX9_turnsDo 37 = .ok (.istore 4, 2) := dec_at dlX9_turnsDo_0_ok 21 rfl
theorem dX9_turnsDo_39 : decode cX9_turnsDo 39 = .ok (.iload 4, 2) := dec_at dlX9_turnsDo_0_ok 22 rfl
theorem dX9_turnsDo_41 : decode cX9_turnsDo 41 = .ok (.bipush 20, 2) := dec_at dlX9_turnsDo_0_ok 23 rfl
theorem dX9_turnsDo_43 : decode cX9_turnsDo 43 = .ok (.if_icmp .ge 83, 3) := dec_at dlX9_turnsDo_0_ok 24 rfl
theorem dX9_turnsDo_46 : decode cX9_turnsDo 46 = .ok (.iload 4, 2) := dec_at dlX9_turnsDo_0_ok 25 rfl
theorem dX9_turnsDo_48 : decode cX9_turnsDo 48 = .ok (.iload_n 1, 1) := dec_at dlX9_turnsDo_0_ok 26 rfl
theorem dX9_turnsDo_49 : decode cX9_turnsDo 49 = .ok (.irem, 1) := dec_at dlX9_turnsDo_0_ok 27 rfl
theorem dX9_turnsDo_50 : decode cX9_turnsDo 50 = .ok (.istore 5, 2) := dec_at dlX9_turnsDo_0_ok 28 rfl
theorem dX9_turnsDo_52 : decode cX9_turnsDo 52 = .ok (.iconst 0, 1) := dec_at dlX9_turnsDo_0_ok 29 rfl
theorem dX9_turnsDo_53 : decode cX9_turnsDo 53 = .ok (.istore 6, 2) := dec_at dlX9_turnsDo_0_ok 30 rfl
noncomputable def dlX9_turnsDo_55 : List (Nat × Instr × Nat) := [(55, .iload 6, 2), (57, .iload_n 1, 1), (58, .if_icmp .ge 48, 3), (61, .aload_n 0, 1), (62, .getfield 11, 3), (65, .iload 6, 2), (67, .iload 6, 2), (69, .iload 5, 2), (71, .if_icmp .ne 17, 3), (74, .aload_n 0, 1), (75, .getfield 11, 3), (78, .iload 6, 2), (80, .iaload, 1), (81, .iload_n 3, 1), (82, .invokestatic 45, 3), (85, .goto 14, 3), (88, .aload_n 0, 1), (89, .getfield 11, 3), (92, .iload 6, 2), (94, .iaload, 1), (95, .iconst 1, 1), (96, .invokestatic 63, 3), (99, .iastore, 1), (100, .iinc 6 1, 3), (103, .goto (-48), 3), (106, .aload_n 0, 1), (107, .getfield 11, 3), (110, .iload 5, 2), (112, .iaload, 1), (113, .bipush 50, 2), (115, .if_icmp .le 5, 3)]
theorem dlX9_turnsDo_55_ok : dlX9_turnsDo_55.all (fun r => decide (decode cX9_turnsDo r.1 = .ok r.2)) = true := by decide +kernel
theorem dX9_turnsDo_55 : decode cX9_turnsDo 55 = .ok (.iload 6, 2) := dec_at dlX9_turnsDo_55_ok 0 rfl
theorem dX9_turnsDo_57 : decode cX9_turnsDo 57 = .ok (.iload_n 1, 1) := dec_at dlX9_turnsDo_55_ok 1 rfl
theorem dX9_turnsDo_58 : decode cX9_turnsDo 58 = .ok (.if_icmp .ge 48, 3) := dec_at dlX9_turnsDo_55_ok 2 rfl
theorem dX9_turnsDo_61 : decode cX9_turnsDo 61 = .ok (.aload_n 0, 1) := dec_at dlX9_turnsDo_55_ok 3 rfl
theorem dX9_turnsDo_62 : decode cX9_turnsDo 62 = .ok (.getfield 11, 3) := dec_at dlX9_turnsDo_55_ok 4 rfl
theorem dX9_turnsDo_65 : decode cX9_turnsDo 65 = .ok (.iload 6, 2) := dec_at dlX9_turnsDo_55_ok 5 rfl
theorem dX9_turnsDo_67 : decode cX9_turnsDo 67 = .ok (.iload 6, 2) := dec_at dlX9_turnsDo_55_ok 6 rfl
theorem dX9_turnsDo_69 : decode cX9_turnsDo 69 = .ok (.iload 5, 2) := dec_at dlX9_turnsDo_55_ok 7 rfl
theorem dX9_turnsDo_71 : decode cX9_turnsDo 71 = .ok (.if_icmp .ne 17, 3) := dec_at dlX9_turnsDo_55_ok 8 rfl
theorem dX9_turnsDo_74 : decode cX9_turnsDo 74 = .ok (.aload_n 0, 1) := dec_at dlX9_turnsDo_55_ok 9 rfl
theorem dX9_turnsDo_75 : decode cX9_turnsDo 75 = .ok (.getfield 11, 3) := dec_at dlX9_turnsDo_55_ok 10 rfl
theorem dX9_turnsDo_78 : decode cX9_turnsDo 78 = .ok (.iload 6, 2) := dec_at dlX9_turnsDo_55_ok 11 rfl
theorem dX9_turnsDo_80 : decode cX9_turnsDo 80 = .ok (.iaload, 1) := dec_at dlX9_turnsDo_55_ok 12 rfl
theorem dX9_turnsDo_81 : decode cX9_turnsDo 81 = .ok (.iload_n 3, 1) := dec_at dlX9_turnsDo_55_ok 13 rfl
theorem dX9_turnsDo_82 : decode cX9_turnsDo 82 = .ok (.invokestatic 45, 3) := dec_at dlX9_turnsDo_55_ok 14 rfl
theorem dX9_turnsDo_85 : decode cX9_turnsDo 85 = .ok (.goto 14, 3) := dec_at dlX9_turnsDo_55_ok 15 rfl
theorem dX9_turnsDo_88 : decode cX9_turnsDo 88 = .ok (.aload_n 0, 1) := dec_at dlX9_turnsDo_55_ok 16 rfl
theorem dX9_turnsDo_89 : decode cX9_turnsDo 89 = .ok (.getfield 11, 3) := dec_at dlX9_turnsDo_55_ok 17 rfl
theorem dX9_turnsDo_92 : decode cX9_turnsDo 92 = .ok (.iload 6, 2) := dec_at dlX9_turnsDo_55_ok 18 rfl
theorem dX9_turnsDo_94 : decode cX9_turnsDo 94 = .ok (.iaload, 1) := dec_at dlX9_turnsDo_55_ok 19 rfl
theorem dX9_turnsDo_95 : decode cX9_turnsDo 95 = .ok (.iconst 1, 1) := dec_at dlX9_turnsDo_55_ok 20 rfl
theorem dX9_turnsDo_96 : decode cX9_turnsDo 96 = .ok (.invokestatic 63, 3) := dec_at dlX9_turnsDo_55_ok 21 rfl
theorem dX9_turnsDo_99 : decode cX9_turnsDo 99 = .ok (.iastore, 1) := dec_at dlX9_turnsDo_55_ok 22 rfl
theorem dX9_turnsDo_100 : decode cX9_turnsDo 100 = .ok (.iinc 6 1, 3) := dec_at dlX9_turnsDo_55_ok 23 rfl
theorem dX9_turnsDo_103 : decode cX9_turnsDo 103 = .ok (.goto (-48), 3) := dec_at dlX9_turnsDo_55_ok 24 rfl
theorem dX9_turnsDo_106 : decode cX9_turnsDo 106 = .ok (.aload_n 0, 1) := dec_at dlX9_turnsDo_55_ok 25 rfl
theorem dX9_turnsDo_107 : decode cX9_turnsDo 107 = .ok (.getfield 11, 3) := dec_at dlX9_turnsDo_55_ok 26 rfl
theorem dX9_turnsDo_110 : decode cX9_turnsDo 110 = .ok (.iload 5, 2) := dec_at dlX9_turnsDo_55_ok 27 rfl
theorem dX9_turnsDo_112 : decode cX9_turnsDo 112 = .ok (.iaload, 1) := dec_at dlX9_turnsDo_55_ok 28 rfl
theorem dX9_turnsDo_113 : decode cX9_turnsDo 113 = .ok (.bipush 50, 2) := dec_at dlX9_turnsDo_55_ok 29 rfl
theorem dX9_turnsDo_115 : decode cX9_turnsDo 115 = .ok (.if_icmp .le 5, 3) := dec_at dlX9_turnsDo_55_ok 30 rfl
noncomputable def dlX9_turnsDo_118 : List (Nat × Instr × Nat) := [(118, .iconst 0, 1), (119, .ireturn, 1), (120, .iinc 4 1, 3), (123, .goto (-84), 3), (126, .iconst 1, 1), (127, .ireturn, 1)]
theorem dlX9_turnsDo_118_ok : dlX9_turnsDo_118.all (fun r => decide (decode cX9_turnsDo r.1 = .ok r.2)) = true := by decide +kernel
theorem dX9_turnsDo_118 : decode cX9_turnsDo 118 = .ok (.iconst 0, 1) := dec_at dlX9_turnsDo_118_ok 0 rfl
theorem dX9_turnsDo_119 : decode cX9_turnsDo 119 = .ok (.ireturn, 1) := dec_at dlX9_turnsDo_118_ok 1 rfl
theorem dX9_turnsDo_120 : decode cX9_turnsDo 120 = .ok (.iinc 4 1, 3) := dec_at dlX9_turnsDo_118_ok 2 rfl
theorem dX9_turnsDo_123 : decode cX9_turnsDo 123 = .ok (.goto (-84), 3) := dec_at dlX9_turnsDo_118_ok 3 rfl
theorem dX9_turnsDo_126 : decode cX9_turnsDo 126 = .ok (.iconst 1, 1) := dec_at dlX9_turnsDo_118_ok 4 rfl
theorem dX9_turnsDo_127 : decode cX9_turnsDo 127 = .ok (.ireturn, 1) := dec_at dlX9_turnsDo_118_ok 5 rfl
set_option maxRecDepth 20000 in
theorem ggX9_leftAheadOfRight_X9_goodNow : GoodIn wsX9_leftAheadOfRight wsX9_goodNow := goodIn_s _ [(9, 6), (8, 1), (15, 1), (1, 1), (16, 40), (69, 8), (56, 13)] rfl (by decide +kernel)
set_option maxRecDepth 20000 in
theorem gX9_leftAheadOfRight_X9_goodNow : GoodIn wsX9_leftAheadOfRight (wsV RX9 48 RX9 yX9_goodNow wsX9_goodNow) := goodIn_app (goodIn_s _ [(5, 4)] rfl (by decide +kernel)) ggX9_leftAheadOfRight_X9_goodNow
noncomputable def dlX9_leftAheadOfRight_0 : List (Nat × Instr × Nat) := [(0, .iconst 0, 1), (1, .istore_n 1, 1), (2, .iconst 0, 1), (3, .istore_n 2, 1), (4, .iload_n 2, 1), (5, .aload_n 0, 1), (6, .getfield 15, 3), (9, .getfield 66, 3), (12, .if_icmp .ge 59, 3), (15, .iconst 0, 1), (16, .istore_n 3, 1), (17, .iload_n 3, 1), (18, .aload_n 0, 1), (19, .getfield 15, 3), (22, .getfield 70, 3), (25, .if_icmp .ge 40, 3), (28, .aload_n 0, 1), (29, .iload_n 2, 1), (30, .iload_n 3, 1), (31, .invokevirtual 48, 3), (34, .istore 4, 2), (36, .iload_n 1, 1), (37, .aload_n 0, 1), (38, .getfield 15, 3), (41, .getfield 73, 3), (44, .iload_n 2, 1), (45, .iaload, 1), (46, .ifCond .ne 8, 3), (49, .iload 4, 2), (51, .goto 6, 3), (54, .iload 4, 2)]
theorem dlX9_leftAheadOfRight_0_ok : dlX9_leftAheadOfRight_0.all (fun r => decide (decode cX9_leftAheadOfRight r.1 = .ok r.2)) = true := by decide +kernel
theorem dX9_leftAheadOfRight_0 : decode cX9_leftAheadOfRight 0 = .ok (.iconst 0, 1) := dec_at dlX9_leftAheadOfRight_0_ok 0 rfl
theorem dX9_leftAheadOfRight_1 : decode cX9_leftAheadOfRight 1 = .ok (.istore_n 1, 1) := dec_at dlX9_leftAheadOfRight_0_ok 1 rfl
theorem dX9_leftAheadOfRight_2 : decode cX9_leftAheadOfRight 2 = .ok (.iconst 0, 1) := dec_at dlX9_leftAheadOfRight_0_ok 2 rfl
theorem dX9_leftAheadOfRight_3 : decode cX9_leftAheadOfRight 3 = .ok (.istore_n 2, 1) := dec_at dlX9_leftAheadOfRight_0_ok 3 rfl
theorem dX9_leftAheadOfRight_4 : decode cX9_leftAheadOfRight 4 = .ok (.iload_n 2, 1) := dec_at dlX9_leftAheadOfRight_0_ok 4 rfl
theorem dX9_leftAheadOfRight_5 : decode cX9_leftAheadOfRight 5 = .ok (.aload_n 0, 1) := dec_at dlX9_leftAheadOfRight_0_ok 5 rfl
theorem dX9_leftAheadOfRight_6 : decode cX9_leftAheadOfRight 6 = .ok (.getfield 15, 3) := dec_at dlX9_leftAheadOfRight_0_ok 6 rfl
theorem dX9_leftAheadOfRight_9 : decode cX9_leftAheadOfRight 9 = .ok (.getfield 66, 3) := dec_at dlX9_leftAheadOfRight_0_ok 7 rfl
theorem dX9_leftAheadOfRight_12 : decode cX9_leftAheadOfRight 12 = .ok (.if_icmp .ge 59, 3) := dec_at dlX9_leftAheadOfRight_0_ok 8 rfl
theorem dX9_leftAheadOfRight_15 : decode cX9_leftAheadOfRight 15 = .ok (.iconst 0, 1) := dec_at dlX9_leftAheadOfRight_0_ok 9 rfl
theorem dX9_leftAheadOfRight_16 : decode cX9_leftAheadOfRight 16 = .ok (.istore_n 3, 1) := dec_at dlX9_leftAheadOfRight_0_ok 10 rfl
theorem dX9_leftAheadOfRight_17 : decode cX9_leftAheadOfRight 17 = .ok (.iload_n 3, 1) := dec_at dlX9_leftAheadOfRight_0_ok 11 rfl
theorem dX9_leftAheadOfRight_18 : decode cX9_leftAheadOfRight 18 = .ok (.aload_n 0, 1) := dec_at dlX9_leftAheadOfRight_0_ok 12 rfl
theorem dX9_leftAheadOfRight_19 : decode cX9_leftAheadOfRight 19 = .ok (.getfield 15, 3) := dec_at dlX9_leftAheadOfRight_0_ok 13 rfl
theorem dX9_leftAheadOfRight_22 : decode cX9_leftAheadOfRight 22 = .ok (.getfield 70, 3) := dec_at dlX9_leftAheadOfRight_0_ok 14 rfl
theorem dX9_leftAheadOfRight_25 : decode cX9_leftAheadOfRight 25 = .ok (.if_icmp .ge 40, 3) := dec_at dlX9_leftAheadOfRight_0_ok 15 rfl
theorem dX9_leftAheadOfRight_28 : decode cX9_leftAheadOfRight 28 = .ok (.aload_n 0, 1) := dec_at dlX9_leftAheadOfRight_0_ok 16 rfl
theorem dX9_leftAheadOfRight_29 : decode cX9_leftAheadOfRight 29 = .ok (.iload_n 2, 1) := dec_at dlX9_leftAheadOfRight_0_ok 17 rfl
theorem dX9_leftAheadOfRight_30 : decode cX9_leftAheadOfRight 30 = .ok (.iload_n 3, 1) := dec_at dlX9_leftAheadOfRight_0_ok 18 rfl
theorem dX9_leftAheadOfRight_31 : decode cX9_leftAheadOfRight 31 = .ok (.invokevirtual 48, 3) := dec_at dlX9_leftAheadOfRight_0_ok 19 rfl
theorem dX9_leftAheadOfRight_34 : decode cX9_leftAheadOfRight 34 = .ok (.istore 4, 2) := dec_at dlX9_leftAheadOfRight_0_ok 20 rfl
theorem dX9_leftAheadOfRight_36 : decode cX9_leftAheadOfRight 36 = .ok (.iload_n 1, 1) := dec_at dlX9_leftAheadOfRight_0_ok 21 rfl
theorem dX9_leftAheadOfRight_37 : decode cX9_leftAheadOfRight 37 = .ok (.aload_n 0, 1) := dec_at dlX9_leftAheadOfRight_0_ok 22 rfl
theorem dX9_leftAheadOfRight_38 : decode cX9_leftAheadOfRight 38 = .ok (.getfield 15, 3) := dec_at dlX9_leftAheadOfRight_0_ok 23 rfl
theorem dX9_leftAheadOfRight_41 : decode cX9_leftAheadOfRight 41 = .ok (.getfield 73, 3) := dec_at dlX9_leftAheadOfRight_0_ok 24 rfl
theorem dX9_leftAheadOfRight_44 : decode cX9_leftAheadOfRight 44 = .ok (.iload_n 2, 1) := dec_at dlX9_leftAheadOfRight_0_ok 25 rfl
theorem dX9_leftAheadOfRight_45 : decode cX9_leftAheadOfRight 45 = .ok (.iaload, 1) := dec_at dlX9_leftAheadOfRight_0_ok 26 rfl
theorem dX9_leftAheadOfRight_46 : decode cX9_leftAheadOfRight 46 = .ok (.ifCond .ne 8, 3) := dec_at dlX9_leftAheadOfRight_0_ok 27 rfl
theorem dX9_leftAheadOfRight_49 : decode cX9_leftAheadOfRight 49 = .ok (.iload 4, 2) := dec_at dlX9_leftAheadOfRight_0_ok 28 rfl
theorem dX9_leftAheadOfRight_51 : decode cX9_leftAheadOfRight 51 = .ok (.goto 6, 3) := dec_at dlX9_leftAheadOfRight_0_ok 29 rfl
theorem dX9_leftAheadOfRight_54 : decode cX9_leftAheadOfRight 54 = .ok (.iload 4, 2) := dec_at dlX9_leftAheadOfRight_0_ok 30 rfl
noncomputable def dlX9_leftAheadOfRight_56 : List (Nat × Instr × Nat) := [(56, .ineg, 1), (57, .iadd, 1), (58, .istore_n 1, 1), (59, .iinc 3 1, 3), (62, .goto (-45), 3), (65, .iinc 2 1, 3), (68, .goto (-64), 3), (71, .iload_n 1, 1), (72, .ireturn, 1)]
theorem dlX9_leftAheadOfRight_56_ok : dlX9_leftAheadOfRight_56.all (fun r => decide (decode cX9_leftAheadOfRight r.1 = .ok r.2)) = true := by decide +kernel
theorem dX9_leftAheadOfRight_56 : decode cX9_leftAheadOfRight 56 = .ok (.ineg, 1) := dec_at dlX9_leftAheadOfRight_56_ok 0 rfl
theorem dX9_leftAheadOfRight_57 : decode cX9_leftAheadOfRight 57 = .ok (.iadd, 1) := dec_at dlX9_leftAheadOfRight_56_ok 1 rfl
theorem dX9_leftAheadOfRight_58 : decode cX9_leftAheadOfRight 58 = .ok (.istore_n 1, 1) := dec_at dlX9_leftAheadOfRight_56_ok 2 rfl
theorem dX9_leftAheadOfRight_59 : decode cX9_leftAheadOfRight 59 = .ok (.iinc 3 1, 3) := dec_at dlX9_leftAheadOfRight_56_ok 3 rfl
theorem dX9_leftAheadOfRight_62 : decode cX9_leftAheadOfRight 62 = .ok (.goto (-45), 3) := dec_at dlX9_leftAheadOfRight_56_ok 4 rfl
theorem dX9_leftAheadOfRight_65 : decode cX9_leftAheadOfRight 65 = .ok (.iinc 2 1, 3) := dec_at dlX9_leftAheadOfRight_56_ok 5 rfl
theorem dX9_leftAheadOfRight_68 : decode cX9_leftAheadOfRight 68 = .ok (.goto (-64), 3) := dec_at dlX9_leftAheadOfRight_56_ok 6 rfl
theorem dX9_leftAheadOfRight_71 : decode cX9_leftAheadOfRight 71 = .ok (.iload_n 1, 1) := dec_at dlX9_leftAheadOfRight_56_ok 7 rfl
theorem dX9_leftAheadOfRight_72 : decode cX9_leftAheadOfRight 72 = .ok (.ireturn, 1) := dec_at dlX9_leftAheadOfRight_56_ok 8 rfl
set_option maxRecDepth 20000 in
theorem ggX10_init_X5_init : GoodIn wsX10_init wsX5_init := goodIn_s _ [(50, 2), (2, 2), (52, 5), (4, 1), (57, 8), (167, 13)] rfl (by decide +kernel)
set_option maxRecDepth 20000 in
theorem gX10_init_X5_init_n25 : GoodIn wsX10_init (wsX5_init) := ggX10_init_X5_init
set_option maxRecDepth 20000 in
theorem ggX10_init_X7_init : GoodIn wsX10_init wsX7_init := goodIn_s _ [(66, 2), (2, 2), (68, 1), (10, 2), (69, 2), (4, 1), (71, 5), (49, 16), (167, 20)] rfl (by decide +kernel)
set_option maxRecDepth 20000 in
theorem gX10_init_X7_init_n32 : GoodIn wsX10_init (wsX7_init) := ggX10_init_X7_init
set_option maxRecDepth 20000 in
theorem ggX10_init_X1_init : GoodIn wsX10_init wsX1_init := goodIn_s _ [(78, 2), (2, 2), (80, 2), (4, 1), (82, 6), (187, 8)] rfl (by decide +kernel)
set_option maxRecDepth 20000 in
theorem gX10_init_X1_init : GoodIn wsX10_init (wsX1_init) := ggX10_init_X1_init
set_option maxRecDepth 20000 in
theorem ggX10_init_X3_init : GoodIn wsX10_init wsX3_init := goodIn_s _ [(90, 2), (2, 2), (92, 4), (18, 2), (96, 1), (77, 5), (4, 1), (82, 6), (195, 3), (187, 8)] rfl (by decide +kernel)
set_option maxRecDepth 20000 in
theorem gX10_init_X3_init : GoodIn wsX10_init (wsX3_init) := ggX10_init_X3_init
set_option maxRecDepth 20000 in
theorem ggX10_init_X4_init : GoodIn wsX10_init wsX4_init := goodIn_s _ [(99, 2), (2, 2), (101, 2), (4, 1), (103, 3), (18, 2), (106, 1), (77, 11), (198, 3), (187, 8)] rfl (by decide +kernel)
set_option maxRecDepth 20000 in
theorem gX10_init_X4_init : GoodIn wsX10_init (wsX4_init) := ggX10_init_X4_init
set_option maxRecDepth 20000 in
theorem ggX10_init_X9_init : GoodIn wsX10_init wsX9_init := goodIn_s _ [(109, 2), (2, 3), (111, 3), (201, 3)] rfl (by decide +kernel)
set_option maxRecDepth 20000 in
theorem gX10_init_X9_init : GoodIn wsX10_init (wsX9_init) := ggX10_init_X9_init
set_option maxRecDepth 20000 in
theorem ggX10_init_X8_init : GoodIn wsX10_init wsX8_init := goodIn_s _ [(116, 2), (2, 2), (118, 1), (4, 1), (119, 5), (204, 6)] rfl (by decide +kernel)
set_option maxRecDepth 20000 in
theorem gX10_init_X8_init : GoodIn wsX10_init (wsX8_init) := ggX10_init_X8_init
set_option maxRecDepth 20000 in
theorem ggX10_init_X6_init : GoodIn wsX10_init wsX6_init := goodIn_s _ [(126, 2), (2, 2), (128, 2), (4, 1), (130, 6), (18, 2), (136, 2), (77, 11), (210, 7), (187, 8)] rfl (by decide +kernel)
set_option maxRecDepth 20000 in
theorem gX10_init_X6_init : GoodIn wsX10_init (wsX6_init) := ggX10_init_X6_init
set_option maxRecDepth 20000 in
theorem ggX10_init_X2_init : GoodIn wsX10_init wsX2_init := goodIn_s _ [(140, 2), (2, 2), (142, 1), (4, 1), (143, 4), (217, 5)] rfl (by decide +kernel)
set_option maxRecDepth 20000 in
theorem gX10_init_X2_init : GoodIn wsX10_init (wsX2_init) := ggX10_init_X2_init
set_option maxRecDepth 20000 in
theorem ggX10_init_X0_init : GoodIn wsX10_init wsX0_init := goodIn_s _ [(148, 2), (2, 2), (150, 1), (4, 1), (151, 2), (222, 3)] rfl (by decide +kernel)
set_option maxRecDepth 20000 in
theorem gX10_init_X0_init_n94 : GoodIn wsX10_init (wsX0_init) := ggX10_init_X0_init
noncomputable def dlX10_init_0 : List (Nat × Instr × Nat) := [(0, .aload_n 0, 1), (1, .invokespecial 1, 3), (4, .aload_n 0, 1), (5, .sipush 220, 3), (8, .newarray .int, 2)]
theorem dlX10_init_0_ok : dlX10_init_0.all (fun r => decide (decode cX10_init r.1 = .ok r.2)) = true := by decide +kernel
theorem dX10_init_0 : decode cX10_init 0 = .ok (.aload_n 0, 1) := dec_at dlX10_init_0_ok 0 rfl
theorem dX10_init_1 : decode cX10_init 1 = .ok (.invokespecial 1, 3) := dec_at dlX10_init_0_ok 1 rfl
theorem dX10_init_4 : decode cX10_init 4 = .ok (.aload_n 0, 1) := dec_at dlX10_init_0_ok 2 rfl
theorem dX10_init_5 : decode cX10_init 5 = .ok (.sipush 220, 3) := dec_at dlX10_init_0_ok 3 rfl
theorem dX10_init_8 : decode cX10_init 8 = .ok (.newarray .int, 2) := dec_at dlX10_init_0_ok 4 rfl
