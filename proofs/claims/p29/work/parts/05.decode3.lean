noncomputable def dlX11_told_134 : List (Nat × Instr × Nat) := [(134, .getfield 171, 3), (137, .ireturn, 1), (138, .aload_n 0, 1), (139, .getfield 174, 3), (142, .ireturn, 1), (143, .ldc 111, 2), (145, .ireturn, 1)]
theorem dlX11_told_134_ok : dlX11_told_134.all (fun r => decide (decode cX11_told r.1 = .ok r.2)) = true := by decide +kernel
theorem dX11_told_134 : decode cX11_told 134 = .ok (.getfield 171, 3) := dec_at dlX11_told_134_ok 0 rfl
theorem dX11_told_137 : decode cX11_told 137 = .ok (.ireturn, 1) := dec_at dlX11_told_134_ok 1 rfl
theorem dX11_told_138 : decode cX11_told 138 = .ok (.aload_n 0, 1) := dec_at dlX11_told_134_ok 2 rfl
theorem dX11_told_139 : decode cX11_told 139 = .ok (.getfield 174, 3) := dec_at dlX11_told_134_ok 3 rfl
theorem dX11_told_142 : decode cX11_told 142 = .ok (.ireturn, 1) := dec_at dlX11_told_134_ok 4 rfl
theorem dX11_told_143 : decode cX11_told 143 = .ok (.ldc 111, 2) := dec_at dlX11_told_134_ok 5 rfl
theorem dX11_told_145 : decode cX11_told 145 = .ok (.ireturn, 1) := dec_at dlX11_told_134_ok 6 rfl
noncomputable def dlX11_hard_0 : List (Nat × Instr × Nat) := [(0, .aload_n 0, 1), (1, .getfield 13, 3), (4, .iload_n 1, 1), (5, .iaload, 1), (6, .iconst 2, 1), (7, .if_icmp .eq 13, 3), (10, .aload_n 0, 1), (11, .getfield 13, 3), (14, .iload_n 1, 1), (15, .iaload, 1), (16, .iconst 3, 1), (17, .if_icmp .ne 7, 3), (20, .iconst 3, 1), (21, .goto 18, 3), (24, .aload_n 0, 1), (25, .getfield 13, 3), (28, .iload_n 1, 1), (29, .iaload, 1), (30, .iconst 4, 1), (31, .if_icmp .ne 7, 3), (34, .iconst 2, 1), (35, .goto 4, 3), (38, .iconst 1, 1), (39, .istore_n 2, 1), (40, .iconst 2, 1), (41, .aload_n 0, 1), (42, .getfield 16, 3), (45, .iload_n 1, 1), (46, .iaload, 1), (47, .iadd, 1), (48, .iload_n 2, 1)]
theorem dlX11_hard_0_ok : dlX11_hard_0.all (fun r => decide (decode cX11_hard r.1 = .ok r.2)) = true := by decide +kernel
theorem dX11_hard_0 : decode cX11_hard 0 = .ok (.aload_n 0, 1) := dec_at dlX11_hard_0_ok 0 rfl
theorem dX11_hard_1 : decode cX11_hard 1 = .ok (.getfield 13, 3) := dec_at dlX11_hard_0_ok 1 rfl
theorem dX11_hard_4 : decode cX11_hard 4 = .ok (.iload_n 1, 1) := dec_at dlX11_hard_0_ok 2 rfl
theorem dX11_hard_5 : decode cX11_hard 5 = .ok (.iaload, 1) := dec_at dlX11_hard_0_ok 3 rfl
theorem dX11_hard_6 : decode cX11_hard 6 = .ok (.iconst 2, 1) := dec_at dlX11_hard_0_ok 4 rfl
theorem dX11_hard_7 : decode cX11_hard 7 = .ok (.if_icmp .eq 13, 3) := dec_at dlX11_hard_0_ok 5 rfl
theorem dX11_hard_10 : decode cX11_hard 10 = .ok (.aload_n 0, 1) := dec_at dlX11_hard_0_ok 6 rfl
theorem dX11_hard_11 : decode cX11_hard 11 = .ok (.getfield 13, 3) := dec_at dlX11_hard_0_ok 7 rfl
theorem dX11_hard_14 : decode cX11_hard 14 = .ok (.iload_n 1, 1) := dec_at dlX11_hard_0_ok 8 rfl
theorem dX11_hard_15 : decode cX11_hard 15 = .ok (.iaload, 1) := dec_at dlX11_hard_0_ok 9 rfl
theorem dX11_hard_16 : decode cX11_hard 16 = .ok (.iconst 3, 1) := dec_at dlX11_hard_0_ok 10 rfl
theorem dX11_hard_17 : decode cX11_hard 17 = .ok (.if_icmp .ne 7, 3) := dec_at dlX11_hard_0_ok 11 rfl
theorem dX11_hard_20 : decode cX11_hard 20 = .ok (.iconst 3, 1) := dec_at dlX11_hard_0_ok 12 rfl
theorem dX11_hard_21 : decode cX11_hard 21 = .ok (.goto 18, 3) := dec_at dlX11_hard_0_ok 13 rfl
theorem dX11_hard_24 : decode cX11_hard 24 = .ok (.aload_n 0, 1) := dec_at dlX11_hard_0_ok 14 rfl
theorem dX11_hard_25 : decode cX11_hard 25 = .ok (.getfield 13, 3) := dec_at dlX11_hard_0_ok 15 rfl
theorem dX11_hard_28 : decode cX11_hard 28 = .ok (.iload_n 1, 1) := dec_at dlX11_hard_0_ok 16 rfl
theorem dX11_hard_29 : decode cX11_hard 29 = .ok (.iaload, 1) := dec_at dlX11_hard_0_ok 17 rfl
theorem dX11_hard_30 : decode cX11_hard 30 = .ok (.iconst 4, 1) := dec_at dlX11_hard_0_ok 18 rfl
theorem dX11_hard_31 : decode cX11_hard 31 = .ok (.if_icmp .ne 7, 3) := dec_at dlX11_hard_0_ok 19 rfl
theorem dX11_hard_34 : decode cX11_hard 34 = .ok (.iconst 2, 1) := dec_at dlX11_hard_0_ok 20 rfl
theorem dX11_hard_35 : decode cX11_hard 35 = .ok (.goto 4, 3) := dec_at dlX11_hard_0_ok 21 rfl
theorem dX11_hard_38 : decode cX11_hard 38 = .ok (.iconst 1, 1) := dec_at dlX11_hard_0_ok 22 rfl
theorem dX11_hard_39 : decode cX11_hard 39 = .ok (.istore_n 2, 1) := dec_at dlX11_hard_0_ok 23 rfl
theorem dX11_hard_40 : decode cX11_hard 40 = .ok (.iconst 2, 1) := dec_at dlX11_hard_0_ok 24 rfl
theorem dX11_hard_41 : decode cX11_hard 41 = .ok (.aload_n 0, 1) := dec_at dlX11_hard_0_ok 25 rfl
theorem dX11_hard_42 : decode cX11_hard 42 = .ok (.getfield 16, 3) := dec_at dlX11_hard_0_ok 26 rfl
theorem dX11_hard_45 : decode cX11_hard 45 = .ok (.iload_n 1, 1) := dec_at dlX11_hard_0_ok 27 rfl
theorem dX11_hard_46 : decode cX11_hard 46 = .ok (.iaload, 1) := dec_at dlX11_hard_0_ok 28 rfl
theorem dX11_hard_47 : decode cX11_hard 47 = .ok (.iadd, 1) := dec_at dlX11_hard_0_ok 29 rfl
theorem dX11_hard_48 : decode cX11_hard 48 = .ok (.iload_n 2, 1) := dec_at dlX11_hard_0_ok 30 rfl
noncomputable def dlX11_hard_49 : List (Nat × Instr × Nat) := [(49, .iadd, 1), (50, .ireturn, 1)]
theorem dlX11_hard_49_ok : dlX11_hard_49.all (fun r => decide (decode cX11_hard r.1 = .ok r.2)) = true := by decide +kernel
theorem dX11_hard_49 : decode cX11_hard 49 = .ok (.iadd, 1) := dec_at dlX11_hard_49_ok 0 rfl
theorem dX11_hard_50 : decode cX11_hard 50 = .ok (.ireturn, 1) := dec_at dlX11_hard_49_ok 1 rfl
set_option maxRecDepth 20000 in
theorem ggX11_quill_X11_isQuill : GoodIn wsX11_quill wsX11_isQuill := goodIn_s _ [(11, 4), (10, 1), (15, 1), (20, 46)] rfl (by decide +kernel)
set_option maxRecDepth 20000 in
theorem gX11_quill_X11_isQuill : GoodIn wsX11_quill (wsV RX11 184 RX11 yX11_isQuill wsX11_isQuill) := goodIn_app (goodIn_s _ [(7, 4)] rfl (by decide +kernel)) ggX11_quill_X11_isQuill
set_option maxRecDepth 20000 in
theorem ggX11_quill_X11_hard : GoodIn wsX11_quill wsX11_hard := goodIn_s _ [(19, 1), (3, 2), (20, 46)] rfl (by decide +kernel)
set_option maxRecDepth 20000 in
theorem gX11_quill_X11_hard : GoodIn wsX11_quill (wsV RX11 189 RX11 yX11_hard wsX11_hard) := goodIn_app (goodIn_s _ [(16, 3), (10, 1)] rfl (by decide +kernel)) ggX11_quill_X11_hard
noncomputable def dlX11_quill_0 : List (Nat × Instr × Nat) := [(0, .aload_n 0, 1), (1, .iload_n 1, 1), (2, .invokevirtual 184, 3), (5, .ifCond .ne 6, 3), (8, .ldc 188, 2), (10, .ireturn, 1), (11, .iload_n 2, 1), (12, .tableswitch 98 0 6 #[44, 51, 58, 65, 72, 82, 88], 44), (56, .aload_n 0, 1), (57, .getfield 7, 3), (60, .iload_n 1, 1), (61, .iaload, 1), (62, .ireturn, 1), (63, .aload_n 0, 1), (64, .getfield 13, 3), (67, .iload_n 1, 1), (68, .iaload, 1), (69, .ireturn, 1), (70, .aload_n 0, 1), (71, .getfield 16, 3), (74, .iload_n 1, 1), (75, .iaload, 1), (76, .ireturn, 1), (77, .aload_n 0, 1), (78, .getfield 28, 3), (81, .iload_n 1, 1), (82, .iaload, 1), (83, .ireturn, 1), (84, .aload_n 0, 1), (85, .getfield 28, 3), (88, .bipush 8, 2)]
theorem dlX11_quill_0_ok : dlX11_quill_0.all (fun r => decide (decode cX11_quill r.1 = .ok r.2)) = true := by decide +kernel
theorem dX11_quill_0 : decode cX11_quill 0 = .ok (.aload_n 0, 1) := dec_at dlX11_quill_0_ok 0 rfl
theorem dX11_quill_1 : decode cX11_quill 1 = .ok (.iload_n 1, 1) := dec_at dlX11_quill_0_ok 1 rfl
theorem dX11_quill_2 : decode cX11_quill 2 = .ok (.invokevirtual 184, 3) := dec_at dlX11_quill_0_ok 2 rfl
theorem dX11_quill_5 : decode cX11_quill 5 = .ok (.ifCond .ne 6, 3) := dec_at dlX11_quill_0_ok 3 rfl
theorem dX11_quill_8 : decode cX11_quill 8 = .ok (.ldc 188, 2) := dec_at dlX11_quill_0_ok 4 rfl
theorem dX11_quill_10 : decode cX11_quill 10 = .ok (.ireturn, 1) := dec_at dlX11_quill_0_ok 5 rfl
theorem dX11_quill_11 : decode cX11_quill 11 = .ok (.iload_n 2, 1) := dec_at dlX11_quill_0_ok 6 rfl
theorem dX11_quill_12 : decode cX11_quill 12 = .ok (.tableswitch 98 0 6 #[44, 51, 58, 65, 72, 82, 88], 44) := dec_at dlX11_quill_0_ok 7 rfl
theorem dX11_quill_56 : decode cX11_quill 56 = .ok (.aload_n 0, 1) := dec_at dlX11_quill_0_ok 8 rfl
theorem dX11_quill_57 : decode cX11_quill 57 = .ok (.getfield 7, 3) := dec_at dlX11_quill_0_ok 9 rfl
theorem dX11_quill_60 : decode cX11_quill 60 = .ok (.iload_n 1, 1) := dec_at dlX11_quill_0_ok 10 rfl
theorem dX11_quill_61 : decode cX11_quill 61 = .ok (.iaload, 1) := dec_at dlX11_quill_0_ok 11 rfl
theorem dX11_quill_62 : decode cX11_quill 62 = .ok (.ireturn, 1) := dec_at dlX11_quill_0_ok 12 rfl
theorem dX11_quill_63 : decode cX11_quill 63 = .ok (.aload_n 0, 1) := dec_at dlX11_quill_0_ok 13 rfl
theorem dX11_quill_64 : decode cX11_quill 64 = .ok (.getfield 13, 3) := dec_at dlX11_quill_0_ok 14 rfl
theorem dX11_quill_67 : decode cX11_quill 67 = .ok (.iload_n 1, 1) := dec_at dlX11_quill_0_ok 15 rfl
theorem dX11_quill_68 : decode cX11_quill 68 = .ok (.iaload, 1) := dec_at dlX11_quill_0_ok 16 rfl
theorem dX11_quill_69 : decode cX11_quill 69 = .ok (.ireturn, 1) := dec_at dlX11_quill_0_ok 17 rfl
theorem dX11_quill_70 : decode cX11_quill 70 = .ok (.aload_n 0, 1) := dec_at dlX11_quill_0_ok 18 rfl
theorem dX11_quill_71 : decode cX11_quill 71 = .ok (.getfield 16, 3) := dec_at dlX11_quill_0_ok 19 rfl
theorem dX11_quill_74 : decode cX11_quill 74 = .ok (.iload_n 1, 1) := dec_at dlX11_quill_0_ok 20 rfl
theorem dX11_quill_75 : decode cX11_quill 75 = .ok (.iaload, 1) := dec_at dlX11_quill_0_ok 21 rfl
theorem dX11_quill_76 : decode cX11_quill 76 = .ok (.ireturn, 1) := dec_at dlX11_quill_0_ok 22 rfl
theorem dX11_quill_77 : decode cX11_quill 77 = .ok (.aload_n 0, 1) := dec_at dlX11_quill_0_ok 23 rfl
theorem dX11_quill_78 : decode cX11_quill 78 = .ok (.getfield 28, 3) := dec_at dlX11_quill_0_ok 24 rfl
theorem dX11_quill_81 : decode cX11_quill 81 = .ok (.iload_n 1, 1) := dec_at dlX11_quill_0_ok 25 rfl
theorem dX11_quill_82 : decode cX11_quill 82 = .ok (.iaload, 1) := dec_at dlX11_quill_0_ok 26 rfl
theorem dX11_quill_83 : decode cX11_quill 83 = .ok (.ireturn, 1) := dec_at dlX11_quill_0_ok 27 rfl
theorem dX11_quill_84 : decode cX11_quill 84 = .ok (.aload_n 0, 1) := dec_at dlX11_quill_0_ok 28 rfl
theorem dX11_quill_85 : decode cX11_quill 85 = .ok (.getfield 28, 3) := dec_at dlX11_quill_0_ok 29 rfl
theorem dX11_quill_88 : decode cX11_quill 88 = .ok (.bipush 8, 2) := dec_at dlX11_quill_0_ok 30 rfl
noncomputable def dlX11_quill_90 : List (Nat × Instr × Nat) := [(90, .iload_n 1, 1), (91, .iadd, 1), (92, .iaload, 1), (93, .ireturn, 1), (94, .aload_n 0, 1), (95, .iload_n 1, 1), (96, .invokevirtual 189, 3), (99, .ireturn, 1), (100, .aload_n 0, 1), (101, .getfield 28, 3), (104, .bipush 16, 2), (106, .iload_n 1, 1), (107, .iadd, 1), (108, .iaload, 1), (109, .ireturn, 1), (110, .ldc 111, 2), (112, .ireturn, 1)]
theorem dlX11_quill_90_ok : dlX11_quill_90.all (fun r => decide (decode cX11_quill r.1 = .ok r.2)) = true := by decide +kernel
theorem dX11_quill_90 : decode cX11_quill 90 = .ok (.iload_n 1, 1) := dec_at dlX11_quill_90_ok 0 rfl
theorem dX11_quill_91 : decode cX11_quill 91 = .ok (.iadd, 1) := dec_at dlX11_quill_90_ok 1 rfl
theorem dX11_quill_92 : decode cX11_quill 92 = .ok (.iaload, 1) := dec_at dlX11_quill_90_ok 2 rfl
theorem dX11_quill_93 : decode cX11_quill 93 = .ok (.ireturn, 1) := dec_at dlX11_quill_90_ok 3 rfl
theorem dX11_quill_94 : decode cX11_quill 94 = .ok (.aload_n 0, 1) := dec_at dlX11_quill_90_ok 4 rfl
theorem dX11_quill_95 : decode cX11_quill 95 = .ok (.iload_n 1, 1) := dec_at dlX11_quill_90_ok 5 rfl
theorem dX11_quill_96 : decode cX11_quill 96 = .ok (.invokevirtual 189, 3) := dec_at dlX11_quill_90_ok 6 rfl
theorem dX11_quill_99 : decode cX11_quill 99 = .ok (.ireturn, 1) := dec_at dlX11_quill_90_ok 7 rfl
theorem dX11_quill_100 : decode cX11_quill 100 = .ok (.aload_n 0, 1) := dec_at dlX11_quill_90_ok 8 rfl
theorem dX11_quill_101 : decode cX11_quill 101 = .ok (.getfield 28, 3) := dec_at dlX11_quill_90_ok 9 rfl
theorem dX11_quill_104 : decode cX11_quill 104 = .ok (.bipush 16, 2) := dec_at dlX11_quill_90_ok 10 rfl
theorem dX11_quill_106 : decode cX11_quill 106 = .ok (.iload_n 1, 1) := dec_at dlX11_quill_90_ok 11 rfl
theorem dX11_quill_107 : decode cX11_quill 107 = .ok (.iadd, 1) := dec_at dlX11_quill_90_ok 12 rfl
theorem dX11_quill_108 : decode cX11_quill 108 = .ok (.iaload, 1) := dec_at dlX11_quill_90_ok 13 rfl
theorem dX11_quill_109 : decode cX11_quill 109 = .ok (.ireturn, 1) := dec_at dlX11_quill_90_ok 14 rfl
theorem dX11_quill_110 : decode cX11_quill 110 = .ok (.ldc 111, 2) := dec_at dlX11_quill_90_ok 15 rfl
theorem dX11_quill_112 : decode cX11_quill 112 = .ok (.ireturn, 1) := dec_at dlX11_quill_90_ok 16 rfl
set_option maxRecDepth 20000 in
theorem ggX11_hand_X11_isHand : GoodIn wsX11_hand wsX11_isHand := goodIn_s _ [(11, 4), (10, 1), (15, 47)] rfl (by decide +kernel)
set_option maxRecDepth 20000 in
theorem gX11_hand_X11_isHand : GoodIn wsX11_hand (wsV RX11 192 RX11 yX11_isHand wsX11_isHand) := goodIn_app (goodIn_s _ [(7, 4)] rfl (by decide +kernel)) ggX11_hand_X11_isHand
noncomputable def dlX11_hand_0 : List (Nat × Instr × Nat) := [(0, .aload_n 0, 1), (1, .iload_n 1, 1), (2, .invokevirtual 192, 3), (5, .ifCond .ne 6, 3), (8, .ldc 188, 2), (10, .ireturn, 1), (11, .iload_n 2, 1), (12, .tableswitch 77 0 4 #[36, 43, 50, 57, 67], 36), (48, .aload_n 0, 1), (49, .getfield 19, 3), (52, .iload_n 1, 1), (53, .iaload, 1), (54, .ireturn, 1), (55, .aload_n 0, 1), (56, .getfield 22, 3), (59, .iload_n 1, 1), (60, .iaload, 1), (61, .ireturn, 1), (62, .aload_n 0, 1), (63, .getfield 25, 3), (66, .iload_n 1, 1), (67, .iaload, 1), (68, .ireturn, 1), (69, .aload_n 0, 1), (70, .getfield 28, 3), (73, .bipush 24, 2), (75, .iload_n 1, 1), (76, .iadd, 1), (77, .iaload, 1), (78, .ireturn, 1), (79, .aload_n 0, 1)]
theorem dlX11_hand_0_ok : dlX11_hand_0.all (fun r => decide (decode cX11_hand r.1 = .ok r.2)) = true := by decide +kernel
theorem dX11_hand_0 : decode cX11_hand 0 = .ok (.aload_n 0, 1) := dec_at dlX11_hand_0_ok 0 rfl
theorem dX11_hand_1 : decode cX11_hand 1 = .ok (.iload_n 1, 1) := dec_at dlX11_hand_0_ok 1 rfl
theorem dX11_hand_2 : decode cX11_hand 2 = .ok (.invokevirtual 192, 3) := dec_at dlX11_hand_0_ok 2 rfl
theorem dX11_hand_5 : decode cX11_hand 5 = .ok (.ifCond .ne 6, 3) := dec_at dlX11_hand_0_ok 3 rfl
theorem dX11_hand_8 : decode cX11_hand 8 = .ok (.ldc 188, 2) := dec_at dlX11_hand_0_ok 4 rfl
theorem dX11_hand_10 : decode cX11_hand 10 = .ok (.ireturn, 1) := dec_at dlX11_hand_0_ok 5 rfl
theorem dX11_hand_11 : decode cX11_hand 11 = .ok (.iload_n 2, 1) := dec_at dlX11_hand_0_ok 6 rfl
theorem dX11_hand_12 : decode cX11_hand 12 = .ok (.tableswitch 77 0 4 #[36, 43, 50, 57, 67], 36) := dec_at dlX11_hand_0_ok 7 rfl
theorem dX11_hand_48 : decode cX11_hand 48 = .ok (.aload_n 0, 1) := dec_at dlX11_hand_0_ok 8 rfl
theorem dX11_hand_49 : decode cX11_hand 49 = .ok (.getfield 19, 3) := dec_at dlX11_hand_0_ok 9 rfl
theorem dX11_hand_52 : decode cX11_hand 52 = .ok (.iload_n 1, 1) := dec_at dlX11_hand_0_ok 10 rfl
theorem dX11_hand_53 : decode cX11_hand 53 = .ok (.iaload, 1) := dec_at dlX11_hand_0_ok 11 rfl
theorem dX11_hand_54 : decode cX11_hand 54 = .ok (.ireturn, 1) := dec_at dlX11_hand_0_ok 12 rfl
theorem dX11_hand_55 : decode cX11_hand 55 = .ok (.aload_n 0, 1) := dec_at dlX11_hand_0_ok 13 rfl
theorem dX11_hand_56 : decode cX11_hand 56 = .ok (.getfield 22, 3) := dec_at dlX11_hand_0_ok 14 rfl
theorem dX11_hand_59 : decode cX11_hand 59 = .ok (.iload_n 1, 1) := dec_at dlX11_hand_0_ok 15 rfl
theorem dX11_hand_60 : decode cX11_hand 60 = .ok (.iaload, 1) := dec_at dlX11_hand_0_ok 16 rfl
theorem dX11_hand_61 : decode cX11_hand 61 = .ok (.ireturn, 1) := dec_at dlX11_hand_0_ok 17 rfl
theorem dX11_hand_62 : decode cX11_hand 62 = .ok (.aload_n 0, 1) := dec_at dlX11_hand_0_ok 18 rfl
theorem dX11_hand_63 : decode cX11_hand 63 = .ok (.getfield 25, 3) := dec_at dlX11_hand_0_ok 19 rfl
theorem dX11_hand_66 : decode cX11_hand 66 = .ok (.iload_n 1, 1) := dec_at dlX11_hand_0_ok 20 rfl
theorem dX11_hand_67 : decode cX11_hand 67 = .ok (.iaload, 1) := dec_at dlX11_hand_0_ok 21 rfl
theorem dX11_hand_68 : decode cX11_hand 68 = .ok (.ireturn, 1) := dec_at dlX11_hand_0_ok 22 rfl
theorem dX11_hand_69 : decode cX11_hand 69 = .ok (.aload_n 0, 1) := dec_at dlX11_hand_0_ok 23 rfl
theorem dX11_hand_70 : decode cX11_hand 70 = .ok (.getfield 28, 3) := dec_at dlX11_hand_0_ok 24 rfl
theorem dX11_hand_73 : decode cX11_hand 73 = .ok (.bipush 24, 2) := dec_at dlX11_hand_0_ok 25 rfl
theorem dX11_hand_75 : decode cX11_hand 75 = .ok (.iload_n 1, 1) := dec_at dlX11_hand_0_ok 26 rfl
theorem dX11_hand_76 : decode cX11_hand 76 = .ok (.iadd, 1) := dec_at dlX11_hand_0_ok 27 rfl
theorem dX11_hand_77 : decode cX11_hand 77 = .ok (.iaload, 1) := dec_at dlX11_hand_0_ok 28 rfl
theorem dX11_hand_78 : decode cX11_hand 78 = .ok (.ireturn, 1) := dec_at dlX11_hand_0_ok 29 rfl
theorem dX11_hand_79 : decode cX11_hand 79 = .ok (.aload_n 0, 1) := dec_at dlX11_hand_0_ok 30 rfl
noncomputable def dlX11_hand_80 : List (Nat × Instr × Nat) := [(80, .getfield 28, 3), (83, .bipush 28, 2), (85, .iload_n 1, 1), (86, .iadd, 1), (87, .iaload, 1), (88, .ireturn, 1), (89, .ldc 111, 2), (91, .ireturn, 1)]
theorem dlX11_hand_80_ok : dlX11_hand_80.all (fun r => decide (decode cX11_hand r.1 = .ok r.2)) = true := by decide +kernel
theorem dX11_hand_80 : decode cX11_hand 80 = .ok (.getfield 28, 3) := dec_at dlX11_hand_80_ok 0 rfl
theorem dX11_hand_83 : decode cX11_hand 83 = .ok (.bipush 28, 2) := dec_at dlX11_hand_80_ok 1 rfl
theorem dX11_hand_85 : decode cX11_hand 85 = .ok (.iload_n 1, 1) := dec_at dlX11_hand_80_ok 2 rfl
theorem dX11_hand_86 : decode cX11_hand 86 = .ok (.iadd, 1) := dec_at dlX11_hand_80_ok 3 rfl
theorem dX11_hand_87 : decode cX11_hand 87 = .ok (.iaload, 1) := dec_at dlX11_hand_80_ok 4 rfl
theorem dX11_hand_88 : decode cX11_hand 88 = .ok (.ireturn, 1) := dec_at dlX11_hand_80_ok 5 rfl
theorem dX11_hand_89 : decode cX11_hand 89 = .ok (.ldc 111, 2) := dec_at dlX11_hand_80_ok 6 rfl
theorem dX11_hand_91 : decode cX11_hand 91 = .ok (.ireturn, 1) := dec_at dlX11_hand_80_ok 7 rfl
set_option maxRecDepth 20000 in
theorem ggX11_wears_X11_hard : GoodIn wsX11_wears wsX11_hard := goodIn_s _ [(8, 49)] rfl (by decide +kernel)
set_option maxRecDepth 20000 in
theorem gX11_wears_X11_hard : GoodIn wsX11_wears (wsV RX11 189 RX11 yX11_hard wsX11_hard) := goodIn_app (goodIn_s _ [(4, 4)] rfl (by decide +kernel)) ggX11_wears_X11_hard
noncomputable def dlX11_wears_0 : List (Nat × Instr × Nat) := [(0, .bipush 12, 2), (2, .aload_n 0, 1), (3, .getfield 22, 3), (6, .iload_n 2, 1), (7, .iaload, 1), (8, .imul, 1), (9, .aload_n 0, 1), (10, .iload_n 1, 1), (11, .invokevirtual 189, 3), (14, .idiv, 1), (15, .istore_n 3, 1), (16, .iload_n 3, 1), (17, .iconst 1, 1), (18, .if_icmp .le 7, 3), (21, .iload_n 3, 1), (22, .goto 4, 3), (25, .iconst 1, 1), (26, .istore_n 3, 1), (27, .aload_n 0, 1), (28, .getfield 7, 3), (31, .iload_n 1, 1), (32, .iaload, 1), (33, .aload_n 0, 1), (34, .getfield 19, 3), (37, .iload_n 2, 1), (38, .iaload, 1), (39, .if_icmp .ne 7, 3), (42, .iload_n 3, 1), (43, .goto 6, 3), (46, .iload_n 3, 1), (47, .iconst 4, 1)]
theorem dlX11_wears_0_ok : dlX11_wears_0.all (fun r => decide (decode cX11_wears r.1 = .ok r.2)) = true := by decide +kernel
theorem dX11_wears_0 : decode cX11_wears 0 = .ok (.bipush 12, 2) := dec_at dlX11_wears_0_ok 0 rfl
theorem dX11_wears_2 : decode cX11_wears 2 = .ok (.aload_n 0, 1) := dec_at dlX11_wears_0_ok 1 rfl
theorem dX11_wears_3 : decode cX11_wears 3 = .ok (.getfield 22, 3) := dec_at dlX11_wears_0_ok 2 rfl
theorem dX11_wears_6 : decode cX11_wears 6 = .ok (.iload_n 2, 1) := dec_at dlX11_wears_0_ok 3 rfl
theorem dX11_wears_7 : decode cX11_wears 7 = .ok (.iaload, 1) := dec_at dlX11_wears_0_ok 4 rfl
theorem dX11_wears_8 : decode cX11_wears 8 = .ok (.imul, 1) := dec_at dlX11_wears_0_ok 5 rfl
theorem dX11_wears_9 : decode cX11_wears 9 = .ok (.aload_n 0, 1) := dec_at dlX11_wears_0_ok 6 rfl
theorem dX11_wears_10 : decode cX11_wears 10 = .ok (.iload_n 1, 1) := dec_at dlX11_wears_0_ok 7 rfl
theorem dX11_wears_11 : decode cX11_wears 11 = .ok (.invokevirtual 189, 3) := dec_at dlX11_wears_0_ok 8 rfl
theorem dX11_wears_14 : decode cX11_wears 14 = .ok (.idiv, 1) := dec_at dlX11_wears_0_ok 9 rfl
theorem dX11_wears_15 : decode cX11_wears 15 = .ok (.istore_n 3, 1) := dec_at dlX11_wears_0_ok 10 rfl
theorem dX11_wears_16 : decode cX11_wears 16 = .ok (.iload_n 3, 1) := dec_at dlX11_wears_0_ok 11 rfl
theorem dX11_wears_17 : decode cX11_wears 17 = .ok (.iconst 1, 1) := dec_at dlX11_wears_0_ok 12 rfl
theorem dX11_wears_18 : decode cX11_wears 18 = .ok (.if_icmp .le 7, 3) := dec_at dlX11_wears_0_ok 13 rfl
theorem dX11_wears_21 : decode cX11_wears 21 = .ok (.iload_n 3, 1) := dec_at dlX11_wears_0_ok 14 rfl
theorem dX11_wears_22 : decode cX11_wears 22 = .ok (.goto 4, 3) := dec_at dlX11_wears_0_ok 15 rfl
theorem dX11_wears_25 : decode cX11_wears 25 = .ok (.iconst 1, 1) := dec_at dlX11_wears_0_ok 16 rfl
theorem dX11_wears_26 : decode cX11_wears 26 = .ok (.istore_n 3, 1) := dec_at dlX11_wears_0_ok 17 rfl
theorem dX11_wears_27 : decode cX11_wears 27 = .ok (.aload_n 0, 1) := dec_at dlX11_wears_0_ok 18 rfl
theorem dX11_wears_28 : decode cX11_wears 28 = .ok (.getfield 7, 3) := dec_at dlX11_wears_0_ok 19 rfl
theorem dX11_wears_31 : decode cX11_wears 31 = .ok (.iload_n 1, 1) := dec_at dlX11_wears_0_ok 20 rfl
theorem dX11_wears_32 : decode cX11_wears 32 = .ok (.iaload, 1) := dec_at dlX11_wears_0_ok 21 rfl
theorem dX11_wears_33 : decode cX11_wears 33 = .ok (.aload_n 0, 1) := dec_at dlX11_wears_0_ok 22 rfl
theorem dX11_wears_34 : decode cX11_wears 34 = .ok (.getfield 19, 3) := dec_at dlX11_wears_0_ok 23 rfl
theorem dX11_wears_37 : decode cX11_wears 37 = .ok (.iload_n 2, 1) := dec_at dlX11_wears_0_ok 24 rfl
theorem dX11_wears_38 : decode cX11_wears 38 = .ok (.iaload, 1) := dec_at dlX11_wears_0_ok 25 rfl
theorem dX11_wears_39 : decode cX11_wears 39 = .ok (.if_icmp .ne 7, 3) := dec_at dlX11_wears_0_ok 26 rfl
theorem dX11_wears_42 : decode cX11_wears 42 = .ok (.iload_n 3, 1) := dec_at dlX11_wears_0_ok 27 rfl
theorem dX11_wears_43 : decode cX11_wears 43 = .ok (.goto 6, 3) := dec_at dlX11_wears_0_ok 28 rfl
theorem dX11_wears_46 : decode cX11_wears 46 = .ok (.iload_n 3, 1) := dec_at dlX11_wears_0_ok 29 rfl
theorem dX11_wears_47 : decode cX11_wears 47 = .ok (.iconst 4, 1) := dec_at dlX11_wears_0_ok 30 rfl
noncomputable def dlX11_wears_48 : List (Nat × Instr × Nat) := [(48, .iadd, 1), (49, .ireturn, 1)]
theorem dlX11_wears_48_ok : dlX11_wears_48.all (fun r => decide (decode cX11_wears r.1 = .ok r.2)) = true := by decide +kernel
theorem dX11_wears_48 : decode cX11_wears 48 = .ok (.iadd, 1) := dec_at dlX11_wears_48_ok 0 rfl
theorem dX11_wears_49 : decode cX11_wears 49 = .ok (.ireturn, 1) := dec_at dlX11_wears_48_ok 1 rfl
set_option maxRecDepth 20000 in
theorem ggX11_softBehind_X11_wears : GoodIn wsX11_softBehind wsX11_wears := goodIn_s _ [(5, 7), (4, 1), (12, 49)] rfl (by decide +kernel)
set_option maxRecDepth 20000 in
theorem gX11_softBehind_X11_wears : GoodIn wsX11_softBehind (wsV RX11 195 RX11 yX11_wears wsX11_wears) := goodIn_app (goodIn_s _ [(1, 4)] rfl (by decide +kernel)) ggX11_softBehind_X11_wears
noncomputable def dlX11_softBehind_0 : List (Nat × Instr × Nat) := [(0, .iload_n 1, 1), (1, .aload_n 0, 1), (2, .iload_n 2, 1), (3, .iload_n 3, 1), (4, .invokevirtual 195, 3), (7, .iadd, 1), (8, .istore 4, 2), (10, .iload 4, 2), (12, .bipush 99, 2), (14, .if_icmp .ge 8, 3), (17, .iload 4, 2), (19, .goto 5, 3), (22, .bipush 99, 2), (24, .ireturn, 1)]
theorem dlX11_softBehind_0_ok : dlX11_softBehind_0.all (fun r => decide (decode cX11_softBehind r.1 = .ok r.2)) = true := by decide +kernel
theorem dX11_softBehind_0 : decode cX11_softBehind 0 = .ok (.iload_n 1, 1) := dec_at dlX11_softBehind_0_ok 0 rfl
theorem dX11_softBehind_1 : decode cX11_softBehind 1 = .ok (.aload_n 0, 1) := dec_at dlX11_softBehind_0_ok 1 rfl
theorem dX11_softBehind_2 : decode cX11_softBehind 2 = .ok (.iload_n 2, 1) := dec_at dlX11_softBehind_0_ok 2 rfl
theorem dX11_softBehind_3 : decode cX11_softBehind 3 = .ok (.iload_n 3, 1) := dec_at dlX11_softBehind_0_ok 3 rfl
theorem dX11_softBehind_4 : decode cX11_softBehind 4 = .ok (.invokevirtual 195, 3) := dec_at dlX11_softBehind_0_ok 4 rfl
theorem dX11_softBehind_7 : decode cX11_softBehind 7 = .ok (.iadd, 1) := dec_at dlX11_softBehind_0_ok 5 rfl
theorem dX11_softBehind_8 : decode cX11_softBehind 8 = .ok (.istore 4, 2) := dec_at dlX11_softBehind_0_ok 6 rfl
theorem dX11_softBehind_10 : decode cX11_softBehind 10 = .ok (.iload 4, 2) := dec_at dlX11_softBehind_0_ok 7 rfl
theorem dX11_softBehind_12 : decode cX11_softBehind 12 = .ok (.bipush 99, 2) := dec_at dlX11_softBehind_0_ok 8 rfl
theorem dX11_softBehind_14 : decode cX11_softBehind 14 = .ok (.if_icmp .ge 8, 3) := dec_at dlX11_softBehind_0_ok 9 rfl
theorem dX11_softBehind_17 : decode cX11_softBehind 17 = .ok (.iload 4, 2) := dec_at dlX11_softBehind_0_ok 10 rfl
theorem dX11_softBehind_19 : decode cX11_softBehind 19 = .ok (.goto 5, 3) := dec_at dlX11_softBehind_0_ok 11 rfl
theorem dX11_softBehind_22 : decode cX11_softBehind 22 = .ok (.bipush 99, 2) := dec_at dlX11_softBehind_0_ok 12 rfl
theorem dX11_softBehind_24 : decode cX11_softBehind 24 = .ok (.ireturn, 1) := dec_at dlX11_softBehind_0_ok 13 rfl
set_option maxRecDepth 20000 in
theorem ggX11_suits_X11_in : GoodIn wsX11_suits wsX11_in := goodIn_s _ [(6, 1)] rfl (by decide +kernel)
set_option maxRecDepth 20000 in
theorem gX11_suits_X11_in : GoodIn wsX11_suits (va_wsS RX11 102 yX11_in wsX11_in) := goodIn_app (goodIn_s _ [(3, 3)] rfl (by decide +kernel)) ggX11_suits_X11_in
noncomputable def dlX11_suits_0 : List (Nat × Instr × Nat) := [(0, .iload_n 1, 1), (1, .aload_n 0, 1), (2, .getfield 25, 3), (5, .iload_n 2, 1), (6, .iaload, 1), (7, .isub, 1), (8, .i2l, 1), (9, .ldc2_w 198, 3), (12, .lconst 1, 1), (13, .invokestatic 102, 3), (16, .ireturn, 1)]
theorem dlX11_suits_0_ok : dlX11_suits_0.all (fun r => decide (decode cX11_suits r.1 = .ok r.2)) = true := by decide +kernel
theorem dX11_suits_0 : decode cX11_suits 0 = .ok (.iload_n 1, 1) := dec_at dlX11_suits_0_ok 0 rfl
theorem dX11_suits_1 : decode cX11_suits 1 = .ok (.aload_n 0, 1) := dec_at dlX11_suits_0_ok 1 rfl
theorem dX11_suits_2 : decode cX11_suits 2 = .ok (.getfield 25, 3) := dec_at dlX11_suits_0_ok 2 rfl
theorem dX11_suits_5 : decode cX11_suits 5 = .ok (.iload_n 2, 1) := dec_at dlX11_suits_0_ok 3 rfl
theorem dX11_suits_6 : decode cX11_suits 6 = .ok (.iaload, 1) := dec_at dlX11_suits_0_ok 4 rfl
theorem dX11_suits_7 : decode cX11_suits 7 = .ok (.isub, 1) := dec_at dlX11_suits_0_ok 5 rfl
theorem dX11_suits_8 : decode cX11_suits 8 = .ok (.i2l, 1) := dec_at dlX11_suits_0_ok 6 rfl
theorem dX11_suits_9 : decode cX11_suits 9 = .ok (.ldc2_w 198, 3) := dec_at dlX11_suits_0_ok 7 rfl
theorem dX11_suits_12 : decode cX11_suits 12 = .ok (.lconst 1, 1) := dec_at dlX11_suits_0_ok 8 rfl
theorem dX11_suits_13 : decode cX11_suits 13 = .ok (.invokestatic 102, 3) := dec_at dlX11_suits_0_ok 9 rfl
theorem dX11_suits_16 : decode cX11_suits 16 = .ok (.ireturn, 1) := dec_at dlX11_suits_0_ok 10 rfl
noncomputable def dlX11_driedBy_0 : List (Nat × Instr × Nat) := [(0, .iload_n 0, 1), (1, .bipush 8, 2), (3, .iload_n 1, 1), (4, .imul, 1), (5, .isub, 1), (6, .istore_n 2, 1), (7, .iload_n 2, 1), (8, .iload_n 0, 1), (9, .iconst 3, 1), (10, .idiv, 1), (11, .if_icmp .le 7, 3), (14, .iload_n 2, 1), (15, .goto 6, 3), (18, .iload_n 0, 1), (19, .iconst 3, 1), (20, .idiv, 1), (21, .ireturn, 1)]
theorem dlX11_driedBy_0_ok : dlX11_driedBy_0.all (fun r => decide (decode cX11_driedBy r.1 = .ok r.2)) = true := by decide +kernel
theorem dX11_driedBy_0 : decode cX11_driedBy 0 = .ok (.iload_n 0, 1) := dec_at dlX11_driedBy_0_ok 0 rfl
theorem dX11_driedBy_1 : decode cX11_driedBy 1 = .ok (.bipush 8, 2) := dec_at dlX11_driedBy_0_ok 1 rfl
theorem dX11_driedBy_3 : decode cX11_driedBy 3 = .ok (.iload_n 1, 1) := dec_at dlX11_driedBy_0_ok 2 rfl
theorem dX11_driedBy_4 : decode cX11_driedBy 4 = .ok (.imul, 1) := dec_at dlX11_driedBy_0_ok 3 rfl
theorem dX11_driedBy_5 : decode cX11_driedBy 5 = .ok (.isub, 1) := dec_at dlX11_driedBy_0_ok 4 rfl
theorem dX11_driedBy_6 : decode cX11_driedBy 6 = .ok (.istore_n 2, 1) := dec_at dlX11_driedBy_0_ok 5 rfl
theorem dX11_driedBy_7 : decode cX11_driedBy 7 = .ok (.iload_n 2, 1) := dec_at dlX11_driedBy_0_ok 6 rfl
theorem dX11_driedBy_8 : decode cX11_driedBy 8 = .ok (.iload_n 0, 1) := dec_at dlX11_driedBy_0_ok 7 rfl
theorem dX11_driedBy_9 : decode cX11_driedBy 9 = .ok (.iconst 3, 1) := dec_at dlX11_driedBy_0_ok 8 rfl
theorem dX11_driedBy_10 : decode cX11_driedBy 10 = .ok (.idiv, 1) := dec_at dlX11_driedBy_0_ok 9 rfl
theorem dX11_driedBy_11 : decode cX11_driedBy 11 = .ok (.if_icmp .le 7, 3) := dec_at dlX11_driedBy_0_ok 10 rfl
theorem dX11_driedBy_14 : decode cX11_driedBy 14 = .ok (.iload_n 2, 1) := dec_at dlX11_driedBy_0_ok 11 rfl
theorem dX11_driedBy_15 : decode cX11_driedBy 15 = .ok (.goto 6, 3) := dec_at dlX11_driedBy_0_ok 12 rfl
theorem dX11_driedBy_18 : decode cX11_driedBy 18 = .ok (.iload_n 0, 1) := dec_at dlX11_driedBy_0_ok 13 rfl
theorem dX11_driedBy_19 : decode cX11_driedBy 19 = .ok (.iconst 3, 1) := dec_at dlX11_driedBy_0_ok 14 rfl
theorem dX11_driedBy_20 : decode cX11_driedBy 20 = .ok (.idiv, 1) := dec_at dlX11_driedBy_0_ok 15 rfl
theorem dX11_driedBy_21 : decode cX11_driedBy 21 = .ok (.ireturn, 1) := dec_at dlX11_driedBy_0_ok 16 rfl
set_option maxRecDepth 20000 in
theorem ggX11_page_X11_softBehind : GoodIn wsX11_page wsX11_softBehind := goodIn_s _ [(6, 4), (5, 1), (10, 10), (29, 46)] rfl (by decide +kernel)
set_option maxRecDepth 20000 in
theorem gX11_page_X11_softBehind : GoodIn wsX11_page (wsV RX11 200 RX11 yX11_softBehind wsX11_softBehind) := goodIn_app (goodIn_s _ [(2, 4)] rfl (by decide +kernel)) ggX11_page_X11_softBehind
set_option maxRecDepth 20000 in
theorem ggX11_page_X11_suits : GoodIn wsX11_page wsX11_suits := goodIn_s _ [(23, 5), (5, 1), (28, 47)] rfl (by decide +kernel)
set_option maxRecDepth 20000 in
theorem gX11_page_X11_suits : GoodIn wsX11_page (wsV RX11 204 RX11 yX11_suits wsX11_suits) := goodIn_app (goodIn_s _ [(20, 3), (5, 1)] rfl (by decide +kernel)) ggX11_page_X11_suits
noncomputable def dlX11_page_0 : List (Nat × Instr × Nat) := [(0, .aload_n 0, 1), (1, .getfield 28, 3), (4, .bipush 16, 2), (6, .iload_n 1, 1), (7, .iadd, 1), (8, .aload_n 0, 1), (9, .aload_n 0, 1), (10, .getfield 28, 3), (13, .bipush 16, 2), (15, .iload_n 1, 1), (16, .iadd, 1), (17, .iaload, 1), (18, .iload_n 1, 1), (19, .iload_n 2, 1), (20, .invokevirtual 200, 3), (23, .iastore, 1), (24, .aload_n 0, 1), (25, .getfield 28, 3), (28, .bipush 32, 2), (30, .dup2, 1), (31, .iaload, 1), (32, .iconst 2, 1), (33, .iadd, 1), (34, .iastore, 1), (35, .aload_n 0, 1), (36, .getfield 28, 3), (39, .bipush 16, 2), (41, .iload_n 1, 1), (42, .iadd, 1), (43, .iaload, 1), (44, .bipush 50, 2)]
theorem dlX11_page_0_ok : dlX11_page_0.all (fun r => decide (decode cX11_page r.1 = .ok r.2)) = true := by decide +kernel
theorem dX11_page_0 : decode cX11_page 0 = .ok (.aload_n 0, 1) := dec_at dlX11_page_0_ok 0 rfl
theorem dX11_page_1 : decode cX11_page 1 = .ok (.getfield 28, 3) := dec_at dlX11_page_0_ok 1 rfl
theorem dX11_page_4 : decode cX11_page 4 = .ok (.bipush 16, 2) := dec_at dlX11_page_0_ok 2 rfl
theorem dX11_page_6 : decode cX11_page 6 = .ok (.iload_n 1, 1) := dec_at dlX11_page_0_ok 3 rfl
theorem dX11_page_7 : decode cX11_page 7 = .ok (.iadd, 1) := dec_at dlX11_page_0_ok 4 rfl
theorem dX11_page_8 : decode cX11_page 8 = .ok (.aload_n 0, 1) := dec_at dlX11_page_0_ok 5 rfl
theorem dX11_page_9 : decode cX11_page 9 = .ok (.aload_n 0, 1) := dec_at dlX11_page_0_ok 6 rfl
theorem dX11_page_10 : decode cX11_page 10 = .ok (.getfield 28, 3) := dec_at dlX11_page_0_ok 7 rfl
theorem dX11_page_13 : decode cX11_page 13 = .ok (.bipush 16, 2) := dec_at dlX11_page_0_ok 8 rfl
theorem dX11_page_15 : decode cX11_page 15 = .ok (.iload_n 1, 1) := dec_at dlX11_page_0_ok 9 rfl
theorem dX11_page_16 : decode cX11_page 16 = .ok (.iadd, 1) := dec_at dlX11_page_0_ok 10 rfl
theorem dX11_page_17 : decode cX11_page 17 = .ok (.iaload, 1) := dec_at dlX11_page_0_ok 11 rfl
theorem dX11_page_18 : decode cX11_page 18 = .ok (.iload_n 1, 1) := dec_at dlX11_page_0_ok 12 rfl
theorem dX11_page_19 : decode cX11_page 19 = .ok (.iload_n 2, 1) := dec_at dlX11_page_0_ok 13 rfl
theorem dX11_page_20 : decode cX11_page 20 = .ok (.invokevirtual 200, 3) := dec_at dlX11_page_0_ok 14 rfl
theorem dX11_page_23 : decode cX11_page 23 = .ok (.iastore, 1) := dec_at dlX11_page_0_ok 15 rfl
theorem dX11_page_24 : decode cX11_page 24 = .ok (.aload_n 0, 1) := dec_at dlX11_page_0_ok 16 rfl
theorem dX11_page_25 : decode cX11_page 25 = .ok (.getfield 28, 3) := dec_at dlX11_page_0_ok 17 rfl
theorem dX11_page_28 : decode cX11_page 28 = .ok (.bipush 32, 2) := dec_at dlX11_page_0_ok 18 rfl
theorem dX11_page_30 : decode cX11_page 30 = .ok (.dup2, 1) := dec_at dlX11_page_0_ok 19 rfl
theorem dX11_page_31 : decode cX11_page 31 = .ok (.iaload, 1) := dec_at dlX11_page_0_ok 20 rfl
theorem dX11_page_32 : decode cX11_page 32 = .ok (.iconst 2, 1) := dec_at dlX11_page_0_ok 21 rfl
theorem dX11_page_33 : decode cX11_page 33 = .ok (.iadd, 1) := dec_at dlX11_page_0_ok 22 rfl
theorem dX11_page_34 : decode cX11_page 34 = .ok (.iastore, 1) := dec_at dlX11_page_0_ok 23 rfl
theorem dX11_page_35 : decode cX11_page 35 = .ok (.aload_n 0, 1) := dec_at dlX11_page_0_ok 24 rfl
theorem dX11_page_36 : decode cX11_page 36 = .ok (.getfield 28, 3) := dec_at dlX11_page_0_ok 25 rfl
theorem dX11_page_39 : decode cX11_page 39 = .ok (.bipush 16, 2) := dec_at dlX11_page_0_ok 26 rfl
theorem dX11_page_41 : decode cX11_page 41 = .ok (.iload_n 1, 1) := dec_at dlX11_page_0_ok 27 rfl
theorem dX11_page_42 : decode cX11_page 42 = .ok (.iadd, 1) := dec_at dlX11_page_0_ok 28 rfl
theorem dX11_page_43 : decode cX11_page 43 = .ok (.iaload, 1) := dec_at dlX11_page_0_ok 29 rfl
theorem dX11_page_44 : decode cX11_page 44 = .ok (.bipush 50, 2) := dec_at dlX11_page_0_ok 30 rfl
noncomputable def dlX11_page_46 : List (Nat × Instr × Nat) := [(46, .if_icmp .gt 24, 3), (49, .aload_n 0, 1), (50, .aload_n 0, 1), (51, .getfield 28, 3), (54, .bipush 8, 2), (56, .iload_n 1, 1), (57, .iadd, 1), (58, .iaload, 1), (59, .iload_n 2, 1), (60, .invokevirtual 204, 3), (63, .ifCond .eq 7, 3), (66, .iconst 1, 1), (67, .goto 4, 3), (70, .iconst 0, 1), (71, .ireturn, 1)]
theorem dlX11_page_46_ok : dlX11_page_46.all (fun r => decide (decode cX11_page r.1 = .ok r.2)) = true := by decide +kernel
theorem dX11_page_46 : decode cX11_page 46 = .ok (.if_icmp .gt 24, 3) := dec_at dlX11_page_46_ok 0 rfl
theorem dX11_page_49 : decode cX11_page 49 = .ok (.aload_n 0, 1) := dec_at dlX11_page_46_ok 1 rfl
theorem dX11_page_50 : decode cX11_page 50 = .ok (.aload_n 0, 1) := dec_at dlX11_page_46_ok 2 rfl
theorem dX11_page_51 : decode cX11_page 51 = .ok (.getfield 28, 3) := dec_at dlX11_page_46_ok 3 rfl
theorem dX11_page_54 : decode cX11_page 54 = .ok (.bipush 8, 2) := dec_at dlX11_page_46_ok 4 rfl
theorem dX11_page_56 : decode cX11_page 56 = .ok (.iload_n 1, 1) := dec_at dlX11_page_46_ok 5 rfl
theorem dX11_page_57 : decode cX11_page 57 = .ok (.iadd, 1) := dec_at dlX11_page_46_ok 6 rfl
theorem dX11_page_58 : decode cX11_page 58 = .ok (.iaload, 1) := dec_at dlX11_page_46_ok 7 rfl
theorem dX11_page_59 : decode cX11_page 59 = .ok (.iload_n 2, 1) := dec_at dlX11_page_46_ok 8 rfl
theorem dX11_page_60 : decode cX11_page 60 = .ok (.invokevirtual 204, 3) := dec_at dlX11_page_46_ok 9 rfl
theorem dX11_page_63 : decode cX11_page 63 = .ok (.ifCond .eq 7, 3) := dec_at dlX11_page_46_ok 10 rfl
theorem dX11_page_66 : decode cX11_page 66 = .ok (.iconst 1, 1) := dec_at dlX11_page_46_ok 11 rfl
theorem dX11_page_67 : decode cX11_page 67 = .ok (.goto 4, 3) := dec_at dlX11_page_46_ok 12 rfl
theorem dX11_page_70 : decode cX11_page 70 = .ok (.iconst 0, 1) := dec_at dlX11_page_46_ok 13 rfl
theorem dX11_page_71 : decode cX11_page 71 = .ok (.ireturn, 1) := dec_at dlX11_page_46_ok 14 rfl
set_option maxRecDepth 20000 in
theorem ggX11_pageOf_X11_page : GoodIn wsX11_pageOf wsX11_page := goodIn_s _ [(6, 1), (1, 1), (7, 3), (5, 1), (10, 69)] rfl (by decide +kernel)
set_option maxRecDepth 20000 in
theorem gX11_pageOf_X11_page : GoodIn wsX11_pageOf (wsV RX11 208 RX11 yX11_page wsX11_page) := goodIn_app (goodIn_s _ [(2, 4)] rfl (by decide +kernel)) ggX11_pageOf_X11_page
noncomputable def dlX11_pageOf_0 : List (Nat × Instr × Nat) := [(0, .aload_n 0, 1), (1, .iload_n 1, 1), (2, .iload_n 2, 1), (3, .invokevirtual 208, 3), (6, .istore_n 3, 1), (7, .aload_n 0, 1), (8, .getfield 28, 3), (11, .bipush 24, 2), (13, .iload_n 2, 1), (14, .iadd, 1), (15, .dup2, 1), (16, .iaload, 1), (17, .iconst 1, 1), (18, .iadd, 1), (19, .iastore, 1), (20, .aload_n 0, 1), (21, .getfield 28, 3), (24, .bipush 28, 2), (26, .iload_n 2, 1), (27, .iadd, 1), (28, .dup2, 1), (29, .iaload, 1), (30, .iload_n 3, 1), (31, .ifCond .eq 7, 3), (34, .iconst 1, 1), (35, .goto 4, 3), (38, .iconst 0, 1), (39, .iadd, 1), (40, .iastore, 1), (41, .return_, 1)]
theorem dlX11_pageOf_0_ok : dlX11_pageOf_0.all (fun r => decide (decode cX11_pageOf r.1 = .ok r.2)) = true := by decide +kernel
theorem dX11_pageOf_0 : decode cX11_pageOf 0 = .ok (.aload_n 0, 1) := dec_at dlX11_pageOf_0_ok 0 rfl
theorem dX11_pageOf_1 : decode cX11_pageOf 1 = .ok (.iload_n 1, 1) := dec_at dlX11_pageOf_0_ok 1 rfl
theorem dX11_pageOf_2 : decode cX11_pageOf 2 = .ok (.iload_n 2, 1) := dec_at dlX11_pageOf_0_ok 2 rfl
theorem dX11_pageOf_3 : decode cX11_pageOf 3 = .ok (.invokevirtual 208, 3) := dec_at dlX11_pageOf_0_ok 3 rfl
theorem dX11_pageOf_6 : decode cX11_pageOf 6 = .ok (.istore_n 3, 1) := dec_at dlX11_pageOf_0_ok 4 rfl
theorem dX11_pageOf_7 : decode cX11_pageOf 7 = .ok (.aload_n 0, 1) := dec_at dlX11_pageOf_0_ok 5 rfl
theorem dX11_pageOf_8 : decode cX11_pageOf 8 = .ok (.getfield 28, 3) := dec_at dlX11_pageOf_0_ok 6 rfl
theorem dX11_pageOf_11 : decode cX11_pageOf 11 = .ok (.bipush 24, 2) := dec_at dlX11_pageOf_0_ok 7 rfl
theorem dX11_pageOf_13 : decode cX11_pageOf 13 = .ok (.iload_n 2, 1) := dec_at dlX11_pageOf_0_ok 8 rfl
theorem dX11_pageOf_14 : decode cX11_pageOf 14 = .ok (.iadd, 1) := dec_at dlX11_pageOf_0_ok 9 rfl
theorem dX11_pageOf_15 : decode cX11_pageOf 15 = .ok (.dup2, 1) := dec_at dlX11_pageOf_0_ok 10 rfl
theorem dX11_pageOf_16 : decode cX11_pageOf 16 = .ok (.iaload, 1) := dec_at dlX11_pageOf_0_ok 11 rfl
theorem dX11_pageOf_17 : decode cX11_pageOf 17 = .ok (.iconst 1, 1) := dec_at dlX11_pageOf_0_ok 12 rfl
theorem dX11_pageOf_18 : decode cX11_pageOf 18 = .ok (.iadd, 1) := dec_at dlX11_pageOf_0_ok 13 rfl
theorem dX11_pageOf_19 : decode cX11_pageOf 19 = .ok (.iastore, 1) := dec_at dlX11_pageOf_0_ok 14 rfl
theorem dX11_pageOf_20 : decode cX11_pageOf 20 = .ok (.aload_n 0, 1) := dec_at dlX11_pageOf_0_ok 15 rfl
theorem dX11_pageOf_21 : decode cX11_pageOf 21 = .ok (.getfield 28, 3) := dec_at dlX11_pageOf_0_ok 16 rfl
theorem dX11_pageOf_24 : decode cX11_pageOf 24 = .ok (.bipush 28, 2) := dec_at dlX11_pageOf_0_ok 17 rfl
theorem dX11_pageOf_26 : decode cX11_pageOf 26 = .ok (.iload_n 2, 1) := dec_at dlX11_pageOf_0_ok 18 rfl
theorem dX11_pageOf_27 : decode cX11_pageOf 27 = .ok (.iadd, 1) := dec_at dlX11_pageOf_0_ok 19 rfl
theorem dX11_pageOf_28 : decode cX11_pageOf 28 = .ok (.dup2, 1) := dec_at dlX11_pageOf_0_ok 20 rfl
theorem dX11_pageOf_29 : decode cX11_pageOf 29 = .ok (.iaload, 1) := dec_at dlX11_pageOf_0_ok 21 rfl
theorem dX11_pageOf_30 : decode cX11_pageOf 30 = .ok (.iload_n 3, 1) := dec_at dlX11_pageOf_0_ok 22 rfl
theorem dX11_pageOf_31 : decode cX11_pageOf 31 = .ok (.ifCond .eq 7, 3) := dec_at dlX11_pageOf_0_ok 23 rfl
theorem dX11_pageOf_34 : decode cX11_pageOf 34 = .ok (.iconst 1, 1) := dec_at dlX11_pageOf_0_ok 24 rfl
theorem dX11_pageOf_35 : decode cX11_pageOf 35 = .ok (.goto 4, 3) := dec_at dlX11_pageOf_0_ok 25 rfl
theorem dX11_pageOf_38 : decode cX11_pageOf 38 = .ok (.iconst 0, 1) := dec_at dlX11_pageOf_0_ok 26 rfl
theorem dX11_pageOf_39 : decode cX11_pageOf 39 = .ok (.iadd, 1) := dec_at dlX11_pageOf_0_ok 27 rfl
theorem dX11_pageOf_40 : decode cX11_pageOf 40 = .ok (.iastore, 1) := dec_at dlX11_pageOf_0_ok 28 rfl
theorem dX11_pageOf_41 : decode cX11_pageOf 41 = .ok (.return_, 1) := dec_at dlX11_pageOf_0_ok 29 rfl
noncomputable def dlX11_isBlunt_0 : List (Nat × Instr × Nat) := [(0, .aload_n 0, 1), (1, .getfield 28, 3), (4, .bipush 33, 2), (6, .iaload, 1), (7, .aload_n 0, 1), (8, .getfield 96, 3), (11, .if_icmp .lt 7, 3), (14, .iconst 1, 1), (15, .goto 4, 3), (18, .iconst 0, 1), (19, .ireturn, 1)]
theorem dlX11_isBlunt_0_ok : dlX11_isBlunt_0.all (fun r => decide (decode cX11_isBlunt r.1 = .ok r.2)) = true := by decide +kernel
theorem dX11_isBlunt_0 : decode cX11_isBlunt 0 = .ok (.aload_n 0, 1) := dec_at dlX11_isBlunt_0_ok 0 rfl
theorem dX11_isBlunt_1 : decode cX11_isBlunt 1 = .ok (.getfield 28, 3) := dec_at dlX11_isBlunt_0_ok 1 rfl
theorem dX11_isBlunt_4 : decode cX11_isBlunt 4 = .ok (.bipush 33, 2) := dec_at dlX11_isBlunt_0_ok 2 rfl
theorem dX11_isBlunt_6 : decode cX11_isBlunt 6 = .ok (.iaload, 1) := dec_at dlX11_isBlunt_0_ok 3 rfl
theorem dX11_isBlunt_7 : decode cX11_isBlunt 7 = .ok (.aload_n 0, 1) := dec_at dlX11_isBlunt_0_ok 4 rfl
theorem dX11_isBlunt_8 : decode cX11_isBlunt 8 = .ok (.getfield 96, 3) := dec_at dlX11_isBlunt_0_ok 5 rfl
theorem dX11_isBlunt_11 : decode cX11_isBlunt 11 = .ok (.if_icmp .lt 7, 3) := dec_at dlX11_isBlunt_0_ok 6 rfl
theorem dX11_isBlunt_14 : decode cX11_isBlunt 14 = .ok (.iconst 1, 1) := dec_at dlX11_isBlunt_0_ok 7 rfl
theorem dX11_isBlunt_15 : decode cX11_isBlunt 15 = .ok (.goto 4, 3) := dec_at dlX11_isBlunt_0_ok 8 rfl
theorem dX11_isBlunt_18 : decode cX11_isBlunt 18 = .ok (.iconst 0, 1) := dec_at dlX11_isBlunt_0_ok 9 rfl
theorem dX11_isBlunt_19 : decode cX11_isBlunt 19 = .ok (.ireturn, 1) := dec_at dlX11_isBlunt_0_ok 10 rfl
set_option maxRecDepth 20000 in
theorem ggX11_mayMend_X11_isBlunt : GoodIn wsX11_mayMend wsX11_isBlunt := goodIn_s _ [(6, 1), (1, 1), (7, 47)] rfl (by decide +kernel)
set_option maxRecDepth 20000 in
theorem gX11_mayMend_X11_isBlunt : GoodIn wsX11_mayMend (wsV RX11 211 RX11 yX11_isBlunt wsX11_isBlunt) := goodIn_app (goodIn_s _ [(2, 4)] rfl (by decide +kernel)) ggX11_mayMend_X11_isBlunt
noncomputable def dlX11_mayMend_0 : List (Nat × Instr × Nat) := [(0, .aload_n 0, 1), (1, .getfield 28, 3), (4, .iload_n 1, 1), (5, .iaload, 1), (6, .aload_n 0, 1), (7, .invokevirtual 211, 3), (10, .ifCond .eq 8, 3), (13, .bipush 9, 2), (15, .goto 4, 3), (18, .iconst 5, 1), (19, .if_icmp .lt 7, 3), (22, .iconst 1, 1), (23, .goto 4, 3), (26, .iconst 0, 1), (27, .ireturn, 1)]
theorem dlX11_mayMend_0_ok : dlX11_mayMend_0.all (fun r => decide (decode cX11_mayMend r.1 = .ok r.2)) = true := by decide +kernel
theorem dX11_mayMend_0 : decode cX11_mayMend 0 = .ok (.aload_n 0, 1) := dec_at dlX11_mayMend_0_ok 0 rfl
theorem dX11_mayMend_1 : decode cX11_mayMend 1 = .ok (.getfield 28, 3) := dec_at dlX11_mayMend_0_ok 1 rfl
theorem dX11_mayMend_4 : decode cX11_mayMend 4 = .ok (.iload_n 1, 1) := dec_at dlX11_mayMend_0_ok 2 rfl
theorem dX11_mayMend_5 : decode cX11_mayMend 5 = .ok (.iaload, 1) := dec_at dlX11_mayMend_0_ok 3 rfl
theorem dX11_mayMend_6 : decode cX11_mayMend 6 = .ok (.aload_n 0, 1) := dec_at dlX11_mayMend_0_ok 4 rfl
theorem dX11_mayMend_7 : decode cX11_mayMend 7 = .ok (.invokevirtual 211, 3) := dec_at dlX11_mayMend_0_ok 5 rfl
theorem dX11_mayMend_10 : decode cX11_mayMend 10 = .ok (.ifCond .eq 8, 3) := dec_at dlX11_mayMend_0_ok 6 rfl
theorem dX11_mayMend_13 : decode cX11_mayMend 13 = .ok (.bipush 9, 2) := dec_at dlX11_mayMend_0_ok 7 rfl
theorem dX11_mayMend_15 : decode cX11_mayMend 15 = .ok (.goto 4, 3) := dec_at dlX11_mayMend_0_ok 8 rfl
theorem dX11_mayMend_18 : decode cX11_mayMend 18 = .ok (.iconst 5, 1) := dec_at dlX11_mayMend_0_ok 9 rfl
theorem dX11_mayMend_19 : decode cX11_mayMend 19 = .ok (.if_icmp .lt 7, 3) := dec_at dlX11_mayMend_0_ok 10 rfl
theorem dX11_mayMend_22 : decode cX11_mayMend 22 = .ok (.iconst 1, 1) := dec_at dlX11_mayMend_0_ok 11 rfl
theorem dX11_mayMend_23 : decode cX11_mayMend 23 = .ok (.goto 4, 3) := dec_at dlX11_mayMend_0_ok 12 rfl
theorem dX11_mayMend_26 : decode cX11_mayMend 26 = .ok (.iconst 0, 1) := dec_at dlX11_mayMend_0_ok 13 rfl
theorem dX11_mayMend_27 : decode cX11_mayMend 27 = .ok (.ireturn, 1) := dec_at dlX11_mayMend_0_ok 14 rfl
noncomputable def dlX11_broadenNow_0 : List (Nat × Instr × Nat) := [(0, .aload_n 0, 1), (1, .getfield 28, 3), (4, .bipush 8, 2), (6, .iload_n 1, 1), (7, .iadd, 1), (8, .aload_n 0, 1), (9, .getfield 28, 3), (12, .bipush 8, 2), (14, .iload_n 1, 1), (15, .iadd, 1), (16, .iaload, 1), (17, .bipush 9, 2), (19, .if_icmp .ge 17, 3), (22, .aload_n 0, 1), (23, .getfield 28, 3), (26, .bipush 8, 2), (28, .iload_n 1, 1), (29, .iadd, 1), (30, .iaload, 1), (31, .iconst 1, 1), (32, .iadd, 1), (33, .goto 5, 3), (36, .bipush 9, 2), (38, .iastore, 1), (39, .return_, 1)]
theorem dlX11_broadenNow_0_ok : dlX11_broadenNow_0.all (fun r => decide (decode cX11_broadenNow r.1 = .ok r.2)) = true := by decide +kernel
theorem dX11_broadenNow_0 : decode cX11_broadenNow 0 = .ok (.aload_n 0, 1) := dec_at dlX11_broadenNow_0_ok 0 rfl
theorem dX11_broadenNow_1 : decode cX11_broadenNow 1 = .ok (.getfield 28, 3) := dec_at dlX11_broadenNow_0_ok 1 rfl
theorem dX11_broadenNow_4 : decode cX11_broadenNow 4 = .ok (.bipush 8, 2) := dec_at dlX11_broadenNow_0_ok 2 rfl
theorem dX11_broadenNow_6 : decode cX11_broadenNow 6 = .ok (.iload_n 1, 1) := dec_at dlX11_broadenNow_0_ok 3 rfl
theorem dX11_broadenNow_7 : decode cX11_broadenNow 7 = .ok (.iadd, 1) := dec_at dlX11_broadenNow_0_ok 4 rfl
theorem dX11_broadenNow_8 : decode cX11_broadenNow 8 = .ok (.aload_n 0, 1) := dec_at dlX11_broadenNow_0_ok 5 rfl
theorem dX11_broadenNow_9 : decode cX11_broadenNow 9 = .ok (.getfield 28, 3) := dec_at dlX11_broadenNow_0_ok 6 rfl
theorem dX11_broadenNow_12 : decode cX11_broadenNow 12 = .ok (.bipush 8, 2) := dec_at dlX11_broadenNow_0_ok 7 rfl
theorem dX11_broadenNow_14 : decode cX11_broadenNow 14 = .ok (.iload_n 1, 1) := dec_at dlX11_broadenNow_0_ok 8 rfl
theorem dX11_broadenNow_15 : decode cX11_broadenNow 15 = .ok (.iadd, 1) := dec_at dlX11_broadenNow_0_ok 9 rfl
theorem dX11_broadenNow_16 : decode cX11_broadenNow 16 = .ok (.iaload, 1) := dec_at dlX11_broadenNow_0_ok 10 rfl
theorem dX11_broadenNow_17 : decode cX11_broadenNow 17 = .ok (.bipush 9, 2) := dec_at dlX11_broadenNow_0_ok 11 rfl
theorem dX11_broadenNow_19 : decode cX11_broadenNow 19 = .ok (.if_icmp .ge 17, 3) := dec_at dlX11_broadenNow_0_ok 12 rfl
theorem dX11_broadenNow_22 : decode cX11_broadenNow 22 = .ok (.aload_n 0, 1) := dec_at dlX11_broadenNow_0_ok 13 rfl
theorem dX11_broadenNow_23 : decode cX11_broadenNow 23 = .ok (.getfield 28, 3) := dec_at dlX11_broadenNow_0_ok 14 rfl
theorem dX11_broadenNow_26 : decode cX11_broadenNow 26 = .ok (.bipush 8, 2) := dec_at dlX11_broadenNow_0_ok 15 rfl
theorem dX11_broadenNow_28 : decode cX11_broadenNow 28 = .ok (.iload_n 1, 1) := dec_at dlX11_broadenNow_0_ok 16 rfl
theorem dX11_broadenNow_29 : decode cX11_broadenNow 29 = .ok (.iadd, 1) := dec_at dlX11_broadenNow_0_ok 17 rfl
theorem dX11_broadenNow_30 : decode cX11_broadenNow 30 = .ok (.iaload, 1) := dec_at dlX11_broadenNow_0_ok 18 rfl
theorem dX11_broadenNow_31 : decode cX11_broadenNow 31 = .ok (.iconst 1, 1) := dec_at dlX11_broadenNow_0_ok 19 rfl
theorem dX11_broadenNow_32 : decode cX11_broadenNow 32 = .ok (.iadd, 1) := dec_at dlX11_broadenNow_0_ok 20 rfl
theorem dX11_broadenNow_33 : decode cX11_broadenNow 33 = .ok (.goto 5, 3) := dec_at dlX11_broadenNow_0_ok 21 rfl
theorem dX11_broadenNow_36 : decode cX11_broadenNow 36 = .ok (.bipush 9, 2) := dec_at dlX11_broadenNow_0_ok 22 rfl
theorem dX11_broadenNow_38 : decode cX11_broadenNow 38 = .ok (.iastore, 1) := dec_at dlX11_broadenNow_0_ok 23 rfl
theorem dX11_broadenNow_39 : decode cX11_broadenNow 39 = .ok (.return_, 1) := dec_at dlX11_broadenNow_0_ok 24 rfl
set_option maxRecDepth 20000 in
theorem ggX11_mendNow_X11_isBlunt : GoodIn wsX11_mendNow wsX11_isBlunt := goodIn_s _ [(7, 1), (1, 1), (8, 1), (13, 46)] rfl (by decide +kernel)
set_option maxRecDepth 20000 in
theorem gX11_mendNow_X11_isBlunt : GoodIn wsX11_mendNow (wsV RX11 211 RX11 yX11_isBlunt wsX11_isBlunt) := goodIn_app (goodIn_s _ [(3, 4)] rfl (by decide +kernel)) ggX11_mendNow_X11_isBlunt
set_option maxRecDepth 20000 in
theorem ggX11_mendNow_X11_broadenNow : GoodIn wsX11_mendNow wsX11_broadenNow := goodIn_s _ [(12, 1), (1, 1), (13, 46)] rfl (by decide +kernel)
set_option maxRecDepth 20000 in
theorem gX11_mendNow_X11_broadenNow : GoodIn wsX11_mendNow (wsV RX11 215 RX11 yX11_broadenNow wsX11_broadenNow) := goodIn_app (goodIn_s _ [(9, 3), (6, 1)] rfl (by decide +kernel)) ggX11_mendNow_X11_broadenNow
noncomputable def dlX11_mendNow_0 : List (Nat × Instr × Nat) := [(0, .aload_n 0, 1), (1, .invokevirtual 211, 3), (4, .istore_n 2, 1), (5, .aload_n 0, 1), (6, .getfield 28, 3), (9, .iload_n 1, 1), (10, .dup2, 1), (11, .iaload, 1), (12, .iload_n 2, 1), (13, .ifCond .eq 8, 3), (16, .bipush 9, 2), (18, .goto 4, 3), (21, .iconst 5, 1), (22, .isub, 1), (23, .iastore, 1), (24, .iload_n 2, 1), (25, .ifCond .eq 8, 3), (28, .aload_n 0, 1), (29, .iload_n 1, 1), (30, .invokevirtual 215, 3), (33, .aload_n 0, 1), (34, .getfield 28, 3), (37, .bipush 16, 2), (39, .iload_n 1, 1), (40, .iadd, 1), (41, .iconst 0, 1), (42, .iastore, 1), (43, .aload_n 0, 1), (44, .getfield 28, 3), (47, .bipush 33, 2), (49, .dup2, 1)]
theorem dlX11_mendNow_0_ok : dlX11_mendNow_0.all (fun r => decide (decode cX11_mendNow r.1 = .ok r.2)) = true := by decide +kernel
theorem dX11_mendNow_0 : decode cX11_mendNow 0 = .ok (.aload_n 0, 1) := dec_at dlX11_mendNow_0_ok 0 rfl
theorem dX11_mendNow_1 : decode cX11_mendNow 1 = .ok (.invokevirtual 211, 3) := dec_at dlX11_mendNow_0_ok 1 rfl
theorem dX11_mendNow_4 : decode cX11_mendNow 4 = .ok (.istore_n 2, 1) := dec_at dlX11_mendNow_0_ok 2 rfl
theorem dX11_mendNow_5 : decode cX11_mendNow 5 = .ok (.aload_n 0, 1) := dec_at dlX11_mendNow_0_ok 3 rfl
theorem dX11_mendNow_6 : decode cX11_mendNow 6 = .ok (.getfield 28, 3) := dec_at dlX11_mendNow_0_ok 4 rfl
theorem dX11_mendNow_9 : decode cX11_mendNow 9 = .ok (.iload_n 1, 1) := dec_at dlX11_mendNow_0_ok 5 rfl
theorem dX11_mendNow_10 : decode cX11_mendNow 10 = .ok (.dup2, 1) := dec_at dlX11_mendNow_0_ok 6 rfl
theorem dX11_mendNow_11 : decode cX11_mendNow 11 = .ok (.iaload, 1) := dec_at dlX11_mendNow_0_ok 7 rfl
theorem dX11_mendNow_12 : decode cX11_mendNow 12 = .ok (.iload_n 2, 1) := dec_at dlX11_mendNow_0_ok 8 rfl
theorem dX11_mendNow_13 : decode cX11_mendNow 13 = .ok (.ifCond .eq 8, 3) := dec_at dlX11_mendNow_0_ok 9 rfl
theorem dX11_mendNow_16 : decode cX11_mendNow 16 = .ok (.bipush 9, 2) := dec_at dlX11_mendNow_0_ok 10 rfl
theorem dX11_mendNow_18 : decode cX11_mendNow 18 = .ok (.goto 4, 3) := dec_at dlX11_mendNow_0_ok 11 rfl
theorem dX11_mendNow_21 : decode cX11_mendNow 21 = .ok (.iconst 5, 1) := dec_at dlX11_mendNow_0_ok 12 rfl
theorem dX11_mendNow_22 : decode cX11_mendNow 22 = .ok (.isub, 1) := dec_at dlX11_mendNow_0_ok 13 rfl
theorem dX11_mendNow_23 : decode cX11_mendNow 23 = .ok (.iastore, 1) := dec_at dlX11_mendNow_0_ok 14 rfl
theorem dX11_mendNow_24 : decode cX11_mendNow 24 = .ok (.iload_n 2, 1) := dec_at dlX11_mendNow_0_ok 15 rfl
theorem dX11_mendNow_25 : decode cX11_mendNow 25 = .ok (.ifCond .eq 8, 3) := dec_at dlX11_mendNow_0_ok 16 rfl
theorem dX11_mendNow_28 : decode cX11_mendNow 28 = .ok (.aload_n 0, 1) := dec_at dlX11_mendNow_0_ok 17 rfl
theorem dX11_mendNow_29 : decode cX11_mendNow 29 = .ok (.iload_n 1, 1) := dec_at dlX11_mendNow_0_ok 18 rfl
theorem dX11_mendNow_30 : decode cX11_mendNow 30 = .ok (.invokevirtual 215, 3) := dec_at dlX11_mendNow_0_ok 19 rfl
theorem dX11_mendNow_33 : decode cX11_mendNow 33 = .ok (.aload_n 0, 1) := dec_at dlX11_mendNow_0_ok 20 rfl
theorem dX11_mendNow_34 : decode cX11_mendNow 34 = .ok (.getfield 28, 3) := dec_at dlX11_mendNow_0_ok 21 rfl
theorem dX11_mendNow_37 : decode cX11_mendNow 37 = .ok (.bipush 16, 2) := dec_at dlX11_mendNow_0_ok 22 rfl
theorem dX11_mendNow_39 : decode cX11_mendNow 39 = .ok (.iload_n 1, 1) := dec_at dlX11_mendNow_0_ok 23 rfl
theorem dX11_mendNow_40 : decode cX11_mendNow 40 = .ok (.iadd, 1) := dec_at dlX11_mendNow_0_ok 24 rfl
theorem dX11_mendNow_41 : decode cX11_mendNow 41 = .ok (.iconst 0, 1) := dec_at dlX11_mendNow_0_ok 25 rfl
theorem dX11_mendNow_42 : decode cX11_mendNow 42 = .ok (.iastore, 1) := dec_at dlX11_mendNow_0_ok 26 rfl
theorem dX11_mendNow_43 : decode cX11_mendNow 43 = .ok (.aload_n 0, 1) := dec_at dlX11_mendNow_0_ok 27 rfl
theorem dX11_mendNow_44 : decode cX11_mendNow 44 = .ok (.getfield 28, 3) := dec_at dlX11_mendNow_0_ok 28 rfl
theorem dX11_mendNow_47 : decode cX11_mendNow 47 = .ok (.bipush 33, 2) := dec_at dlX11_mendNow_0_ok 29 rfl
theorem dX11_mendNow_49 : decode cX11_mendNow 49 = .ok (.dup2, 1) := dec_at dlX11_mendNow_0_ok 30 rfl
noncomputable def dlX11_mendNow_50 : List (Nat × Instr × Nat) := [(50, .iaload, 1), (51, .iconst 1, 1), (52, .iadd, 1), (53, .iastore, 1), (54, .aload_n 0, 1), (55, .getfield 28, 3), (58, .bipush 32, 2), (60, .dup2, 1), (61, .iaload, 1), (62, .aload_n 0, 1), (63, .getfield 159, 3), (66, .iadd, 1), (67, .iastore, 1), (68, .return_, 1)]
theorem dlX11_mendNow_50_ok : dlX11_mendNow_50.all (fun r => decide (decode cX11_mendNow r.1 = .ok r.2)) = true := by decide +kernel
theorem dX11_mendNow_50 : decode cX11_mendNow 50 = .ok (.iaload, 1) := dec_at dlX11_mendNow_50_ok 0 rfl
theorem dX11_mendNow_51 : decode cX11_mendNow 51 = .ok (.iconst 1, 1) := dec_at dlX11_mendNow_50_ok 1 rfl
theorem dX11_mendNow_52 : decode cX11_mendNow 52 = .ok (.iadd, 1) := dec_at dlX11_mendNow_50_ok 2 rfl
theorem dX11_mendNow_53 : decode cX11_mendNow 53 = .ok (.iastore, 1) := dec_at dlX11_mendNow_50_ok 3 rfl
theorem dX11_mendNow_54 : decode cX11_mendNow 54 = .ok (.aload_n 0, 1) := dec_at dlX11_mendNow_50_ok 4 rfl
theorem dX11_mendNow_55 : decode cX11_mendNow 55 = .ok (.getfield 28, 3) := dec_at dlX11_mendNow_50_ok 5 rfl
theorem dX11_mendNow_58 : decode cX11_mendNow 58 = .ok (.bipush 32, 2) := dec_at dlX11_mendNow_50_ok 6 rfl
theorem dX11_mendNow_60 : decode cX11_mendNow 60 = .ok (.dup2, 1) := dec_at dlX11_mendNow_50_ok 7 rfl
theorem dX11_mendNow_61 : decode cX11_mendNow 61 = .ok (.iaload, 1) := dec_at dlX11_mendNow_50_ok 8 rfl
theorem dX11_mendNow_62 : decode cX11_mendNow 62 = .ok (.aload_n 0, 1) := dec_at dlX11_mendNow_50_ok 9 rfl
theorem dX11_mendNow_63 : decode cX11_mendNow 63 = .ok (.getfield 159, 3) := dec_at dlX11_mendNow_50_ok 10 rfl
theorem dX11_mendNow_66 : decode cX11_mendNow 66 = .ok (.iadd, 1) := dec_at dlX11_mendNow_50_ok 11 rfl
theorem dX11_mendNow_67 : decode cX11_mendNow 67 = .ok (.iastore, 1) := dec_at dlX11_mendNow_50_ok 12 rfl
theorem dX11_mendNow_68 : decode cX11_mendNow 68 = .ok (.return_, 1) := dec_at dlX11_mendNow_50_ok 13 rfl
noncomputable def dlX11_remember_0 : List (Nat × Instr × Nat) := [(0, .aload_n 0, 1), (1, .getfield 174, 3), (4, .bipush 20, 2), (6, .if_icmp .ne 44, 3), (9, .bipush 34, 2), (11, .istore_n 1, 1), (12, .iload_n 1, 1), (13, .sipush 680, 3), (16, .if_icmp .ge 24, 3), (19, .aload_n 0, 1), (20, .getfield 65, 3), (23, .iload_n 1, 1), (24, .bipush 34, 2), (26, .isub, 1), (27, .aload_n 0, 1), (28, .getfield 65, 3), (31, .iload_n 1, 1), (32, .iaload, 1), (33, .iastore, 1), (34, .iinc 1 1, 3), (37, .goto (-25), 3), (40, .aload_n 0, 1), (41, .dup, 1), (42, .getfield 174, 3), (45, .iconst 1, 1), (46, .isub, 1), (47, .putfield 174, 3), (50, .iconst 0, 1), (51, .istore_n 1, 1), (52, .iload_n 1, 1), (53, .bipush 34, 2)]
theorem dlX11_remember_0_ok : dlX11_remember_0.all (fun r => decide (decode cX11_remember r.1 = .ok r.2)) = true := by decide +kernel
theorem dX11_remember_0 : decode cX11_remember 0 = .ok (.aload_n 0, 1) := dec_at dlX11_remember_0_ok 0 rfl
theorem dX11_remember_1 : decode cX11_remember 1 = .ok (.getfield 174, 3) := dec_at dlX11_remember_0_ok 1 rfl
theorem dX11_remember_4 : decode cX11_remember 4 = .ok (.bipush 20, 2) := dec_at dlX11_remember_0_ok 2 rfl
theorem dX11_remember_6 : decode cX11_remember 6 = .ok (.if_icmp .ne 44, 3) := dec_at dlX11_remember_0_ok 3 rfl
theorem dX11_remember_9 : decode cX11_remember 9 = .ok (.bipush 34, 2) := dec_at dlX11_remember_0_ok 4 rfl
theorem dX11_remember_11 : decode cX11_remember 11 = .ok (.istore_n 1, 1) := dec_at dlX11_remember_0_ok 5 rfl
theorem dX11_remember_12 : decode cX11_remember 12 = .ok (.iload_n 1, 1) := dec_at dlX11_remember_0_ok 6 rfl
theorem dX11_remember_13 : decode cX11_remember 13 = .ok (.sipush 680, 3) := dec_at dlX11_remember_0_ok 7 rfl
theorem dX11_remember_16 : decode cX11_remember 16 = .ok (.if_icmp .ge 24, 3) := dec_at dlX11_remember_0_ok 8 rfl
theorem dX11_remember_19 : decode cX11_remember 19 = .ok (.aload_n 0, 1) := dec_at dlX11_remember_0_ok 9 rfl
theorem dX11_remember_20 : decode cX11_remember 20 = .ok (.getfield 65, 3) := dec_at dlX11_remember_0_ok 10 rfl
theorem dX11_remember_23 : decode cX11_remember 23 = .ok (.iload_n 1, 1) := dec_at dlX11_remember_0_ok 11 rfl
theorem dX11_remember_24 : decode cX11_remember 24 = .ok (.bipush 34, 2) := dec_at dlX11_remember_0_ok 12 rfl
theorem dX11_remember_26 : decode cX11_remember 26 = .ok (.isub, 1) := dec_at dlX11_remember_0_ok 13 rfl
theorem dX11_remember_27 : decode cX11_remember 27 = .ok (.aload_n 0, 1) := dec_at dlX11_remember_0_ok 14 rfl
theorem dX11_remember_28 : decode cX11_remember 28 = .ok (.getfield 65, 3) := dec_at dlX11_remember_0_ok 15 rfl
theorem dX11_remember_31 : decode cX11_remember 31 = .ok (.iload_n 1, 1) := dec_at dlX11_remember_0_ok 16 rfl
theorem dX11_remember_32 : decode cX11_remember 32 = .ok (.iaload, 1) := dec_at dlX11_remember_0_ok 17 rfl
theorem dX11_remember_33 : decode cX11_remember 33 = .ok (.iastore, 1) := dec_at dlX11_remember_0_ok 18 rfl
theorem dX11_remember_34 : decode cX11_remember 34 = .ok (.iinc 1 1, 3) := dec_at dlX11_remember_0_ok 19 rfl
theorem dX11_remember_37 : decode cX11_remember 37 = .ok (.goto (-25), 3) := dec_at dlX11_remember_0_ok 20 rfl
theorem dX11_remember_40 : decode cX11_remember 40 = .ok (.aload_n 0, 1) := dec_at dlX11_remember_0_ok 21 rfl
theorem dX11_remember_41 : decode cX11_remember 41 = .ok (.dup, 1) := dec_at dlX11_remember_0_ok 22 rfl
theorem dX11_remember_42 : decode cX11_remember 42 = .ok (.getfield 174, 3) := dec_at dlX11_remember_0_ok 23 rfl
theorem dX11_remember_45 : decode cX11_remember 45 = .ok (.iconst 1, 1) := dec_at dlX11_remember_0_ok 24 rfl
theorem dX11_remember_46 : decode cX11_remember 46 = .ok (.isub, 1) := dec_at dlX11_remember_0_ok 25 rfl
theorem dX11_remember_47 : decode cX11_remember 47 = .ok (.putfield 174, 3) := dec_at dlX11_remember_0_ok 26 rfl
theorem dX11_remember_50 : decode cX11_remember 50 = .ok (.iconst 0, 1) := dec_at dlX11_remember_0_ok 27 rfl
theorem dX11_remember_51 : decode cX11_remember 51 = .ok (.istore_n 1, 1) := dec_at dlX11_remember_0_ok 28 rfl
theorem dX11_remember_52 : decode cX11_remember 52 = .ok (.iload_n 1, 1) := dec_at dlX11_remember_0_ok 29 rfl
theorem dX11_remember_53 : decode cX11_remember 53 = .ok (.bipush 34, 2) := dec_at dlX11_remember_0_ok 30 rfl
noncomputable def dlX11_remember_55 : List (Nat × Instr × Nat) := [(55, .if_icmp .ge 29, 3), (58, .aload_n 0, 1), (59, .getfield 65, 3), (62, .bipush 34, 2), (64, .aload_n 0, 1), (65, .getfield 174, 3), (68, .imul, 1), (69, .iload_n 1, 1), (70, .iadd, 1), (71, .aload_n 0, 1), (72, .getfield 28, 3), (75, .iload_n 1, 1), (76, .iaload, 1), (77, .iastore, 1), (78, .iinc 1 1, 3), (81, .goto (-29), 3), (84, .aload_n 0, 1), (85, .dup, 1), (86, .getfield 174, 3), (89, .iconst 1, 1), (90, .iadd, 1), (91, .putfield 174, 3), (94, .return_, 1)]
theorem dlX11_remember_55_ok : dlX11_remember_55.all (fun r => decide (decode cX11_remember r.1 = .ok r.2)) = true := by decide +kernel
theorem dX11_remember_55 : decode cX11_remember 55 = .ok (.if_icmp .ge 29, 3) := dec_at dlX11_remember_55_ok 0 rfl
theorem dX11_remember_58 : decode cX11_remember 58 = .ok (.aload_n 0, 1) := dec_at dlX11_remember_55_ok 1 rfl
theorem dX11_remember_59 : decode cX11_remember 59 = .ok (.getfield 65, 3) := dec_at dlX11_remember_55_ok 2 rfl
theorem dX11_remember_62 : decode cX11_remember 62 = .ok (.bipush 34, 2) := dec_at dlX11_remember_55_ok 3 rfl
theorem dX11_remember_64 : decode cX11_remember 64 = .ok (.aload_n 0, 1) := dec_at dlX11_remember_55_ok 4 rfl
theorem dX11_remember_65 : decode cX11_remember 65 = .ok (.getfield 174, 3) := dec_at dlX11_remember_55_ok 5 rfl
theorem dX11_remember_68 : decode cX11_remember 68 = .ok (.imul, 1) := dec_at dlX11_remember_55_ok 6 rfl
theorem dX11_remember_69 : decode cX11_remember 69 = .ok (.iload_n 1, 1) := dec_at dlX11_remember_55_ok 7 rfl
theorem dX11_remember_70 : decode cX11_remember 70 = .ok (.iadd, 1) := dec_at dlX11_remember_55_ok 8 rfl
theorem dX11_remember_71 : decode cX11_remember 71 = .ok (.aload_n 0, 1) := dec_at dlX11_remember_55_ok 9 rfl
theorem dX11_remember_72 : decode cX11_remember 72 = .ok (.getfield 28, 3) := dec_at dlX11_remember_55_ok 10 rfl
theorem dX11_remember_75 : decode cX11_remember 75 = .ok (.iload_n 1, 1) := dec_at dlX11_remember_55_ok 11 rfl
theorem dX11_remember_76 : decode cX11_remember 76 = .ok (.iaload, 1) := dec_at dlX11_remember_55_ok 12 rfl
theorem dX11_remember_77 : decode cX11_remember 77 = .ok (.iastore, 1) := dec_at dlX11_remember_55_ok 13 rfl
theorem dX11_remember_78 : decode cX11_remember 78 = .ok (.iinc 1 1, 3) := dec_at dlX11_remember_55_ok 14 rfl
theorem dX11_remember_81 : decode cX11_remember 81 = .ok (.goto (-29), 3) := dec_at dlX11_remember_55_ok 15 rfl
theorem dX11_remember_84 : decode cX11_remember 84 = .ok (.aload_n 0, 1) := dec_at dlX11_remember_55_ok 16 rfl
theorem dX11_remember_85 : decode cX11_remember 85 = .ok (.dup, 1) := dec_at dlX11_remember_55_ok 17 rfl
theorem dX11_remember_86 : decode cX11_remember 86 = .ok (.getfield 174, 3) := dec_at dlX11_remember_55_ok 18 rfl
theorem dX11_remember_89 : decode cX11_remember 89 = .ok (.iconst 1, 1) := dec_at dlX11_remember_55_ok 19 rfl
theorem dX11_remember_90 : decode cX11_remember 90 = .ok (.iadd, 1) := dec_at dlX11_remember_55_ok 20 rfl
theorem dX11_remember_91 : decode cX11_remember 91 = .ok (.putfield 174, 3) := dec_at dlX11_remember_55_ok 21 rfl
theorem dX11_remember_94 : decode cX11_remember 94 = .ok (.return_, 1) := dec_at dlX11_remember_55_ok 22 rfl
set_option maxRecDepth 20000 in
theorem ggX11_write_X11_isQuill : GoodIn wsX11_write wsX11_isQuill := goodIn_s _ [(11, 4), (10, 1), (15, 1), (58, 46)] rfl (by decide +kernel)
set_option maxRecDepth 20000 in
theorem gX11_write_X11_isQuill : GoodIn wsX11_write (wsV RX11 184 RX11 yX11_isQuill wsX11_isQuill) := goodIn_app (goodIn_s _ [(7, 4)] rfl (by decide +kernel)) ggX11_write_X11_isQuill
set_option maxRecDepth 20000 in
theorem ggX11_write_X11_isHand : GoodIn wsX11_write wsX11_isHand := goodIn_s _ [(19, 2), (13, 2), (10, 1), (15, 1), (58, 46)] rfl (by decide +kernel)
set_option maxRecDepth 20000 in
theorem gX11_write_X11_isHand : GoodIn wsX11_write (wsV RX11 192 RX11 yX11_isHand wsX11_isHand) := goodIn_app (goodIn_s _ [(16, 3), (10, 1)] rfl (by decide +kernel)) ggX11_write_X11_isHand
set_option maxRecDepth 20000 in
theorem ggX11_write_X11_in : GoodIn wsX11_write wsX11_in := goodIn_s _ [(15, 1)] rfl (by decide +kernel)
set_option maxRecDepth 20000 in
theorem gX11_write_X11_in : GoodIn wsX11_write (va_wsS RX11 102 yX11_in wsX11_in) := goodIn_app (goodIn_s _ [(13, 2), (10, 1)] rfl (by decide +kernel)) ggX11_write_X11_in
set_option maxRecDepth 20000 in
theorem ggX11_write_X11_remember : GoodIn wsX11_write wsX11_remember := goodIn_s _ [(24, 3), (4, 1), (58, 46)] rfl (by decide +kernel)
set_option maxRecDepth 20000 in
theorem gX11_write_X11_remember : GoodIn wsX11_write (wsV RX11 222 RX11 yX11_remember wsX11_remember) := goodIn_app (goodIn_s _ [(21, 3), (10, 1)] rfl (by decide +kernel)) ggX11_write_X11_remember
set_option maxRecDepth 20000 in
theorem ggX11_write_X11_pageOf : GoodIn wsX11_write wsX11_pageOf := goodIn_s _ [(30, 1), (4, 1), (31, 3), (10, 1), (34, 24), (13, 3), (58, 46)] rfl (by decide +kernel)
set_option maxRecDepth 20000 in
theorem gX11_write_X11_pageOf : GoodIn wsX11_write (wsV RX11 225 RX11 yX11_pageOf wsX11_pageOf) := goodIn_app (goodIn_s _ [(27, 3), (10, 1)] rfl (by decide +kernel)) ggX11_write_X11_pageOf
noncomputable def dlX11_write_0 : List (Nat × Instr × Nat) := [(0, .aload_n 0, 1), (1, .iload_n 1, 1), (2, .invokevirtual 184, 3), (5, .ifCond .eq 11, 3), (8, .aload_n 0, 1), (9, .iload_n 2, 1), (10, .invokevirtual 192, 3), (13, .ifCond .ne 6, 3), (16, .ldc 188, 2), (18, .ireturn, 1), (19, .iload_n 3, 1), (20, .i2l, 1), (21, .lconst 1, 1), (22, .ldc2_w 219, 3), (25, .invokestatic 102, 3), (28, .ifCond .ne 6, 3), (31, .ldc 111, 2), (33, .ireturn, 1), (34, .aload_n 0, 1), (35, .getfield 28, 3), (38, .bipush 32, 2), (40, .iaload, 1), (41, .ldc 221, 2), (43, .if_icmp .le 6, 3), (46, .ldc 115, 2), (48, .ireturn, 1), (49, .aload_n 0, 1), (50, .invokevirtual 222, 3), (53, .aload_n 0, 1), (54, .getfield 28, 3), (57, .bipush 28, 2)]
theorem dlX11_write_0_ok : dlX11_write_0.all (fun r => decide (decode cX11_write r.1 = .ok r.2)) = true := by decide +kernel
theorem dX11_write_0 : decode cX11_write 0 = .ok (.aload_n 0, 1) := dec_at dlX11_write_0_ok 0 rfl
theorem dX11_write_1 : decode cX11_write 1 = .ok (.iload_n 1, 1) := dec_at dlX11_write_0_ok 1 rfl
theorem dX11_write_2 : decode cX11_write 2 = .ok (.invokevirtual 184, 3) := dec_at dlX11_write_0_ok 2 rfl
theorem dX11_write_5 : decode cX11_write 5 = .ok (.ifCond .eq 11, 3) := dec_at dlX11_write_0_ok 3 rfl
theorem dX11_write_8 : decode cX11_write 8 = .ok (.aload_n 0, 1) := dec_at dlX11_write_0_ok 4 rfl
theorem dX11_write_9 : decode cX11_write 9 = .ok (.iload_n 2, 1) := dec_at dlX11_write_0_ok 5 rfl
theorem dX11_write_10 : decode cX11_write 10 = .ok (.invokevirtual 192, 3) := dec_at dlX11_write_0_ok 6 rfl
theorem dX11_write_13 : decode cX11_write 13 = .ok (.ifCond .ne 6, 3) := dec_at dlX11_write_0_ok 7 rfl
theorem dX11_write_16 : decode cX11_write 16 = .ok (.ldc 188, 2) := dec_at dlX11_write_0_ok 8 rfl
theorem dX11_write_18 : decode cX11_write 18 = .ok (.ireturn, 1) := dec_at dlX11_write_0_ok 9 rfl
theorem dX11_write_19 : decode cX11_write 19 = .ok (.iload_n 3, 1) := dec_at dlX11_write_0_ok 10 rfl
theorem dX11_write_20 : decode cX11_write 20 = .ok (.i2l, 1) := dec_at dlX11_write_0_ok 11 rfl
theorem dX11_write_21 : decode cX11_write 21 = .ok (.lconst 1, 1) := dec_at dlX11_write_0_ok 12 rfl
theorem dX11_write_22 : decode cX11_write 22 = .ok (.ldc2_w 219, 3) := dec_at dlX11_write_0_ok 13 rfl
theorem dX11_write_25 : decode cX11_write 25 = .ok (.invokestatic 102, 3) := dec_at dlX11_write_0_ok 14 rfl
theorem dX11_write_28 : decode cX11_write 28 = .ok (.ifCond .ne 6, 3) := dec_at dlX11_write_0_ok 15 rfl
theorem dX11_write_31 : decode cX11_write 31 = .ok (.ldc 111, 2) := dec_at dlX11_write_0_ok 16 rfl
theorem dX11_write_33 : decode cX11_write 33 = .ok (.ireturn, 1) := dec_at dlX11_write_0_ok 17 rfl
theorem dX11_write_34 : decode cX11_write 34 = .ok (.aload_n 0, 1) := dec_at dlX11_write_0_ok 18 rfl
theorem dX11_write_35 : decode cX11_write 35 = .ok (.getfield 28, 3) := dec_at dlX11_write_0_ok 19 rfl
theorem dX11_write_38 : decode cX11_write 38 = .ok (.bipush 32, 2) := dec_at dlX11_write_0_ok 20 rfl
theorem dX11_write_40 : decode cX11_write 40 = .ok (.iaload, 1) := dec_at dlX11_write_0_ok 21 rfl
theorem dX11_write_41 : decode cX11_write 41 = .ok (.ldc 221, 2) := dec_at dlX11_write_0_ok 22 rfl
theorem dX11_write_43 : decode cX11_write 43 = .ok (.if_icmp .le 6, 3) := dec_at dlX11_write_0_ok 23 rfl
theorem dX11_write_46 : decode cX11_write 46 = .ok (.ldc 115, 2) := dec_at dlX11_write_0_ok 24 rfl
theorem dX11_write_48 : decode cX11_write 48 = .ok (.ireturn, 1) := dec_at dlX11_write_0_ok 25 rfl
theorem dX11_write_49 : decode cX11_write 49 = .ok (.aload_n 0, 1) := dec_at dlX11_write_0_ok 26 rfl
theorem dX11_write_50 : decode cX11_write 50 = .ok (.invokevirtual 222, 3) := dec_at dlX11_write_0_ok 27 rfl
theorem dX11_write_53 : decode cX11_write 53 = .ok (.aload_n 0, 1) := dec_at dlX11_write_0_ok 28 rfl
theorem dX11_write_54 : decode cX11_write 54 = .ok (.getfield 28, 3) := dec_at dlX11_write_0_ok 29 rfl
theorem dX11_write_57 : decode cX11_write 57 = .ok (.bipush 28, 2) := dec_at dlX11_write_0_ok 30 rfl
noncomputable def dlX11_write_59 : List (Nat × Instr × Nat) := [(59, .iload_n 2, 1), (60, .iadd, 1), (61, .iaload, 1), (62, .istore 4, 2), (64, .iconst 0, 1), (65, .istore 5, 2), (67, .iload 5, 2), (69, .iload_n 3, 1), (70, .if_icmp .ge 15, 3), (73, .aload_n 0, 1), (74, .iload_n 1, 1), (75, .iload_n 2, 1), (76, .invokevirtual 225, 3), (79, .iinc 5 1, 3), (82, .goto (-15), 3), (85, .aload_n 0, 1), (86, .getfield 28, 3), (89, .bipush 28, 2), (91, .iload_n 2, 1), (92, .iadd, 1), (93, .iaload, 1), (94, .iload 4, 2), (96, .isub, 1), (97, .ireturn, 1)]
theorem dlX11_write_59_ok : dlX11_write_59.all (fun r => decide (decode cX11_write r.1 = .ok r.2)) = true := by decide +kernel
theorem dX11_write_59 : decode cX11_write 59 = .ok (.iload_n 2, 1) := dec_at dlX11_write_59_ok 0 rfl
theorem dX11_write_60 : decode cX11_write 60 = .ok (.iadd, 1) := dec_at dlX11_write_59_ok 1 rfl
theorem dX11_write_61 : decode cX11_write 61 = .ok (.iaload, 1) := dec_at dlX11_write_59_ok 2 rfl
theorem dX11_write_62 : decode cX11_write 62 = .ok (.istore 4, 2) := dec_at dlX11_write_59_ok 3 rfl
theorem dX11_write_64 : decode cX11_write 64 = .ok (.iconst 0, 1) := dec_at dlX11_write_59_ok 4 rfl
theorem dX11_write_65 : decode cX11_write 65 = .ok (.istore 5, 2) := dec_at dlX11_write_59_ok 5 rfl
theorem dX11_write_67 : decode cX11_write 67 = .ok (.iload 5, 2) := dec_at dlX11_write_59_ok 6 rfl
theorem dX11_write_69 : decode cX11_write 69 = .ok (.iload_n 3, 1) := dec_at dlX11_write_59_ok 7 rfl
theorem dX11_write_70 : decode cX11_write 70 = .ok (.if_icmp .ge 15, 3) := dec_at dlX11_write_59_ok 8 rfl
theorem dX11_write_73 : decode cX11_write 73 = .ok (.aload_n 0, 1) := dec_at dlX11_write_59_ok 9 rfl
theorem dX11_write_74 : decode cX11_write 74 = .ok (.iload_n 1, 1) := dec_at dlX11_write_59_ok 10 rfl
theorem dX11_write_75 : decode cX11_write 75 = .ok (.iload_n 2, 1) := dec_at dlX11_write_59_ok 11 rfl
theorem dX11_write_76 : decode cX11_write 76 = .ok (.invokevirtual 225, 3) := dec_at dlX11_write_59_ok 12 rfl
theorem dX11_write_79 : decode cX11_write 79 = .ok (.iinc 5 1, 3) := dec_at dlX11_write_59_ok 13 rfl
theorem dX11_write_82 : decode cX11_write 82 = .ok (.goto (-15), 3) := dec_at dlX11_write_59_ok 14 rfl
theorem dX11_write_85 : decode cX11_write 85 = .ok (.aload_n 0, 1) := dec_at dlX11_write_59_ok 15 rfl
theorem dX11_write_86 : decode cX11_write 86 = .ok (.getfield 28, 3) := dec_at dlX11_write_59_ok 16 rfl
theorem dX11_write_89 : decode cX11_write 89 = .ok (.bipush 28, 2) := dec_at dlX11_write_59_ok 17 rfl
theorem dX11_write_91 : decode cX11_write 91 = .ok (.iload_n 2, 1) := dec_at dlX11_write_59_ok 18 rfl
theorem dX11_write_92 : decode cX11_write 92 = .ok (.iadd, 1) := dec_at dlX11_write_59_ok 19 rfl
theorem dX11_write_93 : decode cX11_write 93 = .ok (.iaload, 1) := dec_at dlX11_write_59_ok 20 rfl
theorem dX11_write_94 : decode cX11_write 94 = .ok (.iload 4, 2) := dec_at dlX11_write_59_ok 21 rfl
theorem dX11_write_96 : decode cX11_write 96 = .ok (.isub, 1) := dec_at dlX11_write_59_ok 22 rfl
theorem dX11_write_97 : decode cX11_write 97 = .ok (.ireturn, 1) := dec_at dlX11_write_59_ok 23 rfl
set_option maxRecDepth 20000 in
theorem ggX11_dry_X11_isQuill : GoodIn wsX11_dry wsX11_isQuill := goodIn_s _ [(9, 4), (8, 1), (13, 1), (23, 46)] rfl (by decide +kernel)
set_option maxRecDepth 20000 in
theorem gX11_dry_X11_isQuill : GoodIn wsX11_dry (wsV RX11 184 RX11 yX11_isQuill wsX11_isQuill) := goodIn_app (goodIn_s _ [(5, 4)] rfl (by decide +kernel)) ggX11_dry_X11_isQuill
set_option maxRecDepth 20000 in
theorem ggX11_dry_X11_in : GoodIn wsX11_dry wsX11_in := goodIn_s _ [(13, 1)] rfl (by decide +kernel)
set_option maxRecDepth 20000 in
theorem gX11_dry_X11_in : GoodIn wsX11_dry (va_wsS RX11 102 yX11_in wsX11_in) := goodIn_app (goodIn_s _ [(11, 2), (8, 1)] rfl (by decide +kernel)) ggX11_dry_X11_in
set_option maxRecDepth 20000 in
theorem ggX11_dry_X11_remember : GoodIn wsX11_dry wsX11_remember := goodIn_s _ [(17, 3), (4, 1), (23, 46)] rfl (by decide +kernel)
set_option maxRecDepth 20000 in
theorem gX11_dry_X11_remember : GoodIn wsX11_dry (wsV RX11 222 RX11 yX11_remember wsX11_remember) := goodIn_app (goodIn_s _ [(14, 3), (8, 1)] rfl (by decide +kernel)) ggX11_dry_X11_remember
set_option maxRecDepth 20000 in
theorem ggX11_dry_X11_driedBy : GoodIn wsX11_dry wsX11_driedBy := goodIn_s _ [(22, 1)] rfl (by decide +kernel)
set_option maxRecDepth 20000 in
theorem gX11_dry_X11_driedBy : GoodIn wsX11_dry (va_wsS RX11 231 yX11_driedBy wsX11_driedBy) := goodIn_app (goodIn_s _ [(20, 2), (8, 1)] rfl (by decide +kernel)) ggX11_dry_X11_driedBy
noncomputable def dlX11_dry_0 : List (Nat × Instr × Nat) := [(0, .aload_n 0, 1), (1, .iload_n 1, 1), (2, .invokevirtual 184, 3), (5, .ifCond .ne 6, 3), (8, .ldc 188, 2), (10, .ireturn, 1), (11, .iload_n 2, 1), (12, .i2l, 1), (13, .lconst 1, 1), (14, .ldc2_w 229, 3), (17, .invokestatic 102, 3), (20, .ifCond .ne 6, 3), (23, .ldc 111, 2), (25, .ireturn, 1), (26, .aload_n 0, 1), (27, .invokevirtual 222, 3), (30, .aload_n 0, 1), (31, .getfield 28, 3), (34, .bipush 16, 2), (36, .iload_n 1, 1), (37, .iadd, 1), (38, .aload_n 0, 1), (39, .getfield 28, 3), (42, .bipush 16, 2), (44, .iload_n 1, 1), (45, .iadd, 1), (46, .iaload, 1), (47, .iload_n 2, 1), (48, .invokestatic 231, 3), (51, .iastore, 1), (52, .aload_n 0, 1)]
theorem dlX11_dry_0_ok : dlX11_dry_0.all (fun r => decide (decode cX11_dry r.1 = .ok r.2)) = true := by decide +kernel
theorem dX11_dry_0 : decode cX11_dry 0 = .ok (.aload_n 0, 1) := dec_at dlX11_dry_0_ok 0 rfl
theorem dX11_dry_1 : decode cX11_dry 1 = .ok (.iload_n 1, 1) := dec_at dlX11_dry_0_ok 1 rfl
theorem dX11_dry_2 : decode cX11_dry 2 = .ok (.invokevirtual 184, 3) := dec_at dlX11_dry_0_ok 2 rfl
theorem dX11_dry_5 : decode cX11_dry 5 = .ok (.ifCond .ne 6, 3) := dec_at dlX11_dry_0_ok 3 rfl
theorem dX11_dry_8 : decode cX11_dry 8 = .ok (.ldc 188, 2) := dec_at dlX11_dry_0_ok 4 rfl
theorem dX11_dry_10 : decode cX11_dry 10 = .ok (.ireturn, 1) := dec_at dlX11_dry_0_ok 5 rfl
theorem dX11_dry_11 : decode cX11_dry 11 = .ok (.iload_n 2, 1) := dec_at dlX11_dry_0_ok 6 rfl
theorem dX11_dry_12 : decode cX11_dry 12 = .ok (.i2l, 1) := dec_at dlX11_dry_0_ok 7 rfl
theorem dX11_dry_13 : decode cX11_dry 13 = .ok (.lconst 1, 1) := dec_at dlX11_dry_0_ok 8 rfl
theorem dX11_dry_14 : decode cX11_dry 14 = .ok (.ldc2_w 229, 3) := dec_at dlX11_dry_0_ok 9 rfl
theorem dX11_dry_17 : decode cX11_dry 17 = .ok (.invokestatic 102, 3) := dec_at dlX11_dry_0_ok 10 rfl
theorem dX11_dry_20 : decode cX11_dry 20 = .ok (.ifCond .ne 6, 3) := dec_at dlX11_dry_0_ok 11 rfl
theorem dX11_dry_23 : decode cX11_dry 23 = .ok (.ldc 111, 2) := dec_at dlX11_dry_0_ok 12 rfl
theorem dX11_dry_25 : decode cX11_dry 25 = .ok (.ireturn, 1) := dec_at dlX11_dry_0_ok 13 rfl
theorem dX11_dry_26 : decode cX11_dry 26 = .ok (.aload_n 0, 1) := dec_at dlX11_dry_0_ok 14 rfl
theorem dX11_dry_27 : decode cX11_dry 27 = .ok (.invokevirtual 222, 3) := dec_at dlX11_dry_0_ok 15 rfl
theorem dX11_dry_30 : decode cX11_dry 30 = .ok (.aload_n 0, 1) := dec_at dlX11_dry_0_ok 16 rfl
theorem dX11_dry_31 : decode cX11_dry 31 = .ok (.getfield 28, 3) := dec_at dlX11_dry_0_ok 17 rfl
theorem dX11_dry_34 : decode cX11_dry 34 = .ok (.bipush 16, 2) := dec_at dlX11_dry_0_ok 18 rfl
theorem dX11_dry_36 : decode cX11_dry 36 = .ok (.iload_n 1, 1) := dec_at dlX11_dry_0_ok 19 rfl
theorem dX11_dry_37 : decode cX11_dry 37 = .ok (.iadd, 1) := dec_at dlX11_dry_0_ok 20 rfl
theorem dX11_dry_38 : decode cX11_dry 38 = .ok (.aload_n 0, 1) := dec_at dlX11_dry_0_ok 21 rfl
theorem dX11_dry_39 : decode cX11_dry 39 = .ok (.getfield 28, 3) := dec_at dlX11_dry_0_ok 22 rfl
theorem dX11_dry_42 : decode cX11_dry 42 = .ok (.bipush 16, 2) := dec_at dlX11_dry_0_ok 23 rfl
theorem dX11_dry_44 : decode cX11_dry 44 = .ok (.iload_n 1, 1) := dec_at dlX11_dry_0_ok 24 rfl
theorem dX11_dry_45 : decode cX11_dry 45 = .ok (.iadd, 1) := dec_at dlX11_dry_0_ok 25 rfl
theorem dX11_dry_46 : decode cX11_dry 46 = .ok (.iaload, 1) := dec_at dlX11_dry_0_ok 26 rfl
theorem dX11_dry_47 : decode cX11_dry 47 = .ok (.iload_n 2, 1) := dec_at dlX11_dry_0_ok 27 rfl
theorem dX11_dry_48 : decode cX11_dry 48 = .ok (.invokestatic 231, 3) := dec_at dlX11_dry_0_ok 28 rfl
theorem dX11_dry_51 : decode cX11_dry 51 = .ok (.iastore, 1) := dec_at dlX11_dry_0_ok 29 rfl
theorem dX11_dry_52 : decode cX11_dry 52 = .ok (.aload_n 0, 1) := dec_at dlX11_dry_0_ok 30 rfl
noncomputable def dlX11_dry_53 : List (Nat × Instr × Nat) := [(53, .getfield 28, 3), (56, .bipush 16, 2), (58, .iload_n 1, 1), (59, .iadd, 1), (60, .iaload, 1), (61, .ireturn, 1)]
theorem dlX11_dry_53_ok : dlX11_dry_53.all (fun r => decide (decode cX11_dry r.1 = .ok r.2)) = true := by decide +kernel
theorem dX11_dry_53 : decode cX11_dry 53 = .ok (.getfield 28, 3) := dec_at dlX11_dry_53_ok 0 rfl
theorem dX11_dry_56 : decode cX11_dry 56 = .ok (.bipush 16, 2) := dec_at dlX11_dry_53_ok 1 rfl
theorem dX11_dry_58 : decode cX11_dry 58 = .ok (.iload_n 1, 1) := dec_at dlX11_dry_53_ok 2 rfl
theorem dX11_dry_59 : decode cX11_dry 59 = .ok (.iadd, 1) := dec_at dlX11_dry_53_ok 3 rfl
theorem dX11_dry_60 : decode cX11_dry 60 = .ok (.iaload, 1) := dec_at dlX11_dry_53_ok 4 rfl
theorem dX11_dry_61 : decode cX11_dry 61 = .ok (.ireturn, 1) := dec_at dlX11_dry_53_ok 5 rfl
set_option maxRecDepth 20000 in
theorem ggX11_mend_X11_isQuill : GoodIn wsX11_mend wsX11_isQuill := goodIn_s _ [(10, 4), (9, 1), (14, 1), (39, 46)] rfl (by decide +kernel)
set_option maxRecDepth 20000 in
theorem gX11_mend_X11_isQuill : GoodIn wsX11_mend (wsV RX11 184 RX11 yX11_isQuill wsX11_isQuill) := goodIn_app (goodIn_s _ [(6, 4)] rfl (by decide +kernel)) ggX11_mend_X11_isQuill
set_option maxRecDepth 20000 in
theorem ggX11_mend_X11_mayMend : GoodIn wsX11_mend wsX11_mayMend := goodIn_s _ [(18, 1), (3, 1), (19, 3), (9, 1), (22, 2), (39, 46)] rfl (by decide +kernel)
set_option maxRecDepth 20000 in
theorem gX11_mend_X11_mayMend : GoodIn wsX11_mend (wsV RX11 234 RX11 yX11_mayMend wsX11_mayMend) := goodIn_app (goodIn_s _ [(15, 3), (9, 1)] rfl (by decide +kernel)) ggX11_mend_X11_mayMend
set_option maxRecDepth 20000 in
theorem ggX11_mend_X11_remember : GoodIn wsX11_mend wsX11_remember := goodIn_s _ [(27, 3), (3, 1), (39, 46)] rfl (by decide +kernel)
set_option maxRecDepth 20000 in
theorem gX11_mend_X11_remember : GoodIn wsX11_mend (wsV RX11 222 RX11 yX11_remember wsX11_remember) := goodIn_app (goodIn_s _ [(24, 3), (9, 1)] rfl (by decide +kernel)) ggX11_mend_X11_remember
set_option maxRecDepth 20000 in
theorem ggX11_mend_X11_mendNow : GoodIn wsX11_mend wsX11_mendNow := goodIn_s _ [(33, 1), (3, 1), (34, 1), (19, 3), (9, 1), (22, 2), (35, 50)] rfl (by decide +kernel)
set_option maxRecDepth 20000 in
theorem gX11_mend_X11_mendNow : GoodIn wsX11_mend (wsV RX11 238 RX11 yX11_mendNow wsX11_mendNow) := goodIn_app (goodIn_s _ [(30, 3), (9, 1)] rfl (by decide +kernel)) ggX11_mend_X11_mendNow
noncomputable def dlX11_mend_0 : List (Nat × Instr × Nat) := [(0, .aload_n 0, 1), (1, .iload_n 1, 1), (2, .invokevirtual 184, 3), (5, .ifCond .ne 6, 3), (8, .ldc 188, 2), (10, .ireturn, 1), (11, .aload_n 0, 1), (12, .iload_n 1, 1), (13, .invokevirtual 234, 3), (16, .ifCond .ne 6, 3), (19, .ldc 237, 2), (21, .ireturn, 1), (22, .aload_n 0, 1), (23, .getfield 28, 3), (26, .bipush 32, 2), (28, .iaload, 1), (29, .ldc 221, 2), (31, .if_icmp .le 6, 3), (34, .ldc 115, 2), (36, .ireturn, 1), (37, .aload_n 0, 1), (38, .invokevirtual 222, 3), (41, .aload_n 0, 1), (42, .iload_n 1, 1), (43, .invokevirtual 238, 3), (46, .aload_n 0, 1), (47, .getfield 28, 3), (50, .iload_n 1, 1), (51, .iaload, 1), (52, .ireturn, 1)]
theorem dlX11_mend_0_ok : dlX11_mend_0.all (fun r => decide (decode cX11_mend r.1 = .ok r.2)) = true := by decide +kernel
theorem dX11_mend_0 : decode cX11_mend 0 = .ok (.aload_n 0, 1) := dec_at dlX11_mend_0_ok 0 rfl
theorem dX11_mend_1 : decode cX11_mend 1 = .ok (.iload_n 1, 1) := dec_at dlX11_mend_0_ok 1 rfl
theorem dX11_mend_2 : decode cX11_mend 2 = .ok (.invokevirtual 184, 3) := dec_at dlX11_mend_0_ok 2 rfl
theorem dX11_mend_5 : decode cX11_mend 5 = .ok (.ifCond .ne 6, 3) := dec_at dlX11_mend_0_ok 3 rfl
theorem dX11_mend_8 : decode cX11_mend 8 = .ok (.ldc 188, 2) := dec_at dlX11_mend_0_ok 4 rfl
theorem dX11_mend_10 : decode cX11_mend 10 = .ok (.ireturn, 1) := dec_at dlX11_mend_0_ok 5 rfl
theorem dX11_mend_11 : decode cX11_mend 11 = .ok (.aload_n 0, 1) := dec_at dlX11_mend_0_ok 6 rfl
theorem dX11_mend_12 : decode cX11_mend 12 = .ok (.iload_n 1, 1) := dec_at dlX11_mend_0_ok 7 rfl
theorem dX11_mend_13 : decode cX11_mend 13 = .ok (.invokevirtual 234, 3) := dec_at dlX11_mend_0_ok 8 rfl
theorem dX11_mend_16 : decode cX11_mend 16 = .ok (.ifCond .ne 6, 3) := dec_at dlX11_mend_0_ok 9 rfl
theorem dX11_mend_19 : decode cX11_mend 19 = .ok (.ldc 237, 2) := dec_at dlX11_mend_0_ok 10 rfl
theorem dX11_mend_21 : decode cX11_mend 21 = .ok (.ireturn, 1) := dec_at dlX11_mend_0_ok 11 rfl
theorem dX11_mend_22 : decode cX11_mend 22 = .ok (.aload_n 0, 1) := dec_at dlX11_mend_0_ok 12 rfl
theorem dX11_mend_23 : decode cX11_mend 23 = .ok (.getfield 28, 3) := dec_at dlX11_mend_0_ok 13 rfl
theorem dX11_mend_26 : decode cX11_mend 26 = .ok (.bipush 32, 2) := dec_at dlX11_mend_0_ok 14 rfl
theorem dX11_mend_28 : decode cX11_mend 28 = .ok (.iaload, 1) := dec_at dlX11_mend_0_ok 15 rfl
theorem dX11_mend_29 : decode cX11_mend 29 = .ok (.ldc 221, 2) := dec_at dlX11_mend_0_ok 16 rfl
theorem dX11_mend_31 : decode cX11_mend 31 = .ok (.if_icmp .le 6, 3) := dec_at dlX11_mend_0_ok 17 rfl
theorem dX11_mend_34 : decode cX11_mend 34 = .ok (.ldc 115, 2) := dec_at dlX11_mend_0_ok 18 rfl
theorem dX11_mend_36 : decode cX11_mend 36 = .ok (.ireturn, 1) := dec_at dlX11_mend_0_ok 19 rfl
theorem dX11_mend_37 : decode cX11_mend 37 = .ok (.aload_n 0, 1) := dec_at dlX11_mend_0_ok 20 rfl
theorem dX11_mend_38 : decode cX11_mend 38 = .ok (.invokevirtual 222, 3) := dec_at dlX11_mend_0_ok 21 rfl
theorem dX11_mend_41 : decode cX11_mend 41 = .ok (.aload_n 0, 1) := dec_at dlX11_mend_0_ok 22 rfl
theorem dX11_mend_42 : decode cX11_mend 42 = .ok (.iload_n 1, 1) := dec_at dlX11_mend_0_ok 23 rfl
theorem dX11_mend_43 : decode cX11_mend 43 = .ok (.invokevirtual 238, 3) := dec_at dlX11_mend_0_ok 24 rfl
theorem dX11_mend_46 : decode cX11_mend 46 = .ok (.aload_n 0, 1) := dec_at dlX11_mend_0_ok 25 rfl
theorem dX11_mend_47 : decode cX11_mend 47 = .ok (.getfield 28, 3) := dec_at dlX11_mend_0_ok 26 rfl
theorem dX11_mend_50 : decode cX11_mend 50 = .ok (.iload_n 1, 1) := dec_at dlX11_mend_0_ok 27 rfl
theorem dX11_mend_51 : decode cX11_mend 51 = .ok (.iaload, 1) := dec_at dlX11_mend_0_ok 28 rfl
theorem dX11_mend_52 : decode cX11_mend 52 = .ok (.ireturn, 1) := dec_at dlX11_mend_0_ok 29 rfl
set_option maxRecDepth 20000 in
theorem ggX11_broaden_X11_isQuill : GoodIn wsX11_broaden wsX11_isQuill := goodIn_s _ [(8, 4), (7, 1), (12, 1), (23, 46)] rfl (by decide +kernel)
set_option maxRecDepth 20000 in
theorem gX11_broaden_X11_isQuill : GoodIn wsX11_broaden (wsV RX11 184 RX11 yX11_isQuill wsX11_isQuill) := goodIn_app (goodIn_s _ [(4, 4)] rfl (by decide +kernel)) ggX11_broaden_X11_isQuill
set_option maxRecDepth 20000 in
theorem ggX11_broaden_X11_remember : GoodIn wsX11_broaden wsX11_remember := goodIn_s _ [(16, 3), (2, 1), (23, 46)] rfl (by decide +kernel)
set_option maxRecDepth 20000 in
theorem gX11_broaden_X11_remember : GoodIn wsX11_broaden (wsV RX11 222 RX11 yX11_remember wsX11_remember) := goodIn_app (goodIn_s _ [(13, 3), (7, 1)] rfl (by decide +kernel)) ggX11_broaden_X11_remember
set_option maxRecDepth 20000 in
theorem ggX11_broaden_X11_broadenNow : GoodIn wsX11_broaden wsX11_broadenNow := goodIn_s _ [(22, 1), (2, 1), (23, 46)] rfl (by decide +kernel)
set_option maxRecDepth 20000 in
theorem gX11_broaden_X11_broadenNow : GoodIn wsX11_broaden (wsV RX11 215 RX11 yX11_broadenNow wsX11_broadenNow) := goodIn_app (goodIn_s _ [(19, 3), (7, 1)] rfl (by decide +kernel)) ggX11_broaden_X11_broadenNow
noncomputable def dlX11_broaden_0 : List (Nat × Instr × Nat) := [(0, .aload_n 0, 1), (1, .iload_n 1, 1), (2, .invokevirtual 184, 3), (5, .ifCond .ne 6, 3), (8, .ldc 188, 2), (10, .ireturn, 1), (11, .aload_n 0, 1), (12, .getfield 28, 3), (15, .bipush 8, 2), (17, .iload_n 1, 1), (18, .iadd, 1), (19, .iaload, 1), (20, .bipush 9, 2), (22, .if_icmp .ne 6, 3), (25, .ldc 237, 2), (27, .ireturn, 1), (28, .aload_n 0, 1), (29, .invokevirtual 222, 3), (32, .aload_n 0, 1), (33, .iload_n 1, 1), (34, .invokevirtual 215, 3), (37, .aload_n 0, 1), (38, .getfield 28, 3), (41, .bipush 33, 2), (43, .dup2, 1), (44, .iaload, 1), (45, .iconst 1, 1), (46, .iadd, 1), (47, .iastore, 1), (48, .aload_n 0, 1), (49, .getfield 28, 3)]
theorem dlX11_broaden_0_ok : dlX11_broaden_0.all (fun r => decide (decode cX11_broaden r.1 = .ok r.2)) = true := by decide +kernel
theorem dX11_broaden_0 : decode cX11_broaden 0 = .ok (.aload_n 0, 1) := dec_at dlX11_broaden_0_ok 0 rfl
theorem dX11_broaden_1 : decode cX11_broaden 1 = .ok (.iload_n 1, 1) := dec_at dlX11_broaden_0_ok 1 rfl
theorem dX11_broaden_2 : decode cX11_broaden 2 = .ok (.invokevirtual 184, 3) := dec_at dlX11_broaden_0_ok 2 rfl
theorem dX11_broaden_5 : decode cX11_broaden 5 = .ok (.ifCond .ne 6, 3) := dec_at dlX11_broaden_0_ok 3 rfl
theorem dX11_broaden_8 : decode cX11_broaden 8 = .ok (.ldc 188, 2) := dec_at dlX11_broaden_0_ok 4 rfl
theorem dX11_broaden_10 : decode cX11_broaden 10 = .ok (.ireturn, 1) := dec_at dlX11_broaden_0_ok 5 rfl
theorem dX11_broaden_11 : decode cX11_broaden 11 = .ok (.aload_n 0, 1) := dec_at dlX11_broaden_0_ok 6 rfl
theorem dX11_broaden_12 : decode cX11_broaden 12 = .ok (.getfield 28, 3) := dec_at dlX11_broaden_0_ok 7 rfl
theorem dX11_broaden_15 : decode cX11_broaden 15 = .ok (.bipush 8, 2) := dec_at dlX11_broaden_0_ok 8 rfl
theorem dX11_broaden_17 : decode cX11_broaden 17 = .ok (.iload_n 1, 1) := dec_at dlX11_broaden_0_ok 9 rfl
theorem dX11_broaden_18 : decode cX11_broaden 18 = .ok (.iadd, 1) := dec_at dlX11_broaden_0_ok 10 rfl
theorem dX11_broaden_19 : decode cX11_broaden 19 = .ok (.iaload, 1) := dec_at dlX11_broaden_0_ok 11 rfl
theorem dX11_broaden_20 : decode cX11_broaden 20 = .ok (.bipush 9, 2) := dec_at dlX11_broaden_0_ok 12 rfl
theorem dX11_broaden_22 : decode cX11_broaden 22 = .ok (.if_icmp .ne 6, 3) := dec_at dlX11_broaden_0_ok 13 rfl
theorem dX11_broaden_25 : decode cX11_broaden 25 = .ok (.ldc 237, 2) := dec_at dlX11_broaden_0_ok 14 rfl
theorem dX11_broaden_27 : decode cX11_broaden 27 = .ok (.ireturn, 1) := dec_at dlX11_broaden_0_ok 15 rfl
theorem dX11_broaden_28 : decode cX11_broaden 28 = .ok (.aload_n 0, 1) := dec_at dlX11_broaden_0_ok 16 rfl
theorem dX11_broaden_29 : decode cX11_broaden 29 = .ok (.invokevirtual 222, 3) := dec_at dlX11_broaden_0_ok 17 rfl
theorem dX11_broaden_32 : decode cX11_broaden 32 = .ok (.aload_n 0, 1) := dec_at dlX11_broaden_0_ok 18 rfl
theorem dX11_broaden_33 : decode cX11_broaden 33 = .ok (.iload_n 1, 1) := dec_at dlX11_broaden_0_ok 19 rfl
theorem dX11_broaden_34 : decode cX11_broaden 34 = .ok (.invokevirtual 215, 3) := dec_at dlX11_broaden_0_ok 20 rfl
theorem dX11_broaden_37 : decode cX11_broaden 37 = .ok (.aload_n 0, 1) := dec_at dlX11_broaden_0_ok 21 rfl
theorem dX11_broaden_38 : decode cX11_broaden 38 = .ok (.getfield 28, 3) := dec_at dlX11_broaden_0_ok 22 rfl
theorem dX11_broaden_41 : decode cX11_broaden 41 = .ok (.bipush 33, 2) := dec_at dlX11_broaden_0_ok 23 rfl
theorem dX11_broaden_43 : decode cX11_broaden 43 = .ok (.dup2, 1) := dec_at dlX11_broaden_0_ok 24 rfl
theorem dX11_broaden_44 : decode cX11_broaden 44 = .ok (.iaload, 1) := dec_at dlX11_broaden_0_ok 25 rfl
theorem dX11_broaden_45 : decode cX11_broaden 45 = .ok (.iconst 1, 1) := dec_at dlX11_broaden_0_ok 26 rfl
theorem dX11_broaden_46 : decode cX11_broaden 46 = .ok (.iadd, 1) := dec_at dlX11_broaden_0_ok 27 rfl
theorem dX11_broaden_47 : decode cX11_broaden 47 = .ok (.iastore, 1) := dec_at dlX11_broaden_0_ok 28 rfl
theorem dX11_broaden_48 : decode cX11_broaden 48 = .ok (.aload_n 0, 1) := dec_at dlX11_broaden_0_ok 29 rfl
theorem dX11_broaden_49 : decode cX11_broaden 49 = .ok (.getfield 28, 3) := dec_at dlX11_broaden_0_ok 30 rfl
noncomputable def dlX11_broaden_52 : List (Nat × Instr × Nat) := [(52, .bipush 8, 2), (54, .iload_n 1, 1), (55, .iadd, 1), (56, .iaload, 1), (57, .ireturn, 1)]
theorem dlX11_broaden_52_ok : dlX11_broaden_52.all (fun r => decide (decode cX11_broaden r.1 = .ok r.2)) = true := by decide +kernel
theorem dX11_broaden_52 : decode cX11_broaden 52 = .ok (.bipush 8, 2) := dec_at dlX11_broaden_52_ok 0 rfl
theorem dX11_broaden_54 : decode cX11_broaden 54 = .ok (.iload_n 1, 1) := dec_at dlX11_broaden_52_ok 1 rfl
theorem dX11_broaden_55 : decode cX11_broaden 55 = .ok (.iadd, 1) := dec_at dlX11_broaden_52_ok 2 rfl
theorem dX11_broaden_56 : decode cX11_broaden 56 = .ok (.iaload, 1) := dec_at dlX11_broaden_52_ok 3 rfl
theorem dX11_broaden_57 : decode cX11_broaden 57 = .ok (.ireturn, 1) := dec_at dlX11_broaden_52_ok 4 rfl
set_option maxRecDepth 20000 in
theorem ggX11_whet_X11_remember : GoodIn wsX11_whet wsX11_remember := goodIn_s _ [(10, 3), (3, 1), (13, 46)] rfl (by decide +kernel)
set_option maxRecDepth 20000 in
theorem gX11_whet_X11_remember : GoodIn wsX11_whet (wsV RX11 222 RX11 yX11_remember wsX11_remember) := goodIn_app (goodIn_s _ [(6, 4)] rfl (by decide +kernel)) ggX11_whet_X11_remember
noncomputable def dlX11_whet_0 : List (Nat × Instr × Nat) := [(0, .aload_n 0, 1), (1, .getfield 96, 3), (4, .ifCond .ne 6, 3), (7, .ldc 237, 2), (9, .ireturn, 1), (10, .aload_n 0, 1), (11, .getfield 28, 3), (14, .bipush 32, 2), (16, .iaload, 1), (17, .ldc 221, 2), (19, .if_icmp .le 6, 3), (22, .ldc 115, 2), (24, .ireturn, 1), (25, .aload_n 0, 1), (26, .invokevirtual 222, 3), (29, .aload_n 0, 1), (30, .getfield 28, 3), (33, .bipush 33, 2), (35, .iaload, 1), (36, .istore_n 1, 1), (37, .aload_n 0, 1), (38, .getfield 28, 3), (41, .bipush 33, 2), (43, .iconst 0, 1), (44, .iastore, 1), (45, .aload_n 0, 1), (46, .getfield 28, 3), (49, .bipush 32, 2), (51, .dup2, 1), (52, .iaload, 1), (53, .iconst 5, 1)]
theorem dlX11_whet_0_ok : dlX11_whet_0.all (fun r => decide (decode cX11_whet r.1 = .ok r.2)) = true := by decide +kernel
theorem dX11_whet_0 : decode cX11_whet 0 = .ok (.aload_n 0, 1) := dec_at dlX11_whet_0_ok 0 rfl
theorem dX11_whet_1 : decode cX11_whet 1 = .ok (.getfield 96, 3) := dec_at dlX11_whet_0_ok 1 rfl
theorem dX11_whet_4 : decode cX11_whet 4 = .ok (.ifCond .ne 6, 3) := dec_at dlX11_whet_0_ok 2 rfl
theorem dX11_whet_7 : decode cX11_whet 7 = .ok (.ldc 237, 2) := dec_at dlX11_whet_0_ok 3 rfl
theorem dX11_whet_9 : decode cX11_whet 9 = .ok (.ireturn, 1) := dec_at dlX11_whet_0_ok 4 rfl
theorem dX11_whet_10 : decode cX11_whet 10 = .ok (.aload_n 0, 1) := dec_at dlX11_whet_0_ok 5 rfl
theorem dX11_whet_11 : decode cX11_whet 11 = .ok (.getfield 28, 3) := dec_at dlX11_whet_0_ok 6 rfl
theorem dX11_whet_14 : decode cX11_whet 14 = .ok (.bipush 32, 2) := dec_at dlX11_whet_0_ok 7 rfl
theorem dX11_whet_16 : decode cX11_whet 16 = .ok (.iaload, 1) := dec_at dlX11_whet_0_ok 8 rfl
theorem dX11_whet_17 : decode cX11_whet 17 = .ok (.ldc 221, 2) := dec_at dlX11_whet_0_ok 9 rfl
theorem dX11_whet_19 : decode cX11_whet 19 = .ok (.if_icmp .le 6, 3) := dec_at dlX11_whet_0_ok 10 rfl
theorem dX11_whet_22 : decode cX11_whet 22 = .ok (.ldc 115, 2) := dec_at dlX11_whet_0_ok 11 rfl
theorem dX11_whet_24 : decode cX11_whet 24 = .ok (.ireturn, 1) := dec_at dlX11_whet_0_ok 12 rfl
theorem dX11_whet_25 : decode cX11_whet 25 = .ok (.aload_n 0, 1) := dec_at dlX11_whet_0_ok 13 rfl
theorem dX11_whet_26 : decode cX11_whet 26 = .ok (.invokevirtual 222, 3) := dec_at dlX11_whet_0_ok 14 rfl
theorem dX11_whet_29 : decode cX11_whet 29 = .ok (.aload_n 0, 1) := dec_at dlX11_whet_0_ok 15 rfl
theorem dX11_whet_30 : decode cX11_whet 30 = .ok (.getfield 28, 3) := dec_at dlX11_whet_0_ok 16 rfl
theorem dX11_whet_33 : decode cX11_whet 33 = .ok (.bipush 33, 2) := dec_at dlX11_whet_0_ok 17 rfl
theorem dX11_whet_35 : decode cX11_whet 35 = .ok (.iaload, 1) := dec_at dlX11_whet_0_ok 18 rfl
theorem dX11_whet_36 : decode cX11_whet 36 = .ok (.istore_n 1, 1) := dec_at dlX11_whet_0_ok 19 rfl
theorem dX11_whet_37 : decode cX11_whet 37 = .ok (.aload_n 0, 1) := dec_at dlX11_whet_0_ok 20 rfl
theorem dX11_whet_38 : decode cX11_whet 38 = .ok (.getfield 28, 3) := dec_at dlX11_whet_0_ok 21 rfl
theorem dX11_whet_41 : decode cX11_whet 41 = .ok (.bipush 33, 2) := dec_at dlX11_whet_0_ok 22 rfl
theorem dX11_whet_43 : decode cX11_whet 43 = .ok (.iconst 0, 1) := dec_at dlX11_whet_0_ok 23 rfl
theorem dX11_whet_44 : decode cX11_whet 44 = .ok (.iastore, 1) := dec_at dlX11_whet_0_ok 24 rfl
theorem dX11_whet_45 : decode cX11_whet 45 = .ok (.aload_n 0, 1) := dec_at dlX11_whet_0_ok 25 rfl
theorem dX11_whet_46 : decode cX11_whet 46 = .ok (.getfield 28, 3) := dec_at dlX11_whet_0_ok 26 rfl
theorem dX11_whet_49 : decode cX11_whet 49 = .ok (.bipush 32, 2) := dec_at dlX11_whet_0_ok 27 rfl
theorem dX11_whet_51 : decode cX11_whet 51 = .ok (.dup2, 1) := dec_at dlX11_whet_0_ok 28 rfl
theorem dX11_whet_52 : decode cX11_whet 52 = .ok (.iaload, 1) := dec_at dlX11_whet_0_ok 29 rfl
theorem dX11_whet_53 : decode cX11_whet 53 = .ok (.iconst 5, 1) := dec_at dlX11_whet_0_ok 30 rfl
noncomputable def dlX11_whet_54 : List (Nat × Instr × Nat) := [(54, .iadd, 1), (55, .iastore, 1), (56, .iload_n 1, 1), (57, .ireturn, 1)]
theorem dlX11_whet_54_ok : dlX11_whet_54.all (fun r => decide (decode cX11_whet r.1 = .ok r.2)) = true := by decide +kernel
theorem dX11_whet_54 : decode cX11_whet 54 = .ok (.iadd, 1) := dec_at dlX11_whet_54_ok 0 rfl
theorem dX11_whet_55 : decode cX11_whet 55 = .ok (.iastore, 1) := dec_at dlX11_whet_54_ok 1 rfl
theorem dX11_whet_56 : decode cX11_whet 56 = .ok (.iload_n 1, 1) := dec_at dlX11_whet_54_ok 2 rfl
theorem dX11_whet_57 : decode cX11_whet 57 = .ok (.ireturn, 1) := dec_at dlX11_whet_54_ok 3 rfl
noncomputable def dlX11_draw_0 : List (Nat × Instr × Nat) := [(0, .aload_n 0, 1), (1, .aload_n 0, 1), (2, .getfield 241, 3), (5, .i2l, 1), (6, .ldc2_w 244, 3), (9, .lmul, 1), (10, .ldc2_w 246, 3), (13, .ladd, 1), (14, .ldc2_w 248, 3), (17, .lrem, 1), (18, .l2i, 1), (19, .putfield 241, 3), (22, .aload_n 0, 1), (23, .getfield 241, 3), (26, .ldc 250, 2), (28, .idiv, 1), (29, .iload_n 1, 1), (30, .irem, 1), (31, .ireturn, 1)]
theorem dlX11_draw_0_ok : dlX11_draw_0.all (fun r => decide (decode cX11_draw r.1 = .ok r.2)) = true := by decide +kernel
theorem dX11_draw_0 : decode cX11_draw 0 = .ok (.aload_n 0, 1) := dec_at dlX11_draw_0_ok 0 rfl
theorem dX11_draw_1 : decode cX11_draw 1 = .ok (.aload_n 0, 1) := dec_at dlX11_draw_0_ok 1 rfl
theorem dX11_draw_2 : decode cX11_draw 2 = .ok (.getfield 241, 3) := dec_at dlX11_draw_0_ok 2 rfl
theorem dX11_draw_5 : decode cX11_draw 5 = .ok (.i2l, 1) := dec_at dlX11_draw_0_ok 3 rfl
theorem dX11_draw_6 : decode cX11_draw 6 = .ok (.ldc2_w 244, 3) := dec_at dlX11_draw_0_ok 4 rfl
theorem dX11_draw_9 : decode cX11_draw 9 = .ok (.lmul, 1) := dec_at dlX11_draw_0_ok 5 rfl
theorem dX11_draw_10 : decode cX11_draw 10 = .ok (.ldc2_w 246, 3) := dec_at dlX11_draw_0_ok 6 rfl
theorem dX11_draw_13 : decode cX11_draw 13 = .ok (.ladd, 1) := dec_at dlX11_draw_0_ok 7 rfl
theorem dX11_draw_14 : decode cX11_draw 14 = .ok (.ldc2_w 248, 3) := dec_at dlX11_draw_0_ok 8 rfl
theorem dX11_draw_17 : decode cX11_draw 17 = .ok (.lrem, 1) := dec_at dlX11_draw_0_ok 9 rfl
theorem dX11_draw_18 : decode cX11_draw 18 = .ok (.l2i, 1) := dec_at dlX11_draw_0_ok 10 rfl
theorem dX11_draw_19 : decode cX11_draw 19 = .ok (.putfield 241, 3) := dec_at dlX11_draw_0_ok 11 rfl
theorem dX11_draw_22 : decode cX11_draw 22 = .ok (.aload_n 0, 1) := dec_at dlX11_draw_0_ok 12 rfl
theorem dX11_draw_23 : decode cX11_draw 23 = .ok (.getfield 241, 3) := dec_at dlX11_draw_0_ok 13 rfl
theorem dX11_draw_26 : decode cX11_draw 26 = .ok (.ldc 250, 2) := dec_at dlX11_draw_0_ok 14 rfl
theorem dX11_draw_28 : decode cX11_draw 28 = .ok (.idiv, 1) := dec_at dlX11_draw_0_ok 15 rfl
theorem dX11_draw_29 : decode cX11_draw 29 = .ok (.iload_n 1, 1) := dec_at dlX11_draw_0_ok 16 rfl
theorem dX11_draw_30 : decode cX11_draw 30 = .ok (.irem, 1) := dec_at dlX11_draw_0_ok 17 rfl
theorem dX11_draw_31 : decode cX11_draw 31 = .ok (.ireturn, 1) := dec_at dlX11_draw_0_ok 18 rfl
set_option maxRecDepth 20000 in
theorem ggX11_drawn_X11_draw : GoodIn wsX11_drawn wsX11_draw := goodIn_s _ [(8, 6), (69, 46)] rfl (by decide +kernel)
set_option maxRecDepth 20000 in
theorem gX11_drawn_X11_draw : GoodIn wsX11_drawn (wsV RX11 251 RX11 yX11_draw wsX11_draw) := goodIn_app (goodIn_s _ [(4, 4)] rfl (by decide +kernel)) ggX11_drawn_X11_draw
set_option maxRecDepth 20000 in
theorem ggX11_drawn_X11_mayMend : GoodIn wsX11_drawn wsX11_mayMend := goodIn_s _ [(17, 1), (3, 1), (18, 3), (7, 1), (21, 2), (69, 46)] rfl (by decide +kernel)
set_option maxRecDepth 20000 in
theorem gX11_drawn_X11_mayMend : GoodIn wsX11_drawn (wsV RX11 234 RX11 yX11_mayMend wsX11_mayMend) := goodIn_app (goodIn_s _ [(14, 3), (7, 1)] rfl (by decide +kernel)) ggX11_drawn_X11_mayMend
set_option maxRecDepth 20000 in
theorem ggX11_drawn_X11_mendNow : GoodIn wsX11_drawn wsX11_mendNow := goodIn_s _ [(26, 1), (3, 1), (27, 1), (18, 3), (7, 1), (21, 2), (28, 4), (69, 46)] rfl (by decide +kernel)
set_option maxRecDepth 20000 in
theorem gX11_drawn_X11_mendNow : GoodIn wsX11_drawn (wsV RX11 238 RX11 yX11_mendNow wsX11_mendNow) := goodIn_app (goodIn_s _ [(23, 3), (7, 1)] rfl (by decide +kernel)) ggX11_drawn_X11_mendNow
set_option maxRecDepth 20000 in
theorem ggX11_drawn_X11_driedBy : GoodIn wsX11_drawn wsX11_driedBy := goodIn_s _ [(34, 1)] rfl (by decide +kernel)
set_option maxRecDepth 20000 in
theorem gX11_drawn_X11_driedBy : GoodIn wsX11_drawn (va_wsS RX11 231 yX11_driedBy wsX11_driedBy) := goodIn_app (goodIn_s _ [(32, 2), (7, 1)] rfl (by decide +kernel)) ggX11_drawn_X11_driedBy
set_option maxRecDepth 20000 in
theorem ggX11_drawn_X11_pageOf : GoodIn wsX11_drawn wsX11_pageOf := goodIn_s _ [(38, 1), (3, 1), (39, 3), (7, 1), (42, 73)] rfl (by decide +kernel)
set_option maxRecDepth 20000 in
theorem gX11_drawn_X11_pageOf : GoodIn wsX11_drawn (wsV RX11 225 RX11 yX11_pageOf wsX11_pageOf) := goodIn_app (goodIn_s _ [(35, 3), (7, 1)] rfl (by decide +kernel)) ggX11_drawn_X11_pageOf
noncomputable def dlX11_drawn_0 : List (Nat × Instr × Nat) := [(0, .aload_n 0, 1), (1, .aload_n 0, 1), (2, .getfield 99, 3), (5, .invokevirtual 251, 3), (8, .istore_n 1, 1), (9, .aload_n 0, 1), (10, .aload_n 0, 1), (11, .getfield 106, 3), (14, .invokevirtual 251, 3), (17, .istore_n 2, 1), (18, .aload_n 0, 1), (19, .iconst 3, 1), (20, .invokevirtual 251, 3), (23, .istore_n 3, 1), (24, .iload_n 3, 1), (25, .ifCond .ne 19, 3), (28, .aload_n 0, 1), (29, .iload_n 1, 1), (30, .invokevirtual 234, 3), (33, .ifCond .eq 11, 3), (36, .aload_n 0, 1), (37, .iload_n 1, 1), (38, .invokevirtual 238, 3), (41, .goto 44, 3), (44, .iload_n 3, 1), (45, .iconst 1, 1), (46, .if_icmp .ne 28, 3), (49, .aload_n 0, 1), (50, .getfield 28, 3), (53, .bipush 16, 2), (55, .iload_n 1, 1)]
theorem dlX11_drawn_0_ok : dlX11_drawn_0.all (fun r => decide (decode cX11_drawn r.1 = .ok r.2)) = true := by decide +kernel
theorem dX11_drawn_0 : decode cX11_drawn 0 = .ok (.aload_n 0, 1) := dec_at dlX11_drawn_0_ok 0 rfl
theorem dX11_drawn_1 : decode cX11_drawn 1 = .ok (.aload_n 0, 1) := dec_at dlX11_drawn_0_ok 1 rfl
theorem dX11_drawn_2 : decode cX11_drawn 2 = .ok (.getfield 99, 3) := dec_at dlX11_drawn_0_ok 2 rfl
theorem dX11_drawn_5 : decode cX11_drawn 5 = .ok (.invokevirtual 251, 3) := dec_at dlX11_drawn_0_ok 3 rfl
theorem dX11_drawn_8 : decode cX11_drawn 8 = .ok (.istore_n 1, 1) := dec_at dlX11_drawn_0_ok 4 rfl
theorem dX11_drawn_9 : decode cX11_drawn 9 = .ok (.aload_n 0, 1) := dec_at dlX11_drawn_0_ok 5 rfl
theorem dX11_drawn_10 : decode cX11_drawn 10 = .ok (.aload_n 0, 1) := dec_at dlX11_drawn_0_ok 6 rfl
theorem dX11_drawn_11 : decode cX11_drawn 11 = .ok (.getfield 106, 3) := dec_at dlX11_drawn_0_ok 7 rfl
theorem dX11_drawn_14 : decode cX11_drawn 14 = .ok (.invokevirtual 251, 3) := dec_at dlX11_drawn_0_ok 8 rfl
theorem dX11_drawn_17 : decode cX11_drawn 17 = .ok (.istore_n 2, 1) := dec_at dlX11_drawn_0_ok 9 rfl
theorem dX11_drawn_18 : decode cX11_drawn 18 = .ok (.aload_n 0, 1) := dec_at dlX11_drawn_0_ok 10 rfl
theorem dX11_drawn_19 : decode cX11_drawn 19 = .ok (.iconst 3, 1) := dec_at dlX11_drawn_0_ok 11 rfl
theorem dX11_drawn_20 : decode cX11_drawn 20 = .ok (.invokevirtual 251, 3) := dec_at dlX11_drawn_0_ok 12 rfl
theorem dX11_drawn_23 : decode cX11_drawn 23 = .ok (.istore_n 3, 1) := dec_at dlX11_drawn_0_ok 13 rfl
theorem dX11_drawn_24 : decode cX11_drawn 24 = .ok (.iload_n 3, 1) := dec_at dlX11_drawn_0_ok 14 rfl
theorem dX11_drawn_25 : decode cX11_drawn 25 = .ok (.ifCond .ne 19, 3) := dec_at dlX11_drawn_0_ok 15 rfl
theorem dX11_drawn_28 : decode cX11_drawn 28 = .ok (.aload_n 0, 1) := dec_at dlX11_drawn_0_ok 16 rfl
theorem dX11_drawn_29 : decode cX11_drawn 29 = .ok (.iload_n 1, 1) := dec_at dlX11_drawn_0_ok 17 rfl
theorem dX11_drawn_30 : decode cX11_drawn 30 = .ok (.invokevirtual 234, 3) := dec_at dlX11_drawn_0_ok 18 rfl
theorem dX11_drawn_33 : decode cX11_drawn 33 = .ok (.ifCond .eq 11, 3) := dec_at dlX11_drawn_0_ok 19 rfl
theorem dX11_drawn_36 : decode cX11_drawn 36 = .ok (.aload_n 0, 1) := dec_at dlX11_drawn_0_ok 20 rfl
theorem dX11_drawn_37 : decode cX11_drawn 37 = .ok (.iload_n 1, 1) := dec_at dlX11_drawn_0_ok 21 rfl
theorem dX11_drawn_38 : decode cX11_drawn 38 = .ok (.invokevirtual 238, 3) := dec_at dlX11_drawn_0_ok 22 rfl
theorem dX11_drawn_41 : decode cX11_drawn 41 = .ok (.goto 44, 3) := dec_at dlX11_drawn_0_ok 23 rfl
theorem dX11_drawn_44 : decode cX11_drawn 44 = .ok (.iload_n 3, 1) := dec_at dlX11_drawn_0_ok 24 rfl
theorem dX11_drawn_45 : decode cX11_drawn 45 = .ok (.iconst 1, 1) := dec_at dlX11_drawn_0_ok 25 rfl
theorem dX11_drawn_46 : decode cX11_drawn 46 = .ok (.if_icmp .ne 28, 3) := dec_at dlX11_drawn_0_ok 26 rfl
theorem dX11_drawn_49 : decode cX11_drawn 49 = .ok (.aload_n 0, 1) := dec_at dlX11_drawn_0_ok 27 rfl
theorem dX11_drawn_50 : decode cX11_drawn 50 = .ok (.getfield 28, 3) := dec_at dlX11_drawn_0_ok 28 rfl
theorem dX11_drawn_53 : decode cX11_drawn 53 = .ok (.bipush 16, 2) := dec_at dlX11_drawn_0_ok 29 rfl
theorem dX11_drawn_55 : decode cX11_drawn 55 = .ok (.iload_n 1, 1) := dec_at dlX11_drawn_0_ok 30 rfl
noncomputable def dlX11_drawn_56 : List (Nat × Instr × Nat) := [(56, .iadd, 1), (57, .aload_n 0, 1), (58, .getfield 28, 3), (61, .bipush 16, 2), (63, .iload_n 1, 1), (64, .iadd, 1), (65, .iaload, 1), (66, .iconst 1, 1), (67, .invokestatic 231, 3), (70, .iastore, 1), (71, .goto 14, 3), (74, .iload_n 3, 1), (75, .iconst 2, 1), (76, .if_icmp .ne 9, 3), (79, .aload_n 0, 1), (80, .iload_n 1, 1), (81, .iload_n 2, 1), (82, .invokevirtual 225, 3), (85, .return_, 1)]
theorem dlX11_drawn_56_ok : dlX11_drawn_56.all (fun r => decide (decode cX11_drawn r.1 = .ok r.2)) = true := by decide +kernel
theorem dX11_drawn_56 : decode cX11_drawn 56 = .ok (.iadd, 1) := dec_at dlX11_drawn_56_ok 0 rfl
theorem dX11_drawn_57 : decode cX11_drawn 57 = .ok (.aload_n 0, 1) := dec_at dlX11_drawn_56_ok 1 rfl
theorem dX11_drawn_58 : decode cX11_drawn 58 = .ok (.getfield 28, 3) := dec_at dlX11_drawn_56_ok 2 rfl
theorem dX11_drawn_61 : decode cX11_drawn 61 = .ok (.bipush 16, 2) := dec_at dlX11_drawn_56_ok 3 rfl
theorem dX11_drawn_63 : decode cX11_drawn 63 = .ok (.iload_n 1, 1) := dec_at dlX11_drawn_56_ok 4 rfl
theorem dX11_drawn_64 : decode cX11_drawn 64 = .ok (.iadd, 1) := dec_at dlX11_drawn_56_ok 5 rfl
theorem dX11_drawn_65 : decode cX11_drawn 65 = .ok (.iaload, 1) := dec_at dlX11_drawn_56_ok 6 rfl
theorem dX11_drawn_66 : decode cX11_drawn 66 = .ok (.iconst 1, 1) := dec_at dlX11_drawn_56_ok 7 rfl
theorem dX11_drawn_67 : decode cX11_drawn 67 = .ok (.invokestatic 231, 3) := dec_at dlX11_drawn_56_ok 8 rfl
theorem dX11_drawn_70 : decode cX11_drawn 70 = .ok (.iastore, 1) := dec_at dlX11_drawn_56_ok 9 rfl
theorem dX11_drawn_71 : decode cX11_drawn 71 = .ok (.goto 14, 3) := dec_at dlX11_drawn_56_ok 10 rfl
theorem dX11_drawn_74 : decode cX11_drawn 74 = .ok (.iload_n 3, 1) := dec_at dlX11_drawn_56_ok 11 rfl
theorem dX11_drawn_75 : decode cX11_drawn 75 = .ok (.iconst 2, 1) := dec_at dlX11_drawn_56_ok 12 rfl
theorem dX11_drawn_76 : decode cX11_drawn 76 = .ok (.if_icmp .ne 9, 3) := dec_at dlX11_drawn_56_ok 13 rfl
theorem dX11_drawn_79 : decode cX11_drawn 79 = .ok (.aload_n 0, 1) := dec_at dlX11_drawn_56_ok 14 rfl
theorem dX11_drawn_80 : decode cX11_drawn 80 = .ok (.iload_n 1, 1) := dec_at dlX11_drawn_56_ok 15 rfl
theorem dX11_drawn_81 : decode cX11_drawn 81 = .ok (.iload_n 2, 1) := dec_at dlX11_drawn_56_ok 16 rfl
theorem dX11_drawn_82 : decode cX11_drawn 82 = .ok (.invokevirtual 225, 3) := dec_at dlX11_drawn_56_ok 17 rfl
theorem dX11_drawn_85 : decode cX11_drawn 85 = .ok (.return_, 1) := dec_at dlX11_drawn_56_ok 18 rfl
set_option maxRecDepth 20000 in
theorem ggX11_drift_X11_in : GoodIn wsX11_drift wsX11_in := goodIn_s _ [(13, 1)] rfl (by decide +kernel)
set_option maxRecDepth 20000 in
theorem gX11_drift_X11_in : GoodIn wsX11_drift (va_wsS RX11 102 yX11_in wsX11_in) := goodIn_app (goodIn_s _ [(10, 3)] rfl (by decide +kernel)) ggX11_drift_X11_in
set_option maxRecDepth 20000 in
theorem ggX11_drift_X11_remember : GoodIn wsX11_drift wsX11_remember := goodIn_s _ [(17, 3), (5, 1), (84, 46)] rfl (by decide +kernel)
set_option maxRecDepth 20000 in
theorem gX11_drift_X11_remember : GoodIn wsX11_drift (wsV RX11 222 RX11 yX11_remember wsX11_remember) := goodIn_app (goodIn_s _ [(14, 3), (12, 1)] rfl (by decide +kernel)) ggX11_drift_X11_remember
set_option maxRecDepth 20000 in
theorem ggX11_drift_X11_drawn : GoodIn wsX11_drift wsX11_drawn := goodIn_s _ [(23, 1), (8, 2), (5, 1), (24, 3), (12, 1), (27, 14), (3, 1), (41, 43), (10, 2), (13, 1), (84, 46)] rfl (by decide +kernel)
set_option maxRecDepth 20000 in
theorem gX11_drift_X11_drawn : GoodIn wsX11_drift (wsV RX11 256 RX11 yX11_drawn wsX11_drawn) := goodIn_app (goodIn_s _ [(20, 3), (12, 1)] rfl (by decide +kernel)) ggX11_drift_X11_drawn
noncomputable def dlX11_drift_0 : List (Nat × Instr × Nat) := [(0, .iload_n 1, 1), (1, .i2l, 1), (2, .lconst 1, 1), (3, .ldc2_w 254, 3), (6, .invokestatic 102, 3), (9, .ifCond .ne 6, 3), (12, .ldc 111, 2), (14, .ireturn, 1), (15, .aload_n 0, 1), (16, .getfield 96, 3), (19, .ifCond .ne 6, 3), (22, .ldc 237, 2), (24, .ireturn, 1), (25, .aload_n 0, 1), (26, .getfield 28, 3), (29, .bipush 32, 2), (31, .iaload, 1), (32, .ldc 221, 2), (34, .if_icmp .le 6, 3), (37, .ldc 115, 2), (39, .ireturn, 1), (40, .aload_n 0, 1), (41, .invokevirtual 222, 3), (44, .iconst 0, 1), (45, .istore_n 2, 1), (46, .iload_n 2, 1), (47, .iload_n 1, 1), (48, .if_icmp .ge 27, 3), (51, .aload_n 0, 1), (52, .getfield 99, 3), (55, .ifCond .le 20, 3)]
theorem dlX11_drift_0_ok : dlX11_drift_0.all (fun r => decide (decode cX11_drift r.1 = .ok r.2)) = true := by decide +kernel
theorem dX11_drift_0 : decode cX11_drift 0 = .ok (.iload_n 1, 1) := dec_at dlX11_drift_0_ok 0 rfl
theorem dX11_drift_1 : decode cX11_drift 1 = .ok (.i2l, 1) := dec_at dlX11_drift_0_ok 1 rfl
theorem dX11_drift_2 : decode cX11_drift 2 = .ok (.lconst 1, 1) := dec_at dlX11_drift_0_ok 2 rfl
theorem dX11_drift_3 : decode cX11_drift 3 = .ok (.ldc2_w 254, 3) := dec_at dlX11_drift_0_ok 3 rfl
theorem dX11_drift_6 : decode cX11_drift 6 = .ok (.invokestatic 102, 3) := dec_at dlX11_drift_0_ok 4 rfl
theorem dX11_drift_9 : decode cX11_drift 9 = .ok (.ifCond .ne 6, 3) := dec_at dlX11_drift_0_ok 5 rfl
theorem dX11_drift_12 : decode cX11_drift 12 = .ok (.ldc 111, 2) := dec_at dlX11_drift_0_ok 6 rfl
theorem dX11_drift_14 : decode cX11_drift 14 = .ok (.ireturn, 1) := dec_at dlX11_drift_0_ok 7 rfl
theorem dX11_drift_15 : decode cX11_drift 15 = .ok (.aload_n 0, 1) := dec_at dlX11_drift_0_ok 8 rfl
theorem dX11_drift_16 : decode cX11_drift 16 = .ok (.getfield 96, 3) := dec_at dlX11_drift_0_ok 9 rfl
theorem dX11_drift_19 : decode cX11_drift 19 = .ok (.ifCond .ne 6, 3) := dec_at dlX11_drift_0_ok 10 rfl
theorem dX11_drift_22 : decode cX11_drift 22 = .ok (.ldc 237, 2) := dec_at dlX11_drift_0_ok 11 rfl
theorem dX11_drift_24 : decode cX11_drift 24 = .ok (.ireturn, 1) := dec_at dlX11_drift_0_ok 12 rfl
theorem dX11_drift_25 : decode cX11_drift 25 = .ok (.aload_n 0, 1) := dec_at dlX11_drift_0_ok 13 rfl
theorem dX11_drift_26 : decode cX11_drift 26 = .ok (.getfield 28, 3) := dec_at dlX11_drift_0_ok 14 rfl
theorem dX11_drift_29 : decode cX11_drift 29 = .ok (.bipush 32, 2) := dec_at dlX11_drift_0_ok 15 rfl
theorem dX11_drift_31 : decode cX11_drift 31 = .ok (.iaload, 1) := dec_at dlX11_drift_0_ok 16 rfl
theorem dX11_drift_32 : decode cX11_drift 32 = .ok (.ldc 221, 2) := dec_at dlX11_drift_0_ok 17 rfl
theorem dX11_drift_34 : decode cX11_drift 34 = .ok (.if_icmp .le 6, 3) := dec_at dlX11_drift_0_ok 18 rfl
theorem dX11_drift_37 : decode cX11_drift 37 = .ok (.ldc 115, 2) := dec_at dlX11_drift_0_ok 19 rfl
theorem dX11_drift_39 : decode cX11_drift 39 = .ok (.ireturn, 1) := dec_at dlX11_drift_0_ok 20 rfl
theorem dX11_drift_40 : decode cX11_drift 40 = .ok (.aload_n 0, 1) := dec_at dlX11_drift_0_ok 21 rfl
theorem dX11_drift_41 : decode cX11_drift 41 = .ok (.invokevirtual 222, 3) := dec_at dlX11_drift_0_ok 22 rfl
theorem dX11_drift_44 : decode cX11_drift 44 = .ok (.iconst 0, 1) := dec_at dlX11_drift_0_ok 23 rfl
theorem dX11_drift_45 : decode cX11_drift 45 = .ok (.istore_n 2, 1) := dec_at dlX11_drift_0_ok 24 rfl
theorem dX11_drift_46 : decode cX11_drift 46 = .ok (.iload_n 2, 1) := dec_at dlX11_drift_0_ok 25 rfl
theorem dX11_drift_47 : decode cX11_drift 47 = .ok (.iload_n 1, 1) := dec_at dlX11_drift_0_ok 26 rfl
theorem dX11_drift_48 : decode cX11_drift 48 = .ok (.if_icmp .ge 27, 3) := dec_at dlX11_drift_0_ok 27 rfl
theorem dX11_drift_51 : decode cX11_drift 51 = .ok (.aload_n 0, 1) := dec_at dlX11_drift_0_ok 28 rfl
theorem dX11_drift_52 : decode cX11_drift 52 = .ok (.getfield 99, 3) := dec_at dlX11_drift_0_ok 29 rfl
theorem dX11_drift_55 : decode cX11_drift 55 = .ok (.ifCond .le 20, 3) := dec_at dlX11_drift_0_ok 30 rfl
noncomputable def dlX11_drift_58 : List (Nat × Instr × Nat) := [(58, .aload_n 0, 1), (59, .getfield 106, 3), (62, .ifCond .le 13, 3), (65, .aload_n 0, 1), (66, .invokevirtual 256, 3), (69, .iinc 2 1, 3), (72, .goto (-26), 3), (75, .aload_n 0, 1), (76, .getfield 28, 3), (79, .bipush 32, 2), (81, .iaload, 1), (82, .ireturn, 1)]
theorem dlX11_drift_58_ok : dlX11_drift_58.all (fun r => decide (decode cX11_drift r.1 = .ok r.2)) = true := by decide +kernel
theorem dX11_drift_58 : decode cX11_drift 58 = .ok (.aload_n 0, 1) := dec_at dlX11_drift_58_ok 0 rfl
theorem dX11_drift_59 : decode cX11_drift 59 = .ok (.getfield 106, 3) := dec_at dlX11_drift_58_ok 1 rfl
theorem dX11_drift_62 : decode cX11_drift 62 = .ok (.ifCond .le 13, 3) := dec_at dlX11_drift_58_ok 2 rfl
theorem dX11_drift_65 : decode cX11_drift 65 = .ok (.aload_n 0, 1) := dec_at dlX11_drift_58_ok 3 rfl
theorem dX11_drift_66 : decode cX11_drift 66 = .ok (.invokevirtual 256, 3) := dec_at dlX11_drift_58_ok 4 rfl
theorem dX11_drift_69 : decode cX11_drift 69 = .ok (.iinc 2 1, 3) := dec_at dlX11_drift_58_ok 5 rfl
theorem dX11_drift_72 : decode cX11_drift 72 = .ok (.goto (-26), 3) := dec_at dlX11_drift_58_ok 6 rfl
theorem dX11_drift_75 : decode cX11_drift 75 = .ok (.aload_n 0, 1) := dec_at dlX11_drift_58_ok 7 rfl
theorem dX11_drift_76 : decode cX11_drift 76 = .ok (.getfield 28, 3) := dec_at dlX11_drift_58_ok 8 rfl
theorem dX11_drift_79 : decode cX11_drift 79 = .ok (.bipush 32, 2) := dec_at dlX11_drift_58_ok 9 rfl
theorem dX11_drift_81 : decode cX11_drift 81 = .ok (.iaload, 1) := dec_at dlX11_drift_58_ok 10 rfl
theorem dX11_drift_82 : decode cX11_drift 82 = .ok (.ireturn, 1) := dec_at dlX11_drift_58_ok 11 rfl
noncomputable def dlX11_undo_0 : List (Nat × Instr × Nat) := [(0, .aload_n 0, 1), (1, .getfield 174, 3), (4, .ifCond .ne 6, 3), (7, .ldc 237, 2), (9, .ireturn, 1), (10, .aload_n 0, 1), (11, .dup, 1), (12, .getfield 174, 3), (15, .iconst 1, 1), (16, .isub, 1), (17, .putfield 174, 3), (20, .iconst 0, 1), (21, .istore_n 1, 1), (22, .iload_n 1, 1), (23, .bipush 34, 2), (25, .if_icmp .ge 29, 3), (28, .aload_n 0, 1), (29, .getfield 28, 3), (32, .iload_n 1, 1), (33, .aload_n 0, 1), (34, .getfield 65, 3), (37, .bipush 34, 2), (39, .aload_n 0, 1), (40, .getfield 174, 3), (43, .imul, 1), (44, .iload_n 1, 1), (45, .iadd, 1), (46, .iaload, 1), (47, .iastore, 1), (48, .iinc 1 1, 3), (51, .goto (-29), 3)]
theorem dlX11_undo_0_ok : dlX11_undo_0.all (fun r => decide (decode cX11_undo r.1 = .ok r.2)) = true := by decide +kernel
theorem dX11_undo_0 : decode cX11_undo 0 = .ok (.aload_n 0, 1) := dec_at dlX11_undo_0_ok 0 rfl
theorem dX11_undo_1 : decode cX11_undo 1 = .ok (.getfield 174, 3) := dec_at dlX11_undo_0_ok 1 rfl
theorem dX11_undo_4 : decode cX11_undo 4 = .ok (.ifCond .ne 6, 3) := dec_at dlX11_undo_0_ok 2 rfl
theorem dX11_undo_7 : decode cX11_undo 7 = .ok (.ldc 237, 2) := dec_at dlX11_undo_0_ok 3 rfl
theorem dX11_undo_9 : decode cX11_undo 9 = .ok (.ireturn, 1) := dec_at dlX11_undo_0_ok 4 rfl
theorem dX11_undo_10 : decode cX11_undo 10 = .ok (.aload_n 0, 1) := dec_at dlX11_undo_0_ok 5 rfl
theorem dX11_undo_11 : decode cX11_undo 11 = .ok (.dup, 1) := dec_at dlX11_undo_0_ok 6 rfl
theorem dX11_undo_12 : decode cX11_undo 12 = .ok (.getfield 174, 3) := dec_at dlX11_undo_0_ok 7 rfl
theorem dX11_undo_15 : decode cX11_undo 15 = .ok (.iconst 1, 1) := dec_at dlX11_undo_0_ok 8 rfl
theorem dX11_undo_16 : decode cX11_undo 16 = .ok (.isub, 1) := dec_at dlX11_undo_0_ok 9 rfl
theorem dX11_undo_17 : decode cX11_undo 17 = .ok (.putfield 174, 3) := dec_at dlX11_undo_0_ok 10 rfl
theorem dX11_undo_20 : decode cX11_undo 20 = .ok (.iconst 0, 1) := dec_at dlX11_undo_0_ok 11 rfl
theorem dX11_undo_21 : decode cX11_undo 21 = .ok (.istore_n 1, 1) := dec_at dlX11_undo_0_ok 12 rfl
theorem dX11_undo_22 : decode cX11_undo 22 = .ok (.iload_n 1, 1) := dec_at dlX11_undo_0_ok 13 rfl
theorem dX11_undo_23 : decode cX11_undo 23 = .ok (.bipush 34, 2) := dec_at dlX11_undo_0_ok 14 rfl
theorem dX11_undo_25 : decode cX11_undo 25 = .ok (.if_icmp .ge 29, 3) := dec_at dlX11_undo_0_ok 15 rfl
theorem dX11_undo_28 : decode cX11_undo 28 = .ok (.aload_n 0, 1) := dec_at dlX11_undo_0_ok 16 rfl
theorem dX11_undo_29 : decode cX11_undo 29 = .ok (.getfield 28, 3) := dec_at dlX11_undo_0_ok 17 rfl
theorem dX11_undo_32 : decode cX11_undo 32 = .ok (.iload_n 1, 1) := dec_at dlX11_undo_0_ok 18 rfl
theorem dX11_undo_33 : decode cX11_undo 33 = .ok (.aload_n 0, 1) := dec_at dlX11_undo_0_ok 19 rfl
theorem dX11_undo_34 : decode cX11_undo 34 = .ok (.getfield 65, 3) := dec_at dlX11_undo_0_ok 20 rfl
theorem dX11_undo_37 : decode cX11_undo 37 = .ok (.bipush 34, 2) := dec_at dlX11_undo_0_ok 21 rfl
theorem dX11_undo_39 : decode cX11_undo 39 = .ok (.aload_n 0, 1) := dec_at dlX11_undo_0_ok 22 rfl
theorem dX11_undo_40 : decode cX11_undo 40 = .ok (.getfield 174, 3) := dec_at dlX11_undo_0_ok 23 rfl
theorem dX11_undo_43 : decode cX11_undo 43 = .ok (.imul, 1) := dec_at dlX11_undo_0_ok 24 rfl
theorem dX11_undo_44 : decode cX11_undo 44 = .ok (.iload_n 1, 1) := dec_at dlX11_undo_0_ok 25 rfl
theorem dX11_undo_45 : decode cX11_undo 45 = .ok (.iadd, 1) := dec_at dlX11_undo_0_ok 26 rfl
theorem dX11_undo_46 : decode cX11_undo 46 = .ok (.iaload, 1) := dec_at dlX11_undo_0_ok 27 rfl
theorem dX11_undo_47 : decode cX11_undo 47 = .ok (.iastore, 1) := dec_at dlX11_undo_0_ok 28 rfl
theorem dX11_undo_48 : decode cX11_undo 48 = .ok (.iinc 1 1, 3) := dec_at dlX11_undo_0_ok 29 rfl
theorem dX11_undo_51 : decode cX11_undo 51 = .ok (.goto (-29), 3) := dec_at dlX11_undo_0_ok 30 rfl
noncomputable def dlX11_undo_54 : List (Nat × Instr × Nat) := [(54, .aload_n 0, 1), (55, .getfield 174, 3), (58, .ireturn, 1)]
theorem dlX11_undo_54_ok : dlX11_undo_54.all (fun r => decide (decode cX11_undo r.1 = .ok r.2)) = true := by decide +kernel
theorem dX11_undo_54 : decode cX11_undo 54 = .ok (.aload_n 0, 1) := dec_at dlX11_undo_54_ok 0 rfl
theorem dX11_undo_55 : decode cX11_undo 55 = .ok (.getfield 174, 3) := dec_at dlX11_undo_54_ok 1 rfl
theorem dX11_undo_58 : decode cX11_undo 58 = .ok (.ireturn, 1) := dec_at dlX11_undo_54_ok 2 rfl
set_option maxRecDepth 20000 in
theorem ggX11_pagesFrom_X11_softBehind : GoodIn wsX11_pagesFrom wsX11_softBehind := goodIn_s _ [(6, 4), (5, 1), (10, 10), (29, 46)] rfl (by decide +kernel)
set_option maxRecDepth 20000 in
theorem gX11_pagesFrom_X11_softBehind : GoodIn wsX11_pagesFrom (wsV RX11 200 RX11 yX11_softBehind wsX11_softBehind) := goodIn_app (goodIn_s _ [(2, 4)] rfl (by decide +kernel)) ggX11_pagesFrom_X11_softBehind
set_option maxRecDepth 20000 in
theorem ggX11_pagesFrom_X11_suits : GoodIn wsX11_pagesFrom wsX11_suits := goodIn_s _ [(23, 5), (5, 1), (28, 47)] rfl (by decide +kernel)
set_option maxRecDepth 20000 in
theorem gX11_pagesFrom_X11_suits : GoodIn wsX11_pagesFrom (wsV RX11 204 RX11 yX11_suits wsX11_suits) := goodIn_app (goodIn_s _ [(20, 3), (5, 1)] rfl (by decide +kernel)) ggX11_pagesFrom_X11_suits
noncomputable def dlX11_pagesFrom_0 : List (Nat × Instr × Nat) := [(0, .iconst 0, 1), (1, .istore 5, 2), (3, .aload_n 0, 1), (4, .iload_n 1, 1), (5, .iload_n 2, 1), (6, .iload_n 3, 1), (7, .invokevirtual 200, 3), (10, .istore 6, 2), (12, .iload 5, 2), (14, .iload 4, 2), (16, .if_icmp .ge 43, 3), (19, .iload 6, 2), (21, .bipush 50, 2), (23, .if_icmp .gt 36, 3), (26, .aload_n 0, 1), (27, .aload_n 0, 1), (28, .getfield 28, 3), (31, .bipush 8, 2), (33, .iload_n 2, 1), (34, .iadd, 1), (35, .iaload, 1), (36, .iload_n 3, 1), (37, .invokevirtual 204, 3), (40, .ifCond .eq 19, 3), (43, .iinc 5 1, 3), (46, .aload_n 0, 1), (47, .iload 6, 2), (49, .iload_n 2, 1), (50, .iload_n 3, 1), (51, .invokevirtual 200, 3), (54, .istore 6, 2)]
theorem dlX11_pagesFrom_0_ok : dlX11_pagesFrom_0.all (fun r => decide (decode cX11_pagesFrom r.1 = .ok r.2)) = true := by decide +kernel
theorem dX11_pagesFrom_0 : decode cX11_pagesFrom 0 = .ok (.iconst 0, 1) := dec_at dlX11_pagesFrom_0_ok 0 rfl
theorem dX11_pagesFrom_1 : decode cX11_pagesFrom 1 = .ok (.istore 5, 2) := dec_at dlX11_pagesFrom_0_ok 1 rfl
theorem dX11_pagesFrom_3 : decode cX11_pagesFrom 3 = .ok (.aload_n 0, 1) := dec_at dlX11_pagesFrom_0_ok 2 rfl
theorem dX11_pagesFrom_4 : decode cX11_pagesFrom 4 = .ok (.iload_n 1, 1) := dec_at dlX11_pagesFrom_0_ok 3 rfl
theorem dX11_pagesFrom_5 : decode cX11_pagesFrom 5 = .ok (.iload_n 2, 1) := dec_at dlX11_pagesFrom_0_ok 4 rfl
theorem dX11_pagesFrom_6 : decode cX11_pagesFrom 6 = .ok (.iload_n 3, 1) := dec_at dlX11_pagesFrom_0_ok 5 rfl
theorem dX11_pagesFrom_7 : decode cX11_pagesFrom 7 = .ok (.invokevirtual 200, 3) := dec_at dlX11_pagesFrom_0_ok 6 rfl
theorem dX11_pagesFrom_10 : decode cX11_pagesFrom 10 = .ok (.istore 6, 2) := dec_at dlX11_pagesFrom_0_ok 7 rfl
theorem dX11_pagesFrom_12 : decode cX11_pagesFrom 12 = .ok (.iload 5, 2) := dec_at dlX11_pagesFrom_0_ok 8 rfl
theorem dX11_pagesFrom_14 : decode cX11_pagesFrom 14 = .ok (.iload 4, 2) := dec_at dlX11_pagesFrom_0_ok 9 rfl
theorem dX11_pagesFrom_16 : decode cX11_pagesFrom 16 = .ok (.if_icmp .ge 43, 3) := dec_at dlX11_pagesFrom_0_ok 10 rfl
theorem dX11_pagesFrom_19 : decode cX11_pagesFrom 19 = .ok (.iload 6, 2) := dec_at dlX11_pagesFrom_0_ok 11 rfl
theorem dX11_pagesFrom_21 : decode cX11_pagesFrom 21 = .ok (.bipush 50, 2) := dec_at dlX11_pagesFrom_0_ok 12 rfl
theorem dX11_pagesFrom_23 : decode cX11_pagesFrom 23 = .ok (.if_icmp .gt 36, 3) := dec_at dlX11_pagesFrom_0_ok 13 rfl
theorem dX11_pagesFrom_26 : decode cX11_pagesFrom 26 = .ok (.aload_n 0, 1) := dec_at dlX11_pagesFrom_0_ok 14 rfl
theorem dX11_pagesFrom_27 : decode cX11_pagesFrom 27 = .ok (.aload_n 0, 1) := dec_at dlX11_pagesFrom_0_ok 15 rfl
theorem dX11_pagesFrom_28 : decode cX11_pagesFrom 28 = .ok (.getfield 28, 3) := dec_at dlX11_pagesFrom_0_ok 16 rfl
theorem dX11_pagesFrom_31 : decode cX11_pagesFrom 31 = .ok (.bipush 8, 2) := dec_at dlX11_pagesFrom_0_ok 17 rfl
theorem dX11_pagesFrom_33 : decode cX11_pagesFrom 33 = .ok (.iload_n 2, 1) := dec_at dlX11_pagesFrom_0_ok 18 rfl
theorem dX11_pagesFrom_34 : decode cX11_pagesFrom 34 = .ok (.iadd, 1) := dec_at dlX11_pagesFrom_0_ok 19 rfl
theorem dX11_pagesFrom_35 : decode cX11_pagesFrom 35 = .ok (.iaload, 1) := dec_at dlX11_pagesFrom_0_ok 20 rfl
theorem dX11_pagesFrom_36 : decode cX11_pagesFrom 36 = .ok (.iload_n 3, 1) := dec_at dlX11_pagesFrom_0_ok 21 rfl
theorem dX11_pagesFrom_37 : decode cX11_pagesFrom 37 = .ok (.invokevirtual 204, 3) := dec_at dlX11_pagesFrom_0_ok 22 rfl
theorem dX11_pagesFrom_40 : decode cX11_pagesFrom 40 = .ok (.ifCond .eq 19, 3) := dec_at dlX11_pagesFrom_0_ok 23 rfl
theorem dX11_pagesFrom_43 : decode cX11_pagesFrom 43 = .ok (.iinc 5 1, 3) := dec_at dlX11_pagesFrom_0_ok 24 rfl
theorem dX11_pagesFrom_46 : decode cX11_pagesFrom 46 = .ok (.aload_n 0, 1) := dec_at dlX11_pagesFrom_0_ok 25 rfl
theorem dX11_pagesFrom_47 : decode cX11_pagesFrom 47 = .ok (.iload 6, 2) := dec_at dlX11_pagesFrom_0_ok 26 rfl
theorem dX11_pagesFrom_49 : decode cX11_pagesFrom 49 = .ok (.iload_n 2, 1) := dec_at dlX11_pagesFrom_0_ok 27 rfl
theorem dX11_pagesFrom_50 : decode cX11_pagesFrom 50 = .ok (.iload_n 3, 1) := dec_at dlX11_pagesFrom_0_ok 28 rfl
theorem dX11_pagesFrom_51 : decode cX11_pagesFrom 51 = .ok (.invokevirtual 200, 3) := dec_at dlX11_pagesFrom_0_ok 29 rfl
theorem dX11_pagesFrom_54 : decode cX11_pagesFrom 54 = .ok (.istore 6, 2) := dec_at dlX11_pagesFrom_0_ok 30 rfl
noncomputable def dlX11_pagesFrom_56 : List (Nat × Instr × Nat) := [(56, .goto (-44), 3), (59, .iload 5, 2), (61, .ireturn, 1)]
theorem dlX11_pagesFrom_56_ok : dlX11_pagesFrom_56.all (fun r => decide (decode cX11_pagesFrom r.1 = .ok r.2)) = true := by decide +kernel
theorem dX11_pagesFrom_56 : decode cX11_pagesFrom 56 = .ok (.goto (-44), 3) := dec_at dlX11_pagesFrom_56_ok 0 rfl
theorem dX11_pagesFrom_59 : decode cX11_pagesFrom 59 = .ok (.iload 5, 2) := dec_at dlX11_pagesFrom_56_ok 1 rfl
theorem dX11_pagesFrom_61 : decode cX11_pagesFrom 61 = .ok (.ireturn, 1) := dec_at dlX11_pagesFrom_56_ok 2 rfl
set_option maxRecDepth 20000 in
theorem ggX11_goodNow_X11_pagesFrom : GoodIn wsX11_goodNow wsX11_pagesFrom := goodIn_s _ [(6, 1), (1, 1), (7, 3), (5, 1), (10, 69)] rfl (by decide +kernel)
set_option maxRecDepth 20000 in
theorem gX11_goodNow_X11_pagesFrom : GoodIn wsX11_goodNow (wsV RX11 259 RX11 yX11_pagesFrom wsX11_pagesFrom) := goodIn_app (goodIn_s _ [(2, 4)] rfl (by decide +kernel)) ggX11_goodNow_X11_pagesFrom
noncomputable def dlX11_goodNow_0 : List (Nat × Instr × Nat) := [(0, .aload_n 0, 1), (1, .aload_n 0, 1), (2, .getfield 28, 3), (5, .bipush 16, 2), (7, .iload_n 1, 1), (8, .iadd, 1), (9, .iaload, 1), (10, .iload_n 1, 1), (11, .iload_n 2, 1), (12, .sipush 999, 3), (15, .invokevirtual 259, 3), (18, .ireturn, 1)]
theorem dlX11_goodNow_0_ok : dlX11_goodNow_0.all (fun r => decide (decode cX11_goodNow r.1 = .ok r.2)) = true := by decide +kernel
theorem dX11_goodNow_0 : decode cX11_goodNow 0 = .ok (.aload_n 0, 1) := dec_at dlX11_goodNow_0_ok 0 rfl
theorem dX11_goodNow_1 : decode cX11_goodNow 1 = .ok (.aload_n 0, 1) := dec_at dlX11_goodNow_0_ok 1 rfl
theorem dX11_goodNow_2 : decode cX11_goodNow 2 = .ok (.getfield 28, 3) := dec_at dlX11_goodNow_0_ok 2 rfl
theorem dX11_goodNow_5 : decode cX11_goodNow 5 = .ok (.bipush 16, 2) := dec_at dlX11_goodNow_0_ok 3 rfl
theorem dX11_goodNow_7 : decode cX11_goodNow 7 = .ok (.iload_n 1, 1) := dec_at dlX11_goodNow_0_ok 4 rfl
theorem dX11_goodNow_8 : decode cX11_goodNow 8 = .ok (.iadd, 1) := dec_at dlX11_goodNow_0_ok 5 rfl
theorem dX11_goodNow_9 : decode cX11_goodNow 9 = .ok (.iaload, 1) := dec_at dlX11_goodNow_0_ok 6 rfl
theorem dX11_goodNow_10 : decode cX11_goodNow 10 = .ok (.iload_n 1, 1) := dec_at dlX11_goodNow_0_ok 7 rfl
theorem dX11_goodNow_11 : decode cX11_goodNow 11 = .ok (.iload_n 2, 1) := dec_at dlX11_goodNow_0_ok 8 rfl
theorem dX11_goodNow_12 : decode cX11_goodNow 12 = .ok (.sipush 999, 3) := dec_at dlX11_goodNow_0_ok 9 rfl
theorem dX11_goodNow_15 : decode cX11_goodNow 15 = .ok (.invokevirtual 259, 3) := dec_at dlX11_goodNow_0_ok 10 rfl
theorem dX11_goodNow_18 : decode cX11_goodNow 18 = .ok (.ireturn, 1) := dec_at dlX11_goodNow_0_ok 11 rfl
set_option maxRecDepth 20000 in
theorem ggX11_goodPages_X11_isQuill : GoodIn wsX11_goodPages wsX11_isQuill := goodIn_s _ [(6, 4), (5, 1), (10, 1), (48, 46)] rfl (by decide +kernel)
set_option maxRecDepth 20000 in
theorem gX11_goodPages_X11_isQuill : GoodIn wsX11_goodPages (wsV RX11 184 RX11 yX11_isQuill wsX11_isQuill) := goodIn_app (goodIn_s _ [(2, 4)] rfl (by decide +kernel)) ggX11_goodPages_X11_isQuill
set_option maxRecDepth 20000 in
theorem ggX11_goodPages_X11_isHand : GoodIn wsX11_goodPages wsX11_isHand := goodIn_s _ [(14, 2), (8, 2), (5, 1), (10, 1), (48, 46)] rfl (by decide +kernel)
set_option maxRecDepth 20000 in
theorem gX11_goodPages_X11_isHand : GoodIn wsX11_goodPages (wsV RX11 192 RX11 yX11_isHand wsX11_isHand) := goodIn_app (goodIn_s _ [(11, 3), (5, 1)] rfl (by decide +kernel)) ggX11_goodPages_X11_isHand
set_option maxRecDepth 20000 in
theorem ggX11_goodPages_X11_goodNow : GoodIn wsX11_goodPages wsX11_goodNow := goodIn_s _ [(19, 5), (5, 1), (24, 24), (8, 3), (48, 46)] rfl (by decide +kernel)
set_option maxRecDepth 20000 in
theorem gX11_goodPages_X11_goodNow : GoodIn wsX11_goodPages (wsV RX11 263 RX11 yX11_goodNow wsX11_goodNow) := goodIn_app (goodIn_s _ [(16, 3), (5, 1)] rfl (by decide +kernel)) ggX11_goodPages_X11_goodNow
noncomputable def dlX11_goodPages_0 : List (Nat × Instr × Nat) := [(0, .aload_n 0, 1), (1, .iload_n 1, 1), (2, .invokevirtual 184, 3), (5, .ifCond .eq 20, 3), (8, .aload_n 0, 1), (9, .iload_n 2, 1), (10, .invokevirtual 192, 3), (13, .ifCond .eq 12, 3), (16, .aload_n 0, 1), (17, .iload_n 1, 1), (18, .iload_n 2, 1), (19, .invokevirtual 263, 3), (22, .goto 5, 3), (25, .ldc 188, 2), (27, .ireturn, 1)]
theorem dlX11_goodPages_0_ok : dlX11_goodPages_0.all (fun r => decide (decode cX11_goodPages r.1 = .ok r.2)) = true := by decide +kernel
theorem dX11_goodPages_0 : decode cX11_goodPages 0 = .ok (.aload_n 0, 1) := dec_at dlX11_goodPages_0_ok 0 rfl
theorem dX11_goodPages_1 : decode cX11_goodPages 1 = .ok (.iload_n 1, 1) := dec_at dlX11_goodPages_0_ok 1 rfl
theorem dX11_goodPages_2 : decode cX11_goodPages 2 = .ok (.invokevirtual 184, 3) := dec_at dlX11_goodPages_0_ok 2 rfl
theorem dX11_goodPages_5 : decode cX11_goodPages 5 = .ok (.ifCond .eq 20, 3) := dec_at dlX11_goodPages_0_ok 3 rfl
theorem dX11_goodPages_8 : decode cX11_goodPages 8 = .ok (.aload_n 0, 1) := dec_at dlX11_goodPages_0_ok 4 rfl
theorem dX11_goodPages_9 : decode cX11_goodPages 9 = .ok (.iload_n 2, 1) := dec_at dlX11_goodPages_0_ok 5 rfl
theorem dX11_goodPages_10 : decode cX11_goodPages 10 = .ok (.invokevirtual 192, 3) := dec_at dlX11_goodPages_0_ok 6 rfl
theorem dX11_goodPages_13 : decode cX11_goodPages 13 = .ok (.ifCond .eq 12, 3) := dec_at dlX11_goodPages_0_ok 7 rfl
theorem dX11_goodPages_16 : decode cX11_goodPages 16 = .ok (.aload_n 0, 1) := dec_at dlX11_goodPages_0_ok 8 rfl
theorem dX11_goodPages_17 : decode cX11_goodPages 17 = .ok (.iload_n 1, 1) := dec_at dlX11_goodPages_0_ok 9 rfl
theorem dX11_goodPages_18 : decode cX11_goodPages 18 = .ok (.iload_n 2, 1) := dec_at dlX11_goodPages_0_ok 10 rfl
theorem dX11_goodPages_19 : decode cX11_goodPages 19 = .ok (.invokevirtual 263, 3) := dec_at dlX11_goodPages_0_ok 11 rfl
theorem dX11_goodPages_22 : decode cX11_goodPages 22 = .ok (.goto 5, 3) := dec_at dlX11_goodPages_0_ok 12 rfl
theorem dX11_goodPages_25 : decode cX11_goodPages 25 = .ok (.ldc 188, 2) := dec_at dlX11_goodPages_0_ok 13 rfl
theorem dX11_goodPages_27 : decode cX11_goodPages 27 = .ok (.ireturn, 1) := dec_at dlX11_goodPages_0_ok 14 rfl
set_option maxRecDepth 20000 in
theorem ggX11_lifeOf_X11_goodNow : GoodIn wsX11_lifeOf wsX11_goodNow := goodIn_s _ [(6, 1), (1, 1), (7, 3), (5, 1), (10, 73)] rfl (by decide +kernel)
set_option maxRecDepth 20000 in
theorem gX11_lifeOf_X11_goodNow : GoodIn wsX11_lifeOf (wsV RX11 263 RX11 yX11_goodNow wsX11_goodNow) := goodIn_app (goodIn_s _ [(2, 4)] rfl (by decide +kernel)) ggX11_lifeOf_X11_goodNow
set_option maxRecDepth 20000 in
theorem ggX11_lifeOf_X11_pagesFrom : GoodIn wsX11_lifeOf wsX11_pagesFrom := goodIn_s _ [(10, 1), (1, 1), (11, 3), (5, 1), (14, 69)] rfl (by decide +kernel)
set_option maxRecDepth 20000 in
theorem gX11_lifeOf_X11_pagesFrom : GoodIn wsX11_lifeOf (wsV RX11 259 RX11 yX11_pagesFrom wsX11_pagesFrom) := goodIn_app (goodIn_s _ [(7, 3), (5, 1)] rfl (by decide +kernel)) ggX11_lifeOf_X11_pagesFrom
noncomputable def dlX11_lifeOf_0 : List (Nat × Instr × Nat) := [(0, .aload_n 0, 1), (1, .iload_n 1, 1), (2, .iload_n 2, 1), (3, .invokevirtual 263, 3), (6, .istore_n 3, 1), (7, .aload_n 0, 1), (8, .iconst 0, 1), (9, .iload_n 1, 1), (10, .iload_n 2, 1), (11, .sipush 999, 3), (14, .invokevirtual 259, 3), (17, .istore 4, 2), (19, .aload_n 0, 1), (20, .getfield 28, 3), (23, .iload_n 1, 1), (24, .iaload, 1), (25, .istore 5, 2), (27, .iload 5, 2), (29, .iconst 5, 1), (30, .if_icmp .lt 26, 3), (33, .iload 4, 2), (35, .ifCond .le 21, 3), (38, .iload_n 3, 1), (39, .sipush 999, 3), (42, .if_icmp .ge 14, 3), (45, .iinc 5 (-5), 3), (48, .iload_n 3, 1), (49, .iload 4, 2), (51, .iadd, 1), (52, .istore_n 3, 1), (53, .goto (-26), 3)]
theorem dlX11_lifeOf_0_ok : dlX11_lifeOf_0.all (fun r => decide (decode cX11_lifeOf r.1 = .ok r.2)) = true := by decide +kernel
theorem dX11_lifeOf_0 : decode cX11_lifeOf 0 = .ok (.aload_n 0, 1) := dec_at dlX11_lifeOf_0_ok 0 rfl
theorem dX11_lifeOf_1 : decode cX11_lifeOf 1 = .ok (.iload_n 1, 1) := dec_at dlX11_lifeOf_0_ok 1 rfl
theorem dX11_lifeOf_2 : decode cX11_lifeOf 2 = .ok (.iload_n 2, 1) := dec_at dlX11_lifeOf_0_ok 2 rfl
theorem dX11_lifeOf_3 : decode cX11_lifeOf 3 = .ok (.invokevirtual 263, 3) := dec_at dlX11_lifeOf_0_ok 3 rfl
theorem dX11_lifeOf_6 : decode cX11_lifeOf 6 = .ok (.istore_n 3, 1) := dec_at dlX11_lifeOf_0_ok 4 rfl
theorem dX11_lifeOf_7 : decode cX11_lifeOf 7 = .ok (.aload_n 0, 1) := dec_at dlX11_lifeOf_0_ok 5 rfl
theorem dX11_lifeOf_8 : decode cX11_lifeOf 8 = .ok (.iconst 0, 1) := dec_at dlX11_lifeOf_0_ok 6 rfl
theorem dX11_lifeOf_9 : decode cX11_lifeOf 9 = .ok (.iload_n 1, 1) := dec_at dlX11_lifeOf_0_ok 7 rfl
theorem dX11_lifeOf_10 : decode cX11_lifeOf 10 = .ok (.iload_n 2, 1) := dec_at dlX11_lifeOf_0_ok 8 rfl
theorem dX11_lifeOf_11 : decode cX11_lifeOf 11 = .ok (.sipush 999, 3) := dec_at dlX11_lifeOf_0_ok 9 rfl
theorem dX11_lifeOf_14 : decode cX11_lifeOf 14 = .ok (.invokevirtual 259, 3) := dec_at dlX11_lifeOf_0_ok 10 rfl
theorem dX11_lifeOf_17 : decode cX11_lifeOf 17 = .ok (.istore 4, 2) := dec_at dlX11_lifeOf_0_ok 11 rfl
theorem dX11_lifeOf_19 : decode cX11_lifeOf 19 = .ok (.aload_n 0, 1) := dec_at dlX11_lifeOf_0_ok 12 rfl
theorem dX11_lifeOf_20 : decode cX11_lifeOf 20 = .ok (.getfield 28, 3) := dec_at dlX11_lifeOf_0_ok 13 rfl
theorem dX11_lifeOf_23 : decode cX11_lifeOf 23 = .ok (.iload_n 1, 1) := dec_at dlX11_lifeOf_0_ok 14 rfl
theorem dX11_lifeOf_24 : decode cX11_lifeOf 24 = .ok (.iaload, 1) := dec_at dlX11_lifeOf_0_ok 15 rfl
theorem dX11_lifeOf_25 : decode cX11_lifeOf 25 = .ok (.istore 5, 2) := dec_at dlX11_lifeOf_0_ok 16 rfl
theorem dX11_lifeOf_27 : decode cX11_lifeOf 27 = .ok (.iload 5, 2) := dec_at dlX11_lifeOf_0_ok 17 rfl
theorem dX11_lifeOf_29 : decode cX11_lifeOf 29 = .ok (.iconst 5, 1) := dec_at dlX11_lifeOf_0_ok 18 rfl
theorem dX11_lifeOf_30 : decode cX11_lifeOf 30 = .ok (.if_icmp .lt 26, 3) := dec_at dlX11_lifeOf_0_ok 19 rfl
theorem dX11_lifeOf_33 : decode cX11_lifeOf 33 = .ok (.iload 4, 2) := dec_at dlX11_lifeOf_0_ok 20 rfl
theorem dX11_lifeOf_35 : decode cX11_lifeOf 35 = .ok (.ifCond .le 21, 3) := dec_at dlX11_lifeOf_0_ok 21 rfl
theorem dX11_lifeOf_38 : decode cX11_lifeOf 38 = .ok (.iload_n 3, 1) := dec_at dlX11_lifeOf_0_ok 22 rfl
theorem dX11_lifeOf_39 : decode cX11_lifeOf 39 = .ok (.sipush 999, 3) := dec_at dlX11_lifeOf_0_ok 23 rfl
theorem dX11_lifeOf_42 : decode cX11_lifeOf 42 = .ok (.if_icmp .ge 14, 3) := dec_at dlX11_lifeOf_0_ok 24 rfl
theorem dX11_lifeOf_45 : decode cX11_lifeOf 45 = .ok (.iinc 5 (-5), 3) := dec_at dlX11_lifeOf_0_ok 25 rfl
theorem dX11_lifeOf_48 : decode cX11_lifeOf 48 = .ok (.iload_n 3, 1) := dec_at dlX11_lifeOf_0_ok 26 rfl
theorem dX11_lifeOf_49 : decode cX11_lifeOf 49 = .ok (.iload 4, 2) := dec_at dlX11_lifeOf_0_ok 27 rfl
theorem dX11_lifeOf_51 : decode cX11_lifeOf 51 = .ok (.iadd, 1) := dec_at dlX11_lifeOf_0_ok 28 rfl
theorem dX11_lifeOf_52 : decode cX11_lifeOf 52 = .ok (.istore_n 3, 1) := dec_at dlX11_lifeOf_0_ok 29 rfl
theorem dX11_lifeOf_53 : decode cX11_lifeOf 53 = .ok (.goto (-26), 3) := dec_at dlX11_lifeOf_0_ok 30 rfl
noncomputable def dlX11_lifeOf_56 : List (Nat × Instr × Nat) := [(56, .iload_n 3, 1), (57, .sipush 999, 3), (60, .if_icmp .ge 7, 3), (63, .iload_n 3, 1), (64, .goto 6, 3), (67, .sipush 999, 3), (70, .ireturn, 1)]
theorem dlX11_lifeOf_56_ok : dlX11_lifeOf_56.all (fun r => decide (decode cX11_lifeOf r.1 = .ok r.2)) = true := by decide +kernel
theorem dX11_lifeOf_56 : decode cX11_lifeOf 56 = .ok (.iload_n 3, 1) := dec_at dlX11_lifeOf_56_ok 0 rfl
theorem dX11_lifeOf_57 : decode cX11_lifeOf 57 = .ok (.sipush 999, 3) := dec_at dlX11_lifeOf_56_ok 1 rfl
theorem dX11_lifeOf_60 : decode cX11_lifeOf 60 = .ok (.if_icmp .ge 7, 3) := dec_at dlX11_lifeOf_56_ok 2 rfl
theorem dX11_lifeOf_63 : decode cX11_lifeOf 63 = .ok (.iload_n 3, 1) := dec_at dlX11_lifeOf_56_ok 3 rfl
theorem dX11_lifeOf_64 : decode cX11_lifeOf 64 = .ok (.goto 6, 3) := dec_at dlX11_lifeOf_56_ok 4 rfl
theorem dX11_lifeOf_67 : decode cX11_lifeOf 67 = .ok (.sipush 999, 3) := dec_at dlX11_lifeOf_56_ok 5 rfl
theorem dX11_lifeOf_70 : decode cX11_lifeOf 70 = .ok (.ireturn, 1) := dec_at dlX11_lifeOf_56_ok 6 rfl
set_option maxRecDepth 20000 in
theorem ggX11_life_X11_isQuill : GoodIn wsX11_life wsX11_isQuill := goodIn_s _ [(6, 4), (5, 1), (10, 1), (52, 46)] rfl (by decide +kernel)
set_option maxRecDepth 20000 in
theorem gX11_life_X11_isQuill : GoodIn wsX11_life (wsV RX11 184 RX11 yX11_isQuill wsX11_isQuill) := goodIn_app (goodIn_s _ [(2, 4)] rfl (by decide +kernel)) ggX11_life_X11_isQuill
set_option maxRecDepth 20000 in
theorem ggX11_life_X11_isHand : GoodIn wsX11_life wsX11_isHand := goodIn_s _ [(14, 2), (8, 2), (5, 1), (10, 1), (52, 46)] rfl (by decide +kernel)
set_option maxRecDepth 20000 in
theorem gX11_life_X11_isHand : GoodIn wsX11_life (wsV RX11 192 RX11 yX11_isHand wsX11_isHand) := goodIn_app (goodIn_s _ [(11, 3), (5, 1)] rfl (by decide +kernel)) ggX11_life_X11_isHand
set_option maxRecDepth 20000 in
theorem ggX11_life_X11_lifeOf : GoodIn wsX11_life wsX11_lifeOf := goodIn_s _ [(19, 5), (5, 1), (24, 28), (8, 3), (52, 46)] rfl (by decide +kernel)
set_option maxRecDepth 20000 in
theorem gX11_life_X11_lifeOf : GoodIn wsX11_life (wsV RX11 266 RX11 yX11_lifeOf wsX11_lifeOf) := goodIn_app (goodIn_s _ [(16, 3), (5, 1)] rfl (by decide +kernel)) ggX11_life_X11_lifeOf
noncomputable def dlX11_life_0 : List (Nat × Instr × Nat) := [(0, .aload_n 0, 1), (1, .iload_n 1, 1), (2, .invokevirtual 184, 3), (5, .ifCond .eq 20, 3), (8, .aload_n 0, 1), (9, .iload_n 2, 1), (10, .invokevirtual 192, 3), (13, .ifCond .eq 12, 3), (16, .aload_n 0, 1), (17, .iload_n 1, 1), (18, .iload_n 2, 1), (19, .invokevirtual 266, 3), (22, .goto 5, 3), (25, .ldc 188, 2), (27, .ireturn, 1)]
theorem dlX11_life_0_ok : dlX11_life_0.all (fun r => decide (decode cX11_life r.1 = .ok r.2)) = true := by decide +kernel
theorem dX11_life_0 : decode cX11_life 0 = .ok (.aload_n 0, 1) := dec_at dlX11_life_0_ok 0 rfl
theorem dX11_life_1 : decode cX11_life 1 = .ok (.iload_n 1, 1) := dec_at dlX11_life_0_ok 1 rfl
theorem dX11_life_2 : decode cX11_life 2 = .ok (.invokevirtual 184, 3) := dec_at dlX11_life_0_ok 2 rfl
theorem dX11_life_5 : decode cX11_life 5 = .ok (.ifCond .eq 20, 3) := dec_at dlX11_life_0_ok 3 rfl
theorem dX11_life_8 : decode cX11_life 8 = .ok (.aload_n 0, 1) := dec_at dlX11_life_0_ok 4 rfl
theorem dX11_life_9 : decode cX11_life 9 = .ok (.iload_n 2, 1) := dec_at dlX11_life_0_ok 5 rfl
theorem dX11_life_10 : decode cX11_life 10 = .ok (.invokevirtual 192, 3) := dec_at dlX11_life_0_ok 6 rfl
theorem dX11_life_13 : decode cX11_life 13 = .ok (.ifCond .eq 12, 3) := dec_at dlX11_life_0_ok 7 rfl
theorem dX11_life_16 : decode cX11_life 16 = .ok (.aload_n 0, 1) := dec_at dlX11_life_0_ok 8 rfl
theorem dX11_life_17 : decode cX11_life 17 = .ok (.iload_n 1, 1) := dec_at dlX11_life_0_ok 9 rfl
theorem dX11_life_18 : decode cX11_life 18 = .ok (.iload_n 2, 1) := dec_at dlX11_life_0_ok 10 rfl
theorem dX11_life_19 : decode cX11_life 19 = .ok (.invokevirtual 266, 3) := dec_at dlX11_life_0_ok 11 rfl
theorem dX11_life_22 : decode cX11_life 22 = .ok (.goto 5, 3) := dec_at dlX11_life_0_ok 12 rfl
theorem dX11_life_25 : decode cX11_life 25 = .ok (.ldc 188, 2) := dec_at dlX11_life_0_ok 13 rfl
theorem dX11_life_27 : decode cX11_life 27 = .ok (.ireturn, 1) := dec_at dlX11_life_0_ok 14 rfl
noncomputable def dlX11_figure_0 : List (Nat × Instr × Nat) := [(0, .iload_n 0, 1), (1, .iconst 3, 1), (2, .iload_n 1, 1), (3, .iconst 1, 1), (4, .isub, 1), (5, .iload_n 2, 1), (6, .isub, 1), (7, .imul, 1), (8, .ishr, 1), (9, .bipush 7, 2), (11, .iand, 1), (12, .ireturn, 1)]
theorem dlX11_figure_0_ok : dlX11_figure_0.all (fun r => decide (decode cX11_figure r.1 = .ok r.2)) = true := by decide +kernel
theorem dX11_figure_0 : decode cX11_figure 0 = .ok (.iload_n 0, 1) := dec_at dlX11_figure_0_ok 0 rfl
theorem dX11_figure_1 : decode cX11_figure 1 = .ok (.iconst 3, 1) := dec_at dlX11_figure_0_ok 1 rfl
theorem dX11_figure_2 : decode cX11_figure 2 = .ok (.iload_n 1, 1) := dec_at dlX11_figure_0_ok 2 rfl
theorem dX11_figure_3 : decode cX11_figure 3 = .ok (.iconst 1, 1) := dec_at dlX11_figure_0_ok 3 rfl
theorem dX11_figure_4 : decode cX11_figure 4 = .ok (.isub, 1) := dec_at dlX11_figure_0_ok 4 rfl
theorem dX11_figure_5 : decode cX11_figure 5 = .ok (.iload_n 2, 1) := dec_at dlX11_figure_0_ok 5 rfl
theorem dX11_figure_6 : decode cX11_figure 6 = .ok (.isub, 1) := dec_at dlX11_figure_0_ok 6 rfl
theorem dX11_figure_7 : decode cX11_figure 7 = .ok (.imul, 1) := dec_at dlX11_figure_0_ok 7 rfl
theorem dX11_figure_8 : decode cX11_figure 8 = .ok (.ishr, 1) := dec_at dlX11_figure_0_ok 8 rfl
theorem dX11_figure_9 : decode cX11_figure 9 = .ok (.bipush 7, 2) := dec_at dlX11_figure_0_ok 9 rfl
theorem dX11_figure_11 : decode cX11_figure 11 = .ok (.iand, 1) := dec_at dlX11_figure_0_ok 10 rfl
theorem dX11_figure_12 : decode cX11_figure 12 = .ok (.ireturn, 1) := dec_at dlX11_figure_0_ok 11 rfl
set_option maxRecDepth 20000 in
theorem ggX11_findGiven_X11_figure : GoodIn wsX11_findGiven wsX11_figure := goodIn_s _ [(8, 1)] rfl (by decide +kernel)
set_option maxRecDepth 20000 in
theorem gX11_findGiven_X11_figure : GoodIn wsX11_findGiven (va_wsS RX11 275 yX11_figure wsX11_figure) := goodIn_app (goodIn_s _ [(5, 3)] rfl (by decide +kernel)) ggX11_findGiven_X11_figure
set_option maxRecDepth 20000 in
theorem ggX11_findGiven_X11_has : GoodIn wsX11_findGiven wsX11_has := goodIn_s _ [(11, 1)] rfl (by decide +kernel)
set_option maxRecDepth 20000 in
theorem gX11_findGiven_X11_has : GoodIn wsX11_findGiven (va_wsS RX11 278 yX11_has wsX11_has) := goodIn_app (goodIn_s _ [(9, 2), (7, 1)] rfl (by decide +kernel)) ggX11_findGiven_X11_has
set_option maxRecDepth 20000 in
theorem ggX11_findGiven_X11_goodNow : GoodIn wsX11_findGiven wsX11_goodNow := goodIn_s _ [(15, 5), (7, 1), (20, 73)] rfl (by decide +kernel)
set_option maxRecDepth 20000 in
theorem gX11_findGiven_X11_goodNow : GoodIn wsX11_findGiven (wsV RX11 263 RX11 yX11_goodNow wsX11_goodNow) := goodIn_app (goodIn_s _ [(12, 3), (7, 1)] rfl (by decide +kernel)) ggX11_findGiven_X11_goodNow
noncomputable def dlX11_findGiven_0 : List (Nat × Instr × Nat) := [(0, .aload_n 0, 1), (1, .iconst (-1), 1), (2, .putfield 269, 3), (5, .aload_n 0, 1), (6, .iconst (-1), 1), (7, .putfield 272, 3), (10, .iconst 0, 1), (11, .istore_n 1, 1), (12, .iload_n 1, 1), (13, .iconst 1, 1), (14, .iconst 3, 1), (15, .aload_n 0, 1), (16, .getfield 106, 3), (19, .imul, 1), (20, .ishl, 1), (21, .if_icmp .ge 153, 3), (24, .iconst 0, 1), (25, .istore_n 2, 1), (26, .iconst 0, 1), (27, .istore_n 3, 1), (28, .iconst 1, 1), (29, .istore 4, 2), (31, .iconst 0, 1), (32, .istore 5, 2), (34, .iload 5, 2), (36, .aload_n 0, 1), (37, .getfield 106, 3), (40, .if_icmp .ge 78, 3), (43, .iload 4, 2), (45, .ifCond .eq 73, 3), (48, .iload_n 1, 1)]
theorem dlX11_findGiven_0_ok : dlX11_findGiven_0.all (fun r => decide (decode cX11_findGiven r.1 = .ok r.2)) = true := by decide +kernel
theorem dX11_findGiven_0 : decode cX11_findGiven 0 = .ok (.aload_n 0, 1) := dec_at dlX11_findGiven_0_ok 0 rfl
theorem dX11_findGiven_1 : decode cX11_findGiven 1 = .ok (.iconst (-1), 1) := dec_at dlX11_findGiven_0_ok 1 rfl
theorem dX11_findGiven_2 : decode cX11_findGiven 2 = .ok (.putfield 269, 3) := dec_at dlX11_findGiven_0_ok 2 rfl
theorem dX11_findGiven_5 : decode cX11_findGiven 5 = .ok (.aload_n 0, 1) := dec_at dlX11_findGiven_0_ok 3 rfl
theorem dX11_findGiven_6 : decode cX11_findGiven 6 = .ok (.iconst (-1), 1) := dec_at dlX11_findGiven_0_ok 4 rfl
theorem dX11_findGiven_7 : decode cX11_findGiven 7 = .ok (.putfield 272, 3) := dec_at dlX11_findGiven_0_ok 5 rfl
theorem dX11_findGiven_10 : decode cX11_findGiven 10 = .ok (.iconst 0, 1) := dec_at dlX11_findGiven_0_ok 6 rfl
theorem dX11_findGiven_11 : decode cX11_findGiven 11 = .ok (.istore_n 1, 1) := dec_at dlX11_findGiven_0_ok 7 rfl
theorem dX11_findGiven_12 : decode cX11_findGiven 12 = .ok (.iload_n 1, 1) := dec_at dlX11_findGiven_0_ok 8 rfl
theorem dX11_findGiven_13 : decode cX11_findGiven 13 = .ok (.iconst 1, 1) := dec_at dlX11_findGiven_0_ok 9 rfl
theorem dX11_findGiven_14 : decode cX11_findGiven 14 = .ok (.iconst 3, 1) := dec_at dlX11_findGiven_0_ok 10 rfl
theorem dX11_findGiven_15 : decode cX11_findGiven 15 = .ok (.aload_n 0, 1) := dec_at dlX11_findGiven_0_ok 11 rfl
theorem dX11_findGiven_16 : decode cX11_findGiven 16 = .ok (.getfield 106, 3) := dec_at dlX11_findGiven_0_ok 12 rfl
theorem dX11_findGiven_19 : decode cX11_findGiven 19 = .ok (.imul, 1) := dec_at dlX11_findGiven_0_ok 13 rfl
theorem dX11_findGiven_20 : decode cX11_findGiven 20 = .ok (.ishl, 1) := dec_at dlX11_findGiven_0_ok 14 rfl
theorem dX11_findGiven_21 : decode cX11_findGiven 21 = .ok (.if_icmp .ge 153, 3) := dec_at dlX11_findGiven_0_ok 15 rfl
theorem dX11_findGiven_24 : decode cX11_findGiven 24 = .ok (.iconst 0, 1) := dec_at dlX11_findGiven_0_ok 16 rfl
theorem dX11_findGiven_25 : decode cX11_findGiven 25 = .ok (.istore_n 2, 1) := dec_at dlX11_findGiven_0_ok 17 rfl
theorem dX11_findGiven_26 : decode cX11_findGiven 26 = .ok (.iconst 0, 1) := dec_at dlX11_findGiven_0_ok 18 rfl
theorem dX11_findGiven_27 : decode cX11_findGiven 27 = .ok (.istore_n 3, 1) := dec_at dlX11_findGiven_0_ok 19 rfl
theorem dX11_findGiven_28 : decode cX11_findGiven 28 = .ok (.iconst 1, 1) := dec_at dlX11_findGiven_0_ok 20 rfl
theorem dX11_findGiven_29 : decode cX11_findGiven 29 = .ok (.istore 4, 2) := dec_at dlX11_findGiven_0_ok 21 rfl
theorem dX11_findGiven_31 : decode cX11_findGiven 31 = .ok (.iconst 0, 1) := dec_at dlX11_findGiven_0_ok 22 rfl
theorem dX11_findGiven_32 : decode cX11_findGiven 32 = .ok (.istore 5, 2) := dec_at dlX11_findGiven_0_ok 23 rfl
theorem dX11_findGiven_34 : decode cX11_findGiven 34 = .ok (.iload 5, 2) := dec_at dlX11_findGiven_0_ok 24 rfl
theorem dX11_findGiven_36 : decode cX11_findGiven 36 = .ok (.aload_n 0, 1) := dec_at dlX11_findGiven_0_ok 25 rfl
theorem dX11_findGiven_37 : decode cX11_findGiven 37 = .ok (.getfield 106, 3) := dec_at dlX11_findGiven_0_ok 26 rfl
theorem dX11_findGiven_40 : decode cX11_findGiven 40 = .ok (.if_icmp .ge 78, 3) := dec_at dlX11_findGiven_0_ok 27 rfl
theorem dX11_findGiven_43 : decode cX11_findGiven 43 = .ok (.iload 4, 2) := dec_at dlX11_findGiven_0_ok 28 rfl
theorem dX11_findGiven_45 : decode cX11_findGiven 45 = .ok (.ifCond .eq 73, 3) := dec_at dlX11_findGiven_0_ok 29 rfl
theorem dX11_findGiven_48 : decode cX11_findGiven 48 = .ok (.iload_n 1, 1) := dec_at dlX11_findGiven_0_ok 30 rfl
noncomputable def dlX11_findGiven_49 : List (Nat × Instr × Nat) := [(49, .aload_n 0, 1), (50, .getfield 106, 3), (53, .iload 5, 2), (55, .invokestatic 275, 3), (58, .istore 6, 2), (60, .iload 6, 2), (62, .aload_n 0, 1), (63, .getfield 99, 3), (66, .if_icmp .ge 16, 3), (69, .iload_n 2, 1), (70, .iload 6, 2), (72, .invokestatic 278, 3), (75, .ifCond .ne 7, 3), (78, .iconst 1, 1), (79, .goto 4, 3), (82, .iconst 0, 1), (83, .istore 4, 2), (85, .iload_n 2, 1), (86, .iconst 1, 1), (87, .iload 6, 2), (89, .ishl, 1), (90, .ior, 1), (91, .istore_n 2, 1), (92, .iload_n 3, 1), (93, .iload 4, 2), (95, .ifCond .eq 14, 3), (98, .aload_n 0, 1), (99, .iload 6, 2), (101, .iload 5, 2), (103, .invokevirtual 263, 3), (106, .goto 4, 3)]
theorem dlX11_findGiven_49_ok : dlX11_findGiven_49.all (fun r => decide (decode cX11_findGiven r.1 = .ok r.2)) = true := by decide +kernel
theorem dX11_findGiven_49 : decode cX11_findGiven 49 = .ok (.aload_n 0, 1) := dec_at dlX11_findGiven_49_ok 0 rfl
theorem dX11_findGiven_50 : decode cX11_findGiven 50 = .ok (.getfield 106, 3) := dec_at dlX11_findGiven_49_ok 1 rfl
theorem dX11_findGiven_53 : decode cX11_findGiven 53 = .ok (.iload 5, 2) := dec_at dlX11_findGiven_49_ok 2 rfl
theorem dX11_findGiven_55 : decode cX11_findGiven 55 = .ok (.invokestatic 275, 3) := dec_at dlX11_findGiven_49_ok 3 rfl
theorem dX11_findGiven_58 : decode cX11_findGiven 58 = .ok (.istore 6, 2) := dec_at dlX11_findGiven_49_ok 4 rfl
theorem dX11_findGiven_60 : decode cX11_findGiven 60 = .ok (.iload 6, 2) := dec_at dlX11_findGiven_49_ok 5 rfl
theorem dX11_findGiven_62 : decode cX11_findGiven 62 = .ok (.aload_n 0, 1) := dec_at dlX11_findGiven_49_ok 6 rfl
theorem dX11_findGiven_63 : decode cX11_findGiven 63 = .ok (.getfield 99, 3) := dec_at dlX11_findGiven_49_ok 7 rfl
theorem dX11_findGiven_66 : decode cX11_findGiven 66 = .ok (.if_icmp .ge 16, 3) := dec_at dlX11_findGiven_49_ok 8 rfl
theorem dX11_findGiven_69 : decode cX11_findGiven 69 = .ok (.iload_n 2, 1) := dec_at dlX11_findGiven_49_ok 9 rfl
theorem dX11_findGiven_70 : decode cX11_findGiven 70 = .ok (.iload 6, 2) := dec_at dlX11_findGiven_49_ok 10 rfl
theorem dX11_findGiven_72 : decode cX11_findGiven 72 = .ok (.invokestatic 278, 3) := dec_at dlX11_findGiven_49_ok 11 rfl
theorem dX11_findGiven_75 : decode cX11_findGiven 75 = .ok (.ifCond .ne 7, 3) := dec_at dlX11_findGiven_49_ok 12 rfl
theorem dX11_findGiven_78 : decode cX11_findGiven 78 = .ok (.iconst 1, 1) := dec_at dlX11_findGiven_49_ok 13 rfl
theorem dX11_findGiven_79 : decode cX11_findGiven 79 = .ok (.goto 4, 3) := dec_at dlX11_findGiven_49_ok 14 rfl
theorem dX11_findGiven_82 : decode cX11_findGiven 82 = .ok (.iconst 0, 1) := dec_at dlX11_findGiven_49_ok 15 rfl
theorem dX11_findGiven_83 : decode cX11_findGiven 83 = .ok (.istore 4, 2) := dec_at dlX11_findGiven_49_ok 16 rfl
theorem dX11_findGiven_85 : decode cX11_findGiven 85 = .ok (.iload_n 2, 1) := dec_at dlX11_findGiven_49_ok 17 rfl
theorem dX11_findGiven_86 : decode cX11_findGiven 86 = .ok (.iconst 1, 1) := dec_at dlX11_findGiven_49_ok 18 rfl
theorem dX11_findGiven_87 : decode cX11_findGiven 87 = .ok (.iload 6, 2) := dec_at dlX11_findGiven_49_ok 19 rfl
theorem dX11_findGiven_89 : decode cX11_findGiven 89 = .ok (.ishl, 1) := dec_at dlX11_findGiven_49_ok 20 rfl
theorem dX11_findGiven_90 : decode cX11_findGiven 90 = .ok (.ior, 1) := dec_at dlX11_findGiven_49_ok 21 rfl
theorem dX11_findGiven_91 : decode cX11_findGiven 91 = .ok (.istore_n 2, 1) := dec_at dlX11_findGiven_49_ok 22 rfl
theorem dX11_findGiven_92 : decode cX11_findGiven 92 = .ok (.iload_n 3, 1) := dec_at dlX11_findGiven_49_ok 23 rfl
theorem dX11_findGiven_93 : decode cX11_findGiven 93 = .ok (.iload 4, 2) := dec_at dlX11_findGiven_49_ok 24 rfl
theorem dX11_findGiven_95 : decode cX11_findGiven 95 = .ok (.ifCond .eq 14, 3) := dec_at dlX11_findGiven_49_ok 25 rfl
theorem dX11_findGiven_98 : decode cX11_findGiven 98 = .ok (.aload_n 0, 1) := dec_at dlX11_findGiven_49_ok 26 rfl
theorem dX11_findGiven_99 : decode cX11_findGiven 99 = .ok (.iload 6, 2) := dec_at dlX11_findGiven_49_ok 27 rfl
theorem dX11_findGiven_101 : decode cX11_findGiven 101 = .ok (.iload 5, 2) := dec_at dlX11_findGiven_49_ok 28 rfl
theorem dX11_findGiven_103 : decode cX11_findGiven 103 = .ok (.invokevirtual 263, 3) := dec_at dlX11_findGiven_49_ok 29 rfl
theorem dX11_findGiven_106 : decode cX11_findGiven 106 = .ok (.goto 4, 3) := dec_at dlX11_findGiven_49_ok 30 rfl
noncomputable def dlX11_findGiven_109 : List (Nat × Instr × Nat) := [(109, .iconst 0, 1), (110, .iadd, 1), (111, .istore_n 3, 1), (112, .iinc 5 1, 3), (115, .goto (-81), 3), (118, .aload_n 0, 1), (119, .iload 4, 2), (121, .ifCond .eq 15, 3), (124, .iload_n 3, 1), (125, .aload_n 0, 1), (126, .getfield 272, 3), (129, .if_icmp .le 7, 3), (132, .iload_n 1, 1), (133, .goto 7, 3), (136, .aload_n 0, 1), (137, .getfield 269, 3), (140, .putfield 269, 3), (143, .aload_n 0, 1), (144, .iload 4, 2), (146, .ifCond .eq 15, 3), (149, .iload_n 3, 1), (150, .aload_n 0, 1), (151, .getfield 272, 3), (154, .if_icmp .le 7, 3), (157, .iload_n 3, 1), (158, .goto 7, 3), (161, .aload_n 0, 1), (162, .getfield 272, 3), (165, .putfield 272, 3), (168, .iinc 1 1, 3), (171, .goto (-159), 3)]
theorem dlX11_findGiven_109_ok : dlX11_findGiven_109.all (fun r => decide (decode cX11_findGiven r.1 = .ok r.2)) = true := by decide +kernel
theorem dX11_findGiven_109 : decode cX11_findGiven 109 = .ok (.iconst 0, 1) := dec_at dlX11_findGiven_109_ok 0 rfl
theorem dX11_findGiven_110 : decode cX11_findGiven 110 = .ok (.iadd, 1) := dec_at dlX11_findGiven_109_ok 1 rfl
theorem dX11_findGiven_111 : decode cX11_findGiven 111 = .ok (.istore_n 3, 1) := dec_at dlX11_findGiven_109_ok 2 rfl
theorem dX11_findGiven_112 : decode cX11_findGiven 112 = .ok (.iinc 5 1, 3) := dec_at dlX11_findGiven_109_ok 3 rfl
theorem dX11_findGiven_115 : decode cX11_findGiven 115 = .ok (.goto (-81), 3) := dec_at dlX11_findGiven_109_ok 4 rfl
theorem dX11_findGiven_118 : decode cX11_findGiven 118 = .ok (.aload_n 0, 1) := dec_at dlX11_findGiven_109_ok 5 rfl
theorem dX11_findGiven_119 : decode cX11_findGiven 119 = .ok (.iload 4, 2) := dec_at dlX11_findGiven_109_ok 6 rfl
theorem dX11_findGiven_121 : decode cX11_findGiven 121 = .ok (.ifCond .eq 15, 3) := dec_at dlX11_findGiven_109_ok 7 rfl
theorem dX11_findGiven_124 : decode cX11_findGiven 124 = .ok (.iload_n 3, 1) := dec_at dlX11_findGiven_109_ok 8 rfl
theorem dX11_findGiven_125 : decode cX11_findGiven 125 = .ok (.aload_n 0, 1) := dec_at dlX11_findGiven_109_ok 9 rfl
theorem dX11_findGiven_126 : decode cX11_findGiven 126 = .ok (.getfield 272, 3) := dec_at dlX11_findGiven_109_ok 10 rfl
theorem dX11_findGiven_129 : decode cX11_findGiven 129 = .ok (.if_icmp .le 7, 3) := dec_at dlX11_findGiven_109_ok 11 rfl
theorem dX11_findGiven_132 : decode cX11_findGiven 132 = .ok (.iload_n 1, 1) := dec_at dlX11_findGiven_109_ok 12 rfl
theorem dX11_findGiven_133 : decode cX11_findGiven 133 = .ok (.goto 7, 3) := dec_at dlX11_findGiven_109_ok 13 rfl
theorem dX11_findGiven_136 : decode cX11_findGiven 136 = .ok (.aload_n 0, 1) := dec_at dlX11_findGiven_109_ok 14 rfl
theorem dX11_findGiven_137 : decode cX11_findGiven 137 = .ok (.getfield 269, 3) := dec_at dlX11_findGiven_109_ok 15 rfl
theorem dX11_findGiven_140 : decode cX11_findGiven 140 = .ok (.putfield 269, 3) := dec_at dlX11_findGiven_109_ok 16 rfl
theorem dX11_findGiven_143 : decode cX11_findGiven 143 = .ok (.aload_n 0, 1) := dec_at dlX11_findGiven_109_ok 17 rfl
theorem dX11_findGiven_144 : decode cX11_findGiven 144 = .ok (.iload 4, 2) := dec_at dlX11_findGiven_109_ok 18 rfl
theorem dX11_findGiven_146 : decode cX11_findGiven 146 = .ok (.ifCond .eq 15, 3) := dec_at dlX11_findGiven_109_ok 19 rfl
theorem dX11_findGiven_149 : decode cX11_findGiven 149 = .ok (.iload_n 3, 1) := dec_at dlX11_findGiven_109_ok 20 rfl
theorem dX11_findGiven_150 : decode cX11_findGiven 150 = .ok (.aload_n 0, 1) := dec_at dlX11_findGiven_109_ok 21 rfl
theorem dX11_findGiven_151 : decode cX11_findGiven 151 = .ok (.getfield 272, 3) := dec_at dlX11_findGiven_109_ok 22 rfl
theorem dX11_findGiven_154 : decode cX11_findGiven 154 = .ok (.if_icmp .le 7, 3) := dec_at dlX11_findGiven_109_ok 23 rfl
theorem dX11_findGiven_157 : decode cX11_findGiven 157 = .ok (.iload_n 3, 1) := dec_at dlX11_findGiven_109_ok 24 rfl
theorem dX11_findGiven_158 : decode cX11_findGiven 158 = .ok (.goto 7, 3) := dec_at dlX11_findGiven_109_ok 25 rfl
theorem dX11_findGiven_161 : decode cX11_findGiven 161 = .ok (.aload_n 0, 1) := dec_at dlX11_findGiven_109_ok 26 rfl
theorem dX11_findGiven_162 : decode cX11_findGiven 162 = .ok (.getfield 272, 3) := dec_at dlX11_findGiven_109_ok 27 rfl
theorem dX11_findGiven_165 : decode cX11_findGiven 165 = .ok (.putfield 272, 3) := dec_at dlX11_findGiven_109_ok 28 rfl
theorem dX11_findGiven_168 : decode cX11_findGiven 168 = .ok (.iinc 1 1, 3) := dec_at dlX11_findGiven_109_ok 29 rfl
theorem dX11_findGiven_171 : decode cX11_findGiven 171 = .ok (.goto (-159), 3) := dec_at dlX11_findGiven_109_ok 30 rfl
noncomputable def dlX11_findGiven_174 : List (Nat × Instr × Nat) := [(174, .return_, 1)]
theorem dlX11_findGiven_174_ok : dlX11_findGiven_174.all (fun r => decide (decode cX11_findGiven r.1 = .ok r.2)) = true := by decide +kernel
theorem dX11_findGiven_174 : decode cX11_findGiven 174 = .ok (.return_, 1) := dec_at dlX11_findGiven_174_ok 0 rfl
set_option maxRecDepth 20000 in
theorem ggX11_toWhom_X11_isHand : GoodIn wsX11_toWhom wsX11_isHand := goodIn_s _ [(10, 1), (3, 1), (11, 2), (9, 1), (13, 1), (56, 46)] rfl (by decide +kernel)
set_option maxRecDepth 20000 in
theorem gX11_toWhom_X11_isHand : GoodIn wsX11_toWhom (wsV RX11 192 RX11 yX11_isHand wsX11_isHand) := goodIn_app (goodIn_s _ [(6, 4)] rfl (by decide +kernel)) ggX11_toWhom_X11_isHand
set_option maxRecDepth 20000 in
theorem ggX11_toWhom_X11_findGiven : GoodIn wsX11_toWhom wsX11_findGiven := goodIn_s _ [(17, 1), (5, 1), (4, 1), (3, 1), (2, 1), (18, 2), (9, 1), (20, 36), (11, 3), (56, 46)] rfl (by decide +kernel)
set_option maxRecDepth 20000 in
theorem gX11_toWhom_X11_findGiven : GoodIn wsX11_toWhom (wsV RX11 281 RX11 yX11_findGiven wsX11_findGiven) := goodIn_app (goodIn_s _ [(14, 3), (9, 1)] rfl (by decide +kernel)) ggX11_toWhom_X11_findGiven
set_option maxRecDepth 20000 in
theorem ggX11_toWhom_X11_figure : GoodIn wsX11_toWhom wsX11_figure := goodIn_s _ [(20, 1)] rfl (by decide +kernel)
set_option maxRecDepth 20000 in
theorem gX11_toWhom_X11_figure : GoodIn wsX11_toWhom (va_wsS RX11 275 yX11_figure wsX11_figure) := goodIn_app (goodIn_s _ [(18, 2), (9, 1)] rfl (by decide +kernel)) ggX11_toWhom_X11_figure
noncomputable def dlX11_toWhom_0 : List (Nat × Instr × Nat) := [(0, .iload_n 1, 1), (1, .iconst (-1), 1), (2, .if_icmp .eq 14, 3), (5, .aload_n 0, 1), (6, .iload_n 1, 1), (7, .invokevirtual 192, 3), (10, .ifCond .ne 6, 3), (13, .ldc 188, 2), (15, .ireturn, 1), (16, .aload_n 0, 1), (17, .getfield 99, 3), (20, .aload_n 0, 1), (21, .getfield 106, 3), (24, .if_icmp .ge 5, 3), (27, .iconst (-1), 1), (28, .ireturn, 1), (29, .aload_n 0, 1), (30, .invokevirtual 281, 3), (33, .iload_n 1, 1), (34, .iconst (-1), 1), (35, .if_icmp .ne 10, 3), (38, .aload_n 0, 1), (39, .getfield 272, 3), (42, .goto 15, 3), (45, .aload_n 0, 1), (46, .getfield 269, 3), (49, .aload_n 0, 1), (50, .getfield 106, 3), (53, .iload_n 1, 1), (54, .invokestatic 275, 3), (57, .ireturn, 1)]
theorem dlX11_toWhom_0_ok : dlX11_toWhom_0.all (fun r => decide (decode cX11_toWhom r.1 = .ok r.2)) = true := by decide +kernel
theorem dX11_toWhom_0 : decode cX11_toWhom 0 = .ok (.iload_n 1, 1) := dec_at dlX11_toWhom_0_ok 0 rfl
theorem dX11_toWhom_1 : decode cX11_toWhom 1 = .ok (.iconst (-1), 1) := dec_at dlX11_toWhom_0_ok 1 rfl
theorem dX11_toWhom_2 : decode cX11_toWhom 2 = .ok (.if_icmp .eq 14, 3) := dec_at dlX11_toWhom_0_ok 2 rfl
theorem dX11_toWhom_5 : decode cX11_toWhom 5 = .ok (.aload_n 0, 1) := dec_at dlX11_toWhom_0_ok 3 rfl
theorem dX11_toWhom_6 : decode cX11_toWhom 6 = .ok (.iload_n 1, 1) := dec_at dlX11_toWhom_0_ok 4 rfl
theorem dX11_toWhom_7 : decode cX11_toWhom 7 = .ok (.invokevirtual 192, 3) := dec_at dlX11_toWhom_0_ok 5 rfl
theorem dX11_toWhom_10 : decode cX11_toWhom 10 = .ok (.ifCond .ne 6, 3) := dec_at dlX11_toWhom_0_ok 6 rfl
theorem dX11_toWhom_13 : decode cX11_toWhom 13 = .ok (.ldc 188, 2) := dec_at dlX11_toWhom_0_ok 7 rfl
theorem dX11_toWhom_15 : decode cX11_toWhom 15 = .ok (.ireturn, 1) := dec_at dlX11_toWhom_0_ok 8 rfl
theorem dX11_toWhom_16 : decode cX11_toWhom 16 = .ok (.aload_n 0, 1) := dec_at dlX11_toWhom_0_ok 9 rfl
theorem dX11_toWhom_17 : decode cX11_toWhom 17 = .ok (.getfield 99, 3) := dec_at dlX11_toWhom_0_ok 10 rfl
theorem dX11_toWhom_20 : decode cX11_toWhom 20 = .ok (.aload_n 0, 1) := dec_at dlX11_toWhom_0_ok 11 rfl
theorem dX11_toWhom_21 : decode cX11_toWhom 21 = .ok (.getfield 106, 3) := dec_at dlX11_toWhom_0_ok 12 rfl
theorem dX11_toWhom_24 : decode cX11_toWhom 24 = .ok (.if_icmp .ge 5, 3) := dec_at dlX11_toWhom_0_ok 13 rfl
theorem dX11_toWhom_27 : decode cX11_toWhom 27 = .ok (.iconst (-1), 1) := dec_at dlX11_toWhom_0_ok 14 rfl
theorem dX11_toWhom_28 : decode cX11_toWhom 28 = .ok (.ireturn, 1) := dec_at dlX11_toWhom_0_ok 15 rfl
theorem dX11_toWhom_29 : decode cX11_toWhom 29 = .ok (.aload_n 0, 1) := dec_at dlX11_toWhom_0_ok 16 rfl
theorem dX11_toWhom_30 : decode cX11_toWhom 30 = .ok (.invokevirtual 281, 3) := dec_at dlX11_toWhom_0_ok 17 rfl
theorem dX11_toWhom_33 : decode cX11_toWhom 33 = .ok (.iload_n 1, 1) := dec_at dlX11_toWhom_0_ok 18 rfl
theorem dX11_toWhom_34 : decode cX11_toWhom 34 = .ok (.iconst (-1), 1) := dec_at dlX11_toWhom_0_ok 19 rfl
theorem dX11_toWhom_35 : decode cX11_toWhom 35 = .ok (.if_icmp .ne 10, 3) := dec_at dlX11_toWhom_0_ok 20 rfl
theorem dX11_toWhom_38 : decode cX11_toWhom 38 = .ok (.aload_n 0, 1) := dec_at dlX11_toWhom_0_ok 21 rfl
theorem dX11_toWhom_39 : decode cX11_toWhom 39 = .ok (.getfield 272, 3) := dec_at dlX11_toWhom_0_ok 22 rfl
theorem dX11_toWhom_42 : decode cX11_toWhom 42 = .ok (.goto 15, 3) := dec_at dlX11_toWhom_0_ok 23 rfl
theorem dX11_toWhom_45 : decode cX11_toWhom 45 = .ok (.aload_n 0, 1) := dec_at dlX11_toWhom_0_ok 24 rfl
theorem dX11_toWhom_46 : decode cX11_toWhom 46 = .ok (.getfield 269, 3) := dec_at dlX11_toWhom_0_ok 25 rfl
theorem dX11_toWhom_49 : decode cX11_toWhom 49 = .ok (.aload_n 0, 1) := dec_at dlX11_toWhom_0_ok 26 rfl
theorem dX11_toWhom_50 : decode cX11_toWhom 50 = .ok (.getfield 106, 3) := dec_at dlX11_toWhom_0_ok 27 rfl
theorem dX11_toWhom_53 : decode cX11_toWhom 53 = .ok (.iload_n 1, 1) := dec_at dlX11_toWhom_0_ok 28 rfl
theorem dX11_toWhom_54 : decode cX11_toWhom 54 = .ok (.invokestatic 275, 3) := dec_at dlX11_toWhom_0_ok 29 rfl
theorem dX11_toWhom_57 : decode cX11_toWhom 57 = .ok (.ireturn, 1) := dec_at dlX11_toWhom_0_ok 30 rfl
noncomputable def dlX11_putBack_0 : List (Nat × Instr × Nat) := [(0, .iconst 0, 1), (1, .istore_n 1, 1), (2, .iload_n 1, 1), (3, .bipush 34, 2), (5, .if_icmp .ge 21, 3), (8, .aload_n 0, 1), (9, .getfield 28, 3), (12, .iload_n 1, 1), (13, .aload_n 0, 1), (14, .getfield 68, 3), (17, .iload_n 1, 1), (18, .iaload, 1), (19, .iastore, 1), (20, .iinc 1 1, 3), (23, .goto (-21), 3), (26, .return_, 1)]
theorem dlX11_putBack_0_ok : dlX11_putBack_0.all (fun r => decide (decode cX11_putBack r.1 = .ok r.2)) = true := by decide +kernel
theorem dX11_putBack_0 : decode cX11_putBack 0 = .ok (.iconst 0, 1) := dec_at dlX11_putBack_0_ok 0 rfl
theorem dX11_putBack_1 : decode cX11_putBack 1 = .ok (.istore_n 1, 1) := dec_at dlX11_putBack_0_ok 1 rfl
theorem dX11_putBack_2 : decode cX11_putBack 2 = .ok (.iload_n 1, 1) := dec_at dlX11_putBack_0_ok 2 rfl
theorem dX11_putBack_3 : decode cX11_putBack 3 = .ok (.bipush 34, 2) := dec_at dlX11_putBack_0_ok 3 rfl
theorem dX11_putBack_5 : decode cX11_putBack 5 = .ok (.if_icmp .ge 21, 3) := dec_at dlX11_putBack_0_ok 4 rfl
theorem dX11_putBack_8 : decode cX11_putBack 8 = .ok (.aload_n 0, 1) := dec_at dlX11_putBack_0_ok 5 rfl
theorem dX11_putBack_9 : decode cX11_putBack 9 = .ok (.getfield 28, 3) := dec_at dlX11_putBack_0_ok 6 rfl
theorem dX11_putBack_12 : decode cX11_putBack 12 = .ok (.iload_n 1, 1) := dec_at dlX11_putBack_0_ok 7 rfl
theorem dX11_putBack_13 : decode cX11_putBack 13 = .ok (.aload_n 0, 1) := dec_at dlX11_putBack_0_ok 8 rfl
theorem dX11_putBack_14 : decode cX11_putBack 14 = .ok (.getfield 68, 3) := dec_at dlX11_putBack_0_ok 9 rfl
theorem dX11_putBack_17 : decode cX11_putBack 17 = .ok (.iload_n 1, 1) := dec_at dlX11_putBack_0_ok 10 rfl
theorem dX11_putBack_18 : decode cX11_putBack 18 = .ok (.iaload, 1) := dec_at dlX11_putBack_0_ok 11 rfl
theorem dX11_putBack_19 : decode cX11_putBack 19 = .ok (.iastore, 1) := dec_at dlX11_putBack_0_ok 12 rfl
theorem dX11_putBack_20 : decode cX11_putBack 20 = .ok (.iinc 1 1, 3) := dec_at dlX11_putBack_0_ok 13 rfl
theorem dX11_putBack_23 : decode cX11_putBack 23 = .ok (.goto (-21), 3) := dec_at dlX11_putBack_0_ok 14 rfl
theorem dX11_putBack_26 : decode cX11_putBack 26 = .ok (.return_, 1) := dec_at dlX11_putBack_0_ok 15 rfl
set_option maxRecDepth 20000 in
theorem ggX11_minutesOf_X11_mayMend : GoodIn wsX11_minutesOf wsX11_mayMend := goodIn_s _ [(7, 1), (1, 1), (8, 3), (6, 1), (11, 2), (52, 46)] rfl (by decide +kernel)
set_option maxRecDepth 20000 in
theorem gX11_minutesOf_X11_mayMend : GoodIn wsX11_minutesOf (wsV RX11 234 RX11 yX11_mayMend wsX11_mayMend) := goodIn_app (goodIn_s _ [(3, 4)] rfl (by decide +kernel)) ggX11_minutesOf_X11_mayMend
set_option maxRecDepth 20000 in
theorem ggX11_minutesOf_X11_mendNow : GoodIn wsX11_minutesOf wsX11_mendNow := goodIn_s _ [(16, 1), (1, 1), (17, 1), (8, 3), (6, 1), (11, 2), (18, 4), (52, 46)] rfl (by decide +kernel)
set_option maxRecDepth 20000 in
theorem gX11_minutesOf_X11_mendNow : GoodIn wsX11_minutesOf (wsV RX11 238 RX11 yX11_mendNow wsX11_mendNow) := goodIn_app (goodIn_s _ [(13, 3), (6, 1)] rfl (by decide +kernel)) ggX11_minutesOf_X11_mendNow
set_option maxRecDepth 20000 in
theorem ggX11_minutesOf_X11_page : GoodIn wsX11_minutesOf wsX11_page := goodIn_s _ [(25, 1), (1, 1), (26, 3), (6, 1), (29, 69)] rfl (by decide +kernel)
set_option maxRecDepth 20000 in
theorem gX11_minutesOf_X11_page : GoodIn wsX11_minutesOf (wsV RX11 208 RX11 yX11_page wsX11_page) := goodIn_app (goodIn_s _ [(22, 3), (6, 1)] rfl (by decide +kernel)) ggX11_minutesOf_X11_page
noncomputable def dlX11_minutesOf_0 : List (Nat × Instr × Nat) := [(0, .iconst (-1), 1), (1, .istore 4, 2), (3, .aload_n 0, 1), (4, .getfield 28, 3), (7, .bipush 32, 2), (9, .iaload, 1), (10, .istore 5, 2), (12, .iconst 0, 1), (13, .istore 6, 2), (15, .iload 6, 2), (17, .iload_n 3, 1), (18, .if_icmp .ge 109, 3), (21, .iload_n 1, 1), (22, .iconst 4, 1), (23, .iload_n 3, 1), (24, .iconst 1, 1), (25, .isub, 1), (26, .iload 6, 2), (28, .isub, 1), (29, .imul, 1), (30, .ishr, 1), (31, .bipush 15, 2), (33, .iand, 1), (34, .istore 7, 2), (36, .iload 7, 2), (38, .iconst 2, 1), (39, .idiv, 1), (40, .istore 8, 2), (42, .iload 8, 2), (44, .aload_n 0, 1), (45, .getfield 99, 3)]
theorem dlX11_minutesOf_0_ok : dlX11_minutesOf_0.all (fun r => decide (decode cX11_minutesOf r.1 = .ok r.2)) = true := by decide +kernel
theorem dX11_minutesOf_0 : decode cX11_minutesOf 0 = .ok (.iconst (-1), 1) := dec_at dlX11_minutesOf_0_ok 0 rfl
theorem dX11_minutesOf_1 : decode cX11_minutesOf 1 = .ok (.istore 4, 2) := dec_at dlX11_minutesOf_0_ok 1 rfl
theorem dX11_minutesOf_3 : decode cX11_minutesOf 3 = .ok (.aload_n 0, 1) := dec_at dlX11_minutesOf_0_ok 2 rfl
theorem dX11_minutesOf_4 : decode cX11_minutesOf 4 = .ok (.getfield 28, 3) := dec_at dlX11_minutesOf_0_ok 3 rfl
theorem dX11_minutesOf_7 : decode cX11_minutesOf 7 = .ok (.bipush 32, 2) := dec_at dlX11_minutesOf_0_ok 4 rfl
theorem dX11_minutesOf_9 : decode cX11_minutesOf 9 = .ok (.iaload, 1) := dec_at dlX11_minutesOf_0_ok 5 rfl
theorem dX11_minutesOf_10 : decode cX11_minutesOf 10 = .ok (.istore 5, 2) := dec_at dlX11_minutesOf_0_ok 6 rfl
theorem dX11_minutesOf_12 : decode cX11_minutesOf 12 = .ok (.iconst 0, 1) := dec_at dlX11_minutesOf_0_ok 7 rfl
theorem dX11_minutesOf_13 : decode cX11_minutesOf 13 = .ok (.istore 6, 2) := dec_at dlX11_minutesOf_0_ok 8 rfl
theorem dX11_minutesOf_15 : decode cX11_minutesOf 15 = .ok (.iload 6, 2) := dec_at dlX11_minutesOf_0_ok 9 rfl
theorem dX11_minutesOf_17 : decode cX11_minutesOf 17 = .ok (.iload_n 3, 1) := dec_at dlX11_minutesOf_0_ok 10 rfl
theorem dX11_minutesOf_18 : decode cX11_minutesOf 18 = .ok (.if_icmp .ge 109, 3) := dec_at dlX11_minutesOf_0_ok 11 rfl
theorem dX11_minutesOf_21 : decode cX11_minutesOf 21 = .ok (.iload_n 1, 1) := dec_at dlX11_minutesOf_0_ok 12 rfl
theorem dX11_minutesOf_22 : decode cX11_minutesOf 22 = .ok (.iconst 4, 1) := dec_at dlX11_minutesOf_0_ok 13 rfl
theorem dX11_minutesOf_23 : decode cX11_minutesOf 23 = .ok (.iload_n 3, 1) := dec_at dlX11_minutesOf_0_ok 14 rfl
theorem dX11_minutesOf_24 : decode cX11_minutesOf 24 = .ok (.iconst 1, 1) := dec_at dlX11_minutesOf_0_ok 15 rfl
theorem dX11_minutesOf_25 : decode cX11_minutesOf 25 = .ok (.isub, 1) := dec_at dlX11_minutesOf_0_ok 16 rfl
theorem dX11_minutesOf_26 : decode cX11_minutesOf 26 = .ok (.iload 6, 2) := dec_at dlX11_minutesOf_0_ok 17 rfl
theorem dX11_minutesOf_28 : decode cX11_minutesOf 28 = .ok (.isub, 1) := dec_at dlX11_minutesOf_0_ok 18 rfl
theorem dX11_minutesOf_29 : decode cX11_minutesOf 29 = .ok (.imul, 1) := dec_at dlX11_minutesOf_0_ok 19 rfl
theorem dX11_minutesOf_30 : decode cX11_minutesOf 30 = .ok (.ishr, 1) := dec_at dlX11_minutesOf_0_ok 20 rfl
theorem dX11_minutesOf_31 : decode cX11_minutesOf 31 = .ok (.bipush 15, 2) := dec_at dlX11_minutesOf_0_ok 21 rfl
theorem dX11_minutesOf_33 : decode cX11_minutesOf 33 = .ok (.iand, 1) := dec_at dlX11_minutesOf_0_ok 22 rfl
theorem dX11_minutesOf_34 : decode cX11_minutesOf 34 = .ok (.istore 7, 2) := dec_at dlX11_minutesOf_0_ok 23 rfl
theorem dX11_minutesOf_36 : decode cX11_minutesOf 36 = .ok (.iload 7, 2) := dec_at dlX11_minutesOf_0_ok 24 rfl
theorem dX11_minutesOf_38 : decode cX11_minutesOf 38 = .ok (.iconst 2, 1) := dec_at dlX11_minutesOf_0_ok 25 rfl
theorem dX11_minutesOf_39 : decode cX11_minutesOf 39 = .ok (.idiv, 1) := dec_at dlX11_minutesOf_0_ok 26 rfl
theorem dX11_minutesOf_40 : decode cX11_minutesOf 40 = .ok (.istore 8, 2) := dec_at dlX11_minutesOf_0_ok 27 rfl
theorem dX11_minutesOf_42 : decode cX11_minutesOf 42 = .ok (.iload 8, 2) := dec_at dlX11_minutesOf_0_ok 28 rfl
theorem dX11_minutesOf_44 : decode cX11_minutesOf 44 = .ok (.aload_n 0, 1) := dec_at dlX11_minutesOf_0_ok 29 rfl
theorem dX11_minutesOf_45 : decode cX11_minutesOf 45 = .ok (.getfield 99, 3) := dec_at dlX11_minutesOf_0_ok 30 rfl
noncomputable def dlX11_minutesOf_48 : List (Nat × Instr × Nat) := [(48, .if_icmp .lt 5, 3), (51, .iconst (-1), 1), (52, .ireturn, 1), (53, .aload_n 0, 1), (54, .getfield 28, 3), (57, .bipush 32, 2), (59, .dup2, 1), (60, .iaload, 1), (61, .iload 4, 2), (63, .ifCond .lt 14, 3), (66, .iload 8, 2), (68, .iload 4, 2), (70, .if_icmp .eq 7, 3), (73, .iconst 1, 1), (74, .goto 4, 3), (77, .iconst 0, 1), (78, .iadd, 1), (79, .iastore, 1), (80, .iload 7, 2), (82, .iconst 2, 1), (83, .irem, 1), (84, .iconst 1, 1), (85, .if_icmp .ne 20, 3), (88, .aload_n 0, 1), (89, .iload 8, 2), (91, .invokevirtual 234, 3), (94, .ifCond .ne 5, 3), (97, .iconst (-1), 1), (98, .ireturn, 1), (99, .aload_n 0, 1), (100, .iload 8, 2)]
theorem dlX11_minutesOf_48_ok : dlX11_minutesOf_48.all (fun r => decide (decode cX11_minutesOf r.1 = .ok r.2)) = true := by decide +kernel
theorem dX11_minutesOf_48 : decode cX11_minutesOf 48 = .ok (.if_icmp .lt 5, 3) := dec_at dlX11_minutesOf_48_ok 0 rfl
theorem dX11_minutesOf_51 : decode cX11_minutesOf 51 = .ok (.iconst (-1), 1) := dec_at dlX11_minutesOf_48_ok 1 rfl
theorem dX11_minutesOf_52 : decode cX11_minutesOf 52 = .ok (.ireturn, 1) := dec_at dlX11_minutesOf_48_ok 2 rfl
theorem dX11_minutesOf_53 : decode cX11_minutesOf 53 = .ok (.aload_n 0, 1) := dec_at dlX11_minutesOf_48_ok 3 rfl
theorem dX11_minutesOf_54 : decode cX11_minutesOf 54 = .ok (.getfield 28, 3) := dec_at dlX11_minutesOf_48_ok 4 rfl
theorem dX11_minutesOf_57 : decode cX11_minutesOf 57 = .ok (.bipush 32, 2) := dec_at dlX11_minutesOf_48_ok 5 rfl
theorem dX11_minutesOf_59 : decode cX11_minutesOf 59 = .ok (.dup2, 1) := dec_at dlX11_minutesOf_48_ok 6 rfl
theorem dX11_minutesOf_60 : decode cX11_minutesOf 60 = .ok (.iaload, 1) := dec_at dlX11_minutesOf_48_ok 7 rfl
theorem dX11_minutesOf_61 : decode cX11_minutesOf 61 = .ok (.iload 4, 2) := dec_at dlX11_minutesOf_48_ok 8 rfl
theorem dX11_minutesOf_63 : decode cX11_minutesOf 63 = .ok (.ifCond .lt 14, 3) := dec_at dlX11_minutesOf_48_ok 9 rfl
theorem dX11_minutesOf_66 : decode cX11_minutesOf 66 = .ok (.iload 8, 2) := dec_at dlX11_minutesOf_48_ok 10 rfl
theorem dX11_minutesOf_68 : decode cX11_minutesOf 68 = .ok (.iload 4, 2) := dec_at dlX11_minutesOf_48_ok 11 rfl
theorem dX11_minutesOf_70 : decode cX11_minutesOf 70 = .ok (.if_icmp .eq 7, 3) := dec_at dlX11_minutesOf_48_ok 12 rfl
theorem dX11_minutesOf_73 : decode cX11_minutesOf 73 = .ok (.iconst 1, 1) := dec_at dlX11_minutesOf_48_ok 13 rfl
theorem dX11_minutesOf_74 : decode cX11_minutesOf 74 = .ok (.goto 4, 3) := dec_at dlX11_minutesOf_48_ok 14 rfl
theorem dX11_minutesOf_77 : decode cX11_minutesOf 77 = .ok (.iconst 0, 1) := dec_at dlX11_minutesOf_48_ok 15 rfl
theorem dX11_minutesOf_78 : decode cX11_minutesOf 78 = .ok (.iadd, 1) := dec_at dlX11_minutesOf_48_ok 16 rfl
theorem dX11_minutesOf_79 : decode cX11_minutesOf 79 = .ok (.iastore, 1) := dec_at dlX11_minutesOf_48_ok 17 rfl
theorem dX11_minutesOf_80 : decode cX11_minutesOf 80 = .ok (.iload 7, 2) := dec_at dlX11_minutesOf_48_ok 18 rfl
theorem dX11_minutesOf_82 : decode cX11_minutesOf 82 = .ok (.iconst 2, 1) := dec_at dlX11_minutesOf_48_ok 19 rfl
theorem dX11_minutesOf_83 : decode cX11_minutesOf 83 = .ok (.irem, 1) := dec_at dlX11_minutesOf_48_ok 20 rfl
theorem dX11_minutesOf_84 : decode cX11_minutesOf 84 = .ok (.iconst 1, 1) := dec_at dlX11_minutesOf_48_ok 21 rfl
theorem dX11_minutesOf_85 : decode cX11_minutesOf 85 = .ok (.if_icmp .ne 20, 3) := dec_at dlX11_minutesOf_48_ok 22 rfl
theorem dX11_minutesOf_88 : decode cX11_minutesOf 88 = .ok (.aload_n 0, 1) := dec_at dlX11_minutesOf_48_ok 23 rfl
theorem dX11_minutesOf_89 : decode cX11_minutesOf 89 = .ok (.iload 8, 2) := dec_at dlX11_minutesOf_48_ok 24 rfl
theorem dX11_minutesOf_91 : decode cX11_minutesOf 91 = .ok (.invokevirtual 234, 3) := dec_at dlX11_minutesOf_48_ok 25 rfl
theorem dX11_minutesOf_94 : decode cX11_minutesOf 94 = .ok (.ifCond .ne 5, 3) := dec_at dlX11_minutesOf_48_ok 26 rfl
theorem dX11_minutesOf_97 : decode cX11_minutesOf 97 = .ok (.iconst (-1), 1) := dec_at dlX11_minutesOf_48_ok 27 rfl
theorem dX11_minutesOf_98 : decode cX11_minutesOf 98 = .ok (.ireturn, 1) := dec_at dlX11_minutesOf_48_ok 28 rfl
theorem dX11_minutesOf_99 : decode cX11_minutesOf 99 = .ok (.aload_n 0, 1) := dec_at dlX11_minutesOf_48_ok 29 rfl
theorem dX11_minutesOf_100 : decode cX11_minutesOf 100 = .ok (.iload 8, 2) := dec_at dlX11_minutesOf_48_ok 30 rfl
noncomputable def dlX11_minutesOf_102 : List (Nat × Instr × Nat) := [(102, .invokevirtual 238, 3), (105, .aload_n 0, 1), (106, .iload 8, 2), (108, .iload_n 2, 1), (109, .invokevirtual 208, 3), (112, .ifCond .ne 5, 3), (115, .iconst (-1), 1), (116, .ireturn, 1), (117, .iload 8, 2), (119, .istore 4, 2), (121, .iinc 6 1, 3), (124, .goto (-109), 3), (127, .aload_n 0, 1), (128, .getfield 28, 3), (131, .bipush 32, 2), (133, .iaload, 1), (134, .iload 5, 2), (136, .isub, 1), (137, .ireturn, 1)]
theorem dlX11_minutesOf_102_ok : dlX11_minutesOf_102.all (fun r => decide (decode cX11_minutesOf r.1 = .ok r.2)) = true := by decide +kernel
theorem dX11_minutesOf_102 : decode cX11_minutesOf 102 = .ok (.invokevirtual 238, 3) := dec_at dlX11_minutesOf_102_ok 0 rfl
theorem dX11_minutesOf_105 : decode cX11_minutesOf 105 = .ok (.aload_n 0, 1) := dec_at dlX11_minutesOf_102_ok 1 rfl
theorem dX11_minutesOf_106 : decode cX11_minutesOf 106 = .ok (.iload 8, 2) := dec_at dlX11_minutesOf_102_ok 2 rfl
theorem dX11_minutesOf_108 : decode cX11_minutesOf 108 = .ok (.iload_n 2, 1) := dec_at dlX11_minutesOf_102_ok 3 rfl
theorem dX11_minutesOf_109 : decode cX11_minutesOf 109 = .ok (.invokevirtual 208, 3) := dec_at dlX11_minutesOf_102_ok 4 rfl
theorem dX11_minutesOf_112 : decode cX11_minutesOf 112 = .ok (.ifCond .ne 5, 3) := dec_at dlX11_minutesOf_102_ok 5 rfl
theorem dX11_minutesOf_115 : decode cX11_minutesOf 115 = .ok (.iconst (-1), 1) := dec_at dlX11_minutesOf_102_ok 6 rfl
theorem dX11_minutesOf_116 : decode cX11_minutesOf 116 = .ok (.ireturn, 1) := dec_at dlX11_minutesOf_102_ok 7 rfl
theorem dX11_minutesOf_117 : decode cX11_minutesOf 117 = .ok (.iload 8, 2) := dec_at dlX11_minutesOf_102_ok 8 rfl
theorem dX11_minutesOf_119 : decode cX11_minutesOf 119 = .ok (.istore 4, 2) := dec_at dlX11_minutesOf_102_ok 9 rfl
theorem dX11_minutesOf_121 : decode cX11_minutesOf 121 = .ok (.iinc 6 1, 3) := dec_at dlX11_minutesOf_102_ok 10 rfl
theorem dX11_minutesOf_124 : decode cX11_minutesOf 124 = .ok (.goto (-109), 3) := dec_at dlX11_minutesOf_102_ok 11 rfl
theorem dX11_minutesOf_127 : decode cX11_minutesOf 127 = .ok (.aload_n 0, 1) := dec_at dlX11_minutesOf_102_ok 12 rfl
theorem dX11_minutesOf_128 : decode cX11_minutesOf 128 = .ok (.getfield 28, 3) := dec_at dlX11_minutesOf_102_ok 13 rfl
theorem dX11_minutesOf_131 : decode cX11_minutesOf 131 = .ok (.bipush 32, 2) := dec_at dlX11_minutesOf_102_ok 14 rfl
theorem dX11_minutesOf_133 : decode cX11_minutesOf 133 = .ok (.iaload, 1) := dec_at dlX11_minutesOf_102_ok 15 rfl
theorem dX11_minutesOf_134 : decode cX11_minutesOf 134 = .ok (.iload 5, 2) := dec_at dlX11_minutesOf_102_ok 16 rfl
theorem dX11_minutesOf_136 : decode cX11_minutesOf 136 = .ok (.isub, 1) := dec_at dlX11_minutesOf_102_ok 17 rfl
theorem dX11_minutesOf_137 : decode cX11_minutesOf 137 = .ok (.ireturn, 1) := dec_at dlX11_minutesOf_102_ok 18 rfl
set_option maxRecDepth 20000 in
theorem ggX11_findFastest_X11_minutesOf : GoodIn wsX11_findFastest wsX11_minutesOf := goodIn_s _ [(10, 1), (2, 1), (11, 4), (9, 1), (15, 45), (64, 46)] rfl (by decide +kernel)
set_option maxRecDepth 20000 in
theorem gX11_findFastest_X11_minutesOf : GoodIn wsX11_findFastest (wsV RX11 291 RX11 yX11_minutesOf wsX11_minutesOf) := goodIn_app (goodIn_s _ [(6, 4)] rfl (by decide +kernel)) ggX11_findFastest_X11_minutesOf
set_option maxRecDepth 20000 in
theorem ggX11_findFastest_X11_putBack : GoodIn wsX11_findFastest wsX11_putBack := goodIn_s _ [(63, 1), (2, 1), (1, 1), (64, 46)] rfl (by decide +kernel)
set_option maxRecDepth 20000 in
theorem gX11_findFastest_X11_putBack : GoodIn wsX11_findFastest (wsV RX11 294 RX11 yX11_putBack wsX11_putBack) := goodIn_app (goodIn_s _ [(60, 3), (9, 1)] rfl (by decide +kernel)) ggX11_findFastest_X11_putBack
noncomputable def dlX11_findFastest_0 : List (Nat × Instr × Nat) := [(0, .iconst 0, 1), (1, .istore_n 3, 1), (2, .iload_n 3, 1), (3, .bipush 34, 2), (5, .if_icmp .ge 21, 3), (8, .aload_n 0, 1), (9, .getfield 68, 3), (12, .iload_n 3, 1), (13, .aload_n 0, 1), (14, .getfield 28, 3), (17, .iload_n 3, 1), (18, .iaload, 1), (19, .iastore, 1), (20, .iinc 3 1, 3), (23, .goto (-21), 3), (26, .aload_n 0, 1), (27, .iconst (-1), 1), (28, .putfield 284, 3), (31, .aload_n 0, 1), (32, .ldc_w 287, 3), (35, .putfield 288, 3), (38, .iconst 0, 1), (39, .istore_n 3, 1), (40, .iload_n 3, 1), (41, .iconst 1, 1), (42, .iconst 4, 1), (43, .iload_n 2, 1), (44, .imul, 1), (45, .ishl, 1), (46, .if_icmp .ge 78, 3), (49, .aload_n 0, 1)]
theorem dlX11_findFastest_0_ok : dlX11_findFastest_0.all (fun r => decide (decode cX11_findFastest r.1 = .ok r.2)) = true := by decide +kernel
theorem dX11_findFastest_0 : decode cX11_findFastest 0 = .ok (.iconst 0, 1) := dec_at dlX11_findFastest_0_ok 0 rfl
theorem dX11_findFastest_1 : decode cX11_findFastest 1 = .ok (.istore_n 3, 1) := dec_at dlX11_findFastest_0_ok 1 rfl
theorem dX11_findFastest_2 : decode cX11_findFastest 2 = .ok (.iload_n 3, 1) := dec_at dlX11_findFastest_0_ok 2 rfl
theorem dX11_findFastest_3 : decode cX11_findFastest 3 = .ok (.bipush 34, 2) := dec_at dlX11_findFastest_0_ok 3 rfl
theorem dX11_findFastest_5 : decode cX11_findFastest 5 = .ok (.if_icmp .ge 21, 3) := dec_at dlX11_findFastest_0_ok 4 rfl
theorem dX11_findFastest_8 : decode cX11_findFastest 8 = .ok (.aload_n 0, 1) := dec_at dlX11_findFastest_0_ok 5 rfl
theorem dX11_findFastest_9 : decode cX11_findFastest 9 = .ok (.getfield 68, 3) := dec_at dlX11_findFastest_0_ok 6 rfl
theorem dX11_findFastest_12 : decode cX11_findFastest 12 = .ok (.iload_n 3, 1) := dec_at dlX11_findFastest_0_ok 7 rfl
theorem dX11_findFastest_13 : decode cX11_findFastest 13 = .ok (.aload_n 0, 1) := dec_at dlX11_findFastest_0_ok 8 rfl
theorem dX11_findFastest_14 : decode cX11_findFastest 14 = .ok (.getfield 28, 3) := dec_at dlX11_findFastest_0_ok 9 rfl
theorem dX11_findFastest_17 : decode cX11_findFastest 17 = .ok (.iload_n 3, 1) := dec_at dlX11_findFastest_0_ok 10 rfl
theorem dX11_findFastest_18 : decode cX11_findFastest 18 = .ok (.iaload, 1) := dec_at dlX11_findFastest_0_ok 11 rfl
theorem dX11_findFastest_19 : decode cX11_findFastest 19 = .ok (.iastore, 1) := dec_at dlX11_findFastest_0_ok 12 rfl
theorem dX11_findFastest_20 : decode cX11_findFastest 20 = .ok (.iinc 3 1, 3) := dec_at dlX11_findFastest_0_ok 13 rfl
theorem dX11_findFastest_23 : decode cX11_findFastest 23 = .ok (.goto (-21), 3) := dec_at dlX11_findFastest_0_ok 14 rfl
theorem dX11_findFastest_26 : decode cX11_findFastest 26 = .ok (.aload_n 0, 1) := dec_at dlX11_findFastest_0_ok 15 rfl
theorem dX11_findFastest_27 : decode cX11_findFastest 27 = .ok (.iconst (-1), 1) := dec_at dlX11_findFastest_0_ok 16 rfl
theorem dX11_findFastest_28 : decode cX11_findFastest 28 = .ok (.putfield 284, 3) := dec_at dlX11_findFastest_0_ok 17 rfl
theorem dX11_findFastest_31 : decode cX11_findFastest 31 = .ok (.aload_n 0, 1) := dec_at dlX11_findFastest_0_ok 18 rfl
theorem dX11_findFastest_32 : decode cX11_findFastest 32 = .ok (.ldc_w 287, 3) := dec_at dlX11_findFastest_0_ok 19 rfl
theorem dX11_findFastest_35 : decode cX11_findFastest 35 = .ok (.putfield 288, 3) := dec_at dlX11_findFastest_0_ok 20 rfl
theorem dX11_findFastest_38 : decode cX11_findFastest 38 = .ok (.iconst 0, 1) := dec_at dlX11_findFastest_0_ok 21 rfl
theorem dX11_findFastest_39 : decode cX11_findFastest 39 = .ok (.istore_n 3, 1) := dec_at dlX11_findFastest_0_ok 22 rfl
theorem dX11_findFastest_40 : decode cX11_findFastest 40 = .ok (.iload_n 3, 1) := dec_at dlX11_findFastest_0_ok 23 rfl
theorem dX11_findFastest_41 : decode cX11_findFastest 41 = .ok (.iconst 1, 1) := dec_at dlX11_findFastest_0_ok 24 rfl
theorem dX11_findFastest_42 : decode cX11_findFastest 42 = .ok (.iconst 4, 1) := dec_at dlX11_findFastest_0_ok 25 rfl
theorem dX11_findFastest_43 : decode cX11_findFastest 43 = .ok (.iload_n 2, 1) := dec_at dlX11_findFastest_0_ok 26 rfl
theorem dX11_findFastest_44 : decode cX11_findFastest 44 = .ok (.imul, 1) := dec_at dlX11_findFastest_0_ok 27 rfl
theorem dX11_findFastest_45 : decode cX11_findFastest 45 = .ok (.ishl, 1) := dec_at dlX11_findFastest_0_ok 28 rfl
theorem dX11_findFastest_46 : decode cX11_findFastest 46 = .ok (.if_icmp .ge 78, 3) := dec_at dlX11_findFastest_0_ok 29 rfl
theorem dX11_findFastest_49 : decode cX11_findFastest 49 = .ok (.aload_n 0, 1) := dec_at dlX11_findFastest_0_ok 30 rfl
noncomputable def dlX11_findFastest_50 : List (Nat × Instr × Nat) := [(50, .iload_n 3, 1), (51, .iload_n 1, 1), (52, .iload_n 2, 1), (53, .invokevirtual 291, 3), (56, .istore 4, 2), (58, .aload_n 0, 1), (59, .invokevirtual 294, 3), (62, .iload 4, 2), (64, .ifCond .lt 16, 3), (67, .iload 4, 2), (69, .aload_n 0, 1), (70, .getfield 288, 3), (73, .if_icmp .ge 7, 3), (76, .iconst 1, 1), (77, .goto 4, 3), (80, .iconst 0, 1), (81, .istore 5, 2), (83, .aload_n 0, 1), (84, .iload 5, 2), (86, .ifCond .eq 7, 3), (89, .iload_n 3, 1), (90, .goto 7, 3), (93, .aload_n 0, 1), (94, .getfield 284, 3), (97, .putfield 284, 3), (100, .aload_n 0, 1), (101, .iload 5, 2), (103, .ifCond .eq 8, 3), (106, .iload 4, 2), (108, .goto 7, 3), (111, .aload_n 0, 1)]
theorem dlX11_findFastest_50_ok : dlX11_findFastest_50.all (fun r => decide (decode cX11_findFastest r.1 = .ok r.2)) = true := by decide +kernel
theorem dX11_findFastest_50 : decode cX11_findFastest 50 = .ok (.iload_n 3, 1) := dec_at dlX11_findFastest_50_ok 0 rfl
theorem dX11_findFastest_51 : decode cX11_findFastest 51 = .ok (.iload_n 1, 1) := dec_at dlX11_findFastest_50_ok 1 rfl
theorem dX11_findFastest_52 : decode cX11_findFastest 52 = .ok (.iload_n 2, 1) := dec_at dlX11_findFastest_50_ok 2 rfl
theorem dX11_findFastest_53 : decode cX11_findFastest 53 = .ok (.invokevirtual 291, 3) := dec_at dlX11_findFastest_50_ok 3 rfl
theorem dX11_findFastest_56 : decode cX11_findFastest 56 = .ok (.istore 4, 2) := dec_at dlX11_findFastest_50_ok 4 rfl
theorem dX11_findFastest_58 : decode cX11_findFastest 58 = .ok (.aload_n 0, 1) := dec_at dlX11_findFastest_50_ok 5 rfl
theorem dX11_findFastest_59 : decode cX11_findFastest 59 = .ok (.invokevirtual 294, 3) := dec_at dlX11_findFastest_50_ok 6 rfl
theorem dX11_findFastest_62 : decode cX11_findFastest 62 = .ok (.iload 4, 2) := dec_at dlX11_findFastest_50_ok 7 rfl
theorem dX11_findFastest_64 : decode cX11_findFastest 64 = .ok (.ifCond .lt 16, 3) := dec_at dlX11_findFastest_50_ok 8 rfl
theorem dX11_findFastest_67 : decode cX11_findFastest 67 = .ok (.iload 4, 2) := dec_at dlX11_findFastest_50_ok 9 rfl
theorem dX11_findFastest_69 : decode cX11_findFastest 69 = .ok (.aload_n 0, 1) := dec_at dlX11_findFastest_50_ok 10 rfl
theorem dX11_findFastest_70 : decode cX11_findFastest 70 = .ok (.getfield 288, 3) := dec_at dlX11_findFastest_50_ok 11 rfl
theorem dX11_findFastest_73 : decode cX11_findFastest 73 = .ok (.if_icmp .ge 7, 3) := dec_at dlX11_findFastest_50_ok 12 rfl
theorem dX11_findFastest_76 : decode cX11_findFastest 76 = .ok (.iconst 1, 1) := dec_at dlX11_findFastest_50_ok 13 rfl
theorem dX11_findFastest_77 : decode cX11_findFastest 77 = .ok (.goto 4, 3) := dec_at dlX11_findFastest_50_ok 14 rfl
theorem dX11_findFastest_80 : decode cX11_findFastest 80 = .ok (.iconst 0, 1) := dec_at dlX11_findFastest_50_ok 15 rfl
theorem dX11_findFastest_81 : decode cX11_findFastest 81 = .ok (.istore 5, 2) := dec_at dlX11_findFastest_50_ok 16 rfl
theorem dX11_findFastest_83 : decode cX11_findFastest 83 = .ok (.aload_n 0, 1) := dec_at dlX11_findFastest_50_ok 17 rfl
theorem dX11_findFastest_84 : decode cX11_findFastest 84 = .ok (.iload 5, 2) := dec_at dlX11_findFastest_50_ok 18 rfl
theorem dX11_findFastest_86 : decode cX11_findFastest 86 = .ok (.ifCond .eq 7, 3) := dec_at dlX11_findFastest_50_ok 19 rfl
theorem dX11_findFastest_89 : decode cX11_findFastest 89 = .ok (.iload_n 3, 1) := dec_at dlX11_findFastest_50_ok 20 rfl
theorem dX11_findFastest_90 : decode cX11_findFastest 90 = .ok (.goto 7, 3) := dec_at dlX11_findFastest_50_ok 21 rfl
theorem dX11_findFastest_93 : decode cX11_findFastest 93 = .ok (.aload_n 0, 1) := dec_at dlX11_findFastest_50_ok 22 rfl
theorem dX11_findFastest_94 : decode cX11_findFastest 94 = .ok (.getfield 284, 3) := dec_at dlX11_findFastest_50_ok 23 rfl
theorem dX11_findFastest_97 : decode cX11_findFastest 97 = .ok (.putfield 284, 3) := dec_at dlX11_findFastest_50_ok 24 rfl
theorem dX11_findFastest_100 : decode cX11_findFastest 100 = .ok (.aload_n 0, 1) := dec_at dlX11_findFastest_50_ok 25 rfl
theorem dX11_findFastest_101 : decode cX11_findFastest 101 = .ok (.iload 5, 2) := dec_at dlX11_findFastest_50_ok 26 rfl
theorem dX11_findFastest_103 : decode cX11_findFastest 103 = .ok (.ifCond .eq 8, 3) := dec_at dlX11_findFastest_50_ok 27 rfl
theorem dX11_findFastest_106 : decode cX11_findFastest 106 = .ok (.iload 4, 2) := dec_at dlX11_findFastest_50_ok 28 rfl
theorem dX11_findFastest_108 : decode cX11_findFastest 108 = .ok (.goto 7, 3) := dec_at dlX11_findFastest_50_ok 29 rfl
theorem dX11_findFastest_111 : decode cX11_findFastest 111 = .ok (.aload_n 0, 1) := dec_at dlX11_findFastest_50_ok 30 rfl
noncomputable def dlX11_findFastest_112 : List (Nat × Instr × Nat) := [(112, .getfield 288, 3), (115, .putfield 288, 3), (118, .iinc 3 1, 3), (121, .goto (-81), 3), (124, .return_, 1)]
theorem dlX11_findFastest_112_ok : dlX11_findFastest_112.all (fun r => decide (decode cX11_findFastest r.1 = .ok r.2)) = true := by decide +kernel
theorem dX11_findFastest_112 : decode cX11_findFastest 112 = .ok (.getfield 288, 3) := dec_at dlX11_findFastest_112_ok 0 rfl
theorem dX11_findFastest_115 : decode cX11_findFastest 115 = .ok (.putfield 288, 3) := dec_at dlX11_findFastest_112_ok 1 rfl
theorem dX11_findFastest_118 : decode cX11_findFastest 118 = .ok (.iinc 3 1, 3) := dec_at dlX11_findFastest_112_ok 2 rfl
theorem dX11_findFastest_121 : decode cX11_findFastest 121 = .ok (.goto (-81), 3) := dec_at dlX11_findFastest_112_ok 3 rfl
theorem dX11_findFastest_124 : decode cX11_findFastest 124 = .ok (.return_, 1) := dec_at dlX11_findFastest_112_ok 4 rfl
set_option maxRecDepth 20000 in
theorem ggX11_fastest_X11_isHand : GoodIn wsX11_fastest wsX11_isHand := goodIn_s _ [(10, 4), (9, 1), (14, 1), (76, 46)] rfl (by decide +kernel)
set_option maxRecDepth 20000 in
theorem gX11_fastest_X11_isHand : GoodIn wsX11_fastest (wsV RX11 192 RX11 yX11_isHand wsX11_isHand) := goodIn_app (goodIn_s _ [(6, 4)] rfl (by decide +kernel)) ggX11_fastest_X11_isHand
set_option maxRecDepth 20000 in
theorem ggX11_fastest_X11_in : GoodIn wsX11_fastest wsX11_in := goodIn_s _ [(14, 1)] rfl (by decide +kernel)
set_option maxRecDepth 20000 in
theorem gX11_fastest_X11_in : GoodIn wsX11_fastest (va_wsS RX11 102 yX11_in wsX11_in) := goodIn_app (goodIn_s _ [(12, 2), (9, 1)] rfl (by decide +kernel)) ggX11_fastest_X11_in
set_option maxRecDepth 20000 in
theorem ggX11_fastest_X11_findFastest : GoodIn wsX11_fastest wsX11_findFastest := goodIn_s _ [(18, 3), (4, 1), (21, 1), (5, 1), (22, 3), (9, 1), (25, 47), (12, 3), (72, 50)] rfl (by decide +kernel)
set_option maxRecDepth 20000 in
theorem gX11_fastest_X11_findFastest : GoodIn wsX11_fastest (wsV RX11 299 RX11 yX11_findFastest wsX11_findFastest) := goodIn_app (goodIn_s _ [(15, 3), (9, 1)] rfl (by decide +kernel)) ggX11_fastest_X11_findFastest
noncomputable def dlX11_fastest_0 : List (Nat × Instr × Nat) := [(0, .aload_n 0, 1), (1, .iload_n 1, 1), (2, .invokevirtual 192, 3), (5, .ifCond .ne 6, 3), (8, .ldc 188, 2), (10, .ireturn, 1), (11, .iload_n 2, 1), (12, .i2l, 1), (13, .lconst 1, 1), (14, .ldc2_w 297, 3), (17, .invokestatic 102, 3), (20, .ifCond .ne 6, 3), (23, .ldc 111, 2), (25, .ireturn, 1), (26, .aload_n 0, 1), (27, .iload_n 1, 1), (28, .iload_n 2, 1), (29, .invokevirtual 299, 3), (32, .aload_n 0, 1), (33, .getfield 284, 3), (36, .ifCond .lt 21, 3), (39, .iload_n 3, 1), (40, .iconst (-1), 1), (41, .if_icmp .eq 18, 3), (44, .iload_n 3, 1), (45, .i2l, 1), (46, .lconst 0, 1), (47, .iload_n 2, 1), (48, .iconst 1, 1), (49, .isub, 1), (50, .i2l, 1)]
theorem dlX11_fastest_0_ok : dlX11_fastest_0.all (fun r => decide (decode cX11_fastest r.1 = .ok r.2)) = true := by decide +kernel
theorem dX11_fastest_0 : decode cX11_fastest 0 = .ok (.aload_n 0, 1) := dec_at dlX11_fastest_0_ok 0 rfl
theorem dX11_fastest_1 : decode cX11_fastest 1 = .ok (.iload_n 1, 1) := dec_at dlX11_fastest_0_ok 1 rfl
theorem dX11_fastest_2 : decode cX11_fastest 2 = .ok (.invokevirtual 192, 3) := dec_at dlX11_fastest_0_ok 2 rfl
theorem dX11_fastest_5 : decode cX11_fastest 5 = .ok (.ifCond .ne 6, 3) := dec_at dlX11_fastest_0_ok 3 rfl
theorem dX11_fastest_8 : decode cX11_fastest 8 = .ok (.ldc 188, 2) := dec_at dlX11_fastest_0_ok 4 rfl
theorem dX11_fastest_10 : decode cX11_fastest 10 = .ok (.ireturn, 1) := dec_at dlX11_fastest_0_ok 5 rfl
theorem dX11_fastest_11 : decode cX11_fastest 11 = .ok (.iload_n 2, 1) := dec_at dlX11_fastest_0_ok 6 rfl
theorem dX11_fastest_12 : decode cX11_fastest 12 = .ok (.i2l, 1) := dec_at dlX11_fastest_0_ok 7 rfl
theorem dX11_fastest_13 : decode cX11_fastest 13 = .ok (.lconst 1, 1) := dec_at dlX11_fastest_0_ok 8 rfl
theorem dX11_fastest_14 : decode cX11_fastest 14 = .ok (.ldc2_w 297, 3) := dec_at dlX11_fastest_0_ok 9 rfl
theorem dX11_fastest_17 : decode cX11_fastest 17 = .ok (.invokestatic 102, 3) := dec_at dlX11_fastest_0_ok 10 rfl
theorem dX11_fastest_20 : decode cX11_fastest 20 = .ok (.ifCond .ne 6, 3) := dec_at dlX11_fastest_0_ok 11 rfl
theorem dX11_fastest_23 : decode cX11_fastest 23 = .ok (.ldc 111, 2) := dec_at dlX11_fastest_0_ok 12 rfl
theorem dX11_fastest_25 : decode cX11_fastest 25 = .ok (.ireturn, 1) := dec_at dlX11_fastest_0_ok 13 rfl
theorem dX11_fastest_26 : decode cX11_fastest 26 = .ok (.aload_n 0, 1) := dec_at dlX11_fastest_0_ok 14 rfl
theorem dX11_fastest_27 : decode cX11_fastest 27 = .ok (.iload_n 1, 1) := dec_at dlX11_fastest_0_ok 15 rfl
theorem dX11_fastest_28 : decode cX11_fastest 28 = .ok (.iload_n 2, 1) := dec_at dlX11_fastest_0_ok 16 rfl
theorem dX11_fastest_29 : decode cX11_fastest 29 = .ok (.invokevirtual 299, 3) := dec_at dlX11_fastest_0_ok 17 rfl
theorem dX11_fastest_32 : decode cX11_fastest 32 = .ok (.aload_n 0, 1) := dec_at dlX11_fastest_0_ok 18 rfl
theorem dX11_fastest_33 : decode cX11_fastest 33 = .ok (.getfield 284, 3) := dec_at dlX11_fastest_0_ok 19 rfl
theorem dX11_fastest_36 : decode cX11_fastest 36 = .ok (.ifCond .lt 21, 3) := dec_at dlX11_fastest_0_ok 20 rfl
theorem dX11_fastest_39 : decode cX11_fastest 39 = .ok (.iload_n 3, 1) := dec_at dlX11_fastest_0_ok 21 rfl
theorem dX11_fastest_40 : decode cX11_fastest 40 = .ok (.iconst (-1), 1) := dec_at dlX11_fastest_0_ok 22 rfl
theorem dX11_fastest_41 : decode cX11_fastest 41 = .ok (.if_icmp .eq 18, 3) := dec_at dlX11_fastest_0_ok 23 rfl
theorem dX11_fastest_44 : decode cX11_fastest 44 = .ok (.iload_n 3, 1) := dec_at dlX11_fastest_0_ok 24 rfl
theorem dX11_fastest_45 : decode cX11_fastest 45 = .ok (.i2l, 1) := dec_at dlX11_fastest_0_ok 25 rfl
theorem dX11_fastest_46 : decode cX11_fastest 46 = .ok (.lconst 0, 1) := dec_at dlX11_fastest_0_ok 26 rfl
theorem dX11_fastest_47 : decode cX11_fastest 47 = .ok (.iload_n 2, 1) := dec_at dlX11_fastest_0_ok 27 rfl
theorem dX11_fastest_48 : decode cX11_fastest 48 = .ok (.iconst 1, 1) := dec_at dlX11_fastest_0_ok 28 rfl
theorem dX11_fastest_49 : decode cX11_fastest 49 = .ok (.isub, 1) := dec_at dlX11_fastest_0_ok 29 rfl
theorem dX11_fastest_50 : decode cX11_fastest 50 = .ok (.i2l, 1) := dec_at dlX11_fastest_0_ok 30 rfl
noncomputable def dlX11_fastest_51 : List (Nat × Instr × Nat) := [(51, .invokestatic 102, 3), (54, .ifCond .ne 5, 3), (57, .iconst (-1), 1), (58, .ireturn, 1), (59, .aload_n 0, 1), (60, .getfield 284, 3), (63, .iconst 4, 1), (64, .iload_n 2, 1), (65, .iconst 1, 1), (66, .isub, 1), (67, .iload_n 3, 1), (68, .isub, 1), (69, .imul, 1), (70, .ishr, 1), (71, .bipush 15, 2), (73, .iand, 1), (74, .istore 4, 2), (76, .iload_n 3, 1), (77, .iconst (-1), 1), (78, .if_icmp .ne 10, 3), (81, .aload_n 0, 1), (82, .getfield 288, 3), (85, .goto 15, 3), (88, .iload 4, 2), (90, .iconst 2, 1), (91, .idiv, 1), (92, .bipush 10, 2), (94, .iload 4, 2), (96, .iconst 2, 1), (97, .irem, 1), (98, .imul, 1)]
theorem dlX11_fastest_51_ok : dlX11_fastest_51.all (fun r => decide (decode cX11_fastest r.1 = .ok r.2)) = true := by decide +kernel
theorem dX11_fastest_51 : decode cX11_fastest 51 = .ok (.invokestatic 102, 3) := dec_at dlX11_fastest_51_ok 0 rfl
theorem dX11_fastest_54 : decode cX11_fastest 54 = .ok (.ifCond .ne 5, 3) := dec_at dlX11_fastest_51_ok 1 rfl
theorem dX11_fastest_57 : decode cX11_fastest 57 = .ok (.iconst (-1), 1) := dec_at dlX11_fastest_51_ok 2 rfl
theorem dX11_fastest_58 : decode cX11_fastest 58 = .ok (.ireturn, 1) := dec_at dlX11_fastest_51_ok 3 rfl
theorem dX11_fastest_59 : decode cX11_fastest 59 = .ok (.aload_n 0, 1) := dec_at dlX11_fastest_51_ok 4 rfl
theorem dX11_fastest_60 : decode cX11_fastest 60 = .ok (.getfield 284, 3) := dec_at dlX11_fastest_51_ok 5 rfl
theorem dX11_fastest_63 : decode cX11_fastest 63 = .ok (.iconst 4, 1) := dec_at dlX11_fastest_51_ok 6 rfl
theorem dX11_fastest_64 : decode cX11_fastest 64 = .ok (.iload_n 2, 1) := dec_at dlX11_fastest_51_ok 7 rfl
theorem dX11_fastest_65 : decode cX11_fastest 65 = .ok (.iconst 1, 1) := dec_at dlX11_fastest_51_ok 8 rfl
theorem dX11_fastest_66 : decode cX11_fastest 66 = .ok (.isub, 1) := dec_at dlX11_fastest_51_ok 9 rfl
theorem dX11_fastest_67 : decode cX11_fastest 67 = .ok (.iload_n 3, 1) := dec_at dlX11_fastest_51_ok 10 rfl
theorem dX11_fastest_68 : decode cX11_fastest 68 = .ok (.isub, 1) := dec_at dlX11_fastest_51_ok 11 rfl
theorem dX11_fastest_69 : decode cX11_fastest 69 = .ok (.imul, 1) := dec_at dlX11_fastest_51_ok 12 rfl
theorem dX11_fastest_70 : decode cX11_fastest 70 = .ok (.ishr, 1) := dec_at dlX11_fastest_51_ok 13 rfl
theorem dX11_fastest_71 : decode cX11_fastest 71 = .ok (.bipush 15, 2) := dec_at dlX11_fastest_51_ok 14 rfl
theorem dX11_fastest_73 : decode cX11_fastest 73 = .ok (.iand, 1) := dec_at dlX11_fastest_51_ok 15 rfl
theorem dX11_fastest_74 : decode cX11_fastest 74 = .ok (.istore 4, 2) := dec_at dlX11_fastest_51_ok 16 rfl
theorem dX11_fastest_76 : decode cX11_fastest 76 = .ok (.iload_n 3, 1) := dec_at dlX11_fastest_51_ok 17 rfl
theorem dX11_fastest_77 : decode cX11_fastest 77 = .ok (.iconst (-1), 1) := dec_at dlX11_fastest_51_ok 18 rfl
theorem dX11_fastest_78 : decode cX11_fastest 78 = .ok (.if_icmp .ne 10, 3) := dec_at dlX11_fastest_51_ok 19 rfl
theorem dX11_fastest_81 : decode cX11_fastest 81 = .ok (.aload_n 0, 1) := dec_at dlX11_fastest_51_ok 20 rfl
theorem dX11_fastest_82 : decode cX11_fastest 82 = .ok (.getfield 288, 3) := dec_at dlX11_fastest_51_ok 21 rfl
theorem dX11_fastest_85 : decode cX11_fastest 85 = .ok (.goto 15, 3) := dec_at dlX11_fastest_51_ok 22 rfl
theorem dX11_fastest_88 : decode cX11_fastest 88 = .ok (.iload 4, 2) := dec_at dlX11_fastest_51_ok 23 rfl
theorem dX11_fastest_90 : decode cX11_fastest 90 = .ok (.iconst 2, 1) := dec_at dlX11_fastest_51_ok 24 rfl
theorem dX11_fastest_91 : decode cX11_fastest 91 = .ok (.idiv, 1) := dec_at dlX11_fastest_51_ok 25 rfl
theorem dX11_fastest_92 : decode cX11_fastest 92 = .ok (.bipush 10, 2) := dec_at dlX11_fastest_51_ok 26 rfl
theorem dX11_fastest_94 : decode cX11_fastest 94 = .ok (.iload 4, 2) := dec_at dlX11_fastest_51_ok 27 rfl
theorem dX11_fastest_96 : decode cX11_fastest 96 = .ok (.iconst 2, 1) := dec_at dlX11_fastest_51_ok 28 rfl
theorem dX11_fastest_97 : decode cX11_fastest 97 = .ok (.irem, 1) := dec_at dlX11_fastest_51_ok 29 rfl
theorem dX11_fastest_98 : decode cX11_fastest 98 = .ok (.imul, 1) := dec_at dlX11_fastest_51_ok 30 rfl
noncomputable def dlX11_fastest_99 : List (Nat × Instr × Nat) := [(99, .iadd, 1), (100, .ireturn, 1)]
theorem dlX11_fastest_99_ok : dlX11_fastest_99.all (fun r => decide (decode cX11_fastest r.1 = .ok r.2)) = true := by decide +kernel
theorem dX11_fastest_99 : decode cX11_fastest 99 = .ok (.iadd, 1) := dec_at dlX11_fastest_99_ok 0 rfl
theorem dX11_fastest_100 : decode cX11_fastest 100 = .ok (.ireturn, 1) := dec_at dlX11_fastest_99_ok 1 rfl
set_option maxRecDepth 20000 in
theorem ggX11_doTurns_X11_suits : GoodIn wsX11_doTurns wsX11_suits := goodIn_s _ [(7, 5), (6, 1), (12, 1), (33, 46)] rfl (by decide +kernel)
set_option maxRecDepth 20000 in
theorem gX11_doTurns_X11_suits : GoodIn wsX11_doTurns (wsV RX11 204 RX11 yX11_suits wsX11_suits) := goodIn_app (goodIn_s _ [(3, 4)] rfl (by decide +kernel)) ggX11_doTurns_X11_suits
set_option maxRecDepth 20000 in
theorem ggX11_doTurns_X11_softBehind : GoodIn wsX11_doTurns wsX11_softBehind := goodIn_s _ [(16, 4), (6, 1), (20, 10), (33, 46)] rfl (by decide +kernel)
set_option maxRecDepth 20000 in
theorem gX11_doTurns_X11_softBehind : GoodIn wsX11_doTurns (wsV RX11 200 RX11 yX11_softBehind wsX11_softBehind) := goodIn_app (goodIn_s _ [(13, 3), (6, 1)] rfl (by decide +kernel)) ggX11_doTurns_X11_softBehind
set_option maxRecDepth 20000 in
theorem ggX11_doTurns_X11_driedBy : GoodIn wsX11_doTurns wsX11_driedBy := goodIn_s _ [(32, 1)] rfl (by decide +kernel)
set_option maxRecDepth 20000 in
theorem gX11_doTurns_X11_driedBy : GoodIn wsX11_doTurns (va_wsS RX11 231 yX11_driedBy wsX11_driedBy) := goodIn_app (goodIn_s _ [(30, 2), (6, 1)] rfl (by decide +kernel)) ggX11_doTurns_X11_driedBy
noncomputable def dlX11_doTurns_0 : List (Nat × Instr × Nat) := [(0, .iconst 0, 1), (1, .istore 4, 2), (3, .iload 4, 2), (5, .iload_n 3, 1), (6, .if_icmp .ge 25, 3), (9, .aload_n 0, 1), (10, .getfield 71, 3), (13, .iload 4, 2), (15, .aload_n 0, 1), (16, .getfield 28, 3), (19, .bipush 16, 2), (21, .iload_n 1, 1), (22, .iadd, 1), (23, .iaload, 1), (24, .iastore, 1), (25, .iinc 4 1, 3), (28, .goto (-25), 3), (31, .aload_n 0, 1), (32, .aload_n 0, 1), (33, .getfield 28, 3), (36, .bipush 8, 2), (38, .iload_n 1, 1), (39, .iadd, 1), (40, .iaload, 1), (41, .iload_n 2, 1), (42, .invokevirtual 204, 3), (45, .istore 4, 2), (47, .iconst 0, 1), (48, .istore 5, 2), (50, .iload 5, 2), (52, .bipush 20, 2)]
theorem dlX11_doTurns_0_ok : dlX11_doTurns_0.all (fun r => decide (decode cX11_doTurns r.1 = .ok r.2)) = true := by decide +kernel
theorem dX11_doTurns_0 : decode cX11_doTurns 0 = .ok (.iconst 0, 1) := dec_at dlX11_doTurns_0_ok 0 rfl
theorem dX11_doTurns_1 : decode cX11_doTurns 1 = .ok (.istore 4, 2) := dec_at dlX11_doTurns_0_ok 1 rfl
theorem dX11_doTurns_3 : decode cX11_doTurns 3 = .ok (.iload 4, 2) := dec_at dlX11_doTurns_0_ok 2 rfl
theorem dX11_doTurns_5 : decode cX11_doTurns 5 = .ok (.iload_n 3, 1) := dec_at dlX11_doTurns_0_ok 3 rfl
theorem dX11_doTurns_6 : decode cX11_doTurns 6 = .ok (.if_icmp .ge 25, 3) := dec_at dlX11_doTurns_0_ok 4 rfl
theorem dX11_doTurns_9 : decode cX11_doTurns 9 = .ok (.aload_n 0, 1) := dec_at dlX11_doTurns_0_ok 5 rfl
theorem dX11_doTurns_10 : decode cX11_doTurns 10 = .ok (.getfield 71, 3) := dec_at dlX11_doTurns_0_ok 6 rfl
theorem dX11_doTurns_13 : decode cX11_doTurns 13 = .ok (.iload 4, 2) := dec_at dlX11_doTurns_0_ok 7 rfl
theorem dX11_doTurns_15 : decode cX11_doTurns 15 = .ok (.aload_n 0, 1) := dec_at dlX11_doTurns_0_ok 8 rfl
theorem dX11_doTurns_16 : decode cX11_doTurns 16 = .ok (.getfield 28, 3) := dec_at dlX11_doTurns_0_ok 9 rfl
theorem dX11_doTurns_19 : decode cX11_doTurns 19 = .ok (.bipush 16, 2) := dec_at dlX11_doTurns_0_ok 10 rfl
theorem dX11_doTurns_21 : decode cX11_doTurns 21 = .ok (.iload_n 1, 1) := dec_at dlX11_doTurns_0_ok 11 rfl
theorem dX11_doTurns_22 : decode cX11_doTurns 22 = .ok (.iadd, 1) := dec_at dlX11_doTurns_0_ok 12 rfl
theorem dX11_doTurns_23 : decode cX11_doTurns 23 = .ok (.iaload, 1) := dec_at dlX11_doTurns_0_ok 13 rfl
theorem dX11_doTurns_24 : decode cX11_doTurns 24 = .ok (.iastore, 1) := dec_at dlX11_doTurns_0_ok 14 rfl
theorem dX11_doTurns_25 : decode cX11_doTurns 25 = .ok (.iinc 4 1, 3) := dec_at dlX11_doTurns_0_ok 15 rfl
theorem dX11_doTurns_28 : decode cX11_doTurns 28 = .ok (.goto (-25), 3) := dec_at dlX11_doTurns_0_ok 16 rfl
theorem dX11_doTurns_31 : decode cX11_doTurns 31 = .ok (.aload_n 0, 1) := dec_at dlX11_doTurns_0_ok 17 rfl
theorem dX11_doTurns_32 : decode cX11_doTurns 32 = .ok (.aload_n 0, 1) := dec_at dlX11_doTurns_0_ok 18 rfl
theorem dX11_doTurns_33 : decode cX11_doTurns 33 = .ok (.getfield 28, 3) := dec_at dlX11_doTurns_0_ok 19 rfl
theorem dX11_doTurns_36 : decode cX11_doTurns 36 = .ok (.bipush 8, 2) := dec_at dlX11_doTurns_0_ok 20 rfl
theorem dX11_doTurns_38 : decode cX11_doTurns 38 = .ok (.iload_n 1, 1) := dec_at dlX11_doTurns_0_ok 21 rfl
theorem dX11_doTurns_39 : decode cX11_doTurns 39 = .ok (.iadd, 1) := dec_at dlX11_doTurns_0_ok 22 rfl
theorem dX11_doTurns_40 : decode cX11_doTurns 40 = .ok (.iaload, 1) := dec_at dlX11_doTurns_0_ok 23 rfl
theorem dX11_doTurns_41 : decode cX11_doTurns 41 = .ok (.iload_n 2, 1) := dec_at dlX11_doTurns_0_ok 24 rfl
theorem dX11_doTurns_42 : decode cX11_doTurns 42 = .ok (.invokevirtual 204, 3) := dec_at dlX11_doTurns_0_ok 25 rfl
theorem dX11_doTurns_45 : decode cX11_doTurns 45 = .ok (.istore 4, 2) := dec_at dlX11_doTurns_0_ok 26 rfl
theorem dX11_doTurns_47 : decode cX11_doTurns 47 = .ok (.iconst 0, 1) := dec_at dlX11_doTurns_0_ok 27 rfl
theorem dX11_doTurns_48 : decode cX11_doTurns 48 = .ok (.istore 5, 2) := dec_at dlX11_doTurns_0_ok 28 rfl
theorem dX11_doTurns_50 : decode cX11_doTurns 50 = .ok (.iload 5, 2) := dec_at dlX11_doTurns_0_ok 29 rfl
theorem dX11_doTurns_52 : decode cX11_doTurns 52 = .ok (.bipush 20, 2) := dec_at dlX11_doTurns_0_ok 30 rfl
noncomputable def dlX11_doTurns_54 : List (Nat × Instr × Nat) := [(54, .if_icmp .ge 93, 3), (57, .iconst 0, 1), (58, .istore 6, 2), (60, .iload 6, 2), (62, .iload_n 3, 1), (63, .if_icmp .ge 52, 3), (66, .aload_n 0, 1), (67, .getfield 71, 3), (70, .iload 6, 2), (72, .iload 6, 2), (74, .iload 5, 2), (76, .iload_n 3, 1), (77, .irem, 1), (78, .if_icmp .ne 19, 3), (81, .aload_n 0, 1), (82, .aload_n 0, 1), (83, .getfield 71, 3), (86, .iload 6, 2), (88, .iaload, 1), (89, .iload_n 1, 1), (90, .iload_n 2, 1), (91, .invokevirtual 200, 3), (94, .goto 14, 3), (97, .aload_n 0, 1), (98, .getfield 71, 3), (101, .iload 6, 2), (103, .iaload, 1), (104, .iconst 1, 1), (105, .invokestatic 231, 3), (108, .iastore, 1), (109, .iinc 6 1, 3)]
theorem dlX11_doTurns_54_ok : dlX11_doTurns_54.all (fun r => decide (decode cX11_doTurns r.1 = .ok r.2)) = true := by decide +kernel
theorem dX11_doTurns_54 : decode cX11_doTurns 54 = .ok (.if_icmp .ge 93, 3) := dec_at dlX11_doTurns_54_ok 0 rfl
theorem dX11_doTurns_57 : decode cX11_doTurns 57 = .ok (.iconst 0, 1) := dec_at dlX11_doTurns_54_ok 1 rfl
theorem dX11_doTurns_58 : decode cX11_doTurns 58 = .ok (.istore 6, 2) := dec_at dlX11_doTurns_54_ok 2 rfl
theorem dX11_doTurns_60 : decode cX11_doTurns 60 = .ok (.iload 6, 2) := dec_at dlX11_doTurns_54_ok 3 rfl
theorem dX11_doTurns_62 : decode cX11_doTurns 62 = .ok (.iload_n 3, 1) := dec_at dlX11_doTurns_54_ok 4 rfl
theorem dX11_doTurns_63 : decode cX11_doTurns 63 = .ok (.if_icmp .ge 52, 3) := dec_at dlX11_doTurns_54_ok 5 rfl
theorem dX11_doTurns_66 : decode cX11_doTurns 66 = .ok (.aload_n 0, 1) := dec_at dlX11_doTurns_54_ok 6 rfl
theorem dX11_doTurns_67 : decode cX11_doTurns 67 = .ok (.getfield 71, 3) := dec_at dlX11_doTurns_54_ok 7 rfl
theorem dX11_doTurns_70 : decode cX11_doTurns 70 = .ok (.iload 6, 2) := dec_at dlX11_doTurns_54_ok 8 rfl
theorem dX11_doTurns_72 : decode cX11_doTurns 72 = .ok (.iload 6, 2) := dec_at dlX11_doTurns_54_ok 9 rfl
theorem dX11_doTurns_74 : decode cX11_doTurns 74 = .ok (.iload 5, 2) := dec_at dlX11_doTurns_54_ok 10 rfl
theorem dX11_doTurns_76 : decode cX11_doTurns 76 = .ok (.iload_n 3, 1) := dec_at dlX11_doTurns_54_ok 11 rfl
theorem dX11_doTurns_77 : decode cX11_doTurns 77 = .ok (.irem, 1) := dec_at dlX11_doTurns_54_ok 12 rfl
theorem dX11_doTurns_78 : decode cX11_doTurns 78 = .ok (.if_icmp .ne 19, 3) := dec_at dlX11_doTurns_54_ok 13 rfl
theorem dX11_doTurns_81 : decode cX11_doTurns 81 = .ok (.aload_n 0, 1) := dec_at dlX11_doTurns_54_ok 14 rfl
theorem dX11_doTurns_82 : decode cX11_doTurns 82 = .ok (.aload_n 0, 1) := dec_at dlX11_doTurns_54_ok 15 rfl
theorem dX11_doTurns_83 : decode cX11_doTurns 83 = .ok (.getfield 71, 3) := dec_at dlX11_doTurns_54_ok 16 rfl
theorem dX11_doTurns_86 : decode cX11_doTurns 86 = .ok (.iload 6, 2) := dec_at dlX11_doTurns_54_ok 17 rfl
theorem dX11_doTurns_88 : decode cX11_doTurns 88 = .ok (.iaload, 1) := dec_at dlX11_doTurns_54_ok 18 rfl
theorem dX11_doTurns_89 : decode cX11_doTurns 89 = .ok (.iload_n 1, 1) := dec_at dlX11_doTurns_54_ok 19 rfl
theorem dX11_doTurns_90 : decode cX11_doTurns 90 = .ok (.iload_n 2, 1) := dec_at dlX11_doTurns_54_ok 20 rfl
theorem dX11_doTurns_91 : decode cX11_doTurns 91 = .ok (.invokevirtual 200, 3) := dec_at dlX11_doTurns_54_ok 21 rfl
theorem dX11_doTurns_94 : decode cX11_doTurns 94 = .ok (.goto 14, 3) := dec_at dlX11_doTurns_54_ok 22 rfl
theorem dX11_doTurns_97 : decode cX11_doTurns 97 = .ok (.aload_n 0, 1) := dec_at dlX11_doTurns_54_ok 23 rfl
theorem dX11_doTurns_98 : decode cX11_doTurns 98 = .ok (.getfield 71, 3) := dec_at dlX11_doTurns_54_ok 24 rfl
theorem dX11_doTurns_101 : decode cX11_doTurns 101 = .ok (.iload 6, 2) := dec_at dlX11_doTurns_54_ok 25 rfl
theorem dX11_doTurns_103 : decode cX11_doTurns 103 = .ok (.iaload, 1) := dec_at dlX11_doTurns_54_ok 26 rfl
theorem dX11_doTurns_104 : decode cX11_doTurns 104 = .ok (.iconst 1, 1) := dec_at dlX11_doTurns_54_ok 27 rfl
theorem dX11_doTurns_105 : decode cX11_doTurns 105 = .ok (.invokestatic 231, 3) := dec_at dlX11_doTurns_54_ok 28 rfl
theorem dX11_doTurns_108 : decode cX11_doTurns 108 = .ok (.iastore, 1) := dec_at dlX11_doTurns_54_ok 29 rfl
theorem dX11_doTurns_109 : decode cX11_doTurns 109 = .ok (.iinc 6 1, 3) := dec_at dlX11_doTurns_54_ok 30 rfl
noncomputable def dlX11_doTurns_112 : List (Nat × Instr × Nat) := [(112, .goto (-52), 3), (115, .iload 4, 2), (117, .ifCond .eq 21, 3), (120, .aload_n 0, 1), (121, .getfield 71, 3), (124, .iload 5, 2), (126, .iload_n 3, 1), (127, .irem, 1), (128, .iaload, 1), (129, .bipush 50, 2), (131, .if_icmp .gt 7, 3), (134, .iconst 1, 1), (135, .goto 4, 3), (138, .iconst 0, 1), (139, .istore 4, 2), (141, .iinc 5 1, 3), (144, .goto (-94), 3), (147, .iload 4, 2), (149, .ireturn, 1)]
theorem dlX11_doTurns_112_ok : dlX11_doTurns_112.all (fun r => decide (decode cX11_doTurns r.1 = .ok r.2)) = true := by decide +kernel
theorem dX11_doTurns_112 : decode cX11_doTurns 112 = .ok (.goto (-52), 3) := dec_at dlX11_doTurns_112_ok 0 rfl
theorem dX11_doTurns_115 : decode cX11_doTurns 115 = .ok (.iload 4, 2) := dec_at dlX11_doTurns_112_ok 1 rfl
theorem dX11_doTurns_117 : decode cX11_doTurns 117 = .ok (.ifCond .eq 21, 3) := dec_at dlX11_doTurns_112_ok 2 rfl
theorem dX11_doTurns_120 : decode cX11_doTurns 120 = .ok (.aload_n 0, 1) := dec_at dlX11_doTurns_112_ok 3 rfl
theorem dX11_doTurns_121 : decode cX11_doTurns 121 = .ok (.getfield 71, 3) := dec_at dlX11_doTurns_112_ok 4 rfl
theorem dX11_doTurns_124 : decode cX11_doTurns 124 = .ok (.iload 5, 2) := dec_at dlX11_doTurns_112_ok 5 rfl
theorem dX11_doTurns_126 : decode cX11_doTurns 126 = .ok (.iload_n 3, 1) := dec_at dlX11_doTurns_112_ok 6 rfl
theorem dX11_doTurns_127 : decode cX11_doTurns 127 = .ok (.irem, 1) := dec_at dlX11_doTurns_112_ok 7 rfl
theorem dX11_doTurns_128 : decode cX11_doTurns 128 = .ok (.iaload, 1) := dec_at dlX11_doTurns_112_ok 8 rfl
theorem dX11_doTurns_129 : decode cX11_doTurns 129 = .ok (.bipush 50, 2) := dec_at dlX11_doTurns_112_ok 9 rfl
theorem dX11_doTurns_131 : decode cX11_doTurns 131 = .ok (.if_icmp .gt 7, 3) := dec_at dlX11_doTurns_112_ok 10 rfl
theorem dX11_doTurns_134 : decode cX11_doTurns 134 = .ok (.iconst 1, 1) := dec_at dlX11_doTurns_112_ok 11 rfl
theorem dX11_doTurns_135 : decode cX11_doTurns 135 = .ok (.goto 4, 3) := dec_at dlX11_doTurns_112_ok 12 rfl
theorem dX11_doTurns_138 : decode cX11_doTurns 138 = .ok (.iconst 0, 1) := dec_at dlX11_doTurns_112_ok 13 rfl
theorem dX11_doTurns_139 : decode cX11_doTurns 139 = .ok (.istore 4, 2) := dec_at dlX11_doTurns_112_ok 14 rfl
theorem dX11_doTurns_141 : decode cX11_doTurns 141 = .ok (.iinc 5 1, 3) := dec_at dlX11_doTurns_112_ok 15 rfl
theorem dX11_doTurns_144 : decode cX11_doTurns 144 = .ok (.goto (-94), 3) := dec_at dlX11_doTurns_112_ok 16 rfl
theorem dX11_doTurns_147 : decode cX11_doTurns 147 = .ok (.iload 4, 2) := dec_at dlX11_doTurns_112_ok 17 rfl
theorem dX11_doTurns_149 : decode cX11_doTurns 149 = .ok (.ireturn, 1) := dec_at dlX11_doTurns_112_ok 18 rfl
set_option maxRecDepth 20000 in
theorem ggX11_byTurns_X11_isQuill : GoodIn wsX11_byTurns wsX11_isQuill := goodIn_s _ [(6, 4), (5, 1), (10, 1), (48, 46)] rfl (by decide +kernel)
set_option maxRecDepth 20000 in
theorem gX11_byTurns_X11_isQuill : GoodIn wsX11_byTurns (wsV RX11 184 RX11 yX11_isQuill wsX11_isQuill) := goodIn_app (goodIn_s _ [(2, 4)] rfl (by decide +kernel)) ggX11_byTurns_X11_isQuill
set_option maxRecDepth 20000 in
theorem ggX11_byTurns_X11_isHand : GoodIn wsX11_byTurns wsX11_isHand := goodIn_s _ [(14, 2), (8, 2), (5, 1), (10, 1), (48, 46)] rfl (by decide +kernel)
set_option maxRecDepth 20000 in
theorem gX11_byTurns_X11_isHand : GoodIn wsX11_byTurns (wsV RX11 192 RX11 yX11_isHand wsX11_isHand) := goodIn_app (goodIn_s _ [(11, 3), (5, 1)] rfl (by decide +kernel)) ggX11_byTurns_X11_isHand
set_option maxRecDepth 20000 in
theorem ggX11_byTurns_X11_doTurns : GoodIn wsX11_byTurns wsX11_doTurns := goodIn_s _ [(19, 6), (5, 1), (25, 3), (8, 3), (28, 66)] rfl (by decide +kernel)
set_option maxRecDepth 20000 in
theorem gX11_byTurns_X11_doTurns : GoodIn wsX11_byTurns (wsV RX11 302 RX11 yX11_doTurns wsX11_doTurns) := goodIn_app (goodIn_s _ [(16, 3), (5, 1)] rfl (by decide +kernel)) ggX11_byTurns_X11_doTurns
noncomputable def dlX11_byTurns_0 : List (Nat × Instr × Nat) := [(0, .aload_n 0, 1), (1, .iload_n 1, 1), (2, .invokevirtual 184, 3), (5, .ifCond .eq 11, 3), (8, .aload_n 0, 1), (9, .iload_n 2, 1), (10, .invokevirtual 192, 3), (13, .ifCond .ne 6, 3), (16, .ldc 188, 2), (18, .ireturn, 1), (19, .iconst 1, 1), (20, .istore_n 3, 1), (21, .iload_n 3, 1), (22, .bipush 9, 2), (24, .if_icmp .gt 21, 3), (27, .aload_n 0, 1), (28, .iload_n 1, 1), (29, .iload_n 2, 1), (30, .iload_n 3, 1), (31, .invokevirtual 302, 3), (34, .ifCond .eq 5, 3), (37, .iload_n 3, 1), (38, .ireturn, 1), (39, .iinc 3 1, 3), (42, .goto (-21), 3), (45, .iconst (-1), 1), (46, .ireturn, 1)]
theorem dlX11_byTurns_0_ok : dlX11_byTurns_0.all (fun r => decide (decode cX11_byTurns r.1 = .ok r.2)) = true := by decide +kernel
theorem dX11_byTurns_0 : decode cX11_byTurns 0 = .ok (.aload_n 0, 1) := dec_at dlX11_byTurns_0_ok 0 rfl
theorem dX11_byTurns_1 : decode cX11_byTurns 1 = .ok (.iload_n 1, 1) := dec_at dlX11_byTurns_0_ok 1 rfl
theorem dX11_byTurns_2 : decode cX11_byTurns 2 = .ok (.invokevirtual 184, 3) := dec_at dlX11_byTurns_0_ok 2 rfl
theorem dX11_byTurns_5 : decode cX11_byTurns 5 = .ok (.ifCond .eq 11, 3) := dec_at dlX11_byTurns_0_ok 3 rfl
theorem dX11_byTurns_8 : decode cX11_byTurns 8 = .ok (.aload_n 0, 1) := dec_at dlX11_byTurns_0_ok 4 rfl
theorem dX11_byTurns_9 : decode cX11_byTurns 9 = .ok (.iload_n 2, 1) := dec_at dlX11_byTurns_0_ok 5 rfl
theorem dX11_byTurns_10 : decode cX11_byTurns 10 = .ok (.invokevirtual 192, 3) := dec_at dlX11_byTurns_0_ok 6 rfl
theorem dX11_byTurns_13 : decode cX11_byTurns 13 = .ok (.ifCond .ne 6, 3) := dec_at dlX11_byTurns_0_ok 7 rfl
theorem dX11_byTurns_16 : decode cX11_byTurns 16 = .ok (.ldc 188, 2) := dec_at dlX11_byTurns_0_ok 8 rfl
theorem dX11_byTurns_18 : decode cX11_byTurns 18 = .ok (.ireturn, 1) := dec_at dlX11_byTurns_0_ok 9 rfl
theorem dX11_byTurns_19 : decode cX11_byTurns 19 = .ok (.iconst 1, 1) := dec_at dlX11_byTurns_0_ok 10 rfl
theorem dX11_byTurns_20 : decode cX11_byTurns 20 = .ok (.istore_n 3, 1) := dec_at dlX11_byTurns_0_ok 11 rfl
theorem dX11_byTurns_21 : decode cX11_byTurns 21 = .ok (.iload_n 3, 1) := dec_at dlX11_byTurns_0_ok 12 rfl
theorem dX11_byTurns_22 : decode cX11_byTurns 22 = .ok (.bipush 9, 2) := dec_at dlX11_byTurns_0_ok 13 rfl
theorem dX11_byTurns_24 : decode cX11_byTurns 24 = .ok (.if_icmp .gt 21, 3) := dec_at dlX11_byTurns_0_ok 14 rfl
theorem dX11_byTurns_27 : decode cX11_byTurns 27 = .ok (.aload_n 0, 1) := dec_at dlX11_byTurns_0_ok 15 rfl
theorem dX11_byTurns_28 : decode cX11_byTurns 28 = .ok (.iload_n 1, 1) := dec_at dlX11_byTurns_0_ok 16 rfl
theorem dX11_byTurns_29 : decode cX11_byTurns 29 = .ok (.iload_n 2, 1) := dec_at dlX11_byTurns_0_ok 17 rfl
theorem dX11_byTurns_30 : decode cX11_byTurns 30 = .ok (.iload_n 3, 1) := dec_at dlX11_byTurns_0_ok 18 rfl
theorem dX11_byTurns_31 : decode cX11_byTurns 31 = .ok (.invokevirtual 302, 3) := dec_at dlX11_byTurns_0_ok 19 rfl
theorem dX11_byTurns_34 : decode cX11_byTurns 34 = .ok (.ifCond .eq 5, 3) := dec_at dlX11_byTurns_0_ok 20 rfl
theorem dX11_byTurns_37 : decode cX11_byTurns 37 = .ok (.iload_n 3, 1) := dec_at dlX11_byTurns_0_ok 21 rfl
theorem dX11_byTurns_38 : decode cX11_byTurns 38 = .ok (.ireturn, 1) := dec_at dlX11_byTurns_0_ok 22 rfl
theorem dX11_byTurns_39 : decode cX11_byTurns 39 = .ok (.iinc 3 1, 3) := dec_at dlX11_byTurns_0_ok 23 rfl
theorem dX11_byTurns_42 : decode cX11_byTurns 42 = .ok (.goto (-21), 3) := dec_at dlX11_byTurns_0_ok 24 rfl
theorem dX11_byTurns_45 : decode cX11_byTurns 45 = .ok (.iconst (-1), 1) := dec_at dlX11_byTurns_0_ok 25 rfl
theorem dX11_byTurns_46 : decode cX11_byTurns 46 = .ok (.ireturn, 1) := dec_at dlX11_byTurns_0_ok 26 rfl
set_option maxRecDepth 20000 in
theorem ggX11_dearer_X11_goodNow : GoodIn wsX11_dearer wsX11_goodNow := goodIn_s _ [(9, 5), (8, 1), (14, 10), (4, 1), (24, 62)] rfl (by decide +kernel)
set_option maxRecDepth 20000 in
theorem gX11_dearer_X11_goodNow : GoodIn wsX11_dearer (wsV RX11 263 RX11 yX11_goodNow wsX11_goodNow) := goodIn_app (goodIn_s _ [(5, 4)] rfl (by decide +kernel)) ggX11_dearer_X11_goodNow
noncomputable def dlX11_dearer_0 : List (Nat × Instr × Nat) := [(0, .ldc_w 306, 3), (3, .istore_n 1, 1), (4, .iconst 0, 1), (5, .istore_n 2, 1), (6, .iload_n 2, 1), (7, .aload_n 0, 1), (8, .getfield 99, 3), (11, .if_icmp .ge 53, 3), (14, .iconst 0, 1), (15, .istore_n 3, 1), (16, .iload_n 3, 1), (17, .aload_n 0, 1), (18, .getfield 106, 3), (21, .if_icmp .ge 37, 3), (24, .iload_n 1, 1), (25, .aload_n 0, 1), (26, .getfield 7, 3), (29, .iload_n 2, 1), (30, .iaload, 1), (31, .ifCond .ne 12, 3), (34, .aload_n 0, 1), (35, .iload_n 2, 1), (36, .iload_n 3, 1), (37, .invokevirtual 263, 3), (40, .goto 10, 3), (43, .aload_n 0, 1), (44, .iload_n 2, 1), (45, .iload_n 3, 1), (46, .invokevirtual 263, 3), (49, .ineg, 1), (50, .iadd, 1)]
theorem dlX11_dearer_0_ok : dlX11_dearer_0.all (fun r => decide (decode cX11_dearer r.1 = .ok r.2)) = true := by decide +kernel
theorem dX11_dearer_0 : decode cX11_dearer 0 = .ok (.ldc_w 306, 3) := dec_at dlX11_dearer_0_ok 0 rfl
theorem dX11_dearer_3 : decode cX11_dearer 3 = .ok (.istore_n 1, 1) := dec_at dlX11_dearer_0_ok 1 rfl
theorem dX11_dearer_4 : decode cX11_dearer 4 = .ok (.iconst 0, 1) := dec_at dlX11_dearer_0_ok 2 rfl
theorem dX11_dearer_5 : decode cX11_dearer 5 = .ok (.istore_n 2, 1) := dec_at dlX11_dearer_0_ok 3 rfl
theorem dX11_dearer_6 : decode cX11_dearer 6 = .ok (.iload_n 2, 1) := dec_at dlX11_dearer_0_ok 4 rfl
theorem dX11_dearer_7 : decode cX11_dearer 7 = .ok (.aload_n 0, 1) := dec_at dlX11_dearer_0_ok 5 rfl
theorem dX11_dearer_8 : decode cX11_dearer 8 = .ok (.getfield 99, 3) := dec_at dlX11_dearer_0_ok 6 rfl
theorem dX11_dearer_11 : decode cX11_dearer 11 = .ok (.if_icmp .ge 53, 3) := dec_at dlX11_dearer_0_ok 7 rfl
theorem dX11_dearer_14 : decode cX11_dearer 14 = .ok (.iconst 0, 1) := dec_at dlX11_dearer_0_ok 8 rfl
theorem dX11_dearer_15 : decode cX11_dearer 15 = .ok (.istore_n 3, 1) := dec_at dlX11_dearer_0_ok 9 rfl
theorem dX11_dearer_16 : decode cX11_dearer 16 = .ok (.iload_n 3, 1) := dec_at dlX11_dearer_0_ok 10 rfl
theorem dX11_dearer_17 : decode cX11_dearer 17 = .ok (.aload_n 0, 1) := dec_at dlX11_dearer_0_ok 11 rfl
theorem dX11_dearer_18 : decode cX11_dearer 18 = .ok (.getfield 106, 3) := dec_at dlX11_dearer_0_ok 12 rfl
theorem dX11_dearer_21 : decode cX11_dearer 21 = .ok (.if_icmp .ge 37, 3) := dec_at dlX11_dearer_0_ok 13 rfl
theorem dX11_dearer_24 : decode cX11_dearer 24 = .ok (.iload_n 1, 1) := dec_at dlX11_dearer_0_ok 14 rfl
theorem dX11_dearer_25 : decode cX11_dearer 25 = .ok (.aload_n 0, 1) := dec_at dlX11_dearer_0_ok 15 rfl
theorem dX11_dearer_26 : decode cX11_dearer 26 = .ok (.getfield 7, 3) := dec_at dlX11_dearer_0_ok 16 rfl
theorem dX11_dearer_29 : decode cX11_dearer 29 = .ok (.iload_n 2, 1) := dec_at dlX11_dearer_0_ok 17 rfl
theorem dX11_dearer_30 : decode cX11_dearer 30 = .ok (.iaload, 1) := dec_at dlX11_dearer_0_ok 18 rfl
theorem dX11_dearer_31 : decode cX11_dearer 31 = .ok (.ifCond .ne 12, 3) := dec_at dlX11_dearer_0_ok 19 rfl
theorem dX11_dearer_34 : decode cX11_dearer 34 = .ok (.aload_n 0, 1) := dec_at dlX11_dearer_0_ok 20 rfl
theorem dX11_dearer_35 : decode cX11_dearer 35 = .ok (.iload_n 2, 1) := dec_at dlX11_dearer_0_ok 21 rfl
theorem dX11_dearer_36 : decode cX11_dearer 36 = .ok (.iload_n 3, 1) := dec_at dlX11_dearer_0_ok 22 rfl
theorem dX11_dearer_37 : decode cX11_dearer 37 = .ok (.invokevirtual 263, 3) := dec_at dlX11_dearer_0_ok 23 rfl
theorem dX11_dearer_40 : decode cX11_dearer 40 = .ok (.goto 10, 3) := dec_at dlX11_dearer_0_ok 24 rfl
theorem dX11_dearer_43 : decode cX11_dearer 43 = .ok (.aload_n 0, 1) := dec_at dlX11_dearer_0_ok 25 rfl
theorem dX11_dearer_44 : decode cX11_dearer 44 = .ok (.iload_n 2, 1) := dec_at dlX11_dearer_0_ok 26 rfl
theorem dX11_dearer_45 : decode cX11_dearer 45 = .ok (.iload_n 3, 1) := dec_at dlX11_dearer_0_ok 27 rfl
theorem dX11_dearer_46 : decode cX11_dearer 46 = .ok (.invokevirtual 263, 3) := dec_at dlX11_dearer_0_ok 28 rfl
theorem dX11_dearer_49 : decode cX11_dearer 49 = .ok (.ineg, 1) := dec_at dlX11_dearer_0_ok 29 rfl
theorem dX11_dearer_50 : decode cX11_dearer 50 = .ok (.iadd, 1) := dec_at dlX11_dearer_0_ok 30 rfl
noncomputable def dlX11_dearer_51 : List (Nat × Instr × Nat) := [(51, .istore_n 1, 1), (52, .iinc 3 1, 3), (55, .goto (-39), 3), (58, .iinc 2 1, 3), (61, .goto (-55), 3), (64, .iload_n 1, 1), (65, .ireturn, 1)]
theorem dlX11_dearer_51_ok : dlX11_dearer_51.all (fun r => decide (decode cX11_dearer r.1 = .ok r.2)) = true := by decide +kernel
theorem dX11_dearer_51 : decode cX11_dearer 51 = .ok (.istore_n 1, 1) := dec_at dlX11_dearer_51_ok 0 rfl
theorem dX11_dearer_52 : decode cX11_dearer 52 = .ok (.iinc 3 1, 3) := dec_at dlX11_dearer_51_ok 1 rfl
theorem dX11_dearer_55 : decode cX11_dearer 55 = .ok (.goto (-39), 3) := dec_at dlX11_dearer_51_ok 2 rfl
theorem dX11_dearer_58 : decode cX11_dearer 58 = .ok (.iinc 2 1, 3) := dec_at dlX11_dearer_51_ok 3 rfl
theorem dX11_dearer_61 : decode cX11_dearer 61 = .ok (.goto (-55), 3) := dec_at dlX11_dearer_51_ok 4 rfl
theorem dX11_dearer_64 : decode cX11_dearer 64 = .ok (.iload_n 1, 1) := dec_at dlX11_dearer_51_ok 5 rfl
theorem dX11_dearer_65 : decode cX11_dearer 65 = .ok (.ireturn, 1) := dec_at dlX11_dearer_51_ok 6 rfl
set_option maxRecDepth 20000 in
theorem ggX11_geese_X11_isQuill : GoodIn wsX11_geese wsX11_isQuill := goodIn_s _ [(8, 4), (7, 1), (12, 1), (54, 46)] rfl (by decide +kernel)
set_option maxRecDepth 20000 in
theorem gX11_geese_X11_isQuill : GoodIn wsX11_geese (wsV RX11 184 RX11 yX11_isQuill wsX11_isQuill) := goodIn_app (goodIn_s _ [(4, 4)] rfl (by decide +kernel)) ggX11_geese_X11_isQuill
set_option maxRecDepth 20000 in
theorem ggX11_geese_X11_isHand : GoodIn wsX11_geese wsX11_isHand := goodIn_s _ [(16, 2), (10, 2), (7, 1), (12, 1), (54, 46)] rfl (by decide +kernel)
set_option maxRecDepth 20000 in
theorem gX11_geese_X11_isHand : GoodIn wsX11_geese (wsV RX11 192 RX11 yX11_isHand wsX11_isHand) := goodIn_app (goodIn_s _ [(13, 3), (7, 1)] rfl (by decide +kernel)) ggX11_geese_X11_isHand
set_option maxRecDepth 20000 in
theorem ggX11_geese_X11_in : GoodIn wsX11_geese wsX11_in := goodIn_s _ [(12, 1)] rfl (by decide +kernel)
set_option maxRecDepth 20000 in
theorem gX11_geese_X11_in : GoodIn wsX11_geese (va_wsS RX11 102 yX11_in wsX11_in) := goodIn_app (goodIn_s _ [(10, 2), (7, 1)] rfl (by decide +kernel)) ggX11_geese_X11_in
set_option maxRecDepth 20000 in
theorem ggX11_geese_X11_lifeOf : GoodIn wsX11_geese wsX11_lifeOf := goodIn_s _ [(21, 5), (7, 1), (26, 28), (10, 3), (54, 46)] rfl (by decide +kernel)
set_option maxRecDepth 20000 in
theorem gX11_geese_X11_lifeOf : GoodIn wsX11_geese (wsV RX11 266 RX11 yX11_lifeOf wsX11_lifeOf) := goodIn_app (goodIn_s _ [(18, 3), (7, 1)] rfl (by decide +kernel)) ggX11_geese_X11_lifeOf
noncomputable def dlX11_geese_0 : List (Nat × Instr × Nat) := [(0, .aload_n 0, 1), (1, .iload_n 1, 1), (2, .invokevirtual 184, 3), (5, .ifCond .eq 11, 3), (8, .aload_n 0, 1), (9, .iload_n 2, 1), (10, .invokevirtual 192, 3), (13, .ifCond .ne 6, 3), (16, .ldc 188, 2), (18, .ireturn, 1), (19, .iload_n 3, 1), (20, .i2l, 1), (21, .lconst 1, 1), (22, .ldc2_w 307, 3), (25, .invokestatic 102, 3), (28, .ifCond .ne 6, 3), (31, .ldc 111, 2), (33, .ireturn, 1), (34, .aload_n 0, 1), (35, .iload_n 1, 1), (36, .iload_n 2, 1), (37, .invokevirtual 266, 3), (40, .istore 4, 2), (42, .iload 4, 2), (44, .ifCond .ne 5, 3), (47, .iconst (-1), 1), (48, .ireturn, 1), (49, .iload_n 3, 1), (50, .iload 4, 2), (52, .iadd, 1), (53, .iconst 1, 1)]
theorem dlX11_geese_0_ok : dlX11_geese_0.all (fun r => decide (decode cX11_geese r.1 = .ok r.2)) = true := by decide +kernel
theorem dX11_geese_0 : decode cX11_geese 0 = .ok (.aload_n 0, 1) := dec_at dlX11_geese_0_ok 0 rfl
theorem dX11_geese_1 : decode cX11_geese 1 = .ok (.iload_n 1, 1) := dec_at dlX11_geese_0_ok 1 rfl
theorem dX11_geese_2 : decode cX11_geese 2 = .ok (.invokevirtual 184, 3) := dec_at dlX11_geese_0_ok 2 rfl
theorem dX11_geese_5 : decode cX11_geese 5 = .ok (.ifCond .eq 11, 3) := dec_at dlX11_geese_0_ok 3 rfl
theorem dX11_geese_8 : decode cX11_geese 8 = .ok (.aload_n 0, 1) := dec_at dlX11_geese_0_ok 4 rfl
theorem dX11_geese_9 : decode cX11_geese 9 = .ok (.iload_n 2, 1) := dec_at dlX11_geese_0_ok 5 rfl
theorem dX11_geese_10 : decode cX11_geese 10 = .ok (.invokevirtual 192, 3) := dec_at dlX11_geese_0_ok 6 rfl
theorem dX11_geese_13 : decode cX11_geese 13 = .ok (.ifCond .ne 6, 3) := dec_at dlX11_geese_0_ok 7 rfl
theorem dX11_geese_16 : decode cX11_geese 16 = .ok (.ldc 188, 2) := dec_at dlX11_geese_0_ok 8 rfl
theorem dX11_geese_18 : decode cX11_geese 18 = .ok (.ireturn, 1) := dec_at dlX11_geese_0_ok 9 rfl
theorem dX11_geese_19 : decode cX11_geese 19 = .ok (.iload_n 3, 1) := dec_at dlX11_geese_0_ok 10 rfl
theorem dX11_geese_20 : decode cX11_geese 20 = .ok (.i2l, 1) := dec_at dlX11_geese_0_ok 11 rfl
theorem dX11_geese_21 : decode cX11_geese 21 = .ok (.lconst 1, 1) := dec_at dlX11_geese_0_ok 12 rfl
theorem dX11_geese_22 : decode cX11_geese 22 = .ok (.ldc2_w 307, 3) := dec_at dlX11_geese_0_ok 13 rfl
theorem dX11_geese_25 : decode cX11_geese 25 = .ok (.invokestatic 102, 3) := dec_at dlX11_geese_0_ok 14 rfl
theorem dX11_geese_28 : decode cX11_geese 28 = .ok (.ifCond .ne 6, 3) := dec_at dlX11_geese_0_ok 15 rfl
theorem dX11_geese_31 : decode cX11_geese 31 = .ok (.ldc 111, 2) := dec_at dlX11_geese_0_ok 16 rfl
theorem dX11_geese_33 : decode cX11_geese 33 = .ok (.ireturn, 1) := dec_at dlX11_geese_0_ok 17 rfl
theorem dX11_geese_34 : decode cX11_geese 34 = .ok (.aload_n 0, 1) := dec_at dlX11_geese_0_ok 18 rfl
theorem dX11_geese_35 : decode cX11_geese 35 = .ok (.iload_n 1, 1) := dec_at dlX11_geese_0_ok 19 rfl
theorem dX11_geese_36 : decode cX11_geese 36 = .ok (.iload_n 2, 1) := dec_at dlX11_geese_0_ok 20 rfl
theorem dX11_geese_37 : decode cX11_geese 37 = .ok (.invokevirtual 266, 3) := dec_at dlX11_geese_0_ok 21 rfl
theorem dX11_geese_40 : decode cX11_geese 40 = .ok (.istore 4, 2) := dec_at dlX11_geese_0_ok 22 rfl
theorem dX11_geese_42 : decode cX11_geese 42 = .ok (.iload 4, 2) := dec_at dlX11_geese_0_ok 23 rfl
theorem dX11_geese_44 : decode cX11_geese 44 = .ok (.ifCond .ne 5, 3) := dec_at dlX11_geese_0_ok 24 rfl
theorem dX11_geese_47 : decode cX11_geese 47 = .ok (.iconst (-1), 1) := dec_at dlX11_geese_0_ok 25 rfl
theorem dX11_geese_48 : decode cX11_geese 48 = .ok (.ireturn, 1) := dec_at dlX11_geese_0_ok 26 rfl
theorem dX11_geese_49 : decode cX11_geese 49 = .ok (.iload_n 3, 1) := dec_at dlX11_geese_0_ok 27 rfl
theorem dX11_geese_50 : decode cX11_geese 50 = .ok (.iload 4, 2) := dec_at dlX11_geese_0_ok 28 rfl
theorem dX11_geese_52 : decode cX11_geese 52 = .ok (.iadd, 1) := dec_at dlX11_geese_0_ok 29 rfl
theorem dX11_geese_53 : decode cX11_geese 53 = .ok (.iconst 1, 1) := dec_at dlX11_geese_0_ok 30 rfl
noncomputable def dlX11_geese_54 : List (Nat × Instr × Nat) := [(54, .isub, 1), (55, .iload 4, 2), (57, .idiv, 1), (58, .istore 5, 2), (60, .iload 5, 2), (62, .bipush 9, 2), (64, .iadd, 1), (65, .bipush 10, 2), (67, .idiv, 1), (68, .ireturn, 1)]
theorem dlX11_geese_54_ok : dlX11_geese_54.all (fun r => decide (decode cX11_geese r.1 = .ok r.2)) = true := by decide +kernel
theorem dX11_geese_54 : decode cX11_geese 54 = .ok (.isub, 1) := dec_at dlX11_geese_54_ok 0 rfl
theorem dX11_geese_55 : decode cX11_geese 55 = .ok (.iload 4, 2) := dec_at dlX11_geese_54_ok 1 rfl
theorem dX11_geese_57 : decode cX11_geese 57 = .ok (.idiv, 1) := dec_at dlX11_geese_54_ok 2 rfl
theorem dX11_geese_58 : decode cX11_geese 58 = .ok (.istore 5, 2) := dec_at dlX11_geese_54_ok 3 rfl
theorem dX11_geese_60 : decode cX11_geese 60 = .ok (.iload 5, 2) := dec_at dlX11_geese_54_ok 4 rfl
theorem dX11_geese_62 : decode cX11_geese 62 = .ok (.bipush 9, 2) := dec_at dlX11_geese_54_ok 5 rfl
theorem dX11_geese_64 : decode cX11_geese 64 = .ok (.iadd, 1) := dec_at dlX11_geese_54_ok 6 rfl
theorem dX11_geese_65 : decode cX11_geese 65 = .ok (.bipush 10, 2) := dec_at dlX11_geese_54_ok 7 rfl
theorem dX11_geese_67 : decode cX11_geese 67 = .ok (.idiv, 1) := dec_at dlX11_geese_54_ok 8 rfl
theorem dX11_geese_68 : decode cX11_geese 68 = .ok (.ireturn, 1) := dec_at dlX11_geese_54_ok 9 rfl
set_option maxRecDepth 20000 in
theorem ggX11_crooked_X11_in : GoodIn wsX11_crooked wsX11_in := goodIn_s _ [(9, 1)] rfl (by decide +kernel)
set_option maxRecDepth 20000 in
theorem gX11_crooked_X11_in : GoodIn wsX11_crooked (va_wsS RX11 102 yX11_in wsX11_in) := goodIn_app (goodIn_s _ [(6, 3)] rfl (by decide +kernel)) ggX11_crooked_X11_in
noncomputable def dlX11_crooked_0 : List (Nat × Instr × Nat) := [(0, .iload_n 1, 1), (1, .i2l, 1), (2, .lconst 0, 1), (3, .ldc2_w 254, 3), (6, .invokestatic 102, 3), (9, .ifCond .eq 15, 3), (12, .iload_n 2, 1), (13, .i2l, 1), (14, .lconst 0, 1), (15, .ldc2_w 309, 3), (18, .invokestatic 102, 3), (21, .ifCond .ne 6, 3), (24, .ldc 111, 2), (26, .ireturn, 1), (27, .iload_n 2, 1), (28, .iconst 3, 1), (29, .aload_n 0, 1), (30, .getfield 28, 3), (33, .bipush 33, 2), (35, .iaload, 1), (36, .imul, 1), (37, .iadd, 1), (38, .bipush 100, 2), (40, .if_icmp .ge 17, 3), (43, .iload_n 2, 1), (44, .iconst 3, 1), (45, .aload_n 0, 1), (46, .getfield 28, 3), (49, .bipush 33, 2), (51, .iaload, 1), (52, .imul, 1)]
theorem dlX11_crooked_0_ok : dlX11_crooked_0.all (fun r => decide (decode cX11_crooked r.1 = .ok r.2)) = true := by decide +kernel
theorem dX11_crooked_0 : decode cX11_crooked 0 = .ok (.iload_n 1, 1) := dec_at dlX11_crooked_0_ok 0 rfl
theorem dX11_crooked_1 : decode cX11_crooked 1 = .ok (.i2l, 1) := dec_at dlX11_crooked_0_ok 1 rfl
theorem dX11_crooked_2 : decode cX11_crooked 2 = .ok (.lconst 0, 1) := dec_at dlX11_crooked_0_ok 2 rfl
theorem dX11_crooked_3 : decode cX11_crooked 3 = .ok (.ldc2_w 254, 3) := dec_at dlX11_crooked_0_ok 3 rfl
theorem dX11_crooked_6 : decode cX11_crooked 6 = .ok (.invokestatic 102, 3) := dec_at dlX11_crooked_0_ok 4 rfl
theorem dX11_crooked_9 : decode cX11_crooked 9 = .ok (.ifCond .eq 15, 3) := dec_at dlX11_crooked_0_ok 5 rfl
theorem dX11_crooked_12 : decode cX11_crooked 12 = .ok (.iload_n 2, 1) := dec_at dlX11_crooked_0_ok 6 rfl
theorem dX11_crooked_13 : decode cX11_crooked 13 = .ok (.i2l, 1) := dec_at dlX11_crooked_0_ok 7 rfl
theorem dX11_crooked_14 : decode cX11_crooked 14 = .ok (.lconst 0, 1) := dec_at dlX11_crooked_0_ok 8 rfl
theorem dX11_crooked_15 : decode cX11_crooked 15 = .ok (.ldc2_w 309, 3) := dec_at dlX11_crooked_0_ok 9 rfl
theorem dX11_crooked_18 : decode cX11_crooked 18 = .ok (.invokestatic 102, 3) := dec_at dlX11_crooked_0_ok 10 rfl
theorem dX11_crooked_21 : decode cX11_crooked 21 = .ok (.ifCond .ne 6, 3) := dec_at dlX11_crooked_0_ok 11 rfl
theorem dX11_crooked_24 : decode cX11_crooked 24 = .ok (.ldc 111, 2) := dec_at dlX11_crooked_0_ok 12 rfl
theorem dX11_crooked_26 : decode cX11_crooked 26 = .ok (.ireturn, 1) := dec_at dlX11_crooked_0_ok 13 rfl
theorem dX11_crooked_27 : decode cX11_crooked 27 = .ok (.iload_n 2, 1) := dec_at dlX11_crooked_0_ok 14 rfl
theorem dX11_crooked_28 : decode cX11_crooked 28 = .ok (.iconst 3, 1) := dec_at dlX11_crooked_0_ok 15 rfl
theorem dX11_crooked_29 : decode cX11_crooked 29 = .ok (.aload_n 0, 1) := dec_at dlX11_crooked_0_ok 16 rfl
theorem dX11_crooked_30 : decode cX11_crooked 30 = .ok (.getfield 28, 3) := dec_at dlX11_crooked_0_ok 17 rfl
theorem dX11_crooked_33 : decode cX11_crooked 33 = .ok (.bipush 33, 2) := dec_at dlX11_crooked_0_ok 18 rfl
theorem dX11_crooked_35 : decode cX11_crooked 35 = .ok (.iaload, 1) := dec_at dlX11_crooked_0_ok 19 rfl
theorem dX11_crooked_36 : decode cX11_crooked 36 = .ok (.imul, 1) := dec_at dlX11_crooked_0_ok 20 rfl
theorem dX11_crooked_37 : decode cX11_crooked 37 = .ok (.iadd, 1) := dec_at dlX11_crooked_0_ok 21 rfl
theorem dX11_crooked_38 : decode cX11_crooked 38 = .ok (.bipush 100, 2) := dec_at dlX11_crooked_0_ok 22 rfl
theorem dX11_crooked_40 : decode cX11_crooked 40 = .ok (.if_icmp .ge 17, 3) := dec_at dlX11_crooked_0_ok 23 rfl
theorem dX11_crooked_43 : decode cX11_crooked 43 = .ok (.iload_n 2, 1) := dec_at dlX11_crooked_0_ok 24 rfl
theorem dX11_crooked_44 : decode cX11_crooked 44 = .ok (.iconst 3, 1) := dec_at dlX11_crooked_0_ok 25 rfl
theorem dX11_crooked_45 : decode cX11_crooked 45 = .ok (.aload_n 0, 1) := dec_at dlX11_crooked_0_ok 26 rfl
theorem dX11_crooked_46 : decode cX11_crooked 46 = .ok (.getfield 28, 3) := dec_at dlX11_crooked_0_ok 27 rfl
theorem dX11_crooked_49 : decode cX11_crooked 49 = .ok (.bipush 33, 2) := dec_at dlX11_crooked_0_ok 28 rfl
theorem dX11_crooked_51 : decode cX11_crooked 51 = .ok (.iaload, 1) := dec_at dlX11_crooked_0_ok 29 rfl
theorem dX11_crooked_52 : decode cX11_crooked 52 = .ok (.imul, 1) := dec_at dlX11_crooked_0_ok 30 rfl
noncomputable def dlX11_crooked_53 : List (Nat × Instr × Nat) := [(53, .iadd, 1), (54, .goto 5, 3), (57, .bipush 100, 2), (59, .istore_n 3, 1), (60, .ldc2_w 311, 3), (63, .lstore 4, 2), (65, .iconst 0, 1), (66, .istore 6, 2), (68, .iload 6, 2), (70, .iload_n 1, 1), (71, .if_icmp .ge 23, 3), (74, .lload 4, 2), (76, .bipush 100, 2), (78, .iload_n 3, 1), (79, .isub, 1), (80, .i2l, 1), (81, .lmul, 1), (82, .ldc2_w 309, 3), (85, .ldiv, 1), (86, .lstore 4, 2), (88, .iinc 6 1, 3), (91, .goto (-23), 3), (94, .lload 4, 2), (96, .l2i, 1), (97, .ireturn, 1)]
theorem dlX11_crooked_53_ok : dlX11_crooked_53.all (fun r => decide (decode cX11_crooked r.1 = .ok r.2)) = true := by decide +kernel
theorem dX11_crooked_53 : decode cX11_crooked 53 = .ok (.iadd, 1) := dec_at dlX11_crooked_53_ok 0 rfl
theorem dX11_crooked_54 : decode cX11_crooked 54 = .ok (.goto 5, 3) := dec_at dlX11_crooked_53_ok 1 rfl
theorem dX11_crooked_57 : decode cX11_crooked 57 = .ok (.bipush 100, 2) := dec_at dlX11_crooked_53_ok 2 rfl
theorem dX11_crooked_59 : decode cX11_crooked 59 = .ok (.istore_n 3, 1) := dec_at dlX11_crooked_53_ok 3 rfl
theorem dX11_crooked_60 : decode cX11_crooked 60 = .ok (.ldc2_w 311, 3) := dec_at dlX11_crooked_53_ok 4 rfl
theorem dX11_crooked_63 : decode cX11_crooked 63 = .ok (.lstore 4, 2) := dec_at dlX11_crooked_53_ok 5 rfl
theorem dX11_crooked_65 : decode cX11_crooked 65 = .ok (.iconst 0, 1) := dec_at dlX11_crooked_53_ok 6 rfl
theorem dX11_crooked_66 : decode cX11_crooked 66 = .ok (.istore 6, 2) := dec_at dlX11_crooked_53_ok 7 rfl
theorem dX11_crooked_68 : decode cX11_crooked 68 = .ok (.iload 6, 2) := dec_at dlX11_crooked_53_ok 8 rfl
theorem dX11_crooked_70 : decode cX11_crooked 70 = .ok (.iload_n 1, 1) := dec_at dlX11_crooked_53_ok 9 rfl
theorem dX11_crooked_71 : decode cX11_crooked 71 = .ok (.if_icmp .ge 23, 3) := dec_at dlX11_crooked_53_ok 10 rfl
theorem dX11_crooked_74 : decode cX11_crooked 74 = .ok (.lload 4, 2) := dec_at dlX11_crooked_53_ok 11 rfl
theorem dX11_crooked_76 : decode cX11_crooked 76 = .ok (.bipush 100, 2) := dec_at dlX11_crooked_53_ok 12 rfl
theorem dX11_crooked_78 : decode cX11_crooked 78 = .ok (.iload_n 3, 1) := dec_at dlX11_crooked_53_ok 13 rfl
theorem dX11_crooked_79 : decode cX11_crooked 79 = .ok (.isub, 1) := dec_at dlX11_crooked_53_ok 14 rfl
theorem dX11_crooked_80 : decode cX11_crooked 80 = .ok (.i2l, 1) := dec_at dlX11_crooked_53_ok 15 rfl
theorem dX11_crooked_81 : decode cX11_crooked 81 = .ok (.lmul, 1) := dec_at dlX11_crooked_53_ok 16 rfl
theorem dX11_crooked_82 : decode cX11_crooked 82 = .ok (.ldc2_w 309, 3) := dec_at dlX11_crooked_53_ok 17 rfl
theorem dX11_crooked_85 : decode cX11_crooked 85 = .ok (.ldiv, 1) := dec_at dlX11_crooked_53_ok 18 rfl
theorem dX11_crooked_86 : decode cX11_crooked 86 = .ok (.lstore 4, 2) := dec_at dlX11_crooked_53_ok 19 rfl
theorem dX11_crooked_88 : decode cX11_crooked 88 = .ok (.iinc 6 1, 3) := dec_at dlX11_crooked_53_ok 20 rfl
theorem dX11_crooked_91 : decode cX11_crooked 91 = .ok (.goto (-23), 3) := dec_at dlX11_crooked_53_ok 21 rfl
theorem dX11_crooked_94 : decode cX11_crooked 94 = .ok (.lload 4, 2) := dec_at dlX11_crooked_53_ok 22 rfl
theorem dX11_crooked_96 : decode cX11_crooked 96 = .ok (.l2i, 1) := dec_at dlX11_crooked_53_ok 23 rfl
theorem dX11_crooked_97 : decode cX11_crooked 97 = .ok (.ireturn, 1) := dec_at dlX11_crooked_53_ok 24 rfl
set_option maxRecDepth 20000 in
theorem ggX11_worn_X11_isQuill : GoodIn wsX11_worn wsX11_isQuill := goodIn_s _ [(14, 4), (13, 1), (18, 47)] rfl (by decide +kernel)
set_option maxRecDepth 20000 in
theorem gX11_worn_X11_isQuill : GoodIn wsX11_worn (wsV RX11 184 RX11 yX11_isQuill wsX11_isQuill) := goodIn_app (goodIn_s _ [(10, 4)] rfl (by decide +kernel)) ggX11_worn_X11_isQuill
set_option maxRecDepth 20000 in
theorem ggX11_worn_X11_in : GoodIn wsX11_worn wsX11_in := goodIn_s _ [(18, 1)] rfl (by decide +kernel)
set_option maxRecDepth 20000 in
theorem gX11_worn_X11_in : GoodIn wsX11_worn (va_wsS RX11 102 yX11_in wsX11_in) := goodIn_app (goodIn_s _ [(16, 2), (13, 1)] rfl (by decide +kernel)) ggX11_worn_X11_in
noncomputable def dlX11_worn_0 : List (Nat × Instr × Nat) := [(0, .aload_n 0, 1), (1, .iload_n 1, 1), (2, .invokevirtual 184, 3), (5, .ifCond .ne 6, 3), (8, .ldc 188, 2), (10, .ireturn, 1), (11, .iload_n 2, 1), (12, .i2l, 1), (13, .lconst 1, 1), (14, .ldc2_w 229, 3), (17, .invokestatic 102, 3), (20, .ifCond .eq 15, 3), (23, .iload_n 3, 1), (24, .i2l, 1), (25, .lconst 0, 1), (26, .ldc2_w 313, 3), (29, .invokestatic 102, 3), (32, .ifCond .ne 6, 3), (35, .ldc 111, 2), (37, .ireturn, 1), (38, .aload_n 0, 1), (39, .getfield 168, 3), (42, .bipush 6, 2), (44, .if_icmp .ne 6, 3), (47, .ldc 115, 2), (49, .ireturn, 1), (50, .aload_n 0, 1), (51, .getfield 74, 3), (54, .aload_n 0, 1), (55, .getfield 168, 3), (58, .iload_n 1, 1)]
theorem dlX11_worn_0_ok : dlX11_worn_0.all (fun r => decide (decode cX11_worn r.1 = .ok r.2)) = true := by decide +kernel
theorem dX11_worn_0 : decode cX11_worn 0 = .ok (.aload_n 0, 1) := dec_at dlX11_worn_0_ok 0 rfl
theorem dX11_worn_1 : decode cX11_worn 1 = .ok (.iload_n 1, 1) := dec_at dlX11_worn_0_ok 1 rfl
theorem dX11_worn_2 : decode cX11_worn 2 = .ok (.invokevirtual 184, 3) := dec_at dlX11_worn_0_ok 2 rfl
theorem dX11_worn_5 : decode cX11_worn 5 = .ok (.ifCond .ne 6, 3) := dec_at dlX11_worn_0_ok 3 rfl
theorem dX11_worn_8 : decode cX11_worn 8 = .ok (.ldc 188, 2) := dec_at dlX11_worn_0_ok 4 rfl
theorem dX11_worn_10 : decode cX11_worn 10 = .ok (.ireturn, 1) := dec_at dlX11_worn_0_ok 5 rfl
theorem dX11_worn_11 : decode cX11_worn 11 = .ok (.iload_n 2, 1) := dec_at dlX11_worn_0_ok 6 rfl
theorem dX11_worn_12 : decode cX11_worn 12 = .ok (.i2l, 1) := dec_at dlX11_worn_0_ok 7 rfl
theorem dX11_worn_13 : decode cX11_worn 13 = .ok (.lconst 1, 1) := dec_at dlX11_worn_0_ok 8 rfl
theorem dX11_worn_14 : decode cX11_worn 14 = .ok (.ldc2_w 229, 3) := dec_at dlX11_worn_0_ok 9 rfl
theorem dX11_worn_17 : decode cX11_worn 17 = .ok (.invokestatic 102, 3) := dec_at dlX11_worn_0_ok 10 rfl
theorem dX11_worn_20 : decode cX11_worn 20 = .ok (.ifCond .eq 15, 3) := dec_at dlX11_worn_0_ok 11 rfl
theorem dX11_worn_23 : decode cX11_worn 23 = .ok (.iload_n 3, 1) := dec_at dlX11_worn_0_ok 12 rfl
theorem dX11_worn_24 : decode cX11_worn 24 = .ok (.i2l, 1) := dec_at dlX11_worn_0_ok 13 rfl
theorem dX11_worn_25 : decode cX11_worn 25 = .ok (.lconst 0, 1) := dec_at dlX11_worn_0_ok 14 rfl
theorem dX11_worn_26 : decode cX11_worn 26 = .ok (.ldc2_w 313, 3) := dec_at dlX11_worn_0_ok 15 rfl
theorem dX11_worn_29 : decode cX11_worn 29 = .ok (.invokestatic 102, 3) := dec_at dlX11_worn_0_ok 16 rfl
theorem dX11_worn_32 : decode cX11_worn 32 = .ok (.ifCond .ne 6, 3) := dec_at dlX11_worn_0_ok 17 rfl
theorem dX11_worn_35 : decode cX11_worn 35 = .ok (.ldc 111, 2) := dec_at dlX11_worn_0_ok 18 rfl
theorem dX11_worn_37 : decode cX11_worn 37 = .ok (.ireturn, 1) := dec_at dlX11_worn_0_ok 19 rfl
theorem dX11_worn_38 : decode cX11_worn 38 = .ok (.aload_n 0, 1) := dec_at dlX11_worn_0_ok 20 rfl
theorem dX11_worn_39 : decode cX11_worn 39 = .ok (.getfield 168, 3) := dec_at dlX11_worn_0_ok 21 rfl
theorem dX11_worn_42 : decode cX11_worn 42 = .ok (.bipush 6, 2) := dec_at dlX11_worn_0_ok 22 rfl
theorem dX11_worn_44 : decode cX11_worn 44 = .ok (.if_icmp .ne 6, 3) := dec_at dlX11_worn_0_ok 23 rfl
theorem dX11_worn_47 : decode cX11_worn 47 = .ok (.ldc 115, 2) := dec_at dlX11_worn_0_ok 24 rfl
theorem dX11_worn_49 : decode cX11_worn 49 = .ok (.ireturn, 1) := dec_at dlX11_worn_0_ok 25 rfl
theorem dX11_worn_50 : decode cX11_worn 50 = .ok (.aload_n 0, 1) := dec_at dlX11_worn_0_ok 26 rfl
theorem dX11_worn_51 : decode cX11_worn 51 = .ok (.getfield 74, 3) := dec_at dlX11_worn_0_ok 27 rfl
theorem dX11_worn_54 : decode cX11_worn 54 = .ok (.aload_n 0, 1) := dec_at dlX11_worn_0_ok 28 rfl
theorem dX11_worn_55 : decode cX11_worn 55 = .ok (.getfield 168, 3) := dec_at dlX11_worn_0_ok 29 rfl
theorem dX11_worn_58 : decode cX11_worn 58 = .ok (.iload_n 1, 1) := dec_at dlX11_worn_0_ok 30 rfl
noncomputable def dlX11_worn_59 : List (Nat × Instr × Nat) := [(59, .iastore, 1), (60, .aload_n 0, 1), (61, .getfield 77, 3), (64, .aload_n 0, 1), (65, .getfield 168, 3), (68, .iload_n 2, 1), (69, .iastore, 1), (70, .aload_n 0, 1), (71, .getfield 80, 3), (74, .aload_n 0, 1), (75, .getfield 168, 3), (78, .iload_n 3, 1), (79, .iastore, 1), (80, .aload_n 0, 1), (81, .dup, 1), (82, .getfield 168, 3), (85, .iconst 1, 1), (86, .iadd, 1), (87, .putfield 168, 3), (90, .aload_n 0, 1), (91, .getfield 168, 3), (94, .ireturn, 1)]
theorem dlX11_worn_59_ok : dlX11_worn_59.all (fun r => decide (decode cX11_worn r.1 = .ok r.2)) = true := by decide +kernel
theorem dX11_worn_59 : decode cX11_worn 59 = .ok (.iastore, 1) := dec_at dlX11_worn_59_ok 0 rfl
theorem dX11_worn_60 : decode cX11_worn 60 = .ok (.aload_n 0, 1) := dec_at dlX11_worn_59_ok 1 rfl
theorem dX11_worn_61 : decode cX11_worn 61 = .ok (.getfield 77, 3) := dec_at dlX11_worn_59_ok 2 rfl
theorem dX11_worn_64 : decode cX11_worn 64 = .ok (.aload_n 0, 1) := dec_at dlX11_worn_59_ok 3 rfl
theorem dX11_worn_65 : decode cX11_worn 65 = .ok (.getfield 168, 3) := dec_at dlX11_worn_59_ok 4 rfl
theorem dX11_worn_68 : decode cX11_worn 68 = .ok (.iload_n 2, 1) := dec_at dlX11_worn_59_ok 5 rfl
theorem dX11_worn_69 : decode cX11_worn 69 = .ok (.iastore, 1) := dec_at dlX11_worn_59_ok 6 rfl
theorem dX11_worn_70 : decode cX11_worn 70 = .ok (.aload_n 0, 1) := dec_at dlX11_worn_59_ok 7 rfl
theorem dX11_worn_71 : decode cX11_worn 71 = .ok (.getfield 80, 3) := dec_at dlX11_worn_59_ok 8 rfl
theorem dX11_worn_74 : decode cX11_worn 74 = .ok (.aload_n 0, 1) := dec_at dlX11_worn_59_ok 9 rfl
theorem dX11_worn_75 : decode cX11_worn 75 = .ok (.getfield 168, 3) := dec_at dlX11_worn_59_ok 10 rfl
theorem dX11_worn_78 : decode cX11_worn 78 = .ok (.iload_n 3, 1) := dec_at dlX11_worn_59_ok 11 rfl
theorem dX11_worn_79 : decode cX11_worn 79 = .ok (.iastore, 1) := dec_at dlX11_worn_59_ok 12 rfl
theorem dX11_worn_80 : decode cX11_worn 80 = .ok (.aload_n 0, 1) := dec_at dlX11_worn_59_ok 13 rfl
theorem dX11_worn_81 : decode cX11_worn 81 = .ok (.dup, 1) := dec_at dlX11_worn_59_ok 14 rfl
theorem dX11_worn_82 : decode cX11_worn 82 = .ok (.getfield 168, 3) := dec_at dlX11_worn_59_ok 15 rfl
theorem dX11_worn_85 : decode cX11_worn 85 = .ok (.iconst 1, 1) := dec_at dlX11_worn_59_ok 16 rfl
theorem dX11_worn_86 : decode cX11_worn 86 = .ok (.iadd, 1) := dec_at dlX11_worn_59_ok 17 rfl
theorem dX11_worn_87 : decode cX11_worn 87 = .ok (.putfield 168, 3) := dec_at dlX11_worn_59_ok 18 rfl
theorem dX11_worn_90 : decode cX11_worn 90 = .ok (.aload_n 0, 1) := dec_at dlX11_worn_59_ok 19 rfl
theorem dX11_worn_91 : decode cX11_worn 91 = .ok (.getfield 168, 3) := dec_at dlX11_worn_59_ok 20 rfl
theorem dX11_worn_94 : decode cX11_worn 94 = .ok (.ireturn, 1) := dec_at dlX11_worn_59_ok 21 rfl
set_option maxRecDepth 20000 in
theorem ggX11_softAfter_X11_softBehind : GoodIn wsX11_softAfter wsX11_softBehind := goodIn_s _ [(5, 4), (4, 1), (9, 56)] rfl (by decide +kernel)
set_option maxRecDepth 20000 in
theorem gX11_softAfter_X11_softBehind : GoodIn wsX11_softAfter (wsV RX11 200 RX11 yX11_softBehind wsX11_softBehind) := goodIn_app (goodIn_s _ [(1, 4)] rfl (by decide +kernel)) ggX11_softAfter_X11_softBehind
noncomputable def dlX11_softAfter_0 : List (Nat × Instr × Nat) := [(0, .iconst 0, 1), (1, .istore 4, 2), (3, .iconst 0, 1), (4, .istore 5, 2), (6, .iload 5, 2), (8, .iload_n 3, 1), (9, .if_icmp .ge 19, 3), (12, .aload_n 0, 1), (13, .iload 4, 2), (15, .iload_n 1, 1), (16, .iload_n 2, 1), (17, .invokevirtual 200, 3), (20, .istore 4, 2), (22, .iinc 5 1, 3), (25, .goto (-19), 3), (28, .iload 4, 2), (30, .ireturn, 1)]
theorem dlX11_softAfter_0_ok : dlX11_softAfter_0.all (fun r => decide (decode cX11_softAfter r.1 = .ok r.2)) = true := by decide +kernel
theorem dX11_softAfter_0 : decode cX11_softAfter 0 = .ok (.iconst 0, 1) := dec_at dlX11_softAfter_0_ok 0 rfl
theorem dX11_softAfter_1 : decode cX11_softAfter 1 = .ok (.istore 4, 2) := dec_at dlX11_softAfter_0_ok 1 rfl
theorem dX11_softAfter_3 : decode cX11_softAfter 3 = .ok (.iconst 0, 1) := dec_at dlX11_softAfter_0_ok 2 rfl
theorem dX11_softAfter_4 : decode cX11_softAfter 4 = .ok (.istore 5, 2) := dec_at dlX11_softAfter_0_ok 3 rfl
theorem dX11_softAfter_6 : decode cX11_softAfter 6 = .ok (.iload 5, 2) := dec_at dlX11_softAfter_0_ok 4 rfl
theorem dX11_softAfter_8 : decode cX11_softAfter 8 = .ok (.iload_n 3, 1) := dec_at dlX11_softAfter_0_ok 5 rfl
theorem dX11_softAfter_9 : decode cX11_softAfter 9 = .ok (.if_icmp .ge 19, 3) := dec_at dlX11_softAfter_0_ok 6 rfl
theorem dX11_softAfter_12 : decode cX11_softAfter 12 = .ok (.aload_n 0, 1) := dec_at dlX11_softAfter_0_ok 7 rfl
theorem dX11_softAfter_13 : decode cX11_softAfter 13 = .ok (.iload 4, 2) := dec_at dlX11_softAfter_0_ok 8 rfl
theorem dX11_softAfter_15 : decode cX11_softAfter 15 = .ok (.iload_n 1, 1) := dec_at dlX11_softAfter_0_ok 9 rfl
theorem dX11_softAfter_16 : decode cX11_softAfter 16 = .ok (.iload_n 2, 1) := dec_at dlX11_softAfter_0_ok 10 rfl
theorem dX11_softAfter_17 : decode cX11_softAfter 17 = .ok (.invokevirtual 200, 3) := dec_at dlX11_softAfter_0_ok 11 rfl
theorem dX11_softAfter_20 : decode cX11_softAfter 20 = .ok (.istore 4, 2) := dec_at dlX11_softAfter_0_ok 12 rfl
theorem dX11_softAfter_22 : decode cX11_softAfter 22 = .ok (.iinc 5 1, 3) := dec_at dlX11_softAfter_0_ok 13 rfl
theorem dX11_softAfter_25 : decode cX11_softAfter 25 = .ok (.goto (-19), 3) := dec_at dlX11_softAfter_0_ok 14 rfl
theorem dX11_softAfter_28 : decode cX11_softAfter 28 = .ok (.iload 4, 2) := dec_at dlX11_softAfter_0_ok 15 rfl
theorem dX11_softAfter_30 : decode cX11_softAfter 30 = .ok (.ireturn, 1) := dec_at dlX11_softAfter_0_ok 16 rfl
set_option maxRecDepth 20000 in
theorem ggX11_handsThatFit_X11_softAfter : GoodIn wsX11_handsThatFit wsX11_softAfter := goodIn_s _ [(10, 4), (9, 1), (14, 60)] rfl (by decide +kernel)
set_option maxRecDepth 20000 in
theorem gX11_handsThatFit_X11_softAfter : GoodIn wsX11_handsThatFit (wsV RX11 315 RX11 yX11_softAfter wsX11_softAfter) := goodIn_app (goodIn_s _ [(6, 4)] rfl (by decide +kernel)) ggX11_handsThatFit_X11_softAfter
noncomputable def dlX11_handsThatFit_0 : List (Nat × Instr × Nat) := [(0, .iconst 0, 1), (1, .istore_n 1, 1), (2, .iconst 0, 1), (3, .istore_n 2, 1), (4, .iload_n 2, 1), (5, .aload_n 0, 1), (6, .getfield 106, 3), (9, .if_icmp .ge 82, 3), (12, .iconst 1, 1), (13, .istore_n 3, 1), (14, .iconst 0, 1), (15, .istore 4, 2), (17, .iload 4, 2), (19, .aload_n 0, 1), (20, .getfield 168, 3), (23, .if_icmp .ge 48, 3), (26, .iload_n 3, 1), (27, .ifCond .eq 36, 3), (30, .aload_n 0, 1), (31, .aload_n 0, 1), (32, .getfield 74, 3), (35, .iload 4, 2), (37, .iaload, 1), (38, .iload_n 2, 1), (39, .aload_n 0, 1), (40, .getfield 77, 3), (43, .iload 4, 2), (45, .iaload, 1), (46, .invokevirtual 315, 3), (49, .aload_n 0, 1), (50, .getfield 80, 3)]
theorem dlX11_handsThatFit_0_ok : dlX11_handsThatFit_0.all (fun r => decide (decode cX11_handsThatFit r.1 = .ok r.2)) = true := by decide +kernel
theorem dX11_handsThatFit_0 : decode cX11_handsThatFit 0 = .ok (.iconst 0, 1) := dec_at dlX11_handsThatFit_0_ok 0 rfl
theorem dX11_handsThatFit_1 : decode cX11_handsThatFit 1 = .ok (.istore_n 1, 1) := dec_at dlX11_handsThatFit_0_ok 1 rfl
theorem dX11_handsThatFit_2 : decode cX11_handsThatFit 2 = .ok (.iconst 0, 1) := dec_at dlX11_handsThatFit_0_ok 2 rfl
theorem dX11_handsThatFit_3 : decode cX11_handsThatFit 3 = .ok (.istore_n 2, 1) := dec_at dlX11_handsThatFit_0_ok 3 rfl
theorem dX11_handsThatFit_4 : decode cX11_handsThatFit 4 = .ok (.iload_n 2, 1) := dec_at dlX11_handsThatFit_0_ok 4 rfl
theorem dX11_handsThatFit_5 : decode cX11_handsThatFit 5 = .ok (.aload_n 0, 1) := dec_at dlX11_handsThatFit_0_ok 5 rfl
theorem dX11_handsThatFit_6 : decode cX11_handsThatFit 6 = .ok (.getfield 106, 3) := dec_at dlX11_handsThatFit_0_ok 6 rfl
theorem dX11_handsThatFit_9 : decode cX11_handsThatFit 9 = .ok (.if_icmp .ge 82, 3) := dec_at dlX11_handsThatFit_0_ok 7 rfl
theorem dX11_handsThatFit_12 : decode cX11_handsThatFit 12 = .ok (.iconst 1, 1) := dec_at dlX11_handsThatFit_0_ok 8 rfl
theorem dX11_handsThatFit_13 : decode cX11_handsThatFit 13 = .ok (.istore_n 3, 1) := dec_at dlX11_handsThatFit_0_ok 9 rfl
theorem dX11_handsThatFit_14 : decode cX11_handsThatFit 14 = .ok (.iconst 0, 1) := dec_at dlX11_handsThatFit_0_ok 10 rfl
theorem dX11_handsThatFit_15 : decode cX11_handsThatFit 15 = .ok (.istore 4, 2) := dec_at dlX11_handsThatFit_0_ok 11 rfl
theorem dX11_handsThatFit_17 : decode cX11_handsThatFit 17 = .ok (.iload 4, 2) := dec_at dlX11_handsThatFit_0_ok 12 rfl
theorem dX11_handsThatFit_19 : decode cX11_handsThatFit 19 = .ok (.aload_n 0, 1) := dec_at dlX11_handsThatFit_0_ok 13 rfl
theorem dX11_handsThatFit_20 : decode cX11_handsThatFit 20 = .ok (.getfield 168, 3) := dec_at dlX11_handsThatFit_0_ok 14 rfl
theorem dX11_handsThatFit_23 : decode cX11_handsThatFit 23 = .ok (.if_icmp .ge 48, 3) := dec_at dlX11_handsThatFit_0_ok 15 rfl
theorem dX11_handsThatFit_26 : decode cX11_handsThatFit 26 = .ok (.iload_n 3, 1) := dec_at dlX11_handsThatFit_0_ok 16 rfl
theorem dX11_handsThatFit_27 : decode cX11_handsThatFit 27 = .ok (.ifCond .eq 36, 3) := dec_at dlX11_handsThatFit_0_ok 17 rfl
theorem dX11_handsThatFit_30 : decode cX11_handsThatFit 30 = .ok (.aload_n 0, 1) := dec_at dlX11_handsThatFit_0_ok 18 rfl
theorem dX11_handsThatFit_31 : decode cX11_handsThatFit 31 = .ok (.aload_n 0, 1) := dec_at dlX11_handsThatFit_0_ok 19 rfl
theorem dX11_handsThatFit_32 : decode cX11_handsThatFit 32 = .ok (.getfield 74, 3) := dec_at dlX11_handsThatFit_0_ok 20 rfl
theorem dX11_handsThatFit_35 : decode cX11_handsThatFit 35 = .ok (.iload 4, 2) := dec_at dlX11_handsThatFit_0_ok 21 rfl
theorem dX11_handsThatFit_37 : decode cX11_handsThatFit 37 = .ok (.iaload, 1) := dec_at dlX11_handsThatFit_0_ok 22 rfl
theorem dX11_handsThatFit_38 : decode cX11_handsThatFit 38 = .ok (.iload_n 2, 1) := dec_at dlX11_handsThatFit_0_ok 23 rfl
theorem dX11_handsThatFit_39 : decode cX11_handsThatFit 39 = .ok (.aload_n 0, 1) := dec_at dlX11_handsThatFit_0_ok 24 rfl
theorem dX11_handsThatFit_40 : decode cX11_handsThatFit 40 = .ok (.getfield 77, 3) := dec_at dlX11_handsThatFit_0_ok 25 rfl
theorem dX11_handsThatFit_43 : decode cX11_handsThatFit 43 = .ok (.iload 4, 2) := dec_at dlX11_handsThatFit_0_ok 26 rfl
theorem dX11_handsThatFit_45 : decode cX11_handsThatFit 45 = .ok (.iaload, 1) := dec_at dlX11_handsThatFit_0_ok 27 rfl
theorem dX11_handsThatFit_46 : decode cX11_handsThatFit 46 = .ok (.invokevirtual 315, 3) := dec_at dlX11_handsThatFit_0_ok 28 rfl
theorem dX11_handsThatFit_49 : decode cX11_handsThatFit 49 = .ok (.aload_n 0, 1) := dec_at dlX11_handsThatFit_0_ok 29 rfl
theorem dX11_handsThatFit_50 : decode cX11_handsThatFit 50 = .ok (.getfield 80, 3) := dec_at dlX11_handsThatFit_0_ok 30 rfl
noncomputable def dlX11_handsThatFit_53 : List (Nat × Instr × Nat) := [(53, .iload 4, 2), (55, .iaload, 1), (56, .if_icmp .ne 7, 3), (59, .iconst 1, 1), (60, .goto 4, 3), (63, .iconst 0, 1), (64, .istore_n 3, 1), (65, .iinc 4 1, 3), (68, .goto (-51), 3), (71, .iload_n 1, 1), (72, .iload_n 3, 1), (73, .ifCond .eq 9, 3), (76, .iconst 1, 1), (77, .iload_n 2, 1), (78, .ishl, 1), (79, .goto 4, 3), (82, .iconst 0, 1), (83, .ior, 1), (84, .istore_n 1, 1), (85, .iinc 2 1, 3), (88, .goto (-84), 3), (91, .iload_n 1, 1), (92, .ireturn, 1)]
theorem dlX11_handsThatFit_53_ok : dlX11_handsThatFit_53.all (fun r => decide (decode cX11_handsThatFit r.1 = .ok r.2)) = true := by decide +kernel
theorem dX11_handsThatFit_53 : decode cX11_handsThatFit 53 = .ok (.iload 4, 2) := dec_at dlX11_handsThatFit_53_ok 0 rfl
theorem dX11_handsThatFit_55 : decode cX11_handsThatFit 55 = .ok (.iaload, 1) := dec_at dlX11_handsThatFit_53_ok 1 rfl
theorem dX11_handsThatFit_56 : decode cX11_handsThatFit 56 = .ok (.if_icmp .ne 7, 3) := dec_at dlX11_handsThatFit_53_ok 2 rfl
theorem dX11_handsThatFit_59 : decode cX11_handsThatFit 59 = .ok (.iconst 1, 1) := dec_at dlX11_handsThatFit_53_ok 3 rfl
theorem dX11_handsThatFit_60 : decode cX11_handsThatFit 60 = .ok (.goto 4, 3) := dec_at dlX11_handsThatFit_53_ok 4 rfl
theorem dX11_handsThatFit_63 : decode cX11_handsThatFit 63 = .ok (.iconst 0, 1) := dec_at dlX11_handsThatFit_53_ok 5 rfl
theorem dX11_handsThatFit_64 : decode cX11_handsThatFit 64 = .ok (.istore_n 3, 1) := dec_at dlX11_handsThatFit_53_ok 6 rfl
theorem dX11_handsThatFit_65 : decode cX11_handsThatFit 65 = .ok (.iinc 4 1, 3) := dec_at dlX11_handsThatFit_53_ok 7 rfl
theorem dX11_handsThatFit_68 : decode cX11_handsThatFit 68 = .ok (.goto (-51), 3) := dec_at dlX11_handsThatFit_53_ok 8 rfl
theorem dX11_handsThatFit_71 : decode cX11_handsThatFit 71 = .ok (.iload_n 1, 1) := dec_at dlX11_handsThatFit_53_ok 9 rfl
theorem dX11_handsThatFit_72 : decode cX11_handsThatFit 72 = .ok (.iload_n 3, 1) := dec_at dlX11_handsThatFit_53_ok 10 rfl
theorem dX11_handsThatFit_73 : decode cX11_handsThatFit 73 = .ok (.ifCond .eq 9, 3) := dec_at dlX11_handsThatFit_53_ok 11 rfl
theorem dX11_handsThatFit_76 : decode cX11_handsThatFit 76 = .ok (.iconst 1, 1) := dec_at dlX11_handsThatFit_53_ok 12 rfl
theorem dX11_handsThatFit_77 : decode cX11_handsThatFit 77 = .ok (.iload_n 2, 1) := dec_at dlX11_handsThatFit_53_ok 13 rfl
theorem dX11_handsThatFit_78 : decode cX11_handsThatFit 78 = .ok (.ishl, 1) := dec_at dlX11_handsThatFit_53_ok 14 rfl
theorem dX11_handsThatFit_79 : decode cX11_handsThatFit 79 = .ok (.goto 4, 3) := dec_at dlX11_handsThatFit_53_ok 15 rfl
theorem dX11_handsThatFit_82 : decode cX11_handsThatFit 82 = .ok (.iconst 0, 1) := dec_at dlX11_handsThatFit_53_ok 16 rfl
theorem dX11_handsThatFit_83 : decode cX11_handsThatFit 83 = .ok (.ior, 1) := dec_at dlX11_handsThatFit_53_ok 17 rfl
theorem dX11_handsThatFit_84 : decode cX11_handsThatFit 84 = .ok (.istore_n 1, 1) := dec_at dlX11_handsThatFit_53_ok 18 rfl
theorem dX11_handsThatFit_85 : decode cX11_handsThatFit 85 = .ok (.iinc 2 1, 3) := dec_at dlX11_handsThatFit_53_ok 19 rfl
theorem dX11_handsThatFit_88 : decode cX11_handsThatFit 88 = .ok (.goto (-84), 3) := dec_at dlX11_handsThatFit_53_ok 20 rfl
theorem dX11_handsThatFit_91 : decode cX11_handsThatFit 91 = .ok (.iload_n 1, 1) := dec_at dlX11_handsThatFit_53_ok 21 rfl
theorem dX11_handsThatFit_92 : decode cX11_handsThatFit 92 = .ok (.ireturn, 1) := dec_at dlX11_handsThatFit_53_ok 22 rfl
set_option maxRecDepth 20000 in
theorem ggX11_whose_X11_handsThatFit : GoodIn wsX11_whose wsX11_handsThatFit := goodIn_s _ [(5, 9), (4, 1), (14, 64)] rfl (by decide +kernel)
set_option maxRecDepth 20000 in
theorem gX11_whose_X11_handsThatFit : GoodIn wsX11_whose (wsV RX11 318 RX11 yX11_handsThatFit wsX11_handsThatFit) := goodIn_app (goodIn_s _ [(1, 4)] rfl (by decide +kernel)) ggX11_whose_X11_handsThatFit
noncomputable def dlX11_whose_0 : List (Nat × Instr × Nat) := [(0, .aload_n 0, 1), (1, .invokevirtual 318, 3), (4, .ireturn, 1)]
theorem dlX11_whose_0_ok : dlX11_whose_0.all (fun r => decide (decode cX11_whose r.1 = .ok r.2)) = true := by decide +kernel
theorem dX11_whose_0 : decode cX11_whose 0 = .ok (.aload_n 0, 1) := dec_at dlX11_whose_0_ok 0 rfl
theorem dX11_whose_1 : decode cX11_whose 1 = .ok (.invokevirtual 318, 3) := dec_at dlX11_whose_0_ok 1 rfl
theorem dX11_whose_4 : decode cX11_whose 4 = .ok (.ireturn, 1) := dec_at dlX11_whose_0_ok 2 rfl
set_option maxRecDepth 20000 in
theorem ggX11_greatestPart_X11_has : GoodIn wsX11_greatestPart wsX11_has := goodIn_s _ [(5, 1)] rfl (by decide +kernel)
set_option maxRecDepth 20000 in
theorem gX11_greatestPart_X11_has : GoodIn wsX11_greatestPart (va_wsS RX11 278 yX11_has wsX11_has) := goodIn_app (goodIn_s _ [(2, 3)] rfl (by decide +kernel)) ggX11_greatestPart_X11_has
set_option maxRecDepth 20000 in
theorem ggX11_greatestPart_X11_softAfter : GoodIn wsX11_greatestPart wsX11_softAfter := goodIn_s _ [(9, 4), (4, 1), (13, 60)] rfl (by decide +kernel)
set_option maxRecDepth 20000 in
theorem gX11_greatestPart_X11_softAfter : GoodIn wsX11_greatestPart (wsV RX11 315 RX11 yX11_softAfter wsX11_softAfter) := goodIn_app (goodIn_s _ [(6, 3), (4, 1)] rfl (by decide +kernel)) ggX11_greatestPart_X11_softAfter
noncomputable def dlX11_greatestPart_0 : List (Nat × Instr × Nat) := [(0, .iconst 0, 1), (1, .istore_n 3, 1), (2, .iconst 0, 1), (3, .istore 4, 2), (5, .iload 4, 2), (7, .aload_n 0, 1), (8, .getfield 106, 3), (11, .if_icmp .ge 90, 3), (14, .iconst 0, 1), (15, .istore 5, 2), (17, .iconst 0, 1), (18, .istore 6, 2), (20, .iload 6, 2), (22, .aload_n 0, 1), (23, .getfield 106, 3), (26, .if_icmp .ge 56, 3), (29, .iload 5, 2), (31, .iload_n 2, 1), (32, .iload 4, 2), (34, .invokestatic 278, 3), (37, .ifCond .eq 35, 3), (40, .iload_n 2, 1), (41, .iload 6, 2), (43, .invokestatic 278, 3), (46, .ifCond .eq 26, 3), (49, .aload_n 0, 1), (50, .iload_n 1, 1), (51, .iload 4, 2), (53, .iconst 1, 1), (54, .invokevirtual 315, 3), (57, .aload_n 0, 1)]
theorem dlX11_greatestPart_0_ok : dlX11_greatestPart_0.all (fun r => decide (decode cX11_greatestPart r.1 = .ok r.2)) = true := by decide +kernel
theorem dX11_greatestPart_0 : decode cX11_greatestPart 0 = .ok (.iconst 0, 1) := dec_at dlX11_greatestPart_0_ok 0 rfl
theorem dX11_greatestPart_1 : decode cX11_greatestPart 1 = .ok (.istore_n 3, 1) := dec_at dlX11_greatestPart_0_ok 1 rfl
theorem dX11_greatestPart_2 : decode cX11_greatestPart 2 = .ok (.iconst 0, 1) := dec_at dlX11_greatestPart_0_ok 2 rfl
theorem dX11_greatestPart_3 : decode cX11_greatestPart 3 = .ok (.istore 4, 2) := dec_at dlX11_greatestPart_0_ok 3 rfl
theorem dX11_greatestPart_5 : decode cX11_greatestPart 5 = .ok (.iload 4, 2) := dec_at dlX11_greatestPart_0_ok 4 rfl
theorem dX11_greatestPart_7 : decode cX11_greatestPart 7 = .ok (.aload_n 0, 1) := dec_at dlX11_greatestPart_0_ok 5 rfl
theorem dX11_greatestPart_8 : decode cX11_greatestPart 8 = .ok (.getfield 106, 3) := dec_at dlX11_greatestPart_0_ok 6 rfl
theorem dX11_greatestPart_11 : decode cX11_greatestPart 11 = .ok (.if_icmp .ge 90, 3) := dec_at dlX11_greatestPart_0_ok 7 rfl
theorem dX11_greatestPart_14 : decode cX11_greatestPart 14 = .ok (.iconst 0, 1) := dec_at dlX11_greatestPart_0_ok 8 rfl
theorem dX11_greatestPart_15 : decode cX11_greatestPart 15 = .ok (.istore 5, 2) := dec_at dlX11_greatestPart_0_ok 9 rfl
theorem dX11_greatestPart_17 : decode cX11_greatestPart 17 = .ok (.iconst 0, 1) := dec_at dlX11_greatestPart_0_ok 10 rfl
theorem dX11_greatestPart_18 : decode cX11_greatestPart 18 = .ok (.istore 6, 2) := dec_at dlX11_greatestPart_0_ok 11 rfl
theorem dX11_greatestPart_20 : decode cX11_greatestPart 20 = .ok (.iload 6, 2) := dec_at dlX11_greatestPart_0_ok 12 rfl
theorem dX11_greatestPart_22 : decode cX11_greatestPart 22 = .ok (.aload_n 0, 1) := dec_at dlX11_greatestPart_0_ok 13 rfl
theorem dX11_greatestPart_23 : decode cX11_greatestPart 23 = .ok (.getfield 106, 3) := dec_at dlX11_greatestPart_0_ok 14 rfl
theorem dX11_greatestPart_26 : decode cX11_greatestPart 26 = .ok (.if_icmp .ge 56, 3) := dec_at dlX11_greatestPart_0_ok 15 rfl
theorem dX11_greatestPart_29 : decode cX11_greatestPart 29 = .ok (.iload 5, 2) := dec_at dlX11_greatestPart_0_ok 16 rfl
theorem dX11_greatestPart_31 : decode cX11_greatestPart 31 = .ok (.iload_n 2, 1) := dec_at dlX11_greatestPart_0_ok 17 rfl
theorem dX11_greatestPart_32 : decode cX11_greatestPart 32 = .ok (.iload 4, 2) := dec_at dlX11_greatestPart_0_ok 18 rfl
theorem dX11_greatestPart_34 : decode cX11_greatestPart 34 = .ok (.invokestatic 278, 3) := dec_at dlX11_greatestPart_0_ok 19 rfl
theorem dX11_greatestPart_37 : decode cX11_greatestPart 37 = .ok (.ifCond .eq 35, 3) := dec_at dlX11_greatestPart_0_ok 20 rfl
theorem dX11_greatestPart_40 : decode cX11_greatestPart 40 = .ok (.iload_n 2, 1) := dec_at dlX11_greatestPart_0_ok 21 rfl
theorem dX11_greatestPart_41 : decode cX11_greatestPart 41 = .ok (.iload 6, 2) := dec_at dlX11_greatestPart_0_ok 22 rfl
theorem dX11_greatestPart_43 : decode cX11_greatestPart 43 = .ok (.invokestatic 278, 3) := dec_at dlX11_greatestPart_0_ok 23 rfl
theorem dX11_greatestPart_46 : decode cX11_greatestPart 46 = .ok (.ifCond .eq 26, 3) := dec_at dlX11_greatestPart_0_ok 24 rfl
theorem dX11_greatestPart_49 : decode cX11_greatestPart 49 = .ok (.aload_n 0, 1) := dec_at dlX11_greatestPart_0_ok 25 rfl
theorem dX11_greatestPart_50 : decode cX11_greatestPart 50 = .ok (.iload_n 1, 1) := dec_at dlX11_greatestPart_0_ok 26 rfl
theorem dX11_greatestPart_51 : decode cX11_greatestPart 51 = .ok (.iload 4, 2) := dec_at dlX11_greatestPart_0_ok 27 rfl
theorem dX11_greatestPart_53 : decode cX11_greatestPart 53 = .ok (.iconst 1, 1) := dec_at dlX11_greatestPart_0_ok 28 rfl
theorem dX11_greatestPart_54 : decode cX11_greatestPart 54 = .ok (.invokevirtual 315, 3) := dec_at dlX11_greatestPart_0_ok 29 rfl
theorem dX11_greatestPart_57 : decode cX11_greatestPart 57 = .ok (.aload_n 0, 1) := dec_at dlX11_greatestPart_0_ok 30 rfl
noncomputable def dlX11_greatestPart_58 : List (Nat × Instr × Nat) := [(58, .iload_n 1, 1), (59, .iload 6, 2), (61, .iconst 1, 1), (62, .invokevirtual 315, 3), (65, .if_icmp .ne 7, 3), (68, .iconst 1, 1), (69, .goto 4, 3), (72, .iconst 0, 1), (73, .iadd, 1), (74, .istore 5, 2), (76, .iinc 6 1, 3), (79, .goto (-59), 3), (82, .iload 5, 2), (84, .iload_n 3, 1), (85, .if_icmp .le 8, 3), (88, .iload 5, 2), (90, .goto 4, 3), (93, .iload_n 3, 1), (94, .istore_n 3, 1), (95, .iinc 4 1, 3), (98, .goto (-93), 3), (101, .iload_n 3, 1), (102, .ireturn, 1)]
theorem dlX11_greatestPart_58_ok : dlX11_greatestPart_58.all (fun r => decide (decode cX11_greatestPart r.1 = .ok r.2)) = true := by decide +kernel
theorem dX11_greatestPart_58 : decode cX11_greatestPart 58 = .ok (.iload_n 1, 1) := dec_at dlX11_greatestPart_58_ok 0 rfl
theorem dX11_greatestPart_59 : decode cX11_greatestPart 59 = .ok (.iload 6, 2) := dec_at dlX11_greatestPart_58_ok 1 rfl
theorem dX11_greatestPart_61 : decode cX11_greatestPart 61 = .ok (.iconst 1, 1) := dec_at dlX11_greatestPart_58_ok 2 rfl
theorem dX11_greatestPart_62 : decode cX11_greatestPart 62 = .ok (.invokevirtual 315, 3) := dec_at dlX11_greatestPart_58_ok 3 rfl
theorem dX11_greatestPart_65 : decode cX11_greatestPart 65 = .ok (.if_icmp .ne 7, 3) := dec_at dlX11_greatestPart_58_ok 4 rfl
theorem dX11_greatestPart_68 : decode cX11_greatestPart 68 = .ok (.iconst 1, 1) := dec_at dlX11_greatestPart_58_ok 5 rfl
theorem dX11_greatestPart_69 : decode cX11_greatestPart 69 = .ok (.goto 4, 3) := dec_at dlX11_greatestPart_58_ok 6 rfl
theorem dX11_greatestPart_72 : decode cX11_greatestPart 72 = .ok (.iconst 0, 1) := dec_at dlX11_greatestPart_58_ok 7 rfl
theorem dX11_greatestPart_73 : decode cX11_greatestPart 73 = .ok (.iadd, 1) := dec_at dlX11_greatestPart_58_ok 8 rfl
theorem dX11_greatestPart_74 : decode cX11_greatestPart 74 = .ok (.istore 5, 2) := dec_at dlX11_greatestPart_58_ok 9 rfl
theorem dX11_greatestPart_76 : decode cX11_greatestPart 76 = .ok (.iinc 6 1, 3) := dec_at dlX11_greatestPart_58_ok 10 rfl
theorem dX11_greatestPart_79 : decode cX11_greatestPart 79 = .ok (.goto (-59), 3) := dec_at dlX11_greatestPart_58_ok 11 rfl
theorem dX11_greatestPart_82 : decode cX11_greatestPart 82 = .ok (.iload 5, 2) := dec_at dlX11_greatestPart_58_ok 12 rfl
theorem dX11_greatestPart_84 : decode cX11_greatestPart 84 = .ok (.iload_n 3, 1) := dec_at dlX11_greatestPart_58_ok 13 rfl
theorem dX11_greatestPart_85 : decode cX11_greatestPart 85 = .ok (.if_icmp .le 8, 3) := dec_at dlX11_greatestPart_58_ok 14 rfl
theorem dX11_greatestPart_88 : decode cX11_greatestPart 88 = .ok (.iload 5, 2) := dec_at dlX11_greatestPart_58_ok 15 rfl
theorem dX11_greatestPart_90 : decode cX11_greatestPart 90 = .ok (.goto 4, 3) := dec_at dlX11_greatestPart_58_ok 16 rfl
theorem dX11_greatestPart_93 : decode cX11_greatestPart 93 = .ok (.iload_n 3, 1) := dec_at dlX11_greatestPart_58_ok 17 rfl
theorem dX11_greatestPart_94 : decode cX11_greatestPart 94 = .ok (.istore_n 3, 1) := dec_at dlX11_greatestPart_58_ok 18 rfl
theorem dX11_greatestPart_95 : decode cX11_greatestPart 95 = .ok (.iinc 4 1, 3) := dec_at dlX11_greatestPart_58_ok 19 rfl
theorem dX11_greatestPart_98 : decode cX11_greatestPart 98 = .ok (.goto (-93), 3) := dec_at dlX11_greatestPart_58_ok 20 rfl
theorem dX11_greatestPart_101 : decode cX11_greatestPart 101 = .ok (.iload_n 3, 1) := dec_at dlX11_greatestPart_58_ok 21 rfl
theorem dX11_greatestPart_102 : decode cX11_greatestPart 102 = .ok (.ireturn, 1) := dec_at dlX11_greatestPart_58_ok 22 rfl
set_option maxRecDepth 20000 in
theorem ggX11_lookAt_X11_handsThatFit : GoodIn wsX11_lookAt wsX11_handsThatFit := goodIn_s _ [(6, 9), (5, 1), (15, 18), (43, 46)] rfl (by decide +kernel)
set_option maxRecDepth 20000 in
theorem gX11_lookAt_X11_handsThatFit : GoodIn wsX11_lookAt (wsV RX11 318 RX11 yX11_handsThatFit wsX11_handsThatFit) := goodIn_app (goodIn_s _ [(2, 4)] rfl (by decide +kernel)) ggX11_lookAt_X11_handsThatFit
set_option maxRecDepth 20000 in
theorem ggX11_lookAt_X11_bits : GoodIn wsX11_lookAt wsX11_bits := goodIn_s _ [(35, 1)] rfl (by decide +kernel)
set_option maxRecDepth 20000 in
theorem gX11_lookAt_X11_bits : GoodIn wsX11_lookAt (va_wsS RX11 321 yX11_bits wsX11_bits) := goodIn_app (goodIn_s _ [(33, 2), (5, 1)] rfl (by decide +kernel)) ggX11_lookAt_X11_bits
set_option maxRecDepth 20000 in
theorem ggX11_lookAt_X11_greatestPart : GoodIn wsX11_lookAt wsX11_greatestPart := goodIn_s _ [(39, 1), (7, 1), (40, 2), (5, 1), (42, 1), (12, 21), (43, 46)] rfl (by decide +kernel)
set_option maxRecDepth 20000 in
theorem gX11_lookAt_X11_greatestPart : GoodIn wsX11_lookAt (wsV RX11 324 RX11 yX11_greatestPart wsX11_greatestPart) := goodIn_app (goodIn_s _ [(36, 3), (5, 1)] rfl (by decide +kernel)) ggX11_lookAt_X11_greatestPart
noncomputable def dlX11_lookAt_0 : List (Nat × Instr × Nat) := [(0, .aload_n 0, 1), (1, .invokevirtual 318, 3), (4, .istore_n 1, 1), (5, .iconst (-1), 1), (6, .istore_n 2, 1), (7, .iload_n 1, 1), (8, .invokestatic 321, 3), (11, .istore_n 3, 1), (12, .iconst 0, 1), (13, .istore 4, 2), (15, .iload 4, 2), (17, .aload_n 0, 1), (18, .getfield 99, 3), (21, .if_icmp .ge 44, 3), (24, .aload_n 0, 1), (25, .iload 4, 2), (27, .iload_n 1, 1), (28, .invokevirtual 324, 3), (31, .istore 5, 2), (33, .iload 5, 2), (35, .iload_n 3, 1), (36, .if_icmp .ge 8, 3), (39, .iload 4, 2), (41, .goto 4, 3), (44, .iload_n 2, 1), (45, .istore_n 2, 1), (46, .iload 5, 2), (48, .iload_n 3, 1), (49, .if_icmp .ge 8, 3), (52, .iload 5, 2), (54, .goto 4, 3)]
theorem dlX11_lookAt_0_ok : dlX11_lookAt_0.all (fun r => decide (decode cX11_lookAt r.1 = .ok r.2)) = true := by decide +kernel
theorem dX11_lookAt_0 : decode cX11_lookAt 0 = .ok (.aload_n 0, 1) := dec_at dlX11_lookAt_0_ok 0 rfl
theorem dX11_lookAt_1 : decode cX11_lookAt 1 = .ok (.invokevirtual 318, 3) := dec_at dlX11_lookAt_0_ok 1 rfl
theorem dX11_lookAt_4 : decode cX11_lookAt 4 = .ok (.istore_n 1, 1) := dec_at dlX11_lookAt_0_ok 2 rfl
theorem dX11_lookAt_5 : decode cX11_lookAt 5 = .ok (.iconst (-1), 1) := dec_at dlX11_lookAt_0_ok 3 rfl
theorem dX11_lookAt_6 : decode cX11_lookAt 6 = .ok (.istore_n 2, 1) := dec_at dlX11_lookAt_0_ok 4 rfl
theorem dX11_lookAt_7 : decode cX11_lookAt 7 = .ok (.iload_n 1, 1) := dec_at dlX11_lookAt_0_ok 5 rfl
theorem dX11_lookAt_8 : decode cX11_lookAt 8 = .ok (.invokestatic 321, 3) := dec_at dlX11_lookAt_0_ok 6 rfl
theorem dX11_lookAt_11 : decode cX11_lookAt 11 = .ok (.istore_n 3, 1) := dec_at dlX11_lookAt_0_ok 7 rfl
theorem dX11_lookAt_12 : decode cX11_lookAt 12 = .ok (.iconst 0, 1) := dec_at dlX11_lookAt_0_ok 8 rfl
theorem dX11_lookAt_13 : decode cX11_lookAt 13 = .ok (.istore 4, 2) := dec_at dlX11_lookAt_0_ok 9 rfl
theorem dX11_lookAt_15 : decode cX11_lookAt 15 = .ok (.iload 4, 2) := dec_at dlX11_lookAt_0_ok 10 rfl
theorem dX11_lookAt_17 : decode cX11_lookAt 17 = .ok (.aload_n 0, 1) := dec_at dlX11_lookAt_0_ok 11 rfl
theorem dX11_lookAt_18 : decode cX11_lookAt 18 = .ok (.getfield 99, 3) := dec_at dlX11_lookAt_0_ok 12 rfl
theorem dX11_lookAt_21 : decode cX11_lookAt 21 = .ok (.if_icmp .ge 44, 3) := dec_at dlX11_lookAt_0_ok 13 rfl
theorem dX11_lookAt_24 : decode cX11_lookAt 24 = .ok (.aload_n 0, 1) := dec_at dlX11_lookAt_0_ok 14 rfl
theorem dX11_lookAt_25 : decode cX11_lookAt 25 = .ok (.iload 4, 2) := dec_at dlX11_lookAt_0_ok 15 rfl
theorem dX11_lookAt_27 : decode cX11_lookAt 27 = .ok (.iload_n 1, 1) := dec_at dlX11_lookAt_0_ok 16 rfl
theorem dX11_lookAt_28 : decode cX11_lookAt 28 = .ok (.invokevirtual 324, 3) := dec_at dlX11_lookAt_0_ok 17 rfl
theorem dX11_lookAt_31 : decode cX11_lookAt 31 = .ok (.istore 5, 2) := dec_at dlX11_lookAt_0_ok 18 rfl
theorem dX11_lookAt_33 : decode cX11_lookAt 33 = .ok (.iload 5, 2) := dec_at dlX11_lookAt_0_ok 19 rfl
theorem dX11_lookAt_35 : decode cX11_lookAt 35 = .ok (.iload_n 3, 1) := dec_at dlX11_lookAt_0_ok 20 rfl
theorem dX11_lookAt_36 : decode cX11_lookAt 36 = .ok (.if_icmp .ge 8, 3) := dec_at dlX11_lookAt_0_ok 21 rfl
theorem dX11_lookAt_39 : decode cX11_lookAt 39 = .ok (.iload 4, 2) := dec_at dlX11_lookAt_0_ok 22 rfl
theorem dX11_lookAt_41 : decode cX11_lookAt 41 = .ok (.goto 4, 3) := dec_at dlX11_lookAt_0_ok 23 rfl
theorem dX11_lookAt_44 : decode cX11_lookAt 44 = .ok (.iload_n 2, 1) := dec_at dlX11_lookAt_0_ok 24 rfl
theorem dX11_lookAt_45 : decode cX11_lookAt 45 = .ok (.istore_n 2, 1) := dec_at dlX11_lookAt_0_ok 25 rfl
theorem dX11_lookAt_46 : decode cX11_lookAt 46 = .ok (.iload 5, 2) := dec_at dlX11_lookAt_0_ok 26 rfl
theorem dX11_lookAt_48 : decode cX11_lookAt 48 = .ok (.iload_n 3, 1) := dec_at dlX11_lookAt_0_ok 27 rfl
theorem dX11_lookAt_49 : decode cX11_lookAt 49 = .ok (.if_icmp .ge 8, 3) := dec_at dlX11_lookAt_0_ok 28 rfl
theorem dX11_lookAt_52 : decode cX11_lookAt 52 = .ok (.iload 5, 2) := dec_at dlX11_lookAt_0_ok 29 rfl
theorem dX11_lookAt_54 : decode cX11_lookAt 54 = .ok (.goto 4, 3) := dec_at dlX11_lookAt_0_ok 30 rfl
noncomputable def dlX11_lookAt_57 : List (Nat × Instr × Nat) := [(57, .iload_n 3, 1), (58, .istore_n 3, 1), (59, .iinc 4 1, 3), (62, .goto (-47), 3), (65, .iload_n 2, 1), (66, .ireturn, 1)]
theorem dlX11_lookAt_57_ok : dlX11_lookAt_57.all (fun r => decide (decode cX11_lookAt r.1 = .ok r.2)) = true := by decide +kernel
theorem dX11_lookAt_57 : decode cX11_lookAt 57 = .ok (.iload_n 3, 1) := dec_at dlX11_lookAt_57_ok 0 rfl
theorem dX11_lookAt_58 : decode cX11_lookAt 58 = .ok (.istore_n 3, 1) := dec_at dlX11_lookAt_57_ok 1 rfl
theorem dX11_lookAt_59 : decode cX11_lookAt 59 = .ok (.iinc 4 1, 3) := dec_at dlX11_lookAt_57_ok 2 rfl
theorem dX11_lookAt_62 : decode cX11_lookAt 62 = .ok (.goto (-47), 3) := dec_at dlX11_lookAt_57_ok 3 rfl
theorem dX11_lookAt_65 : decode cX11_lookAt 65 = .ok (.iload_n 2, 1) := dec_at dlX11_lookAt_57_ok 4 rfl
theorem dX11_lookAt_66 : decode cX11_lookAt 66 = .ok (.ireturn, 1) := dec_at dlX11_lookAt_57_ok 5 rfl
set_option maxRecDepth 20000 in
theorem ggX11_note_X11_isQuill : GoodIn wsX11_note wsX11_isQuill := goodIn_s _ [(12, 4), (11, 1), (16, 47)] rfl (by decide +kernel)
set_option maxRecDepth 20000 in
theorem gX11_note_X11_isQuill : GoodIn wsX11_note (wsV RX11 184 RX11 yX11_isQuill wsX11_isQuill) := goodIn_app (goodIn_s _ [(8, 4)] rfl (by decide +kernel)) ggX11_note_X11_isQuill
set_option maxRecDepth 20000 in
theorem ggX11_note_X11_in : GoodIn wsX11_note wsX11_in := goodIn_s _ [(16, 1)] rfl (by decide +kernel)
set_option maxRecDepth 20000 in
theorem gX11_note_X11_in : GoodIn wsX11_note (va_wsS RX11 102 yX11_in wsX11_in) := goodIn_app (goodIn_s _ [(14, 2), (11, 1)] rfl (by decide +kernel)) ggX11_note_X11_in
noncomputable def dlX11_note_0 : List (Nat × Instr × Nat) := [(0, .aload_n 0, 1), (1, .iload_n 1, 1), (2, .invokevirtual 184, 3), (5, .ifCond .ne 6, 3), (8, .ldc 188, 2), (10, .ireturn, 1), (11, .iload_n 2, 1), (12, .i2l, 1), (13, .lconst 0, 1), (14, .ldc2_w 313, 3), (17, .invokestatic 102, 3), (20, .ifCond .ne 6, 3), (23, .ldc 111, 2), (25, .ireturn, 1), (26, .aload_n 0, 1), (27, .getfield 171, 3), (30, .bipush 15, 2), (32, .if_icmp .ne 6, 3), (35, .ldc 115, 2), (37, .ireturn, 1), (38, .aload_n 0, 1), (39, .getfield 83, 3), (42, .aload_n 0, 1), (43, .getfield 171, 3), (46, .iload_n 1, 1), (47, .iastore, 1), (48, .aload_n 0, 1), (49, .getfield 86, 3), (52, .aload_n 0, 1), (53, .getfield 171, 3), (56, .iload_n 2, 1)]
theorem dlX11_note_0_ok : dlX11_note_0.all (fun r => decide (decode cX11_note r.1 = .ok r.2)) = true := by decide +kernel
theorem dX11_note_0 : decode cX11_note 0 = .ok (.aload_n 0, 1) := dec_at dlX11_note_0_ok 0 rfl
theorem dX11_note_1 : decode cX11_note 1 = .ok (.iload_n 1, 1) := dec_at dlX11_note_0_ok 1 rfl
theorem dX11_note_2 : decode cX11_note 2 = .ok (.invokevirtual 184, 3) := dec_at dlX11_note_0_ok 2 rfl
theorem dX11_note_5 : decode cX11_note 5 = .ok (.ifCond .ne 6, 3) := dec_at dlX11_note_0_ok 3 rfl
theorem dX11_note_8 : decode cX11_note 8 = .ok (.ldc 188, 2) := dec_at dlX11_note_0_ok 4 rfl
theorem dX11_note_10 : decode cX11_note 10 = .ok (.ireturn, 1) := dec_at dlX11_note_0_ok 5 rfl
theorem dX11_note_11 : decode cX11_note 11 = .ok (.iload_n 2, 1) := dec_at dlX11_note_0_ok 6 rfl
theorem dX11_note_12 : decode cX11_note 12 = .ok (.i2l, 1) := dec_at dlX11_note_0_ok 7 rfl
theorem dX11_note_13 : decode cX11_note 13 = .ok (.lconst 0, 1) := dec_at dlX11_note_0_ok 8 rfl
theorem dX11_note_14 : decode cX11_note 14 = .ok (.ldc2_w 313, 3) := dec_at dlX11_note_0_ok 9 rfl
theorem dX11_note_17 : decode cX11_note 17 = .ok (.invokestatic 102, 3) := dec_at dlX11_note_0_ok 10 rfl
theorem dX11_note_20 : decode cX11_note 20 = .ok (.ifCond .ne 6, 3) := dec_at dlX11_note_0_ok 11 rfl
theorem dX11_note_23 : decode cX11_note 23 = .ok (.ldc 111, 2) := dec_at dlX11_note_0_ok 12 rfl
theorem dX11_note_25 : decode cX11_note 25 = .ok (.ireturn, 1) := dec_at dlX11_note_0_ok 13 rfl
theorem dX11_note_26 : decode cX11_note 26 = .ok (.aload_n 0, 1) := dec_at dlX11_note_0_ok 14 rfl
theorem dX11_note_27 : decode cX11_note 27 = .ok (.getfield 171, 3) := dec_at dlX11_note_0_ok 15 rfl
theorem dX11_note_30 : decode cX11_note 30 = .ok (.bipush 15, 2) := dec_at dlX11_note_0_ok 16 rfl
theorem dX11_note_32 : decode cX11_note 32 = .ok (.if_icmp .ne 6, 3) := dec_at dlX11_note_0_ok 17 rfl
theorem dX11_note_35 : decode cX11_note 35 = .ok (.ldc 115, 2) := dec_at dlX11_note_0_ok 18 rfl
theorem dX11_note_37 : decode cX11_note 37 = .ok (.ireturn, 1) := dec_at dlX11_note_0_ok 19 rfl
theorem dX11_note_38 : decode cX11_note 38 = .ok (.aload_n 0, 1) := dec_at dlX11_note_0_ok 20 rfl
theorem dX11_note_39 : decode cX11_note 39 = .ok (.getfield 83, 3) := dec_at dlX11_note_0_ok 21 rfl
theorem dX11_note_42 : decode cX11_note 42 = .ok (.aload_n 0, 1) := dec_at dlX11_note_0_ok 22 rfl
theorem dX11_note_43 : decode cX11_note 43 = .ok (.getfield 171, 3) := dec_at dlX11_note_0_ok 23 rfl
theorem dX11_note_46 : decode cX11_note 46 = .ok (.iload_n 1, 1) := dec_at dlX11_note_0_ok 24 rfl
theorem dX11_note_47 : decode cX11_note 47 = .ok (.iastore, 1) := dec_at dlX11_note_0_ok 25 rfl
theorem dX11_note_48 : decode cX11_note 48 = .ok (.aload_n 0, 1) := dec_at dlX11_note_0_ok 26 rfl
theorem dX11_note_49 : decode cX11_note 49 = .ok (.getfield 86, 3) := dec_at dlX11_note_0_ok 27 rfl
theorem dX11_note_52 : decode cX11_note 52 = .ok (.aload_n 0, 1) := dec_at dlX11_note_0_ok 28 rfl
theorem dX11_note_53 : decode cX11_note 53 = .ok (.getfield 171, 3) := dec_at dlX11_note_0_ok 29 rfl
theorem dX11_note_56 : decode cX11_note 56 = .ok (.iload_n 2, 1) := dec_at dlX11_note_0_ok 30 rfl
noncomputable def dlX11_note_57 : List (Nat × Instr × Nat) := [(57, .iastore, 1), (58, .aload_n 0, 1), (59, .dup, 1), (60, .getfield 171, 3), (63, .iconst 1, 1), (64, .iadd, 1), (65, .putfield 171, 3), (68, .aload_n 0, 1), (69, .getfield 171, 3), (72, .ireturn, 1)]
theorem dlX11_note_57_ok : dlX11_note_57.all (fun r => decide (decode cX11_note r.1 = .ok r.2)) = true := by decide +kernel
theorem dX11_note_57 : decode cX11_note 57 = .ok (.iastore, 1) := dec_at dlX11_note_57_ok 0 rfl
theorem dX11_note_58 : decode cX11_note 58 = .ok (.aload_n 0, 1) := dec_at dlX11_note_57_ok 1 rfl
theorem dX11_note_59 : decode cX11_note 59 = .ok (.dup, 1) := dec_at dlX11_note_57_ok 2 rfl
theorem dX11_note_60 : decode cX11_note 60 = .ok (.getfield 171, 3) := dec_at dlX11_note_57_ok 3 rfl
theorem dX11_note_63 : decode cX11_note 63 = .ok (.iconst 1, 1) := dec_at dlX11_note_57_ok 4 rfl
theorem dX11_note_64 : decode cX11_note 64 = .ok (.iadd, 1) := dec_at dlX11_note_57_ok 5 rfl
theorem dX11_note_65 : decode cX11_note 65 = .ok (.putfield 171, 3) := dec_at dlX11_note_57_ok 6 rfl
theorem dX11_note_68 : decode cX11_note 68 = .ok (.aload_n 0, 1) := dec_at dlX11_note_57_ok 7 rfl
theorem dX11_note_69 : decode cX11_note 69 = .ok (.getfield 171, 3) := dec_at dlX11_note_57_ok 8 rfl
theorem dX11_note_72 : decode cX11_note 72 = .ok (.ireturn, 1) := dec_at dlX11_note_57_ok 9 rfl
noncomputable def dlX11_tear_0 : List (Nat × Instr × Nat) := [(0, .aload_n 0, 1), (1, .getfield 168, 3), (4, .aload_n 0, 1), (5, .getfield 171, 3), (8, .iadd, 1), (9, .istore_n 1, 1), (10, .aload_n 0, 1), (11, .iconst 0, 1), (12, .putfield 168, 3), (15, .aload_n 0, 1), (16, .iconst 0, 1), (17, .putfield 171, 3), (20, .iload_n 1, 1), (21, .ireturn, 1)]
theorem dlX11_tear_0_ok : dlX11_tear_0.all (fun r => decide (decode cX11_tear r.1 = .ok r.2)) = true := by decide +kernel
theorem dX11_tear_0 : decode cX11_tear 0 = .ok (.aload_n 0, 1) := dec_at dlX11_tear_0_ok 0 rfl
theorem dX11_tear_1 : decode cX11_tear 1 = .ok (.getfield 168, 3) := dec_at dlX11_tear_0_ok 1 rfl
theorem dX11_tear_4 : decode cX11_tear 4 = .ok (.aload_n 0, 1) := dec_at dlX11_tear_0_ok 2 rfl
theorem dX11_tear_5 : decode cX11_tear 5 = .ok (.getfield 171, 3) := dec_at dlX11_tear_0_ok 3 rfl
theorem dX11_tear_8 : decode cX11_tear 8 = .ok (.iadd, 1) := dec_at dlX11_tear_0_ok 4 rfl
theorem dX11_tear_9 : decode cX11_tear 9 = .ok (.istore_n 1, 1) := dec_at dlX11_tear_0_ok 5 rfl
theorem dX11_tear_10 : decode cX11_tear 10 = .ok (.aload_n 0, 1) := dec_at dlX11_tear_0_ok 6 rfl
theorem dX11_tear_11 : decode cX11_tear 11 = .ok (.iconst 0, 1) := dec_at dlX11_tear_0_ok 7 rfl
theorem dX11_tear_12 : decode cX11_tear 12 = .ok (.putfield 168, 3) := dec_at dlX11_tear_0_ok 8 rfl
theorem dX11_tear_15 : decode cX11_tear 15 = .ok (.aload_n 0, 1) := dec_at dlX11_tear_0_ok 9 rfl
theorem dX11_tear_16 : decode cX11_tear 16 = .ok (.iconst 0, 1) := dec_at dlX11_tear_0_ok 10 rfl
theorem dX11_tear_17 : decode cX11_tear 17 = .ok (.putfield 171, 3) := dec_at dlX11_tear_0_ok 11 rfl
theorem dX11_tear_20 : decode cX11_tear 20 = .ok (.iload_n 1, 1) := dec_at dlX11_tear_0_ok 12 rfl
theorem dX11_tear_21 : decode cX11_tear 21 = .ok (.ireturn, 1) := dec_at dlX11_tear_0_ok 13 rfl
noncomputable def dlX11_judge_0 : List (Nat × Instr × Nat) := [(0, .iconst 0, 1), (1, .istore_n 1, 1), (2, .iload_n 1, 1), (3, .aload_n 0, 1), (4, .getfield 171, 3), (7, .if_icmp .ge 34, 3), (10, .aload_n 0, 1), (11, .getfield 28, 3), (14, .bipush 16, 2), (16, .aload_n 0, 1), (17, .getfield 83, 3), (20, .iload_n 1, 1), (21, .iaload, 1), (22, .iadd, 1), (23, .iaload, 1), (24, .aload_n 0, 1), (25, .getfield 86, 3), (28, .iload_n 1, 1), (29, .iaload, 1), (30, .if_icmp .eq 5, 3), (33, .iload_n 1, 1), (34, .ireturn, 1), (35, .iinc 1 1, 3), (38, .goto (-36), 3), (41, .iconst (-1), 1), (42, .ireturn, 1)]
theorem dlX11_judge_0_ok : dlX11_judge_0.all (fun r => decide (decode cX11_judge r.1 = .ok r.2)) = true := by decide +kernel
theorem dX11_judge_0 : decode cX11_judge 0 = .ok (.iconst 0, 1) := dec_at dlX11_judge_0_ok 0 rfl
theorem dX11_judge_1 : decode cX11_judge 1 = .ok (.istore_n 1, 1) := dec_at dlX11_judge_0_ok 1 rfl
theorem dX11_judge_2 : decode cX11_judge 2 = .ok (.iload_n 1, 1) := dec_at dlX11_judge_0_ok 2 rfl
theorem dX11_judge_3 : decode cX11_judge 3 = .ok (.aload_n 0, 1) := dec_at dlX11_judge_0_ok 3 rfl
theorem dX11_judge_4 : decode cX11_judge 4 = .ok (.getfield 171, 3) := dec_at dlX11_judge_0_ok 4 rfl
theorem dX11_judge_7 : decode cX11_judge 7 = .ok (.if_icmp .ge 34, 3) := dec_at dlX11_judge_0_ok 5 rfl
theorem dX11_judge_10 : decode cX11_judge 10 = .ok (.aload_n 0, 1) := dec_at dlX11_judge_0_ok 6 rfl
theorem dX11_judge_11 : decode cX11_judge 11 = .ok (.getfield 28, 3) := dec_at dlX11_judge_0_ok 7 rfl
theorem dX11_judge_14 : decode cX11_judge 14 = .ok (.bipush 16, 2) := dec_at dlX11_judge_0_ok 8 rfl
theorem dX11_judge_16 : decode cX11_judge 16 = .ok (.aload_n 0, 1) := dec_at dlX11_judge_0_ok 9 rfl
theorem dX11_judge_17 : decode cX11_judge 17 = .ok (.getfield 83, 3) := dec_at dlX11_judge_0_ok 10 rfl
theorem dX11_judge_20 : decode cX11_judge 20 = .ok (.iload_n 1, 1) := dec_at dlX11_judge_0_ok 11 rfl
theorem dX11_judge_21 : decode cX11_judge 21 = .ok (.iaload, 1) := dec_at dlX11_judge_0_ok 12 rfl
theorem dX11_judge_22 : decode cX11_judge 22 = .ok (.iadd, 1) := dec_at dlX11_judge_0_ok 13 rfl
theorem dX11_judge_23 : decode cX11_judge 23 = .ok (.iaload, 1) := dec_at dlX11_judge_0_ok 14 rfl
theorem dX11_judge_24 : decode cX11_judge 24 = .ok (.aload_n 0, 1) := dec_at dlX11_judge_0_ok 15 rfl
theorem dX11_judge_25 : decode cX11_judge 25 = .ok (.getfield 86, 3) := dec_at dlX11_judge_0_ok 16 rfl
theorem dX11_judge_28 : decode cX11_judge 28 = .ok (.iload_n 1, 1) := dec_at dlX11_judge_0_ok 17 rfl
theorem dX11_judge_29 : decode cX11_judge 29 = .ok (.iaload, 1) := dec_at dlX11_judge_0_ok 18 rfl
theorem dX11_judge_30 : decode cX11_judge 30 = .ok (.if_icmp .eq 5, 3) := dec_at dlX11_judge_0_ok 19 rfl
theorem dX11_judge_33 : decode cX11_judge 33 = .ok (.iload_n 1, 1) := dec_at dlX11_judge_0_ok 20 rfl
theorem dX11_judge_34 : decode cX11_judge 34 = .ok (.ireturn, 1) := dec_at dlX11_judge_0_ok 21 rfl
theorem dX11_judge_35 : decode cX11_judge 35 = .ok (.iinc 1 1, 3) := dec_at dlX11_judge_0_ok 22 rfl
theorem dX11_judge_38 : decode cX11_judge 38 = .ok (.goto (-36), 3) := dec_at dlX11_judge_0_ok 23 rfl
theorem dX11_judge_41 : decode cX11_judge 41 = .ok (.iconst (-1), 1) := dec_at dlX11_judge_0_ok 24 rfl
theorem dX11_judge_42 : decode cX11_judge 42 = .ok (.ireturn, 1) := dec_at dlX11_judge_0_ok 25 rfl
noncomputable def dlX11_seed_0 : List (Nat × Instr × Nat) := [(0, .iload_n 1, 1), (1, .ifCond .ge 6, 3), (4, .ldc 111, 2), (6, .ireturn, 1), (7, .aload_n 0, 1), (8, .getfield 241, 3), (11, .istore_n 2, 1), (12, .aload_n 0, 1), (13, .iload_n 1, 1), (14, .putfield 241, 3), (17, .iload_n 2, 1), (18, .ireturn, 1)]
theorem dlX11_seed_0_ok : dlX11_seed_0.all (fun r => decide (decode cX11_seed r.1 = .ok r.2)) = true := by decide +kernel
theorem dX11_seed_0 : decode cX11_seed 0 = .ok (.iload_n 1, 1) := dec_at dlX11_seed_0_ok 0 rfl
theorem dX11_seed_1 : decode cX11_seed 1 = .ok (.ifCond .ge 6, 3) := dec_at dlX11_seed_0_ok 1 rfl
theorem dX11_seed_4 : decode cX11_seed 4 = .ok (.ldc 111, 2) := dec_at dlX11_seed_0_ok 2 rfl
theorem dX11_seed_6 : decode cX11_seed 6 = .ok (.ireturn, 1) := dec_at dlX11_seed_0_ok 3 rfl
theorem dX11_seed_7 : decode cX11_seed 7 = .ok (.aload_n 0, 1) := dec_at dlX11_seed_0_ok 4 rfl
theorem dX11_seed_8 : decode cX11_seed 8 = .ok (.getfield 241, 3) := dec_at dlX11_seed_0_ok 5 rfl
theorem dX11_seed_11 : decode cX11_seed 11 = .ok (.istore_n 2, 1) := dec_at dlX11_seed_0_ok 6 rfl
theorem dX11_seed_12 : decode cX11_seed 12 = .ok (.aload_n 0, 1) := dec_at dlX11_seed_0_ok 7 rfl
theorem dX11_seed_13 : decode cX11_seed 13 = .ok (.iload_n 1, 1) := dec_at dlX11_seed_0_ok 8 rfl
theorem dX11_seed_14 : decode cX11_seed 14 = .ok (.putfield 241, 3) := dec_at dlX11_seed_0_ok 9 rfl
theorem dX11_seed_17 : decode cX11_seed 17 = .ok (.iload_n 2, 1) := dec_at dlX11_seed_0_ok 10 rfl
theorem dX11_seed_18 : decode cX11_seed 18 = .ok (.ireturn, 1) := dec_at dlX11_seed_0_ok 11 rfl
set_option maxRecDepth 20000 in
theorem ggX11_keep_X11_in : GoodIn wsX11_keep wsX11_in := goodIn_s _ [(10, 1)] rfl (by decide +kernel)
set_option maxRecDepth 20000 in
theorem gX11_keep_X11_in : GoodIn wsX11_keep (va_wsS RX11 102 yX11_in wsX11_in) := goodIn_app (goodIn_s _ [(7, 3)] rfl (by decide +kernel)) ggX11_keep_X11_in
noncomputable def dlX11_keep_0 : List (Nat × Instr × Nat) := [(0, .iload_n 1, 1), (1, .i2l, 1), (2, .lconst 0, 1), (3, .lconst 1, 1), (4, .invokestatic 102, 3), (7, .ifCond .ne 6, 3), (10, .ldc 188, 2), (12, .ireturn, 1), (13, .iconst 0, 1), (14, .istore_n 2, 1), (15, .iload_n 2, 1), (16, .bipush 34, 2), (18, .if_icmp .ge 26, 3), (21, .aload_n 0, 1), (22, .getfield 89, 3), (25, .bipush 35, 2), (27, .iload_n 1, 1), (28, .imul, 1), (29, .iload_n 2, 1), (30, .iadd, 1), (31, .aload_n 0, 1), (32, .getfield 28, 3), (35, .iload_n 2, 1), (36, .iaload, 1), (37, .iastore, 1), (38, .iinc 2 1, 3), (41, .goto (-26), 3), (44, .aload_n 0, 1), (45, .getfield 89, 3), (48, .bipush 35, 2), (50, .iload_n 1, 1)]
theorem dlX11_keep_0_ok : dlX11_keep_0.all (fun r => decide (decode cX11_keep r.1 = .ok r.2)) = true := by decide +kernel
theorem dX11_keep_0 : decode cX11_keep 0 = .ok (.iload_n 1, 1) := dec_at dlX11_keep_0_ok 0 rfl
theorem dX11_keep_1 : decode cX11_keep 1 = .ok (.i2l, 1) := dec_at dlX11_keep_0_ok 1 rfl
theorem dX11_keep_2 : decode cX11_keep 2 = .ok (.lconst 0, 1) := dec_at dlX11_keep_0_ok 2 rfl
theorem dX11_keep_3 : decode cX11_keep 3 = .ok (.lconst 1, 1) := dec_at dlX11_keep_0_ok 3 rfl
theorem dX11_keep_4 : decode cX11_keep 4 = .ok (.invokestatic 102, 3) := dec_at dlX11_keep_0_ok 4 rfl
theorem dX11_keep_7 : decode cX11_keep 7 = .ok (.ifCond .ne 6, 3) := dec_at dlX11_keep_0_ok 5 rfl
theorem dX11_keep_10 : decode cX11_keep 10 = .ok (.ldc 188, 2) := dec_at dlX11_keep_0_ok 6 rfl
theorem dX11_keep_12 : decode cX11_keep 12 = .ok (.ireturn, 1) := dec_at dlX11_keep_0_ok 7 rfl
theorem dX11_keep_13 : decode cX11_keep 13 = .ok (.iconst 0, 1) := dec_at dlX11_keep_0_ok 8 rfl
theorem dX11_keep_14 : decode cX11_keep 14 = .ok (.istore_n 2, 1) := dec_at dlX11_keep_0_ok 9 rfl
theorem dX11_keep_15 : decode cX11_keep 15 = .ok (.iload_n 2, 1) := dec_at dlX11_keep_0_ok 10 rfl
theorem dX11_keep_16 : decode cX11_keep 16 = .ok (.bipush 34, 2) := dec_at dlX11_keep_0_ok 11 rfl
theorem dX11_keep_18 : decode cX11_keep 18 = .ok (.if_icmp .ge 26, 3) := dec_at dlX11_keep_0_ok 12 rfl
theorem dX11_keep_21 : decode cX11_keep 21 = .ok (.aload_n 0, 1) := dec_at dlX11_keep_0_ok 13 rfl
theorem dX11_keep_22 : decode cX11_keep 22 = .ok (.getfield 89, 3) := dec_at dlX11_keep_0_ok 14 rfl
theorem dX11_keep_25 : decode cX11_keep 25 = .ok (.bipush 35, 2) := dec_at dlX11_keep_0_ok 15 rfl
theorem dX11_keep_27 : decode cX11_keep 27 = .ok (.iload_n 1, 1) := dec_at dlX11_keep_0_ok 16 rfl
theorem dX11_keep_28 : decode cX11_keep 28 = .ok (.imul, 1) := dec_at dlX11_keep_0_ok 17 rfl
theorem dX11_keep_29 : decode cX11_keep 29 = .ok (.iload_n 2, 1) := dec_at dlX11_keep_0_ok 18 rfl
theorem dX11_keep_30 : decode cX11_keep 30 = .ok (.iadd, 1) := dec_at dlX11_keep_0_ok 19 rfl
theorem dX11_keep_31 : decode cX11_keep 31 = .ok (.aload_n 0, 1) := dec_at dlX11_keep_0_ok 20 rfl
theorem dX11_keep_32 : decode cX11_keep 32 = .ok (.getfield 28, 3) := dec_at dlX11_keep_0_ok 21 rfl
theorem dX11_keep_35 : decode cX11_keep 35 = .ok (.iload_n 2, 1) := dec_at dlX11_keep_0_ok 22 rfl
theorem dX11_keep_36 : decode cX11_keep 36 = .ok (.iaload, 1) := dec_at dlX11_keep_0_ok 23 rfl
theorem dX11_keep_37 : decode cX11_keep 37 = .ok (.iastore, 1) := dec_at dlX11_keep_0_ok 24 rfl
theorem dX11_keep_38 : decode cX11_keep 38 = .ok (.iinc 2 1, 3) := dec_at dlX11_keep_0_ok 25 rfl
theorem dX11_keep_41 : decode cX11_keep 41 = .ok (.goto (-26), 3) := dec_at dlX11_keep_0_ok 26 rfl
theorem dX11_keep_44 : decode cX11_keep 44 = .ok (.aload_n 0, 1) := dec_at dlX11_keep_0_ok 27 rfl
theorem dX11_keep_45 : decode cX11_keep 45 = .ok (.getfield 89, 3) := dec_at dlX11_keep_0_ok 28 rfl
theorem dX11_keep_48 : decode cX11_keep 48 = .ok (.bipush 35, 2) := dec_at dlX11_keep_0_ok 29 rfl
theorem dX11_keep_50 : decode cX11_keep 50 = .ok (.iload_n 1, 1) := dec_at dlX11_keep_0_ok 30 rfl
noncomputable def dlX11_keep_51 : List (Nat × Instr × Nat) := [(51, .imul, 1), (52, .bipush 34, 2), (54, .iadd, 1), (55, .aload_n 0, 1), (56, .getfield 241, 3), (59, .iastore, 1), (60, .aload_n 0, 1), (61, .getfield 92, 3), (64, .iload_n 1, 1), (65, .iconst 1, 1), (66, .bastore, 1), (67, .aload_n 0, 1), (68, .iconst 0, 1), (69, .putfield 174, 3), (72, .iconst 1, 1), (73, .ireturn, 1)]
theorem dlX11_keep_51_ok : dlX11_keep_51.all (fun r => decide (decode cX11_keep r.1 = .ok r.2)) = true := by decide +kernel
theorem dX11_keep_51 : decode cX11_keep 51 = .ok (.imul, 1) := dec_at dlX11_keep_51_ok 0 rfl
theorem dX11_keep_52 : decode cX11_keep 52 = .ok (.bipush 34, 2) := dec_at dlX11_keep_51_ok 1 rfl
theorem dX11_keep_54 : decode cX11_keep 54 = .ok (.iadd, 1) := dec_at dlX11_keep_51_ok 2 rfl
theorem dX11_keep_55 : decode cX11_keep 55 = .ok (.aload_n 0, 1) := dec_at dlX11_keep_51_ok 3 rfl
theorem dX11_keep_56 : decode cX11_keep 56 = .ok (.getfield 241, 3) := dec_at dlX11_keep_51_ok 4 rfl
theorem dX11_keep_59 : decode cX11_keep 59 = .ok (.iastore, 1) := dec_at dlX11_keep_51_ok 5 rfl
theorem dX11_keep_60 : decode cX11_keep 60 = .ok (.aload_n 0, 1) := dec_at dlX11_keep_51_ok 6 rfl
theorem dX11_keep_61 : decode cX11_keep 61 = .ok (.getfield 92, 3) := dec_at dlX11_keep_51_ok 7 rfl
theorem dX11_keep_64 : decode cX11_keep 64 = .ok (.iload_n 1, 1) := dec_at dlX11_keep_51_ok 8 rfl
theorem dX11_keep_65 : decode cX11_keep 65 = .ok (.iconst 1, 1) := dec_at dlX11_keep_51_ok 9 rfl
theorem dX11_keep_66 : decode cX11_keep 66 = .ok (.bastore, 1) := dec_at dlX11_keep_51_ok 10 rfl
theorem dX11_keep_67 : decode cX11_keep 67 = .ok (.aload_n 0, 1) := dec_at dlX11_keep_51_ok 11 rfl
theorem dX11_keep_68 : decode cX11_keep 68 = .ok (.iconst 0, 1) := dec_at dlX11_keep_51_ok 12 rfl
theorem dX11_keep_69 : decode cX11_keep 69 = .ok (.putfield 174, 3) := dec_at dlX11_keep_51_ok 13 rfl
theorem dX11_keep_72 : decode cX11_keep 72 = .ok (.iconst 1, 1) := dec_at dlX11_keep_51_ok 14 rfl
theorem dX11_keep_73 : decode cX11_keep 73 = .ok (.ireturn, 1) := dec_at dlX11_keep_51_ok 15 rfl
set_option maxRecDepth 20000 in
theorem ggX11_goBack_X11_in : GoodIn wsX11_goBack wsX11_in := goodIn_s _ [(11, 1)] rfl (by decide +kernel)
set_option maxRecDepth 20000 in
theorem gX11_goBack_X11_in : GoodIn wsX11_goBack (va_wsS RX11 102 yX11_in wsX11_in) := goodIn_app (goodIn_s _ [(8, 3)] rfl (by decide +kernel)) ggX11_goBack_X11_in
noncomputable def dlX11_goBack_0 : List (Nat × Instr × Nat) := [(0, .iload_n 1, 1), (1, .i2l, 1), (2, .lconst 0, 1), (3, .lconst 1, 1), (4, .invokestatic 102, 3), (7, .ifCond .ne 6, 3), (10, .ldc 188, 2), (12, .ireturn, 1), (13, .aload_n 0, 1), (14, .getfield 92, 3), (17, .iload_n 1, 1), (18, .baload, 1), (19, .ifCond .ne 6, 3), (22, .ldc 237, 2), (24, .ireturn, 1), (25, .iconst 0, 1), (26, .istore_n 2, 1), (27, .iload_n 2, 1), (28, .bipush 34, 2), (30, .if_icmp .ge 26, 3), (33, .aload_n 0, 1), (34, .getfield 28, 3), (37, .iload_n 2, 1), (38, .aload_n 0, 1), (39, .getfield 89, 3), (42, .bipush 35, 2), (44, .iload_n 1, 1), (45, .imul, 1), (46, .iload_n 2, 1), (47, .iadd, 1), (48, .iaload, 1)]
theorem dlX11_goBack_0_ok : dlX11_goBack_0.all (fun r => decide (decode cX11_goBack r.1 = .ok r.2)) = true := by decide +kernel
theorem dX11_goBack_0 : decode cX11_goBack 0 = .ok (.iload_n 1, 1) := dec_at dlX11_goBack_0_ok 0 rfl
theorem dX11_goBack_1 : decode cX11_goBack 1 = .ok (.i2l, 1) := dec_at dlX11_goBack_0_ok 1 rfl
theorem dX11_goBack_2 : decode cX11_goBack 2 = .ok (.lconst 0, 1) := dec_at dlX11_goBack_0_ok 2 rfl
theorem dX11_goBack_3 : decode cX11_goBack 3 = .ok (.lconst 1, 1) := dec_at dlX11_goBack_0_ok 3 rfl
theorem dX11_goBack_4 : decode cX11_goBack 4 = .ok (.invokestatic 102, 3) := dec_at dlX11_goBack_0_ok 4 rfl
theorem dX11_goBack_7 : decode cX11_goBack 7 = .ok (.ifCond .ne 6, 3) := dec_at dlX11_goBack_0_ok 5 rfl
theorem dX11_goBack_10 : decode cX11_goBack 10 = .ok (.ldc 188, 2) := dec_at dlX11_goBack_0_ok 6 rfl
theorem dX11_goBack_12 : decode cX11_goBack 12 = .ok (.ireturn, 1) := dec_at dlX11_goBack_0_ok 7 rfl
theorem dX11_goBack_13 : decode cX11_goBack 13 = .ok (.aload_n 0, 1) := dec_at dlX11_goBack_0_ok 8 rfl
theorem dX11_goBack_14 : decode cX11_goBack 14 = .ok (.getfield 92, 3) := dec_at dlX11_goBack_0_ok 9 rfl
theorem dX11_goBack_17 : decode cX11_goBack 17 = .ok (.iload_n 1, 1) := dec_at dlX11_goBack_0_ok 10 rfl
theorem dX11_goBack_18 : decode cX11_goBack 18 = .ok (.baload, 1) := dec_at dlX11_goBack_0_ok 11 rfl
theorem dX11_goBack_19 : decode cX11_goBack 19 = .ok (.ifCond .ne 6, 3) := dec_at dlX11_goBack_0_ok 12 rfl
theorem dX11_goBack_22 : decode cX11_goBack 22 = .ok (.ldc 237, 2) := dec_at dlX11_goBack_0_ok 13 rfl
theorem dX11_goBack_24 : decode cX11_goBack 24 = .ok (.ireturn, 1) := dec_at dlX11_goBack_0_ok 14 rfl
theorem dX11_goBack_25 : decode cX11_goBack 25 = .ok (.iconst 0, 1) := dec_at dlX11_goBack_0_ok 15 rfl
theorem dX11_goBack_26 : decode cX11_goBack 26 = .ok (.istore_n 2, 1) := dec_at dlX11_goBack_0_ok 16 rfl
theorem dX11_goBack_27 : decode cX11_goBack 27 = .ok (.iload_n 2, 1) := dec_at dlX11_goBack_0_ok 17 rfl
theorem dX11_goBack_28 : decode cX11_goBack 28 = .ok (.bipush 34, 2) := dec_at dlX11_goBack_0_ok 18 rfl
theorem dX11_goBack_30 : decode cX11_goBack 30 = .ok (.if_icmp .ge 26, 3) := dec_at dlX11_goBack_0_ok 19 rfl
theorem dX11_goBack_33 : decode cX11_goBack 33 = .ok (.aload_n 0, 1) := dec_at dlX11_goBack_0_ok 20 rfl
theorem dX11_goBack_34 : decode cX11_goBack 34 = .ok (.getfield 28, 3) := dec_at dlX11_goBack_0_ok 21 rfl
theorem dX11_goBack_37 : decode cX11_goBack 37 = .ok (.iload_n 2, 1) := dec_at dlX11_goBack_0_ok 22 rfl
theorem dX11_goBack_38 : decode cX11_goBack 38 = .ok (.aload_n 0, 1) := dec_at dlX11_goBack_0_ok 23 rfl
theorem dX11_goBack_39 : decode cX11_goBack 39 = .ok (.getfield 89, 3) := dec_at dlX11_goBack_0_ok 24 rfl
theorem dX11_goBack_42 : decode cX11_goBack 42 = .ok (.bipush 35, 2) := dec_at dlX11_goBack_0_ok 25 rfl
theorem dX11_goBack_44 : decode cX11_goBack 44 = .ok (.iload_n 1, 1) := dec_at dlX11_goBack_0_ok 26 rfl
theorem dX11_goBack_45 : decode cX11_goBack 45 = .ok (.imul, 1) := dec_at dlX11_goBack_0_ok 27 rfl
theorem dX11_goBack_46 : decode cX11_goBack 46 = .ok (.iload_n 2, 1) := dec_at dlX11_goBack_0_ok 28 rfl
theorem dX11_goBack_47 : decode cX11_goBack 47 = .ok (.iadd, 1) := dec_at dlX11_goBack_0_ok 29 rfl
theorem dX11_goBack_48 : decode cX11_goBack 48 = .ok (.iaload, 1) := dec_at dlX11_goBack_0_ok 30 rfl
noncomputable def dlX11_goBack_49 : List (Nat × Instr × Nat) := [(49, .iastore, 1), (50, .iinc 2 1, 3), (53, .goto (-26), 3), (56, .aload_n 0, 1), (57, .aload_n 0, 1), (58, .getfield 89, 3), (61, .bipush 35, 2), (63, .iload_n 1, 1), (64, .imul, 1), (65, .bipush 34, 2), (67, .iadd, 1), (68, .iaload, 1), (69, .putfield 241, 3), (72, .aload_n 0, 1), (73, .iconst 0, 1), (74, .putfield 174, 3), (77, .iconst 1, 1), (78, .ireturn, 1)]
theorem dlX11_goBack_49_ok : dlX11_goBack_49.all (fun r => decide (decode cX11_goBack r.1 = .ok r.2)) = true := by decide +kernel
theorem dX11_goBack_49 : decode cX11_goBack 49 = .ok (.iastore, 1) := dec_at dlX11_goBack_49_ok 0 rfl
theorem dX11_goBack_50 : decode cX11_goBack 50 = .ok (.iinc 2 1, 3) := dec_at dlX11_goBack_49_ok 1 rfl
theorem dX11_goBack_53 : decode cX11_goBack 53 = .ok (.goto (-26), 3) := dec_at dlX11_goBack_49_ok 2 rfl
theorem dX11_goBack_56 : decode cX11_goBack 56 = .ok (.aload_n 0, 1) := dec_at dlX11_goBack_49_ok 3 rfl
theorem dX11_goBack_57 : decode cX11_goBack 57 = .ok (.aload_n 0, 1) := dec_at dlX11_goBack_49_ok 4 rfl
theorem dX11_goBack_58 : decode cX11_goBack 58 = .ok (.getfield 89, 3) := dec_at dlX11_goBack_49_ok 5 rfl
theorem dX11_goBack_61 : decode cX11_goBack 61 = .ok (.bipush 35, 2) := dec_at dlX11_goBack_49_ok 6 rfl
theorem dX11_goBack_63 : decode cX11_goBack 63 = .ok (.iload_n 1, 1) := dec_at dlX11_goBack_49_ok 7 rfl
theorem dX11_goBack_64 : decode cX11_goBack 64 = .ok (.imul, 1) := dec_at dlX11_goBack_49_ok 8 rfl
theorem dX11_goBack_65 : decode cX11_goBack 65 = .ok (.bipush 34, 2) := dec_at dlX11_goBack_49_ok 9 rfl
theorem dX11_goBack_67 : decode cX11_goBack 67 = .ok (.iadd, 1) := dec_at dlX11_goBack_49_ok 10 rfl
theorem dX11_goBack_68 : decode cX11_goBack 68 = .ok (.iaload, 1) := dec_at dlX11_goBack_49_ok 11 rfl
theorem dX11_goBack_69 : decode cX11_goBack 69 = .ok (.putfield 241, 3) := dec_at dlX11_goBack_49_ok 12 rfl
theorem dX11_goBack_72 : decode cX11_goBack 72 = .ok (.aload_n 0, 1) := dec_at dlX11_goBack_49_ok 13 rfl
theorem dX11_goBack_73 : decode cX11_goBack 73 = .ok (.iconst 0, 1) := dec_at dlX11_goBack_49_ok 14 rfl
theorem dX11_goBack_74 : decode cX11_goBack 74 = .ok (.putfield 174, 3) := dec_at dlX11_goBack_49_ok 15 rfl
theorem dX11_goBack_77 : decode cX11_goBack 77 = .ok (.iconst 1, 1) := dec_at dlX11_goBack_49_ok 16 rfl
theorem dX11_goBack_78 : decode cX11_goBack 78 = .ok (.ireturn, 1) := dec_at dlX11_goBack_49_ok 17 rfl
noncomputable def dlJ6_bitCount_0f7a4_0 : List (Nat × Instr × Nat) := [(0, .iload_n 0, 1), (1, .iload_n 0, 1), (2, .iconst 1, 1), (3, .iushr, 1), (4, .ldc_w 265, 3), (7, .iand, 1), (8, .isub, 1), (9, .istore_n 0, 1), (10, .iload_n 0, 1), (11, .ldc_w 266, 3), (14, .iand, 1), (15, .iload_n 0, 1), (16, .iconst 2, 1), (17, .iushr, 1), (18, .ldc_w 266, 3), (21, .iand, 1), (22, .iadd, 1), (23, .istore_n 0, 1), (24, .iload_n 0, 1), (25, .iload_n 0, 1), (26, .iconst 4, 1), (27, .iushr, 1), (28, .iadd, 1), (29, .ldc_w 267, 3), (32, .iand, 1), (33, .istore_n 0, 1), (34, .iload_n 0, 1), (35, .iload_n 0, 1), (36, .bipush 8, 2), (38, .iushr, 1), (39, .iadd, 1)]
theorem dlJ6_bitCount_0f7a4_0_ok : dlJ6_bitCount_0f7a4_0.all (fun r => decide (decode cJ6_bitCount_0f7a4 r.1 = .ok r.2)) = true := by decide +kernel
theorem dJ6_bitCount_0f7a4_0 : decode cJ6_bitCount_0f7a4 0 = .ok (.iload_n 0, 1) := dec_at dlJ6_bitCount_0f7a4_0_ok 0 rfl
theorem dJ6_bitCount_0f7a4_1 : decode cJ6_bitCount_0f7a4 1 = .ok (.iload_n 0, 1) := dec_at dlJ6_bitCount_0f7a4_0_ok 1 rfl
theorem dJ6_bitCount_0f7a4_2 : decode cJ6_bitCount_0f7a4 2 = .ok (.iconst 1, 1) := dec_at dlJ6_bitCount_0f7a4_0_ok 2 rfl
theorem dJ6_bitCount_0f7a4_3 : decode cJ6_bitCount_0f7a4 3 = .ok (.iushr, 1) := dec_at dlJ6_bitCount_0f7a4_0_ok 3 rfl
theorem dJ6_bitCount_0f7a4_4 : decode cJ6_bitCount_0f7a4 4 = .ok (.ldc_w 265, 3) := dec_at dlJ6_bitCount_0f7a4_0_ok 4 rfl
theorem dJ6_bitCount_0f7a4_7 : decode cJ6_bitCount_0f7a4 7 = .ok (.iand, 1) := dec_at dlJ6_bitCount_0f7a4_0_ok 5 rfl
theorem dJ6_bitCount_0f7a4_8 : decode cJ6_bitCount_0f7a4 8 = .ok (.isub, 1) := dec_at dlJ6_bitCount_0f7a4_0_ok 6 rfl
theorem dJ6_bitCount_0f7a4_9 : decode cJ6_bitCount_0f7a4 9 = .ok (.istore_n 0, 1) := dec_at dlJ6_bitCount_0f7a4_0_ok 7 rfl
theorem dJ6_bitCount_0f7a4_10 : decode cJ6_bitCount_0f7a4 10 = .ok (.iload_n 0, 1) := dec_at dlJ6_bitCount_0f7a4_0_ok 8 rfl
theorem dJ6_bitCount_0f7a4_11 : decode cJ6_bitCount_0f7a4 11 = .ok (.ldc_w 266, 3) := dec_at dlJ6_bitCount_0f7a4_0_ok 9 rfl
theorem dJ6_bitCount_0f7a4_14 : decode cJ6_bitCount_0f7a4 14 = .ok (.iand, 1) := dec_at dlJ6_bitCount_0f7a4_0_ok 10 rfl
theorem dJ6_bitCount_0f7a4_15 : decode cJ6_bitCount_0f7a4 15 = .ok (.iload_n 0, 1) := dec_at dlJ6_bitCount_0f7a4_0_ok 11 rfl
theorem dJ6_bitCount_0f7a4_16 : decode cJ6_bitCount_0f7a4 16 = .ok (.iconst 2, 1) := dec_at dlJ6_bitCount_0f7a4_0_ok 12 rfl
theorem dJ6_bitCount_0f7a4_17 : decode cJ6_bitCount_0f7a4 17 = .ok (.iushr, 1) := dec_at dlJ6_bitCount_0f7a4_0_ok 13 rfl
theorem dJ6_bitCount_0f7a4_18 : decode cJ6_bitCount_0f7a4 18 = .ok (.ldc_w 266, 3) := dec_at dlJ6_bitCount_0f7a4_0_ok 14 rfl
theorem dJ6_bitCount_0f7a4_21 : decode cJ6_bitCount_0f7a4 21 = .ok (.iand, 1) := dec_at dlJ6_bitCount_0f7a4_0_ok 15 rfl
theorem dJ6_bitCount_0f7a4_22 : decode cJ6_bitCount_0f7a4 22 = .ok (.iadd, 1) := dec_at dlJ6_bitCount_0f7a4_0_ok 16 rfl
theorem dJ6_bitCount_0f7a4_23 : decode cJ6_bitCount_0f7a4 23 = .ok (.istore_n 0, 1) := dec_at dlJ6_bitCount_0f7a4_0_ok 17 rfl
theorem dJ6_bitCount_0f7a4_24 : decode cJ6_bitCount_0f7a4 24 = .ok (.iload_n 0, 1) := dec_at dlJ6_bitCount_0f7a4_0_ok 18 rfl
theorem dJ6_bitCount_0f7a4_25 : decode cJ6_bitCount_0f7a4 25 = .ok (.iload_n 0, 1) := dec_at dlJ6_bitCount_0f7a4_0_ok 19 rfl
theorem dJ6_bitCount_0f7a4_26 : decode cJ6_bitCount_0f7a4 26 = .ok (.iconst 4, 1) := dec_at dlJ6_bitCount_0f7a4_0_ok 20 rfl
theorem dJ6_bitCount_0f7a4_27 : decode cJ6_bitCount_0f7a4 27 = .ok (.iushr, 1) := dec_at dlJ6_bitCount_0f7a4_0_ok 21 rfl
theorem dJ6_bitCount_0f7a4_28 : decode cJ6_bitCount_0f7a4 28 = .ok (.iadd, 1) := dec_at dlJ6_bitCount_0f7a4_0_ok 22 rfl
theorem dJ6_bitCount_0f7a4_29 : decode cJ6_bitCount_0f7a4 29 = .ok (.ldc_w 267, 3) := dec_at dlJ6_bitCount_0f7a4_0_ok 23 rfl
theorem dJ6_bitCount_0f7a4_32 : decode cJ6_bitCount_0f7a4 32 = .ok (.iand, 1) := dec_at dlJ6_bitCount_0f7a4_0_ok 24 rfl
theorem dJ6_bitCount_0f7a4_33 : decode cJ6_bitCount_0f7a4 33 = .ok (.istore_n 0, 1) := dec_at dlJ6_bitCount_0f7a4_0_ok 25 rfl
theorem dJ6_bitCount_0f7a4_34 : decode cJ6_bitCount_0f7a4 34 = .ok (.iload_n 0, 1) := dec_at dlJ6_bitCount_0f7a4_0_ok 26 rfl
theorem dJ6_bitCount_0f7a4_35 : decode cJ6_bitCount_0f7a4 35 = .ok (.iload_n 0, 1) := dec_at dlJ6_bitCount_0f7a4_0_ok 27 rfl
theorem dJ6_bitCount_0f7a4_36 : decode cJ6_bitCount_0f7a4 36 = .ok (.bipush 8, 2) := dec_at dlJ6_bitCount_0f7a4_0_ok 28 rfl
theorem dJ6_bitCount_0f7a4_38 : decode cJ6_bitCount_0f7a4 38 = .ok (.iushr, 1) := dec_at dlJ6_bitCount_0f7a4_0_ok 29 rfl
theorem dJ6_bitCount_0f7a4_39 : decode cJ6_bitCount_0f7a4 39 = .ok (.iadd, 1) := dec_at dlJ6_bitCount_0f7a4_0_ok 30 rfl
noncomputable def dlJ6_bitCount_0f7a4_40 : List (Nat × Instr × Nat) := [(40, .istore_n 0, 1), (41, .iload_n 0, 1), (42, .iload_n 0, 1), (43, .bipush 16, 2), (45, .iushr, 1), (46, .iadd, 1), (47, .istore_n 0, 1), (48, .iload_n 0, 1), (49, .bipush 63, 2), (51, .iand, 1), (52, .ireturn, 1)]
theorem dlJ6_bitCount_0f7a4_40_ok : dlJ6_bitCount_0f7a4_40.all (fun r => decide (decode cJ6_bitCount_0f7a4 r.1 = .ok r.2)) = true := by decide +kernel
theorem dJ6_bitCount_0f7a4_40 : decode cJ6_bitCount_0f7a4 40 = .ok (.istore_n 0, 1) := dec_at dlJ6_bitCount_0f7a4_40_ok 0 rfl
theorem dJ6_bitCount_0f7a4_41 : decode cJ6_bitCount_0f7a4 41 = .ok (.iload_n 0, 1) := dec_at dlJ6_bitCount_0f7a4_40_ok 1 rfl
theorem dJ6_bitCount_0f7a4_42 : decode cJ6_bitCount_0f7a4 42 = .ok (.iload_n 0, 1) := dec_at dlJ6_bitCount_0f7a4_40_ok 2 rfl
theorem dJ6_bitCount_0f7a4_43 : decode cJ6_bitCount_0f7a4 43 = .ok (.bipush 16, 2) := dec_at dlJ6_bitCount_0f7a4_40_ok 3 rfl
theorem dJ6_bitCount_0f7a4_45 : decode cJ6_bitCount_0f7a4 45 = .ok (.iushr, 1) := dec_at dlJ6_bitCount_0f7a4_40_ok 4 rfl
theorem dJ6_bitCount_0f7a4_46 : decode cJ6_bitCount_0f7a4 46 = .ok (.iadd, 1) := dec_at dlJ6_bitCount_0f7a4_40_ok 5 rfl
theorem dJ6_bitCount_0f7a4_47 : decode cJ6_bitCount_0f7a4 47 = .ok (.istore_n 0, 1) := dec_at dlJ6_bitCount_0f7a4_40_ok 6 rfl
theorem dJ6_bitCount_0f7a4_48 : decode cJ6_bitCount_0f7a4 48 = .ok (.iload_n 0, 1) := dec_at dlJ6_bitCount_0f7a4_40_ok 7 rfl
theorem dJ6_bitCount_0f7a4_49 : decode cJ6_bitCount_0f7a4 49 = .ok (.bipush 63, 2) := dec_at dlJ6_bitCount_0f7a4_40_ok 8 rfl
theorem dJ6_bitCount_0f7a4_51 : decode cJ6_bitCount_0f7a4 51 = .ok (.iand, 1) := dec_at dlJ6_bitCount_0f7a4_40_ok 9 rfl
theorem dJ6_bitCount_0f7a4_52 : decode cJ6_bitCount_0f7a4 52 = .ok (.ireturn, 1) := dec_at dlJ6_bitCount_0f7a4_40_ok 10 rfl
noncomputable def dlJ9_abs_0f7a4_0 : List (Nat × Instr × Nat) := [(0, .iload_n 0, 1), (1, .ifCond .ge 8, 3), (4, .iload_n 0, 1), (5, .ineg, 1), (6, .goto 4, 3), (9, .iload_n 0, 1), (10, .ireturn, 1)]
theorem dlJ9_abs_0f7a4_0_ok : dlJ9_abs_0f7a4_0.all (fun r => decide (decode cJ9_abs_0f7a4 r.1 = .ok r.2)) = true := by decide +kernel
theorem dJ9_abs_0f7a4_0 : decode cJ9_abs_0f7a4 0 = .ok (.iload_n 0, 1) := dec_at dlJ9_abs_0f7a4_0_ok 0 rfl
theorem dJ9_abs_0f7a4_1 : decode cJ9_abs_0f7a4 1 = .ok (.ifCond .ge 8, 3) := dec_at dlJ9_abs_0f7a4_0_ok 1 rfl
theorem dJ9_abs_0f7a4_4 : decode cJ9_abs_0f7a4 4 = .ok (.iload_n 0, 1) := dec_at dlJ9_abs_0f7a4_0_ok 2 rfl
theorem dJ9_abs_0f7a4_5 : decode cJ9_abs_0f7a4 5 = .ok (.ineg, 1) := dec_at dlJ9_abs_0f7a4_0_ok 3 rfl
theorem dJ9_abs_0f7a4_6 : decode cJ9_abs_0f7a4 6 = .ok (.goto 4, 3) := dec_at dlJ9_abs_0f7a4_0_ok 4 rfl
theorem dJ9_abs_0f7a4_9 : decode cJ9_abs_0f7a4 9 = .ok (.iload_n 0, 1) := dec_at dlJ9_abs_0f7a4_0_ok 5 rfl
theorem dJ9_abs_0f7a4_10 : decode cJ9_abs_0f7a4 10 = .ok (.ireturn, 1) := dec_at dlJ9_abs_0f7a4_0_ok 6 rfl
noncomputable def dlJ9_max_7cf53_0 : List (Nat × Instr × Nat) := [(0, .iload_n 0, 1), (1, .iload_n 1, 1), (2, .if_icmp .lt 7, 3), (5, .iload_n 0, 1), (6, .goto 4, 3), (9, .iload_n 1, 1), (10, .ireturn, 1)]
theorem dlJ9_max_7cf53_0_ok : dlJ9_max_7cf53_0.all (fun r => decide (decode cJ9_max_7cf53 r.1 = .ok r.2)) = true := by decide +kernel
theorem dJ9_max_7cf53_0 : decode cJ9_max_7cf53 0 = .ok (.iload_n 0, 1) := dec_at dlJ9_max_7cf53_0_ok 0 rfl
theorem dJ9_max_7cf53_1 : decode cJ9_max_7cf53 1 = .ok (.iload_n 1, 1) := dec_at dlJ9_max_7cf53_0_ok 1 rfl
theorem dJ9_max_7cf53_2 : decode cJ9_max_7cf53 2 = .ok (.if_icmp .lt 7, 3) := dec_at dlJ9_max_7cf53_0_ok 2 rfl
theorem dJ9_max_7cf53_5 : decode cJ9_max_7cf53 5 = .ok (.iload_n 0, 1) := dec_at dlJ9_max_7cf53_0_ok 3 rfl
theorem dJ9_max_7cf53_6 : decode cJ9_max_7cf53 6 = .ok (.goto 4, 3) := dec_at dlJ9_max_7cf53_0_ok 4 rfl
theorem dJ9_max_7cf53_9 : decode cJ9_max_7cf53 9 = .ok (.iload_n 1, 1) := dec_at dlJ9_max_7cf53_0_ok 5 rfl
theorem dJ9_max_7cf53_10 : decode cJ9_max_7cf53 10 = .ok (.ireturn, 1) := dec_at dlJ9_max_7cf53_0_ok 6 rfl
noncomputable def dlJ9_min_7cf53_0 : List (Nat × Instr × Nat) := [(0, .iload_n 0, 1), (1, .iload_n 1, 1), (2, .if_icmp .gt 7, 3), (5, .iload_n 0, 1), (6, .goto 4, 3), (9, .iload_n 1, 1), (10, .ireturn, 1)]
theorem dlJ9_min_7cf53_0_ok : dlJ9_min_7cf53_0.all (fun r => decide (decode cJ9_min_7cf53 r.1 = .ok r.2)) = true := by decide +kernel
theorem dJ9_min_7cf53_0 : decode cJ9_min_7cf53 0 = .ok (.iload_n 0, 1) := dec_at dlJ9_min_7cf53_0_ok 0 rfl
theorem dJ9_min_7cf53_1 : decode cJ9_min_7cf53 1 = .ok (.iload_n 1, 1) := dec_at dlJ9_min_7cf53_0_ok 1 rfl
theorem dJ9_min_7cf53_2 : decode cJ9_min_7cf53 2 = .ok (.if_icmp .gt 7, 3) := dec_at dlJ9_min_7cf53_0_ok 2 rfl
theorem dJ9_min_7cf53_5 : decode cJ9_min_7cf53 5 = .ok (.iload_n 0, 1) := dec_at dlJ9_min_7cf53_0_ok 3 rfl
theorem dJ9_min_7cf53_6 : decode cJ9_min_7cf53 6 = .ok (.goto 4, 3) := dec_at dlJ9_min_7cf53_0_ok 4 rfl
theorem dJ9_min_7cf53_9 : decode cJ9_min_7cf53 9 = .ok (.iload_n 1, 1) := dec_at dlJ9_min_7cf53_0_ok 5 rfl
theorem dJ9_min_7cf53_10 : decode cJ9_min_7cf53 10 = .ok (.ireturn, 1) := dec_at dlJ9_min_7cf53_0_ok 6 rfl
abbrev vwCl : List vw_C := [(RX0, TX0, 3), (RX1, TX1, 8), (RX2, TX2, 5), (RX3, TX3, 3), (RX4, TX4, 3), (RX5, TX5, 13), (RX6, TX6, 7), (RX7, TX7, 7), (RX8, TX8, 6), (RX9, TX9, 3), (RX10, TX10, 14), (RX11, TX11, 46)]
