noncomputable def dlX10_init_10 : List (Nat × Instr × Nat) := [(10, .putfield 9, 3), (13, .aload_n 0, 1), (14, .iconst 0, 1), (15, .putfield 13, 3), (18, .aload_n 0, 1), (19, .iconst (-1), 1), (20, .putfield 17, 3), (23, .aload_n 0, 1), (24, .iconst 0, 1), (25, .putfield 20, 3), (28, .aload_n 0, 1), (29, .new 23, 3), (32, .dup, 1), (33, .invokespecial 25, 3), (36, .putfield 26, 3), (39, .aload_n 0, 1), (40, .new 30, 3), (43, .dup, 1), (44, .invokespecial 32, 3), (47, .putfield 33, 3), (50, .aload_n 0, 1), (51, .new 37, 3), (54, .dup, 1), (55, .aload_n 0, 1), (56, .getfield 26, 3), (59, .invokespecial 39, 3), (62, .putfield 42, 3), (65, .aload_n 0, 1), (66, .new 46, 3), (69, .dup, 1), (70, .aload_n 0, 1)]
theorem dlX10_init_10_ok : dlX10_init_10.all (fun r => decide (decode cX10_init r.1 = .ok r.2)) = true := by decide +kernel
theorem dX10_init_10 : decode cX10_init 10 = .ok (.putfield 9, 3) := dec_at dlX10_init_10_ok 0 rfl
theorem dX10_init_13 : decode cX10_init 13 = .ok (.aload_n 0, 1) := dec_at dlX10_init_10_ok 1 rfl
theorem dX10_init_14 : decode cX10_init 14 = .ok (.iconst 0, 1) := dec_at dlX10_init_10_ok 2 rfl
theorem dX10_init_15 : decode cX10_init 15 = .ok (.putfield 13, 3) := dec_at dlX10_init_10_ok 3 rfl
theorem dX10_init_18 : decode cX10_init 18 = .ok (.aload_n 0, 1) := dec_at dlX10_init_10_ok 4 rfl
theorem dX10_init_19 : decode cX10_init 19 = .ok (.iconst (-1), 1) := dec_at dlX10_init_10_ok 5 rfl
theorem dX10_init_20 : decode cX10_init 20 = .ok (.putfield 17, 3) := dec_at dlX10_init_10_ok 6 rfl
theorem dX10_init_23 : decode cX10_init 23 = .ok (.aload_n 0, 1) := dec_at dlX10_init_10_ok 7 rfl
theorem dX10_init_24 : decode cX10_init 24 = .ok (.iconst 0, 1) := dec_at dlX10_init_10_ok 8 rfl
theorem dX10_init_25 : decode cX10_init 25 = .ok (.putfield 20, 3) := dec_at dlX10_init_10_ok 9 rfl
theorem dX10_init_28 : decode cX10_init 28 = .ok (.aload_n 0, 1) := dec_at dlX10_init_10_ok 10 rfl
theorem dX10_init_29 : decode cX10_init 29 = .ok (.new 23, 3) := dec_at dlX10_init_10_ok 11 rfl
theorem dX10_init_32 : decode cX10_init 32 = .ok (.dup, 1) := dec_at dlX10_init_10_ok 12 rfl
theorem dX10_init_33 : decode cX10_init 33 = .ok (.invokespecial 25, 3) := dec_at dlX10_init_10_ok 13 rfl
theorem dX10_init_36 : decode cX10_init 36 = .ok (.putfield 26, 3) := dec_at dlX10_init_10_ok 14 rfl
theorem dX10_init_39 : decode cX10_init 39 = .ok (.aload_n 0, 1) := dec_at dlX10_init_10_ok 15 rfl
theorem dX10_init_40 : decode cX10_init 40 = .ok (.new 30, 3) := dec_at dlX10_init_10_ok 16 rfl
theorem dX10_init_43 : decode cX10_init 43 = .ok (.dup, 1) := dec_at dlX10_init_10_ok 17 rfl
theorem dX10_init_44 : decode cX10_init 44 = .ok (.invokespecial 32, 3) := dec_at dlX10_init_10_ok 18 rfl
theorem dX10_init_47 : decode cX10_init 47 = .ok (.putfield 33, 3) := dec_at dlX10_init_10_ok 19 rfl
theorem dX10_init_50 : decode cX10_init 50 = .ok (.aload_n 0, 1) := dec_at dlX10_init_10_ok 20 rfl
theorem dX10_init_51 : decode cX10_init 51 = .ok (.new 37, 3) := dec_at dlX10_init_10_ok 21 rfl
theorem dX10_init_54 : decode cX10_init 54 = .ok (.dup, 1) := dec_at dlX10_init_10_ok 22 rfl
theorem dX10_init_55 : decode cX10_init 55 = .ok (.aload_n 0, 1) := dec_at dlX10_init_10_ok 23 rfl
theorem dX10_init_56 : decode cX10_init 56 = .ok (.getfield 26, 3) := dec_at dlX10_init_10_ok 24 rfl
theorem dX10_init_59 : decode cX10_init 59 = .ok (.invokespecial 39, 3) := dec_at dlX10_init_10_ok 25 rfl
theorem dX10_init_62 : decode cX10_init 62 = .ok (.putfield 42, 3) := dec_at dlX10_init_10_ok 26 rfl
theorem dX10_init_65 : decode cX10_init 65 = .ok (.aload_n 0, 1) := dec_at dlX10_init_10_ok 27 rfl
theorem dX10_init_66 : decode cX10_init 66 = .ok (.new 46, 3) := dec_at dlX10_init_10_ok 28 rfl
theorem dX10_init_69 : decode cX10_init 69 = .ok (.dup, 1) := dec_at dlX10_init_10_ok 29 rfl
theorem dX10_init_70 : decode cX10_init 70 = .ok (.aload_n 0, 1) := dec_at dlX10_init_10_ok 30 rfl
noncomputable def dlX10_init_71 : List (Nat × Instr × Nat) := [(71, .getfield 26, 3), (74, .invokespecial 48, 3), (77, .putfield 49, 3), (80, .aload_n 0, 1), (81, .new 53, 3), (84, .dup, 1), (85, .aload_n 0, 1), (86, .getfield 26, 3), (89, .invokespecial 55, 3), (92, .putfield 56, 3), (95, .aload_n 0, 1), (96, .new 60, 3), (99, .dup, 1), (100, .aload_n 0, 1), (101, .getfield 26, 3), (104, .aload_n 0, 1), (105, .getfield 42, 3), (108, .invokespecial 62, 3), (111, .putfield 65, 3), (114, .aload_n 0, 1), (115, .new 69, 3), (118, .dup, 1), (119, .aload_n 0, 1), (120, .getfield 26, 3), (123, .aload_n 0, 1), (124, .getfield 65, 3), (127, .invokespecial 71, 3), (130, .putfield 74, 3), (133, .aload_n 0, 1), (134, .new 78, 3), (137, .dup, 1)]
theorem dlX10_init_71_ok : dlX10_init_71.all (fun r => decide (decode cX10_init r.1 = .ok r.2)) = true := by decide +kernel
theorem dX10_init_71 : decode cX10_init 71 = .ok (.getfield 26, 3) := dec_at dlX10_init_71_ok 0 rfl
theorem dX10_init_74 : decode cX10_init 74 = .ok (.invokespecial 48, 3) := dec_at dlX10_init_71_ok 1 rfl
theorem dX10_init_77 : decode cX10_init 77 = .ok (.putfield 49, 3) := dec_at dlX10_init_71_ok 2 rfl
theorem dX10_init_80 : decode cX10_init 80 = .ok (.aload_n 0, 1) := dec_at dlX10_init_71_ok 3 rfl
theorem dX10_init_81 : decode cX10_init 81 = .ok (.new 53, 3) := dec_at dlX10_init_71_ok 4 rfl
theorem dX10_init_84 : decode cX10_init 84 = .ok (.dup, 1) := dec_at dlX10_init_71_ok 5 rfl
theorem dX10_init_85 : decode cX10_init 85 = .ok (.aload_n 0, 1) := dec_at dlX10_init_71_ok 6 rfl
theorem dX10_init_86 : decode cX10_init 86 = .ok (.getfield 26, 3) := dec_at dlX10_init_71_ok 7 rfl
theorem dX10_init_89 : decode cX10_init 89 = .ok (.invokespecial 55, 3) := dec_at dlX10_init_71_ok 8 rfl
theorem dX10_init_92 : decode cX10_init 92 = .ok (.putfield 56, 3) := dec_at dlX10_init_71_ok 9 rfl
theorem dX10_init_95 : decode cX10_init 95 = .ok (.aload_n 0, 1) := dec_at dlX10_init_71_ok 10 rfl
theorem dX10_init_96 : decode cX10_init 96 = .ok (.new 60, 3) := dec_at dlX10_init_71_ok 11 rfl
theorem dX10_init_99 : decode cX10_init 99 = .ok (.dup, 1) := dec_at dlX10_init_71_ok 12 rfl
theorem dX10_init_100 : decode cX10_init 100 = .ok (.aload_n 0, 1) := dec_at dlX10_init_71_ok 13 rfl
theorem dX10_init_101 : decode cX10_init 101 = .ok (.getfield 26, 3) := dec_at dlX10_init_71_ok 14 rfl
theorem dX10_init_104 : decode cX10_init 104 = .ok (.aload_n 0, 1) := dec_at dlX10_init_71_ok 15 rfl
theorem dX10_init_105 : decode cX10_init 105 = .ok (.getfield 42, 3) := dec_at dlX10_init_71_ok 16 rfl
theorem dX10_init_108 : decode cX10_init 108 = .ok (.invokespecial 62, 3) := dec_at dlX10_init_71_ok 17 rfl
theorem dX10_init_111 : decode cX10_init 111 = .ok (.putfield 65, 3) := dec_at dlX10_init_71_ok 18 rfl
theorem dX10_init_114 : decode cX10_init 114 = .ok (.aload_n 0, 1) := dec_at dlX10_init_71_ok 19 rfl
theorem dX10_init_115 : decode cX10_init 115 = .ok (.new 69, 3) := dec_at dlX10_init_71_ok 20 rfl
theorem dX10_init_118 : decode cX10_init 118 = .ok (.dup, 1) := dec_at dlX10_init_71_ok 21 rfl
theorem dX10_init_119 : decode cX10_init 119 = .ok (.aload_n 0, 1) := dec_at dlX10_init_71_ok 22 rfl
theorem dX10_init_120 : decode cX10_init 120 = .ok (.getfield 26, 3) := dec_at dlX10_init_71_ok 23 rfl
theorem dX10_init_123 : decode cX10_init 123 = .ok (.aload_n 0, 1) := dec_at dlX10_init_71_ok 24 rfl
theorem dX10_init_124 : decode cX10_init 124 = .ok (.getfield 65, 3) := dec_at dlX10_init_71_ok 25 rfl
theorem dX10_init_127 : decode cX10_init 127 = .ok (.invokespecial 71, 3) := dec_at dlX10_init_71_ok 26 rfl
theorem dX10_init_130 : decode cX10_init 130 = .ok (.putfield 74, 3) := dec_at dlX10_init_71_ok 27 rfl
theorem dX10_init_133 : decode cX10_init 133 = .ok (.aload_n 0, 1) := dec_at dlX10_init_71_ok 28 rfl
theorem dX10_init_134 : decode cX10_init 134 = .ok (.new 78, 3) := dec_at dlX10_init_71_ok 29 rfl
theorem dX10_init_137 : decode cX10_init 137 = .ok (.dup, 1) := dec_at dlX10_init_71_ok 30 rfl
noncomputable def dlX10_init_138 : List (Nat × Instr × Nat) := [(138, .aload_n 0, 1), (139, .getfield 26, 3), (142, .invokespecial 80, 3), (145, .putfield 81, 3), (148, .aload_n 0, 1), (149, .new 85, 3), (152, .dup, 1), (153, .aload_n 0, 1), (154, .getfield 26, 3), (157, .invokespecial 87, 3), (160, .putfield 88, 3), (163, .aload_n 0, 1), (164, .new 92, 3), (167, .dup, 1), (168, .invokespecial 94, 3), (171, .putfield 95, 3), (174, .return_, 1)]
theorem dlX10_init_138_ok : dlX10_init_138.all (fun r => decide (decode cX10_init r.1 = .ok r.2)) = true := by decide +kernel
theorem dX10_init_138 : decode cX10_init 138 = .ok (.aload_n 0, 1) := dec_at dlX10_init_138_ok 0 rfl
theorem dX10_init_139 : decode cX10_init 139 = .ok (.getfield 26, 3) := dec_at dlX10_init_138_ok 1 rfl
theorem dX10_init_142 : decode cX10_init 142 = .ok (.invokespecial 80, 3) := dec_at dlX10_init_138_ok 2 rfl
theorem dX10_init_145 : decode cX10_init 145 = .ok (.putfield 81, 3) := dec_at dlX10_init_138_ok 3 rfl
theorem dX10_init_148 : decode cX10_init 148 = .ok (.aload_n 0, 1) := dec_at dlX10_init_138_ok 4 rfl
theorem dX10_init_149 : decode cX10_init 149 = .ok (.new 85, 3) := dec_at dlX10_init_138_ok 5 rfl
theorem dX10_init_152 : decode cX10_init 152 = .ok (.dup, 1) := dec_at dlX10_init_138_ok 6 rfl
theorem dX10_init_153 : decode cX10_init 153 = .ok (.aload_n 0, 1) := dec_at dlX10_init_138_ok 7 rfl
theorem dX10_init_154 : decode cX10_init 154 = .ok (.getfield 26, 3) := dec_at dlX10_init_138_ok 8 rfl
theorem dX10_init_157 : decode cX10_init 157 = .ok (.invokespecial 87, 3) := dec_at dlX10_init_138_ok 9 rfl
theorem dX10_init_160 : decode cX10_init 160 = .ok (.putfield 88, 3) := dec_at dlX10_init_138_ok 10 rfl
theorem dX10_init_163 : decode cX10_init 163 = .ok (.aload_n 0, 1) := dec_at dlX10_init_138_ok 11 rfl
theorem dX10_init_164 : decode cX10_init 164 = .ok (.new 92, 3) := dec_at dlX10_init_138_ok 12 rfl
theorem dX10_init_167 : decode cX10_init 167 = .ok (.dup, 1) := dec_at dlX10_init_138_ok 13 rfl
theorem dX10_init_168 : decode cX10_init 168 = .ok (.invokespecial 94, 3) := dec_at dlX10_init_138_ok 14 rfl
theorem dX10_init_171 : decode cX10_init 171 = .ok (.putfield 95, 3) := dec_at dlX10_init_138_ok 15 rfl
theorem dX10_init_174 : decode cX10_init 174 = .ok (.return_, 1) := dec_at dlX10_init_138_ok 16 rfl
set_option maxRecDepth 20000 in
theorem ggX10_feed_X10_within : GoodIn wsX10_feed wsX10_within := goodIn_s _ [(8, 1)] rfl (by decide +kernel)
set_option maxRecDepth 20000 in
theorem gX10_feed_X10_within : GoodIn wsX10_feed (va_wsS RX10 99 yX10_within wsX10_within) := goodIn_app (goodIn_s _ [(5, 3)] rfl (by decide +kernel)) ggX10_feed_X10_within
noncomputable def dlX10_feed_0 : List (Nat × Instr × Nat) := [(0, .iload_n 1, 1), (1, .iconst 0, 1), (2, .sipush 255, 3), (5, .invokestatic 99, 3), (8, .ifCond .ne 6, 3), (11, .ldc 103, 2), (13, .ireturn, 1), (14, .aload_n 0, 1), (15, .getfield 13, 3), (18, .sipush 220, 3), (21, .if_icmp .lt 6, 3), (24, .ldc 104, 2), (26, .ireturn, 1), (27, .aload_n 0, 1), (28, .getfield 9, 3), (31, .aload_n 0, 1), (32, .getfield 13, 3), (35, .iload_n 1, 1), (36, .iastore, 1), (37, .aload_n 0, 1), (38, .dup, 1), (39, .getfield 13, 3), (42, .iconst 1, 1), (43, .iadd, 1), (44, .putfield 13, 3), (47, .aload_n 0, 1), (48, .getfield 13, 3), (51, .ireturn, 1)]
theorem dlX10_feed_0_ok : dlX10_feed_0.all (fun r => decide (decode cX10_feed r.1 = .ok r.2)) = true := by decide +kernel
theorem dX10_feed_0 : decode cX10_feed 0 = .ok (.iload_n 1, 1) := dec_at dlX10_feed_0_ok 0 rfl
theorem dX10_feed_1 : decode cX10_feed 1 = .ok (.iconst 0, 1) := dec_at dlX10_feed_0_ok 1 rfl
theorem dX10_feed_2 : decode cX10_feed 2 = .ok (.sipush 255, 3) := dec_at dlX10_feed_0_ok 2 rfl
theorem dX10_feed_5 : decode cX10_feed 5 = .ok (.invokestatic 99, 3) := dec_at dlX10_feed_0_ok 3 rfl
theorem dX10_feed_8 : decode cX10_feed 8 = .ok (.ifCond .ne 6, 3) := dec_at dlX10_feed_0_ok 4 rfl
theorem dX10_feed_11 : decode cX10_feed 11 = .ok (.ldc 103, 2) := dec_at dlX10_feed_0_ok 5 rfl
theorem dX10_feed_13 : decode cX10_feed 13 = .ok (.ireturn, 1) := dec_at dlX10_feed_0_ok 6 rfl
theorem dX10_feed_14 : decode cX10_feed 14 = .ok (.aload_n 0, 1) := dec_at dlX10_feed_0_ok 7 rfl
theorem dX10_feed_15 : decode cX10_feed 15 = .ok (.getfield 13, 3) := dec_at dlX10_feed_0_ok 8 rfl
theorem dX10_feed_18 : decode cX10_feed 18 = .ok (.sipush 220, 3) := dec_at dlX10_feed_0_ok 9 rfl
theorem dX10_feed_21 : decode cX10_feed 21 = .ok (.if_icmp .lt 6, 3) := dec_at dlX10_feed_0_ok 10 rfl
theorem dX10_feed_24 : decode cX10_feed 24 = .ok (.ldc 104, 2) := dec_at dlX10_feed_0_ok 11 rfl
theorem dX10_feed_26 : decode cX10_feed 26 = .ok (.ireturn, 1) := dec_at dlX10_feed_0_ok 12 rfl
theorem dX10_feed_27 : decode cX10_feed 27 = .ok (.aload_n 0, 1) := dec_at dlX10_feed_0_ok 13 rfl
theorem dX10_feed_28 : decode cX10_feed 28 = .ok (.getfield 9, 3) := dec_at dlX10_feed_0_ok 14 rfl
theorem dX10_feed_31 : decode cX10_feed 31 = .ok (.aload_n 0, 1) := dec_at dlX10_feed_0_ok 15 rfl
theorem dX10_feed_32 : decode cX10_feed 32 = .ok (.getfield 13, 3) := dec_at dlX10_feed_0_ok 16 rfl
theorem dX10_feed_35 : decode cX10_feed 35 = .ok (.iload_n 1, 1) := dec_at dlX10_feed_0_ok 17 rfl
theorem dX10_feed_36 : decode cX10_feed 36 = .ok (.iastore, 1) := dec_at dlX10_feed_0_ok 18 rfl
theorem dX10_feed_37 : decode cX10_feed 37 = .ok (.aload_n 0, 1) := dec_at dlX10_feed_0_ok 19 rfl
theorem dX10_feed_38 : decode cX10_feed 38 = .ok (.dup, 1) := dec_at dlX10_feed_0_ok 20 rfl
theorem dX10_feed_39 : decode cX10_feed 39 = .ok (.getfield 13, 3) := dec_at dlX10_feed_0_ok 21 rfl
theorem dX10_feed_42 : decode cX10_feed 42 = .ok (.iconst 1, 1) := dec_at dlX10_feed_0_ok 22 rfl
theorem dX10_feed_43 : decode cX10_feed 43 = .ok (.iadd, 1) := dec_at dlX10_feed_0_ok 23 rfl
theorem dX10_feed_44 : decode cX10_feed 44 = .ok (.putfield 13, 3) := dec_at dlX10_feed_0_ok 24 rfl
theorem dX10_feed_47 : decode cX10_feed 47 = .ok (.aload_n 0, 1) := dec_at dlX10_feed_0_ok 25 rfl
theorem dX10_feed_48 : decode cX10_feed 48 = .ok (.getfield 13, 3) := dec_at dlX10_feed_0_ok 26 rfl
theorem dX10_feed_51 : decode cX10_feed 51 = .ok (.ireturn, 1) := dec_at dlX10_feed_0_ok 27 rfl
set_option maxRecDepth 20000 in
theorem ggX10_office_X7_readText : GoodIn wsX10_office wsX7_readText := goodIn_s _ [(20, 31), (19, 1), (51, 61), (158, 7), (173, 13)] rfl (by decide +kernel)
set_option maxRecDepth 20000 in
theorem gX10_office_X7_readText : GoodIn wsX10_office (wsV RX10 105 RX7 yX7_readText wsX7_readText) := goodIn_app (goodIn_s _ [(16, 4)] rfl (by decide +kernel)) ggX10_office_X7_readText
set_option maxRecDepth 20000 in
theorem ggX10_office_X5_copyFrom : GoodIn wsX10_office wsX5_copyFrom := goodIn_s _ [(115, 1), (43, 5), (100, 1), (116, 1), (35, 3), (101, 4), (109, 3), (173, 13)] rfl (by decide +kernel)
set_option maxRecDepth 20000 in
theorem gX10_office_X5_copyFrom : GoodIn wsX10_office (wsV RX10 113 RX5 yX5_copyFrom wsX5_copyFrom) := goodIn_app (goodIn_s _ [(112, 3), (41, 1)] rfl (by decide +kernel)) ggX10_office_X5_copyFrom
set_option maxRecDepth 20000 in
theorem ggX10_office_X1_layOut : GoodIn wsX10_office wsX1_layOut := goodIn_s _ [(121, 11), (186, 8), (173, 13)] rfl (by decide +kernel)
set_option maxRecDepth 20000 in
theorem gX10_office_X1_layOut : GoodIn wsX10_office (wsV RX10 116 RX1 yX1_layOut wsX1_layOut) := goodIn_app (goodIn_s _ [(117, 4)] rfl (by decide +kernel)) ggX10_office_X1_layOut
set_option maxRecDepth 20000 in
theorem ggX10_office_X3_forget : GoodIn wsX10_office wsX3_forget := goodIn_s _ [(136, 2), (194, 3)] rfl (by decide +kernel)
set_option maxRecDepth 20000 in
theorem gX10_office_X3_forget : GoodIn wsX10_office (wsV RX10 119 RX3 yX3_forget wsX3_forget) := goodIn_app (goodIn_s _ [(132, 4)] rfl (by decide +kernel)) ggX10_office_X3_forget
set_option maxRecDepth 20000 in
theorem ggX10_office_X4_forget : GoodIn wsX10_office wsX4_forget := goodIn_s _ [(142, 2), (197, 3)] rfl (by decide +kernel)
set_option maxRecDepth 20000 in
theorem gX10_office_X4_forget : GoodIn wsX10_office (wsV RX10 122 RX4 yX4_forget wsX4_forget) := goodIn_app (goodIn_s _ [(138, 4)] rfl (by decide +kernel)) ggX10_office_X4_forget
noncomputable def dlX10_office_0 : List (Nat × Instr × Nat) := [(0, .aload_n 0, 1), (1, .getfield 13, 3), (4, .istore_n 1, 1), (5, .aload_n 0, 1), (6, .iconst 0, 1), (7, .putfield 13, 3), (10, .aload_n 0, 1), (11, .getfield 33, 3), (14, .aload_n 0, 1), (15, .getfield 9, 3), (18, .iload_n 1, 1), (19, .invokevirtual 105, 3), (22, .istore_n 2, 1), (23, .aload_n 0, 1), (24, .aload_n 0, 1), (25, .getfield 33, 3), (28, .getfield 109, 3), (31, .putfield 17, 3), (34, .iload_n 2, 1), (35, .ifCond .eq 8, 3), (38, .bipush (-10), 2), (40, .iload_n 2, 1), (41, .isub, 1), (42, .ireturn, 1), (43, .aload_n 0, 1), (44, .getfield 26, 3), (47, .aload_n 0, 1), (48, .getfield 33, 3), (51, .getfield 110, 3), (54, .invokevirtual 113, 3), (57, .aload_n 0, 1)]
theorem dlX10_office_0_ok : dlX10_office_0.all (fun r => decide (decode cX10_office r.1 = .ok r.2)) = true := by decide +kernel
theorem dX10_office_0 : decode cX10_office 0 = .ok (.aload_n 0, 1) := dec_at dlX10_office_0_ok 0 rfl
theorem dX10_office_1 : decode cX10_office 1 = .ok (.getfield 13, 3) := dec_at dlX10_office_0_ok 1 rfl
theorem dX10_office_4 : decode cX10_office 4 = .ok (.istore_n 1, 1) := dec_at dlX10_office_0_ok 2 rfl
theorem dX10_office_5 : decode cX10_office 5 = .ok (.aload_n 0, 1) := dec_at dlX10_office_0_ok 3 rfl
theorem dX10_office_6 : decode cX10_office 6 = .ok (.iconst 0, 1) := dec_at dlX10_office_0_ok 4 rfl
theorem dX10_office_7 : decode cX10_office 7 = .ok (.putfield 13, 3) := dec_at dlX10_office_0_ok 5 rfl
theorem dX10_office_10 : decode cX10_office 10 = .ok (.aload_n 0, 1) := dec_at dlX10_office_0_ok 6 rfl
theorem dX10_office_11 : decode cX10_office 11 = .ok (.getfield 33, 3) := dec_at dlX10_office_0_ok 7 rfl
theorem dX10_office_14 : decode cX10_office 14 = .ok (.aload_n 0, 1) := dec_at dlX10_office_0_ok 8 rfl
theorem dX10_office_15 : decode cX10_office 15 = .ok (.getfield 9, 3) := dec_at dlX10_office_0_ok 9 rfl
theorem dX10_office_18 : decode cX10_office 18 = .ok (.iload_n 1, 1) := dec_at dlX10_office_0_ok 10 rfl
theorem dX10_office_19 : decode cX10_office 19 = .ok (.invokevirtual 105, 3) := dec_at dlX10_office_0_ok 11 rfl
theorem dX10_office_22 : decode cX10_office 22 = .ok (.istore_n 2, 1) := dec_at dlX10_office_0_ok 12 rfl
theorem dX10_office_23 : decode cX10_office 23 = .ok (.aload_n 0, 1) := dec_at dlX10_office_0_ok 13 rfl
theorem dX10_office_24 : decode cX10_office 24 = .ok (.aload_n 0, 1) := dec_at dlX10_office_0_ok 14 rfl
theorem dX10_office_25 : decode cX10_office 25 = .ok (.getfield 33, 3) := dec_at dlX10_office_0_ok 15 rfl
theorem dX10_office_28 : decode cX10_office 28 = .ok (.getfield 109, 3) := dec_at dlX10_office_0_ok 16 rfl
theorem dX10_office_31 : decode cX10_office 31 = .ok (.putfield 17, 3) := dec_at dlX10_office_0_ok 17 rfl
theorem dX10_office_34 : decode cX10_office 34 = .ok (.iload_n 2, 1) := dec_at dlX10_office_0_ok 18 rfl
theorem dX10_office_35 : decode cX10_office 35 = .ok (.ifCond .eq 8, 3) := dec_at dlX10_office_0_ok 19 rfl
theorem dX10_office_38 : decode cX10_office 38 = .ok (.bipush (-10), 2) := dec_at dlX10_office_0_ok 20 rfl
theorem dX10_office_40 : decode cX10_office 40 = .ok (.iload_n 2, 1) := dec_at dlX10_office_0_ok 21 rfl
theorem dX10_office_41 : decode cX10_office 41 = .ok (.isub, 1) := dec_at dlX10_office_0_ok 22 rfl
theorem dX10_office_42 : decode cX10_office 42 = .ok (.ireturn, 1) := dec_at dlX10_office_0_ok 23 rfl
theorem dX10_office_43 : decode cX10_office 43 = .ok (.aload_n 0, 1) := dec_at dlX10_office_0_ok 24 rfl
theorem dX10_office_44 : decode cX10_office 44 = .ok (.getfield 26, 3) := dec_at dlX10_office_0_ok 25 rfl
theorem dX10_office_47 : decode cX10_office 47 = .ok (.aload_n 0, 1) := dec_at dlX10_office_0_ok 26 rfl
theorem dX10_office_48 : decode cX10_office 48 = .ok (.getfield 33, 3) := dec_at dlX10_office_0_ok 27 rfl
theorem dX10_office_51 : decode cX10_office 51 = .ok (.getfield 110, 3) := dec_at dlX10_office_0_ok 28 rfl
theorem dX10_office_54 : decode cX10_office 54 = .ok (.invokevirtual 113, 3) := dec_at dlX10_office_0_ok 29 rfl
theorem dX10_office_57 : decode cX10_office 57 = .ok (.aload_n 0, 1) := dec_at dlX10_office_0_ok 30 rfl
noncomputable def dlX10_office_58 : List (Nat × Instr × Nat) := [(58, .getfield 42, 3), (61, .invokevirtual 116, 3), (64, .aload_n 0, 1), (65, .getfield 49, 3), (68, .invokevirtual 119, 3), (71, .aload_n 0, 1), (72, .getfield 56, 3), (75, .invokevirtual 122, 3), (78, .aload_n 0, 1), (79, .getfield 88, 3), (82, .iconst 0, 1), (83, .putfield 123, 3), (86, .aload_n 0, 1), (87, .getfield 95, 3), (90, .iconst 0, 1), (91, .putfield 126, 3), (94, .aload_n 0, 1), (95, .getfield 26, 3), (98, .getfield 127, 3), (101, .ireturn, 1)]
theorem dlX10_office_58_ok : dlX10_office_58.all (fun r => decide (decode cX10_office r.1 = .ok r.2)) = true := by decide +kernel
theorem dX10_office_58 : decode cX10_office 58 = .ok (.getfield 42, 3) := dec_at dlX10_office_58_ok 0 rfl
theorem dX10_office_61 : decode cX10_office 61 = .ok (.invokevirtual 116, 3) := dec_at dlX10_office_58_ok 1 rfl
theorem dX10_office_64 : decode cX10_office 64 = .ok (.aload_n 0, 1) := dec_at dlX10_office_58_ok 2 rfl
theorem dX10_office_65 : decode cX10_office 65 = .ok (.getfield 49, 3) := dec_at dlX10_office_58_ok 3 rfl
theorem dX10_office_68 : decode cX10_office 68 = .ok (.invokevirtual 119, 3) := dec_at dlX10_office_58_ok 4 rfl
theorem dX10_office_71 : decode cX10_office 71 = .ok (.aload_n 0, 1) := dec_at dlX10_office_58_ok 5 rfl
theorem dX10_office_72 : decode cX10_office 72 = .ok (.getfield 56, 3) := dec_at dlX10_office_58_ok 6 rfl
theorem dX10_office_75 : decode cX10_office 75 = .ok (.invokevirtual 122, 3) := dec_at dlX10_office_58_ok 7 rfl
theorem dX10_office_78 : decode cX10_office 78 = .ok (.aload_n 0, 1) := dec_at dlX10_office_58_ok 8 rfl
theorem dX10_office_79 : decode cX10_office 79 = .ok (.getfield 88, 3) := dec_at dlX10_office_58_ok 9 rfl
theorem dX10_office_82 : decode cX10_office 82 = .ok (.iconst 0, 1) := dec_at dlX10_office_58_ok 10 rfl
theorem dX10_office_83 : decode cX10_office 83 = .ok (.putfield 123, 3) := dec_at dlX10_office_58_ok 11 rfl
theorem dX10_office_86 : decode cX10_office 86 = .ok (.aload_n 0, 1) := dec_at dlX10_office_58_ok 12 rfl
theorem dX10_office_87 : decode cX10_office 87 = .ok (.getfield 95, 3) := dec_at dlX10_office_58_ok 13 rfl
theorem dX10_office_90 : decode cX10_office 90 = .ok (.iconst 0, 1) := dec_at dlX10_office_58_ok 14 rfl
theorem dX10_office_91 : decode cX10_office 91 = .ok (.putfield 126, 3) := dec_at dlX10_office_58_ok 15 rfl
theorem dX10_office_94 : decode cX10_office 94 = .ok (.aload_n 0, 1) := dec_at dlX10_office_58_ok 16 rfl
theorem dX10_office_95 : decode cX10_office 95 = .ok (.getfield 26, 3) := dec_at dlX10_office_58_ok 17 rfl
theorem dX10_office_98 : decode cX10_office 98 = .ok (.getfield 127, 3) := dec_at dlX10_office_58_ok 18 rfl
theorem dX10_office_101 : decode cX10_office 101 = .ok (.ireturn, 1) := dec_at dlX10_office_58_ok 19 rfl
noncomputable def dlX10_fault_0 : List (Nat × Instr × Nat) := [(0, .aload_n 0, 1), (1, .getfield 17, 3), (4, .ireturn, 1)]
theorem dlX10_fault_0_ok : dlX10_fault_0.all (fun r => decide (decode cX10_fault r.1 = .ok r.2)) = true := by decide +kernel
theorem dX10_fault_0 : decode cX10_fault 0 = .ok (.aload_n 0, 1) := dec_at dlX10_fault_0_ok 0 rfl
theorem dX10_fault_1 : decode cX10_fault 1 = .ok (.getfield 17, 3) := dec_at dlX10_fault_0_ok 1 rfl
theorem dX10_fault_4 : decode cX10_fault 4 = .ok (.ireturn, 1) := dec_at dlX10_fault_0_ok 2 rfl
set_option maxRecDepth 20000 in
theorem ggX10_told_X1_allPages : GoodIn wsX10_told wsX1_allPages := goodIn_s _ [(21, 4), (63, 8), (50, 13)] rfl (by decide +kernel)
set_option maxRecDepth 20000 in
theorem gX10_told_X1_allPages : GoodIn wsX10_told (wsV RX10 145 RX1 yX1_allPages wsX1_allPages) := goodIn_app (goodIn_s _ [(17, 4)] rfl (by decide +kernel)) ggX10_told_X1_allPages
set_option maxRecDepth 20000 in
theorem ggX10_told_X1_allGood : GoodIn wsX10_told wsX1_allGood := goodIn_s _ [(28, 1), (22, 2), (29, 1), (63, 8), (50, 13)] rfl (by decide +kernel)
set_option maxRecDepth 20000 in
theorem gX10_told_X1_allGood : GoodIn wsX10_told (wsV RX10 149 RX1 yX1_allGood wsX1_allGood) := goodIn_app (goodIn_s _ [(25, 3), (20, 1)] rfl (by decide +kernel)) ggX10_told_X1_allGood
set_option maxRecDepth 20000 in
theorem ggX10_told_X1_softQuills : GoodIn wsX10_told wsX1_softQuills := goodIn_s _ [(33, 1), (22, 1), (34, 2), (63, 8), (50, 13)] rfl (by decide +kernel)
set_option maxRecDepth 20000 in
theorem gX10_told_X1_softQuills : GoodIn wsX10_told (wsV RX10 152 RX1 yX1_softQuills wsX1_softQuills) := goodIn_app (goodIn_s _ [(30, 3), (20, 1)] rfl (by decide +kernel)) ggX10_told_X1_softQuills
noncomputable def dlX10_told_0 : List (Nat × Instr × Nat) := [(0, .iload_n 1, 1), (1, .tableswitch 168 0 12 #[67, 75, 83, 91, 99, 104, 112, 120, 128, 136, 144, 152, 160], 67), (68, .aload_n 0, 1), (69, .getfield 26, 3), (72, .getfield 130, 3), (75, .ireturn, 1), (76, .aload_n 0, 1), (77, .getfield 26, 3), (80, .getfield 133, 3), (83, .ireturn, 1), (84, .aload_n 0, 1), (85, .getfield 26, 3), (88, .getfield 127, 3), (91, .ireturn, 1), (92, .aload_n 0, 1), (93, .getfield 26, 3), (96, .getfield 136, 3), (99, .ireturn, 1), (100, .aload_n 0, 1), (101, .getfield 13, 3), (104, .ireturn, 1), (105, .aload_n 0, 1), (106, .getfield 42, 3), (109, .getfield 139, 3), (112, .ireturn, 1), (113, .aload_n 0, 1), (114, .getfield 42, 3), (117, .getfield 142, 3), (120, .ireturn, 1), (121, .aload_n 0, 1), (122, .getfield 42, 3)]
theorem dlX10_told_0_ok : dlX10_told_0.all (fun r => decide (decode cX10_told r.1 = .ok r.2)) = true := by decide +kernel
theorem dX10_told_0 : decode cX10_told 0 = .ok (.iload_n 1, 1) := dec_at dlX10_told_0_ok 0 rfl
theorem dX10_told_1 : decode cX10_told 1 = .ok (.tableswitch 168 0 12 #[67, 75, 83, 91, 99, 104, 112, 120, 128, 136, 144, 152, 160], 67) := dec_at dlX10_told_0_ok 1 rfl
theorem dX10_told_68 : decode cX10_told 68 = .ok (.aload_n 0, 1) := dec_at dlX10_told_0_ok 2 rfl
theorem dX10_told_69 : decode cX10_told 69 = .ok (.getfield 26, 3) := dec_at dlX10_told_0_ok 3 rfl
theorem dX10_told_72 : decode cX10_told 72 = .ok (.getfield 130, 3) := dec_at dlX10_told_0_ok 4 rfl
theorem dX10_told_75 : decode cX10_told 75 = .ok (.ireturn, 1) := dec_at dlX10_told_0_ok 5 rfl
theorem dX10_told_76 : decode cX10_told 76 = .ok (.aload_n 0, 1) := dec_at dlX10_told_0_ok 6 rfl
theorem dX10_told_77 : decode cX10_told 77 = .ok (.getfield 26, 3) := dec_at dlX10_told_0_ok 7 rfl
theorem dX10_told_80 : decode cX10_told 80 = .ok (.getfield 133, 3) := dec_at dlX10_told_0_ok 8 rfl
theorem dX10_told_83 : decode cX10_told 83 = .ok (.ireturn, 1) := dec_at dlX10_told_0_ok 9 rfl
theorem dX10_told_84 : decode cX10_told 84 = .ok (.aload_n 0, 1) := dec_at dlX10_told_0_ok 10 rfl
theorem dX10_told_85 : decode cX10_told 85 = .ok (.getfield 26, 3) := dec_at dlX10_told_0_ok 11 rfl
theorem dX10_told_88 : decode cX10_told 88 = .ok (.getfield 127, 3) := dec_at dlX10_told_0_ok 12 rfl
theorem dX10_told_91 : decode cX10_told 91 = .ok (.ireturn, 1) := dec_at dlX10_told_0_ok 13 rfl
theorem dX10_told_92 : decode cX10_told 92 = .ok (.aload_n 0, 1) := dec_at dlX10_told_0_ok 14 rfl
theorem dX10_told_93 : decode cX10_told 93 = .ok (.getfield 26, 3) := dec_at dlX10_told_0_ok 15 rfl
theorem dX10_told_96 : decode cX10_told 96 = .ok (.getfield 136, 3) := dec_at dlX10_told_0_ok 16 rfl
theorem dX10_told_99 : decode cX10_told 99 = .ok (.ireturn, 1) := dec_at dlX10_told_0_ok 17 rfl
theorem dX10_told_100 : decode cX10_told 100 = .ok (.aload_n 0, 1) := dec_at dlX10_told_0_ok 18 rfl
theorem dX10_told_101 : decode cX10_told 101 = .ok (.getfield 13, 3) := dec_at dlX10_told_0_ok 19 rfl
theorem dX10_told_104 : decode cX10_told 104 = .ok (.ireturn, 1) := dec_at dlX10_told_0_ok 20 rfl
theorem dX10_told_105 : decode cX10_told 105 = .ok (.aload_n 0, 1) := dec_at dlX10_told_0_ok 21 rfl
theorem dX10_told_106 : decode cX10_told 106 = .ok (.getfield 42, 3) := dec_at dlX10_told_0_ok 22 rfl
theorem dX10_told_109 : decode cX10_told 109 = .ok (.getfield 139, 3) := dec_at dlX10_told_0_ok 23 rfl
theorem dX10_told_112 : decode cX10_told 112 = .ok (.ireturn, 1) := dec_at dlX10_told_0_ok 24 rfl
theorem dX10_told_113 : decode cX10_told 113 = .ok (.aload_n 0, 1) := dec_at dlX10_told_0_ok 25 rfl
theorem dX10_told_114 : decode cX10_told 114 = .ok (.getfield 42, 3) := dec_at dlX10_told_0_ok 26 rfl
theorem dX10_told_117 : decode cX10_told 117 = .ok (.getfield 142, 3) := dec_at dlX10_told_0_ok 27 rfl
theorem dX10_told_120 : decode cX10_told 120 = .ok (.ireturn, 1) := dec_at dlX10_told_0_ok 28 rfl
theorem dX10_told_121 : decode cX10_told 121 = .ok (.aload_n 0, 1) := dec_at dlX10_told_0_ok 29 rfl
theorem dX10_told_122 : decode cX10_told 122 = .ok (.getfield 42, 3) := dec_at dlX10_told_0_ok 30 rfl
noncomputable def dlX10_told_125 : List (Nat × Instr × Nat) := [(125, .invokevirtual 145, 3), (128, .ireturn, 1), (129, .aload_n 0, 1), (130, .getfield 42, 3), (133, .invokevirtual 149, 3), (136, .ireturn, 1), (137, .aload_n 0, 1), (138, .getfield 42, 3), (141, .invokevirtual 152, 3), (144, .ireturn, 1), (145, .aload_n 0, 1), (146, .getfield 88, 3), (149, .getfield 123, 3), (152, .ireturn, 1), (153, .aload_n 0, 1), (154, .getfield 95, 3), (157, .getfield 126, 3), (160, .ireturn, 1), (161, .aload_n 0, 1), (162, .getfield 49, 3), (165, .getfield 155, 3), (168, .ireturn, 1), (169, .ldc 103, 2), (171, .ireturn, 1)]
theorem dlX10_told_125_ok : dlX10_told_125.all (fun r => decide (decode cX10_told r.1 = .ok r.2)) = true := by decide +kernel
theorem dX10_told_125 : decode cX10_told 125 = .ok (.invokevirtual 145, 3) := dec_at dlX10_told_125_ok 0 rfl
theorem dX10_told_128 : decode cX10_told 128 = .ok (.ireturn, 1) := dec_at dlX10_told_125_ok 1 rfl
theorem dX10_told_129 : decode cX10_told 129 = .ok (.aload_n 0, 1) := dec_at dlX10_told_125_ok 2 rfl
theorem dX10_told_130 : decode cX10_told 130 = .ok (.getfield 42, 3) := dec_at dlX10_told_125_ok 3 rfl
theorem dX10_told_133 : decode cX10_told 133 = .ok (.invokevirtual 149, 3) := dec_at dlX10_told_125_ok 4 rfl
theorem dX10_told_136 : decode cX10_told 136 = .ok (.ireturn, 1) := dec_at dlX10_told_125_ok 5 rfl
theorem dX10_told_137 : decode cX10_told 137 = .ok (.aload_n 0, 1) := dec_at dlX10_told_125_ok 6 rfl
theorem dX10_told_138 : decode cX10_told 138 = .ok (.getfield 42, 3) := dec_at dlX10_told_125_ok 7 rfl
theorem dX10_told_141 : decode cX10_told 141 = .ok (.invokevirtual 152, 3) := dec_at dlX10_told_125_ok 8 rfl
theorem dX10_told_144 : decode cX10_told 144 = .ok (.ireturn, 1) := dec_at dlX10_told_125_ok 9 rfl
theorem dX10_told_145 : decode cX10_told 145 = .ok (.aload_n 0, 1) := dec_at dlX10_told_125_ok 10 rfl
theorem dX10_told_146 : decode cX10_told 146 = .ok (.getfield 88, 3) := dec_at dlX10_told_125_ok 11 rfl
theorem dX10_told_149 : decode cX10_told 149 = .ok (.getfield 123, 3) := dec_at dlX10_told_125_ok 12 rfl
theorem dX10_told_152 : decode cX10_told 152 = .ok (.ireturn, 1) := dec_at dlX10_told_125_ok 13 rfl
theorem dX10_told_153 : decode cX10_told 153 = .ok (.aload_n 0, 1) := dec_at dlX10_told_125_ok 14 rfl
theorem dX10_told_154 : decode cX10_told 154 = .ok (.getfield 95, 3) := dec_at dlX10_told_125_ok 15 rfl
theorem dX10_told_157 : decode cX10_told 157 = .ok (.getfield 126, 3) := dec_at dlX10_told_125_ok 16 rfl
theorem dX10_told_160 : decode cX10_told 160 = .ok (.ireturn, 1) := dec_at dlX10_told_125_ok 17 rfl
theorem dX10_told_161 : decode cX10_told 161 = .ok (.aload_n 0, 1) := dec_at dlX10_told_125_ok 18 rfl
theorem dX10_told_162 : decode cX10_told 162 = .ok (.getfield 49, 3) := dec_at dlX10_told_125_ok 19 rfl
theorem dX10_told_165 : decode cX10_told 165 = .ok (.getfield 155, 3) := dec_at dlX10_told_125_ok 20 rfl
theorem dX10_told_168 : decode cX10_told 168 = .ok (.ireturn, 1) := dec_at dlX10_told_125_ok 21 rfl
theorem dX10_told_169 : decode cX10_told 169 = .ok (.ldc 103, 2) := dec_at dlX10_told_125_ok 22 rfl
theorem dX10_told_171 : decode cX10_told 171 = .ok (.ireturn, 1) := dec_at dlX10_told_125_ok 23 rfl
set_option maxRecDepth 20000 in
theorem ggX10_quill_X10_isQuill : GoodIn wsX10_quill wsX10_isQuill := goodIn_s _ [(15, 1), (2, 1), (16, 1), (24, 27)] rfl (by decide +kernel)
set_option maxRecDepth 20000 in
theorem gX10_quill_X10_isQuill : GoodIn wsX10_quill (wsV RX10 156 RX10 yX10_isQuill wsX10_isQuill) := goodIn_app (goodIn_s _ [(11, 4)] rfl (by decide +kernel)) ggX10_quill_X10_isQuill
set_option maxRecDepth 20000 in
theorem ggX10_quill_X5_hardness : GoodIn wsX10_quill wsX5_hardness := goodIn_s _ [(21, 3), (38, 13)] rfl (by decide +kernel)
set_option maxRecDepth 20000 in
theorem gX10_quill_X5_hardness : GoodIn wsX10_quill (wsV RX10 176 RX5 yX5_hardness wsX5_hardness) := goodIn_app (goodIn_s _ [(17, 4)] rfl (by decide +kernel)) ggX10_quill_X5_hardness
noncomputable def dlX10_quill_0 : List (Nat × Instr × Nat) := [(0, .aload_n 0, 1), (1, .iload_n 1, 1), (2, .invokevirtual 156, 3), (5, .ifCond .ne 6, 3), (8, .ldc 160, 2), (10, .ireturn, 1), (11, .iload_n 2, 1), (12, .tableswitch 113 0 6 #[44, 54, 64, 74, 84, 94, 103], 44), (56, .aload_n 0, 1), (57, .getfield 26, 3), (60, .getfield 161, 3), (63, .iload_n 1, 1), (64, .iaload, 1), (65, .ireturn, 1), (66, .aload_n 0, 1), (67, .getfield 26, 3), (70, .getfield 164, 3), (73, .iload_n 1, 1), (74, .iaload, 1), (75, .ireturn, 1), (76, .aload_n 0, 1), (77, .getfield 26, 3), (80, .getfield 167, 3), (83, .iload_n 1, 1), (84, .iaload, 1), (85, .ireturn, 1), (86, .aload_n 0, 1), (87, .getfield 42, 3), (90, .getfield 170, 3), (93, .iload_n 1, 1), (94, .iaload, 1)]
theorem dlX10_quill_0_ok : dlX10_quill_0.all (fun r => decide (decode cX10_quill r.1 = .ok r.2)) = true := by decide +kernel
theorem dX10_quill_0 : decode cX10_quill 0 = .ok (.aload_n 0, 1) := dec_at dlX10_quill_0_ok 0 rfl
theorem dX10_quill_1 : decode cX10_quill 1 = .ok (.iload_n 1, 1) := dec_at dlX10_quill_0_ok 1 rfl
theorem dX10_quill_2 : decode cX10_quill 2 = .ok (.invokevirtual 156, 3) := dec_at dlX10_quill_0_ok 2 rfl
theorem dX10_quill_5 : decode cX10_quill 5 = .ok (.ifCond .ne 6, 3) := dec_at dlX10_quill_0_ok 3 rfl
theorem dX10_quill_8 : decode cX10_quill 8 = .ok (.ldc 160, 2) := dec_at dlX10_quill_0_ok 4 rfl
theorem dX10_quill_10 : decode cX10_quill 10 = .ok (.ireturn, 1) := dec_at dlX10_quill_0_ok 5 rfl
theorem dX10_quill_11 : decode cX10_quill 11 = .ok (.iload_n 2, 1) := dec_at dlX10_quill_0_ok 6 rfl
theorem dX10_quill_12 : decode cX10_quill 12 = .ok (.tableswitch 113 0 6 #[44, 54, 64, 74, 84, 94, 103], 44) := dec_at dlX10_quill_0_ok 7 rfl
theorem dX10_quill_56 : decode cX10_quill 56 = .ok (.aload_n 0, 1) := dec_at dlX10_quill_0_ok 8 rfl
theorem dX10_quill_57 : decode cX10_quill 57 = .ok (.getfield 26, 3) := dec_at dlX10_quill_0_ok 9 rfl
theorem dX10_quill_60 : decode cX10_quill 60 = .ok (.getfield 161, 3) := dec_at dlX10_quill_0_ok 10 rfl
theorem dX10_quill_63 : decode cX10_quill 63 = .ok (.iload_n 1, 1) := dec_at dlX10_quill_0_ok 11 rfl
theorem dX10_quill_64 : decode cX10_quill 64 = .ok (.iaload, 1) := dec_at dlX10_quill_0_ok 12 rfl
theorem dX10_quill_65 : decode cX10_quill 65 = .ok (.ireturn, 1) := dec_at dlX10_quill_0_ok 13 rfl
theorem dX10_quill_66 : decode cX10_quill 66 = .ok (.aload_n 0, 1) := dec_at dlX10_quill_0_ok 14 rfl
theorem dX10_quill_67 : decode cX10_quill 67 = .ok (.getfield 26, 3) := dec_at dlX10_quill_0_ok 15 rfl
theorem dX10_quill_70 : decode cX10_quill 70 = .ok (.getfield 164, 3) := dec_at dlX10_quill_0_ok 16 rfl
theorem dX10_quill_73 : decode cX10_quill 73 = .ok (.iload_n 1, 1) := dec_at dlX10_quill_0_ok 17 rfl
theorem dX10_quill_74 : decode cX10_quill 74 = .ok (.iaload, 1) := dec_at dlX10_quill_0_ok 18 rfl
theorem dX10_quill_75 : decode cX10_quill 75 = .ok (.ireturn, 1) := dec_at dlX10_quill_0_ok 19 rfl
theorem dX10_quill_76 : decode cX10_quill 76 = .ok (.aload_n 0, 1) := dec_at dlX10_quill_0_ok 20 rfl
theorem dX10_quill_77 : decode cX10_quill 77 = .ok (.getfield 26, 3) := dec_at dlX10_quill_0_ok 21 rfl
theorem dX10_quill_80 : decode cX10_quill 80 = .ok (.getfield 167, 3) := dec_at dlX10_quill_0_ok 22 rfl
theorem dX10_quill_83 : decode cX10_quill 83 = .ok (.iload_n 1, 1) := dec_at dlX10_quill_0_ok 23 rfl
theorem dX10_quill_84 : decode cX10_quill 84 = .ok (.iaload, 1) := dec_at dlX10_quill_0_ok 24 rfl
theorem dX10_quill_85 : decode cX10_quill 85 = .ok (.ireturn, 1) := dec_at dlX10_quill_0_ok 25 rfl
theorem dX10_quill_86 : decode cX10_quill 86 = .ok (.aload_n 0, 1) := dec_at dlX10_quill_0_ok 26 rfl
theorem dX10_quill_87 : decode cX10_quill 87 = .ok (.getfield 42, 3) := dec_at dlX10_quill_0_ok 27 rfl
theorem dX10_quill_90 : decode cX10_quill 90 = .ok (.getfield 170, 3) := dec_at dlX10_quill_0_ok 28 rfl
theorem dX10_quill_93 : decode cX10_quill 93 = .ok (.iload_n 1, 1) := dec_at dlX10_quill_0_ok 29 rfl
theorem dX10_quill_94 : decode cX10_quill 94 = .ok (.iaload, 1) := dec_at dlX10_quill_0_ok 30 rfl
noncomputable def dlX10_quill_95 : List (Nat × Instr × Nat) := [(95, .ireturn, 1), (96, .aload_n 0, 1), (97, .getfield 42, 3), (100, .getfield 173, 3), (103, .iload_n 1, 1), (104, .iaload, 1), (105, .ireturn, 1), (106, .aload_n 0, 1), (107, .getfield 26, 3), (110, .iload_n 1, 1), (111, .invokevirtual 176, 3), (114, .ireturn, 1), (115, .aload_n 0, 1), (116, .getfield 42, 3), (119, .getfield 180, 3), (122, .iload_n 1, 1), (123, .iaload, 1), (124, .ireturn, 1), (125, .ldc 103, 2), (127, .ireturn, 1)]
theorem dlX10_quill_95_ok : dlX10_quill_95.all (fun r => decide (decode cX10_quill r.1 = .ok r.2)) = true := by decide +kernel
theorem dX10_quill_95 : decode cX10_quill 95 = .ok (.ireturn, 1) := dec_at dlX10_quill_95_ok 0 rfl
theorem dX10_quill_96 : decode cX10_quill 96 = .ok (.aload_n 0, 1) := dec_at dlX10_quill_95_ok 1 rfl
theorem dX10_quill_97 : decode cX10_quill 97 = .ok (.getfield 42, 3) := dec_at dlX10_quill_95_ok 2 rfl
theorem dX10_quill_100 : decode cX10_quill 100 = .ok (.getfield 173, 3) := dec_at dlX10_quill_95_ok 3 rfl
theorem dX10_quill_103 : decode cX10_quill 103 = .ok (.iload_n 1, 1) := dec_at dlX10_quill_95_ok 4 rfl
theorem dX10_quill_104 : decode cX10_quill 104 = .ok (.iaload, 1) := dec_at dlX10_quill_95_ok 5 rfl
theorem dX10_quill_105 : decode cX10_quill 105 = .ok (.ireturn, 1) := dec_at dlX10_quill_95_ok 6 rfl
theorem dX10_quill_106 : decode cX10_quill 106 = .ok (.aload_n 0, 1) := dec_at dlX10_quill_95_ok 7 rfl
theorem dX10_quill_107 : decode cX10_quill 107 = .ok (.getfield 26, 3) := dec_at dlX10_quill_95_ok 8 rfl
theorem dX10_quill_110 : decode cX10_quill 110 = .ok (.iload_n 1, 1) := dec_at dlX10_quill_95_ok 9 rfl
theorem dX10_quill_111 : decode cX10_quill 111 = .ok (.invokevirtual 176, 3) := dec_at dlX10_quill_95_ok 10 rfl
theorem dX10_quill_114 : decode cX10_quill 114 = .ok (.ireturn, 1) := dec_at dlX10_quill_95_ok 11 rfl
theorem dX10_quill_115 : decode cX10_quill 115 = .ok (.aload_n 0, 1) := dec_at dlX10_quill_95_ok 12 rfl
theorem dX10_quill_116 : decode cX10_quill 116 = .ok (.getfield 42, 3) := dec_at dlX10_quill_95_ok 13 rfl
theorem dX10_quill_119 : decode cX10_quill 119 = .ok (.getfield 180, 3) := dec_at dlX10_quill_95_ok 14 rfl
theorem dX10_quill_122 : decode cX10_quill 122 = .ok (.iload_n 1, 1) := dec_at dlX10_quill_95_ok 15 rfl
theorem dX10_quill_123 : decode cX10_quill 123 = .ok (.iaload, 1) := dec_at dlX10_quill_95_ok 16 rfl
theorem dX10_quill_124 : decode cX10_quill 124 = .ok (.ireturn, 1) := dec_at dlX10_quill_95_ok 17 rfl
theorem dX10_quill_125 : decode cX10_quill 125 = .ok (.ldc 103, 2) := dec_at dlX10_quill_95_ok 18 rfl
theorem dX10_quill_127 : decode cX10_quill 127 = .ok (.ireturn, 1) := dec_at dlX10_quill_95_ok 19 rfl
set_option maxRecDepth 20000 in
theorem ggX10_hand_X10_isHand : GoodIn wsX10_hand wsX10_isHand := goodIn_s _ [(14, 1), (2, 1), (15, 28)] rfl (by decide +kernel)
set_option maxRecDepth 20000 in
theorem gX10_hand_X10_isHand : GoodIn wsX10_hand (wsV RX10 183 RX10 yX10_isHand wsX10_isHand) := goodIn_app (goodIn_s _ [(10, 4)] rfl (by decide +kernel)) ggX10_hand_X10_isHand
noncomputable def dlX10_hand_0 : List (Nat × Instr × Nat) := [(0, .aload_n 0, 1), (1, .iload_n 1, 1), (2, .invokevirtual 183, 3), (5, .ifCond .ne 6, 3), (8, .ldc 160, 2), (10, .ireturn, 1), (11, .iload_n 2, 1), (12, .tableswitch 86 0 4 #[36, 46, 56, 66, 76], 36), (48, .aload_n 0, 1), (49, .getfield 26, 3), (52, .getfield 186, 3), (55, .iload_n 1, 1), (56, .iaload, 1), (57, .ireturn, 1), (58, .aload_n 0, 1), (59, .getfield 26, 3), (62, .getfield 189, 3), (65, .iload_n 1, 1), (66, .iaload, 1), (67, .ireturn, 1), (68, .aload_n 0, 1), (69, .getfield 26, 3), (72, .getfield 192, 3), (75, .iload_n 1, 1), (76, .iaload, 1), (77, .ireturn, 1), (78, .aload_n 0, 1), (79, .getfield 42, 3), (82, .getfield 195, 3), (85, .iload_n 1, 1), (86, .iaload, 1)]
theorem dlX10_hand_0_ok : dlX10_hand_0.all (fun r => decide (decode cX10_hand r.1 = .ok r.2)) = true := by decide +kernel
theorem dX10_hand_0 : decode cX10_hand 0 = .ok (.aload_n 0, 1) := dec_at dlX10_hand_0_ok 0 rfl
theorem dX10_hand_1 : decode cX10_hand 1 = .ok (.iload_n 1, 1) := dec_at dlX10_hand_0_ok 1 rfl
theorem dX10_hand_2 : decode cX10_hand 2 = .ok (.invokevirtual 183, 3) := dec_at dlX10_hand_0_ok 2 rfl
theorem dX10_hand_5 : decode cX10_hand 5 = .ok (.ifCond .ne 6, 3) := dec_at dlX10_hand_0_ok 3 rfl
theorem dX10_hand_8 : decode cX10_hand 8 = .ok (.ldc 160, 2) := dec_at dlX10_hand_0_ok 4 rfl
theorem dX10_hand_10 : decode cX10_hand 10 = .ok (.ireturn, 1) := dec_at dlX10_hand_0_ok 5 rfl
theorem dX10_hand_11 : decode cX10_hand 11 = .ok (.iload_n 2, 1) := dec_at dlX10_hand_0_ok 6 rfl
theorem dX10_hand_12 : decode cX10_hand 12 = .ok (.tableswitch 86 0 4 #[36, 46, 56, 66, 76], 36) := dec_at dlX10_hand_0_ok 7 rfl
theorem dX10_hand_48 : decode cX10_hand 48 = .ok (.aload_n 0, 1) := dec_at dlX10_hand_0_ok 8 rfl
theorem dX10_hand_49 : decode cX10_hand 49 = .ok (.getfield 26, 3) := dec_at dlX10_hand_0_ok 9 rfl
theorem dX10_hand_52 : decode cX10_hand 52 = .ok (.getfield 186, 3) := dec_at dlX10_hand_0_ok 10 rfl
theorem dX10_hand_55 : decode cX10_hand 55 = .ok (.iload_n 1, 1) := dec_at dlX10_hand_0_ok 11 rfl
theorem dX10_hand_56 : decode cX10_hand 56 = .ok (.iaload, 1) := dec_at dlX10_hand_0_ok 12 rfl
theorem dX10_hand_57 : decode cX10_hand 57 = .ok (.ireturn, 1) := dec_at dlX10_hand_0_ok 13 rfl
theorem dX10_hand_58 : decode cX10_hand 58 = .ok (.aload_n 0, 1) := dec_at dlX10_hand_0_ok 14 rfl
theorem dX10_hand_59 : decode cX10_hand 59 = .ok (.getfield 26, 3) := dec_at dlX10_hand_0_ok 15 rfl
theorem dX10_hand_62 : decode cX10_hand 62 = .ok (.getfield 189, 3) := dec_at dlX10_hand_0_ok 16 rfl
theorem dX10_hand_65 : decode cX10_hand 65 = .ok (.iload_n 1, 1) := dec_at dlX10_hand_0_ok 17 rfl
theorem dX10_hand_66 : decode cX10_hand 66 = .ok (.iaload, 1) := dec_at dlX10_hand_0_ok 18 rfl
theorem dX10_hand_67 : decode cX10_hand 67 = .ok (.ireturn, 1) := dec_at dlX10_hand_0_ok 19 rfl
theorem dX10_hand_68 : decode cX10_hand 68 = .ok (.aload_n 0, 1) := dec_at dlX10_hand_0_ok 20 rfl
theorem dX10_hand_69 : decode cX10_hand 69 = .ok (.getfield 26, 3) := dec_at dlX10_hand_0_ok 21 rfl
theorem dX10_hand_72 : decode cX10_hand 72 = .ok (.getfield 192, 3) := dec_at dlX10_hand_0_ok 22 rfl
theorem dX10_hand_75 : decode cX10_hand 75 = .ok (.iload_n 1, 1) := dec_at dlX10_hand_0_ok 23 rfl
theorem dX10_hand_76 : decode cX10_hand 76 = .ok (.iaload, 1) := dec_at dlX10_hand_0_ok 24 rfl
theorem dX10_hand_77 : decode cX10_hand 77 = .ok (.ireturn, 1) := dec_at dlX10_hand_0_ok 25 rfl
theorem dX10_hand_78 : decode cX10_hand 78 = .ok (.aload_n 0, 1) := dec_at dlX10_hand_0_ok 26 rfl
theorem dX10_hand_79 : decode cX10_hand 79 = .ok (.getfield 42, 3) := dec_at dlX10_hand_0_ok 27 rfl
theorem dX10_hand_82 : decode cX10_hand 82 = .ok (.getfield 195, 3) := dec_at dlX10_hand_0_ok 28 rfl
theorem dX10_hand_85 : decode cX10_hand 85 = .ok (.iload_n 1, 1) := dec_at dlX10_hand_0_ok 29 rfl
theorem dX10_hand_86 : decode cX10_hand 86 = .ok (.iaload, 1) := dec_at dlX10_hand_0_ok 30 rfl
noncomputable def dlX10_hand_87 : List (Nat × Instr × Nat) := [(87, .ireturn, 1), (88, .aload_n 0, 1), (89, .getfield 42, 3), (92, .getfield 198, 3), (95, .iload_n 1, 1), (96, .iaload, 1), (97, .ireturn, 1), (98, .ldc 103, 2), (100, .ireturn, 1)]
theorem dlX10_hand_87_ok : dlX10_hand_87.all (fun r => decide (decode cX10_hand r.1 = .ok r.2)) = true := by decide +kernel
theorem dX10_hand_87 : decode cX10_hand 87 = .ok (.ireturn, 1) := dec_at dlX10_hand_87_ok 0 rfl
theorem dX10_hand_88 : decode cX10_hand 88 = .ok (.aload_n 0, 1) := dec_at dlX10_hand_87_ok 1 rfl
theorem dX10_hand_89 : decode cX10_hand 89 = .ok (.getfield 42, 3) := dec_at dlX10_hand_87_ok 2 rfl
theorem dX10_hand_92 : decode cX10_hand 92 = .ok (.getfield 198, 3) := dec_at dlX10_hand_87_ok 3 rfl
theorem dX10_hand_95 : decode cX10_hand 95 = .ok (.iload_n 1, 1) := dec_at dlX10_hand_87_ok 4 rfl
theorem dX10_hand_96 : decode cX10_hand 96 = .ok (.iaload, 1) := dec_at dlX10_hand_87_ok 5 rfl
theorem dX10_hand_97 : decode cX10_hand 97 = .ok (.ireturn, 1) := dec_at dlX10_hand_87_ok 6 rfl
theorem dX10_hand_98 : decode cX10_hand 98 = .ok (.ldc 103, 2) := dec_at dlX10_hand_87_ok 7 rfl
theorem dX10_hand_100 : decode cX10_hand 100 = .ok (.ireturn, 1) := dec_at dlX10_hand_87_ok 8 rfl
set_option maxRecDepth 20000 in
theorem ggX10_write_X10_isQuill : GoodIn wsX10_write wsX10_isQuill := goodIn_s _ [(10, 3), (91, 27)] rfl (by decide +kernel)
set_option maxRecDepth 20000 in
theorem gX10_write_X10_isQuill : GoodIn wsX10_write (wsV RX10 156 RX10 yX10_isQuill wsX10_isQuill) := goodIn_app (goodIn_s _ [(6, 4)] rfl (by decide +kernel)) ggX10_write_X10_isQuill
set_option maxRecDepth 20000 in
theorem ggX10_write_X10_isHand : GoodIn wsX10_write wsX10_isHand := goodIn_s _ [(16, 1), (11, 1), (17, 1), (91, 27)] rfl (by decide +kernel)
set_option maxRecDepth 20000 in
theorem gX10_write_X10_isHand : GoodIn wsX10_write (wsV RX10 183 RX10 yX10_isHand wsX10_isHand) := goodIn_app (goodIn_s _ [(13, 3), (9, 1)] rfl (by decide +kernel)) ggX10_write_X10_isHand
set_option maxRecDepth 20000 in
theorem ggX10_write_X10_within : GoodIn wsX10_write wsX10_within := goodIn_s _ [(20, 1)] rfl (by decide +kernel)
set_option maxRecDepth 20000 in
theorem gX10_write_X10_within : GoodIn wsX10_write (va_wsS RX10 99 yX10_within wsX10_within) := goodIn_app (goodIn_s _ [(18, 2), (9, 1)] rfl (by decide +kernel)) ggX10_write_X10_within
set_option maxRecDepth 20000 in
theorem ggX10_write_X10_isOverTime : GoodIn wsX10_write wsX10_isOverTime := goodIn_s _ [(24, 1), (5, 1), (25, 2), (91, 14), (118, 8)] rfl (by decide +kernel)
set_option maxRecDepth 20000 in
theorem gX10_write_X10_isOverTime : GoodIn wsX10_write (wsV RX10 201 RX10 yX10_isOverTime wsX10_isOverTime) := goodIn_app (goodIn_s _ [(21, 3), (9, 1)] rfl (by decide +kernel)) ggX10_write_X10_isOverTime
set_option maxRecDepth 20000 in
theorem ggX10_write_X3_push : GoodIn wsX10_write wsX3_push := goodIn_s _ [(31, 20), (126, 3), (118, 8)] rfl (by decide +kernel)
set_option maxRecDepth 20000 in
theorem gX10_write_X3_push : GoodIn wsX10_write (wsV RX10 205 RX3 yX3_push wsX3_push) := goodIn_app (goodIn_s _ [(27, 4)] rfl (by decide +kernel)) ggX10_write_X3_push
set_option maxRecDepth 20000 in
theorem ggX10_write_X1_writePage : GoodIn wsX10_write wsX1_writePage := goodIn_s _ [(54, 1), (48, 1), (55, 1), (47, 1), (49, 2), (40, 1), (56, 23), (9, 1), (79, 12), (118, 8), (105, 13)] rfl (by decide +kernel)
set_option maxRecDepth 20000 in
theorem gX10_write_X1_writePage : GoodIn wsX10_write (wsV RX10 209 RX1 yX1_writePage wsX1_writePage) := goodIn_app (goodIn_s _ [(51, 3), (38, 1)] rfl (by decide +kernel)) ggX10_write_X1_writePage
noncomputable def dlX10_write_0 : List (Nat × Instr × Nat) := [(0, .aload_n 0, 1), (1, .iload_n 1, 1), (2, .invokevirtual 156, 3), (5, .ifCond .eq 11, 3), (8, .aload_n 0, 1), (9, .iload_n 2, 1), (10, .invokevirtual 183, 3), (13, .ifCond .ne 6, 3), (16, .ldc 160, 2), (18, .ireturn, 1), (19, .iload_n 3, 1), (20, .iconst 1, 1), (21, .bipush 40, 2), (23, .invokestatic 99, 3), (26, .ifCond .ne 6, 3), (29, .ldc 103, 2), (31, .ireturn, 1), (32, .aload_n 0, 1), (33, .invokevirtual 201, 3), (36, .ifCond .eq 6, 3), (39, .ldc 104, 2), (41, .ireturn, 1), (42, .aload_n 0, 1), (43, .getfield 49, 3), (46, .aload_n 0, 1), (47, .getfield 42, 3), (50, .invokevirtual 205, 3), (53, .iconst 0, 1), (54, .istore 4, 2), (56, .iconst 0, 1), (57, .istore 5, 2)]
theorem dlX10_write_0_ok : dlX10_write_0.all (fun r => decide (decode cX10_write r.1 = .ok r.2)) = true := by decide +kernel
theorem dX10_write_0 : decode cX10_write 0 = .ok (.aload_n 0, 1) := dec_at dlX10_write_0_ok 0 rfl
theorem dX10_write_1 : decode cX10_write 1 = .ok (.iload_n 1, 1) := dec_at dlX10_write_0_ok 1 rfl
theorem dX10_write_2 : decode cX10_write 2 = .ok (.invokevirtual 156, 3) := dec_at dlX10_write_0_ok 2 rfl
theorem dX10_write_5 : decode cX10_write 5 = .ok (.ifCond .eq 11, 3) := dec_at dlX10_write_0_ok 3 rfl
theorem dX10_write_8 : decode cX10_write 8 = .ok (.aload_n 0, 1) := dec_at dlX10_write_0_ok 4 rfl
theorem dX10_write_9 : decode cX10_write 9 = .ok (.iload_n 2, 1) := dec_at dlX10_write_0_ok 5 rfl
theorem dX10_write_10 : decode cX10_write 10 = .ok (.invokevirtual 183, 3) := dec_at dlX10_write_0_ok 6 rfl
theorem dX10_write_13 : decode cX10_write 13 = .ok (.ifCond .ne 6, 3) := dec_at dlX10_write_0_ok 7 rfl
theorem dX10_write_16 : decode cX10_write 16 = .ok (.ldc 160, 2) := dec_at dlX10_write_0_ok 8 rfl
theorem dX10_write_18 : decode cX10_write 18 = .ok (.ireturn, 1) := dec_at dlX10_write_0_ok 9 rfl
theorem dX10_write_19 : decode cX10_write 19 = .ok (.iload_n 3, 1) := dec_at dlX10_write_0_ok 10 rfl
theorem dX10_write_20 : decode cX10_write 20 = .ok (.iconst 1, 1) := dec_at dlX10_write_0_ok 11 rfl
theorem dX10_write_21 : decode cX10_write 21 = .ok (.bipush 40, 2) := dec_at dlX10_write_0_ok 12 rfl
theorem dX10_write_23 : decode cX10_write 23 = .ok (.invokestatic 99, 3) := dec_at dlX10_write_0_ok 13 rfl
theorem dX10_write_26 : decode cX10_write 26 = .ok (.ifCond .ne 6, 3) := dec_at dlX10_write_0_ok 14 rfl
theorem dX10_write_29 : decode cX10_write 29 = .ok (.ldc 103, 2) := dec_at dlX10_write_0_ok 15 rfl
theorem dX10_write_31 : decode cX10_write 31 = .ok (.ireturn, 1) := dec_at dlX10_write_0_ok 16 rfl
theorem dX10_write_32 : decode cX10_write 32 = .ok (.aload_n 0, 1) := dec_at dlX10_write_0_ok 17 rfl
theorem dX10_write_33 : decode cX10_write 33 = .ok (.invokevirtual 201, 3) := dec_at dlX10_write_0_ok 18 rfl
theorem dX10_write_36 : decode cX10_write 36 = .ok (.ifCond .eq 6, 3) := dec_at dlX10_write_0_ok 19 rfl
theorem dX10_write_39 : decode cX10_write 39 = .ok (.ldc 104, 2) := dec_at dlX10_write_0_ok 20 rfl
theorem dX10_write_41 : decode cX10_write 41 = .ok (.ireturn, 1) := dec_at dlX10_write_0_ok 21 rfl
theorem dX10_write_42 : decode cX10_write 42 = .ok (.aload_n 0, 1) := dec_at dlX10_write_0_ok 22 rfl
theorem dX10_write_43 : decode cX10_write 43 = .ok (.getfield 49, 3) := dec_at dlX10_write_0_ok 23 rfl
theorem dX10_write_46 : decode cX10_write 46 = .ok (.aload_n 0, 1) := dec_at dlX10_write_0_ok 24 rfl
theorem dX10_write_47 : decode cX10_write 47 = .ok (.getfield 42, 3) := dec_at dlX10_write_0_ok 25 rfl
theorem dX10_write_50 : decode cX10_write 50 = .ok (.invokevirtual 205, 3) := dec_at dlX10_write_0_ok 26 rfl
theorem dX10_write_53 : decode cX10_write 53 = .ok (.iconst 0, 1) := dec_at dlX10_write_0_ok 27 rfl
theorem dX10_write_54 : decode cX10_write 54 = .ok (.istore 4, 2) := dec_at dlX10_write_0_ok 28 rfl
theorem dX10_write_56 : decode cX10_write 56 = .ok (.iconst 0, 1) := dec_at dlX10_write_0_ok 29 rfl
theorem dX10_write_57 : decode cX10_write 57 = .ok (.istore 5, 2) := dec_at dlX10_write_0_ok 30 rfl
noncomputable def dlX10_write_59 : List (Nat × Instr × Nat) := [(59, .iload 5, 2), (61, .iload_n 3, 1), (62, .if_icmp .ge 24, 3), (65, .aload_n 0, 1), (66, .getfield 42, 3), (69, .iload_n 1, 1), (70, .iload_n 2, 1), (71, .invokevirtual 209, 3), (74, .ifCond .eq 6, 3), (77, .iinc 4 1, 3), (80, .iinc 5 1, 3), (83, .goto (-24), 3), (86, .iload 4, 2), (88, .ireturn, 1)]
theorem dlX10_write_59_ok : dlX10_write_59.all (fun r => decide (decode cX10_write r.1 = .ok r.2)) = true := by decide +kernel
theorem dX10_write_59 : decode cX10_write 59 = .ok (.iload 5, 2) := dec_at dlX10_write_59_ok 0 rfl
theorem dX10_write_61 : decode cX10_write 61 = .ok (.iload_n 3, 1) := dec_at dlX10_write_59_ok 1 rfl
theorem dX10_write_62 : decode cX10_write 62 = .ok (.if_icmp .ge 24, 3) := dec_at dlX10_write_59_ok 2 rfl
theorem dX10_write_65 : decode cX10_write 65 = .ok (.aload_n 0, 1) := dec_at dlX10_write_59_ok 3 rfl
theorem dX10_write_66 : decode cX10_write 66 = .ok (.getfield 42, 3) := dec_at dlX10_write_59_ok 4 rfl
theorem dX10_write_69 : decode cX10_write 69 = .ok (.iload_n 1, 1) := dec_at dlX10_write_59_ok 5 rfl
theorem dX10_write_70 : decode cX10_write 70 = .ok (.iload_n 2, 1) := dec_at dlX10_write_59_ok 6 rfl
theorem dX10_write_71 : decode cX10_write 71 = .ok (.invokevirtual 209, 3) := dec_at dlX10_write_59_ok 7 rfl
theorem dX10_write_74 : decode cX10_write 74 = .ok (.ifCond .eq 6, 3) := dec_at dlX10_write_59_ok 8 rfl
theorem dX10_write_77 : decode cX10_write 77 = .ok (.iinc 4 1, 3) := dec_at dlX10_write_59_ok 9 rfl
theorem dX10_write_80 : decode cX10_write 80 = .ok (.iinc 5 1, 3) := dec_at dlX10_write_59_ok 10 rfl
theorem dX10_write_83 : decode cX10_write 83 = .ok (.goto (-24), 3) := dec_at dlX10_write_59_ok 11 rfl
theorem dX10_write_86 : decode cX10_write 86 = .ok (.iload 4, 2) := dec_at dlX10_write_59_ok 12 rfl
theorem dX10_write_88 : decode cX10_write 88 = .ok (.ireturn, 1) := dec_at dlX10_write_59_ok 13 rfl
set_option maxRecDepth 20000 in
theorem ggX10_dry_X10_isQuill : GoodIn wsX10_dry wsX10_isQuill := goodIn_s _ [(10, 3), (47, 14), (69, 13)] rfl (by decide +kernel)
set_option maxRecDepth 20000 in
theorem gX10_dry_X10_isQuill : GoodIn wsX10_dry (wsV RX10 156 RX10 yX10_isQuill wsX10_isQuill) := goodIn_app (goodIn_s _ [(6, 4)] rfl (by decide +kernel)) ggX10_dry_X10_isQuill
set_option maxRecDepth 20000 in
theorem ggX10_dry_X10_within : GoodIn wsX10_dry wsX10_within := goodIn_s _ [(15, 1)] rfl (by decide +kernel)
set_option maxRecDepth 20000 in
theorem gX10_dry_X10_within : GoodIn wsX10_dry (va_wsS RX10 99 yX10_within wsX10_within) := goodIn_app (goodIn_s _ [(13, 2), (9, 1)] rfl (by decide +kernel)) ggX10_dry_X10_within
set_option maxRecDepth 20000 in
theorem ggX10_dry_X3_push : GoodIn wsX10_dry wsX3_push := goodIn_s _ [(20, 20), (82, 3), (61, 8)] rfl (by decide +kernel)
set_option maxRecDepth 20000 in
theorem gX10_dry_X3_push : GoodIn wsX10_dry (wsV RX10 205 RX3 yX3_push wsX3_push) := goodIn_app (goodIn_s _ [(16, 4)] rfl (by decide +kernel)) ggX10_dry_X3_push
set_option maxRecDepth 20000 in
theorem ggX10_dry_X10_driedSoftness : GoodIn wsX10_dry wsX10_driedSoftness := goodIn_s _ [(42, 5)] rfl (by decide +kernel)
set_option maxRecDepth 20000 in
theorem gX10_dry_X10_driedSoftness : GoodIn wsX10_dry (va_wsS RX10 213 yX10_driedSoftness wsX10_driedSoftness) := goodIn_app (goodIn_s _ [(40, 2), (9, 1)] rfl (by decide +kernel)) ggX10_dry_X10_driedSoftness
noncomputable def dlX10_dry_0 : List (Nat × Instr × Nat) := [(0, .aload_n 0, 1), (1, .iload_n 1, 1), (2, .invokevirtual 156, 3), (5, .ifCond .ne 6, 3), (8, .ldc 160, 2), (10, .ireturn, 1), (11, .iload_n 2, 1), (12, .iconst 1, 1), (13, .bipush 9, 2), (15, .invokestatic 99, 3), (18, .ifCond .ne 6, 3), (21, .ldc 103, 2), (23, .ireturn, 1), (24, .aload_n 0, 1), (25, .getfield 49, 3), (28, .aload_n 0, 1), (29, .getfield 42, 3), (32, .invokevirtual 205, 3), (35, .aload_n 0, 1), (36, .getfield 42, 3), (39, .getfield 180, 3), (42, .iload_n 1, 1), (43, .aload_n 0, 1), (44, .getfield 42, 3), (47, .getfield 180, 3), (50, .iload_n 1, 1), (51, .iaload, 1), (52, .iload_n 2, 1), (53, .invokestatic 213, 3), (56, .iastore, 1), (57, .aload_n 0, 1)]
theorem dlX10_dry_0_ok : dlX10_dry_0.all (fun r => decide (decode cX10_dry r.1 = .ok r.2)) = true := by decide +kernel
theorem dX10_dry_0 : decode cX10_dry 0 = .ok (.aload_n 0, 1) := dec_at dlX10_dry_0_ok 0 rfl
theorem dX10_dry_1 : decode cX10_dry 1 = .ok (.iload_n 1, 1) := dec_at dlX10_dry_0_ok 1 rfl
theorem dX10_dry_2 : decode cX10_dry 2 = .ok (.invokevirtual 156, 3) := dec_at dlX10_dry_0_ok 2 rfl
theorem dX10_dry_5 : decode cX10_dry 5 = .ok (.ifCond .ne 6, 3) := dec_at dlX10_dry_0_ok 3 rfl
theorem dX10_dry_8 : decode cX10_dry 8 = .ok (.ldc 160, 2) := dec_at dlX10_dry_0_ok 4 rfl
theorem dX10_dry_10 : decode cX10_dry 10 = .ok (.ireturn, 1) := dec_at dlX10_dry_0_ok 5 rfl
theorem dX10_dry_11 : decode cX10_dry 11 = .ok (.iload_n 2, 1) := dec_at dlX10_dry_0_ok 6 rfl
theorem dX10_dry_12 : decode cX10_dry 12 = .ok (.iconst 1, 1) := dec_at dlX10_dry_0_ok 7 rfl
theorem dX10_dry_13 : decode cX10_dry 13 = .ok (.bipush 9, 2) := dec_at dlX10_dry_0_ok 8 rfl
theorem dX10_dry_15 : decode cX10_dry 15 = .ok (.invokestatic 99, 3) := dec_at dlX10_dry_0_ok 9 rfl
theorem dX10_dry_18 : decode cX10_dry 18 = .ok (.ifCond .ne 6, 3) := dec_at dlX10_dry_0_ok 10 rfl
theorem dX10_dry_21 : decode cX10_dry 21 = .ok (.ldc 103, 2) := dec_at dlX10_dry_0_ok 11 rfl
theorem dX10_dry_23 : decode cX10_dry 23 = .ok (.ireturn, 1) := dec_at dlX10_dry_0_ok 12 rfl
theorem dX10_dry_24 : decode cX10_dry 24 = .ok (.aload_n 0, 1) := dec_at dlX10_dry_0_ok 13 rfl
theorem dX10_dry_25 : decode cX10_dry 25 = .ok (.getfield 49, 3) := dec_at dlX10_dry_0_ok 14 rfl
theorem dX10_dry_28 : decode cX10_dry 28 = .ok (.aload_n 0, 1) := dec_at dlX10_dry_0_ok 15 rfl
theorem dX10_dry_29 : decode cX10_dry 29 = .ok (.getfield 42, 3) := dec_at dlX10_dry_0_ok 16 rfl
theorem dX10_dry_32 : decode cX10_dry 32 = .ok (.invokevirtual 205, 3) := dec_at dlX10_dry_0_ok 17 rfl
theorem dX10_dry_35 : decode cX10_dry 35 = .ok (.aload_n 0, 1) := dec_at dlX10_dry_0_ok 18 rfl
theorem dX10_dry_36 : decode cX10_dry 36 = .ok (.getfield 42, 3) := dec_at dlX10_dry_0_ok 19 rfl
theorem dX10_dry_39 : decode cX10_dry 39 = .ok (.getfield 180, 3) := dec_at dlX10_dry_0_ok 20 rfl
theorem dX10_dry_42 : decode cX10_dry 42 = .ok (.iload_n 1, 1) := dec_at dlX10_dry_0_ok 21 rfl
theorem dX10_dry_43 : decode cX10_dry 43 = .ok (.aload_n 0, 1) := dec_at dlX10_dry_0_ok 22 rfl
theorem dX10_dry_44 : decode cX10_dry 44 = .ok (.getfield 42, 3) := dec_at dlX10_dry_0_ok 23 rfl
theorem dX10_dry_47 : decode cX10_dry 47 = .ok (.getfield 180, 3) := dec_at dlX10_dry_0_ok 24 rfl
theorem dX10_dry_50 : decode cX10_dry 50 = .ok (.iload_n 1, 1) := dec_at dlX10_dry_0_ok 25 rfl
theorem dX10_dry_51 : decode cX10_dry 51 = .ok (.iaload, 1) := dec_at dlX10_dry_0_ok 26 rfl
theorem dX10_dry_52 : decode cX10_dry 52 = .ok (.iload_n 2, 1) := dec_at dlX10_dry_0_ok 27 rfl
theorem dX10_dry_53 : decode cX10_dry 53 = .ok (.invokestatic 213, 3) := dec_at dlX10_dry_0_ok 28 rfl
theorem dX10_dry_56 : decode cX10_dry 56 = .ok (.iastore, 1) := dec_at dlX10_dry_0_ok 29 rfl
theorem dX10_dry_57 : decode cX10_dry 57 = .ok (.aload_n 0, 1) := dec_at dlX10_dry_0_ok 30 rfl
noncomputable def dlX10_dry_58 : List (Nat × Instr × Nat) := [(58, .getfield 42, 3), (61, .getfield 180, 3), (64, .iload_n 1, 1), (65, .iaload, 1), (66, .ireturn, 1)]
theorem dlX10_dry_58_ok : dlX10_dry_58.all (fun r => decide (decode cX10_dry r.1 = .ok r.2)) = true := by decide +kernel
theorem dX10_dry_58 : decode cX10_dry 58 = .ok (.getfield 42, 3) := dec_at dlX10_dry_58_ok 0 rfl
theorem dX10_dry_61 : decode cX10_dry 61 = .ok (.getfield 180, 3) := dec_at dlX10_dry_58_ok 1 rfl
theorem dX10_dry_64 : decode cX10_dry 64 = .ok (.iload_n 1, 1) := dec_at dlX10_dry_58_ok 2 rfl
theorem dX10_dry_65 : decode cX10_dry 65 = .ok (.iaload, 1) := dec_at dlX10_dry_58_ok 3 rfl
theorem dX10_dry_66 : decode cX10_dry 66 = .ok (.ireturn, 1) := dec_at dlX10_dry_58_ok 4 rfl
set_option maxRecDepth 20000 in
theorem ggX10_mend_X10_isQuill : GoodIn wsX10_mend wsX10_isQuill := goodIn_s _ [(11, 3), (63, 14), (85, 13)] rfl (by decide +kernel)
set_option maxRecDepth 20000 in
theorem gX10_mend_X10_isQuill : GoodIn wsX10_mend (wsV RX10 156 RX10 yX10_isQuill wsX10_isQuill) := goodIn_app (goodIn_s _ [(7, 4)] rfl (by decide +kernel)) ggX10_mend_X10_isQuill
set_option maxRecDepth 20000 in
theorem ggX10_mend_X1_canMend : GoodIn wsX10_mend wsX1_canMend := goodIn_s _ [(18, 5), (17, 1), (23, 4), (77, 21)] rfl (by decide +kernel)
set_option maxRecDepth 20000 in
theorem gX10_mend_X1_canMend : GoodIn wsX10_mend (wsV RX10 217 RX1 yX1_canMend wsX1_canMend) := goodIn_app (goodIn_s _ [(14, 4)] rfl (by decide +kernel)) ggX10_mend_X1_canMend
set_option maxRecDepth 20000 in
theorem ggX10_mend_X10_isOverTime : GoodIn wsX10_mend wsX10_isOverTime := goodIn_s _ [(30, 1), (2, 1), (31, 2), (63, 22)] rfl (by decide +kernel)
set_option maxRecDepth 20000 in
theorem gX10_mend_X10_isOverTime : GoodIn wsX10_mend (wsV RX10 201 RX10 yX10_isOverTime wsX10_isOverTime) := goodIn_app (goodIn_s _ [(27, 3), (10, 1)] rfl (by decide +kernel)) ggX10_mend_X10_isOverTime
set_option maxRecDepth 20000 in
theorem ggX10_mend_X3_push : GoodIn wsX10_mend wsX3_push := goodIn_s _ [(37, 7), (17, 1), (44, 2), (24, 1), (19, 1), (46, 8), (98, 3), (77, 8)] rfl (by decide +kernel)
set_option maxRecDepth 20000 in
theorem gX10_mend_X3_push : GoodIn wsX10_mend (wsV RX10 205 RX3 yX3_push wsX3_push) := goodIn_app (goodIn_s _ [(33, 4)] rfl (by decide +kernel)) ggX10_mend_X3_push
set_option maxRecDepth 20000 in
theorem ggX10_mend_X1_mendQuill : GoodIn wsX10_mend wsX1_mendQuill := goodIn_s _ [(57, 1), (19, 1), (50, 1), (58, 4), (51, 1), (24, 1), (45, 1), (25, 1), (62, 1), (20, 3), (17, 1), (23, 1), (26, 1), (77, 21)] rfl (by decide +kernel)
set_option maxRecDepth 20000 in
theorem gX10_mend_X1_mendQuill : GoodIn wsX10_mend (wsV RX10 221 RX1 yX1_mendQuill wsX1_mendQuill) := goodIn_app (goodIn_s _ [(54, 3), (17, 1)] rfl (by decide +kernel)) ggX10_mend_X1_mendQuill
noncomputable def dlX10_mend_0 : List (Nat × Instr × Nat) := [(0, .aload_n 0, 1), (1, .iload_n 1, 1), (2, .invokevirtual 156, 3), (5, .ifCond .ne 6, 3), (8, .ldc 160, 2), (10, .ireturn, 1), (11, .aload_n 0, 1), (12, .getfield 42, 3), (15, .iload_n 1, 1), (16, .invokevirtual 217, 3), (19, .ifCond .ne 6, 3), (22, .ldc 220, 2), (24, .ireturn, 1), (25, .aload_n 0, 1), (26, .invokevirtual 201, 3), (29, .ifCond .eq 6, 3), (32, .ldc 104, 2), (34, .ireturn, 1), (35, .aload_n 0, 1), (36, .getfield 49, 3), (39, .aload_n 0, 1), (40, .getfield 42, 3), (43, .invokevirtual 205, 3), (46, .aload_n 0, 1), (47, .getfield 42, 3), (50, .iload_n 1, 1), (51, .invokevirtual 221, 3), (54, .aload_n 0, 1), (55, .getfield 42, 3), (58, .getfield 170, 3), (61, .iload_n 1, 1)]
theorem dlX10_mend_0_ok : dlX10_mend_0.all (fun r => decide (decode cX10_mend r.1 = .ok r.2)) = true := by decide +kernel
theorem dX10_mend_0 : decode cX10_mend 0 = .ok (.aload_n 0, 1) := dec_at dlX10_mend_0_ok 0 rfl
theorem dX10_mend_1 : decode cX10_mend 1 = .ok (.iload_n 1, 1) := dec_at dlX10_mend_0_ok 1 rfl
theorem dX10_mend_2 : decode cX10_mend 2 = .ok (.invokevirtual 156, 3) := dec_at dlX10_mend_0_ok 2 rfl
theorem dX10_mend_5 : decode cX10_mend 5 = .ok (.ifCond .ne 6, 3) := dec_at dlX10_mend_0_ok 3 rfl
theorem dX10_mend_8 : decode cX10_mend 8 = .ok (.ldc 160, 2) := dec_at dlX10_mend_0_ok 4 rfl
theorem dX10_mend_10 : decode cX10_mend 10 = .ok (.ireturn, 1) := dec_at dlX10_mend_0_ok 5 rfl
theorem dX10_mend_11 : decode cX10_mend 11 = .ok (.aload_n 0, 1) := dec_at dlX10_mend_0_ok 6 rfl
theorem dX10_mend_12 : decode cX10_mend 12 = .ok (.getfield 42, 3) := dec_at dlX10_mend_0_ok 7 rfl
theorem dX10_mend_15 : decode cX10_mend 15 = .ok (.iload_n 1, 1) := dec_at dlX10_mend_0_ok 8 rfl
theorem dX10_mend_16 : decode cX10_mend 16 = .ok (.invokevirtual 217, 3) := dec_at dlX10_mend_0_ok 9 rfl
theorem dX10_mend_19 : decode cX10_mend 19 = .ok (.ifCond .ne 6, 3) := dec_at dlX10_mend_0_ok 10 rfl
theorem dX10_mend_22 : decode cX10_mend 22 = .ok (.ldc 220, 2) := dec_at dlX10_mend_0_ok 11 rfl
theorem dX10_mend_24 : decode cX10_mend 24 = .ok (.ireturn, 1) := dec_at dlX10_mend_0_ok 12 rfl
theorem dX10_mend_25 : decode cX10_mend 25 = .ok (.aload_n 0, 1) := dec_at dlX10_mend_0_ok 13 rfl
theorem dX10_mend_26 : decode cX10_mend 26 = .ok (.invokevirtual 201, 3) := dec_at dlX10_mend_0_ok 14 rfl
theorem dX10_mend_29 : decode cX10_mend 29 = .ok (.ifCond .eq 6, 3) := dec_at dlX10_mend_0_ok 15 rfl
theorem dX10_mend_32 : decode cX10_mend 32 = .ok (.ldc 104, 2) := dec_at dlX10_mend_0_ok 16 rfl
theorem dX10_mend_34 : decode cX10_mend 34 = .ok (.ireturn, 1) := dec_at dlX10_mend_0_ok 17 rfl
theorem dX10_mend_35 : decode cX10_mend 35 = .ok (.aload_n 0, 1) := dec_at dlX10_mend_0_ok 18 rfl
theorem dX10_mend_36 : decode cX10_mend 36 = .ok (.getfield 49, 3) := dec_at dlX10_mend_0_ok 19 rfl
theorem dX10_mend_39 : decode cX10_mend 39 = .ok (.aload_n 0, 1) := dec_at dlX10_mend_0_ok 20 rfl
theorem dX10_mend_40 : decode cX10_mend 40 = .ok (.getfield 42, 3) := dec_at dlX10_mend_0_ok 21 rfl
theorem dX10_mend_43 : decode cX10_mend 43 = .ok (.invokevirtual 205, 3) := dec_at dlX10_mend_0_ok 22 rfl
theorem dX10_mend_46 : decode cX10_mend 46 = .ok (.aload_n 0, 1) := dec_at dlX10_mend_0_ok 23 rfl
theorem dX10_mend_47 : decode cX10_mend 47 = .ok (.getfield 42, 3) := dec_at dlX10_mend_0_ok 24 rfl
theorem dX10_mend_50 : decode cX10_mend 50 = .ok (.iload_n 1, 1) := dec_at dlX10_mend_0_ok 25 rfl
theorem dX10_mend_51 : decode cX10_mend 51 = .ok (.invokevirtual 221, 3) := dec_at dlX10_mend_0_ok 26 rfl
theorem dX10_mend_54 : decode cX10_mend 54 = .ok (.aload_n 0, 1) := dec_at dlX10_mend_0_ok 27 rfl
theorem dX10_mend_55 : decode cX10_mend 55 = .ok (.getfield 42, 3) := dec_at dlX10_mend_0_ok 28 rfl
theorem dX10_mend_58 : decode cX10_mend 58 = .ok (.getfield 170, 3) := dec_at dlX10_mend_0_ok 29 rfl
theorem dX10_mend_61 : decode cX10_mend 61 = .ok (.iload_n 1, 1) := dec_at dlX10_mend_0_ok 30 rfl
noncomputable def dlX10_mend_62 : List (Nat × Instr × Nat) := [(62, .iaload, 1), (63, .ireturn, 1)]
theorem dlX10_mend_62_ok : dlX10_mend_62.all (fun r => decide (decode cX10_mend r.1 = .ok r.2)) = true := by decide +kernel
theorem dX10_mend_62 : decode cX10_mend 62 = .ok (.iaload, 1) := dec_at dlX10_mend_62_ok 0 rfl
theorem dX10_mend_63 : decode cX10_mend 63 = .ok (.ireturn, 1) := dec_at dlX10_mend_62_ok 1 rfl
set_option maxRecDepth 20000 in
theorem ggX10_broaden_X10_isQuill : GoodIn wsX10_broaden wsX10_isQuill := goodIn_s _ [(11, 3), (38, 14), (60, 13)] rfl (by decide +kernel)
set_option maxRecDepth 20000 in
theorem gX10_broaden_X10_isQuill : GoodIn wsX10_broaden (wsV RX10 156 RX10 yX10_isQuill wsX10_isQuill) := goodIn_app (goodIn_s _ [(7, 4)] rfl (by decide +kernel)) ggX10_broaden_X10_isQuill
set_option maxRecDepth 20000 in
theorem ggX10_broaden_X3_push : GoodIn wsX10_broaden wsX3_push := goodIn_s _ [(18, 20), (73, 3), (52, 8)] rfl (by decide +kernel)
set_option maxRecDepth 20000 in
theorem gX10_broaden_X3_push : GoodIn wsX10_broaden (wsV RX10 205 RX3 yX3_push wsX3_push) := goodIn_app (goodIn_s _ [(14, 4)] rfl (by decide +kernel)) ggX10_broaden_X3_push
noncomputable def dlX10_broaden_0 : List (Nat × Instr × Nat) := [(0, .aload_n 0, 1), (1, .iload_n 1, 1), (2, .invokevirtual 156, 3), (5, .ifCond .ne 6, 3), (8, .ldc 160, 2), (10, .ireturn, 1), (11, .aload_n 0, 1), (12, .getfield 42, 3), (15, .getfield 173, 3), (18, .iload_n 1, 1), (19, .iaload, 1), (20, .bipush 9, 2), (22, .if_icmp .lt 6, 3), (25, .ldc 220, 2), (27, .ireturn, 1), (28, .aload_n 0, 1), (29, .getfield 49, 3), (32, .aload_n 0, 1), (33, .getfield 42, 3), (36, .invokevirtual 205, 3), (39, .aload_n 0, 1), (40, .getfield 42, 3), (43, .getfield 173, 3), (46, .iload_n 1, 1), (47, .dup2, 1), (48, .iaload, 1), (49, .iconst 1, 1), (50, .iadd, 1), (51, .iastore, 1), (52, .aload_n 0, 1), (53, .getfield 42, 3)]
theorem dlX10_broaden_0_ok : dlX10_broaden_0.all (fun r => decide (decode cX10_broaden r.1 = .ok r.2)) = true := by decide +kernel
theorem dX10_broaden_0 : decode cX10_broaden 0 = .ok (.aload_n 0, 1) := dec_at dlX10_broaden_0_ok 0 rfl
theorem dX10_broaden_1 : decode cX10_broaden 1 = .ok (.iload_n 1, 1) := dec_at dlX10_broaden_0_ok 1 rfl
theorem dX10_broaden_2 : decode cX10_broaden 2 = .ok (.invokevirtual 156, 3) := dec_at dlX10_broaden_0_ok 2 rfl
theorem dX10_broaden_5 : decode cX10_broaden 5 = .ok (.ifCond .ne 6, 3) := dec_at dlX10_broaden_0_ok 3 rfl
theorem dX10_broaden_8 : decode cX10_broaden 8 = .ok (.ldc 160, 2) := dec_at dlX10_broaden_0_ok 4 rfl
theorem dX10_broaden_10 : decode cX10_broaden 10 = .ok (.ireturn, 1) := dec_at dlX10_broaden_0_ok 5 rfl
theorem dX10_broaden_11 : decode cX10_broaden 11 = .ok (.aload_n 0, 1) := dec_at dlX10_broaden_0_ok 6 rfl
theorem dX10_broaden_12 : decode cX10_broaden 12 = .ok (.getfield 42, 3) := dec_at dlX10_broaden_0_ok 7 rfl
theorem dX10_broaden_15 : decode cX10_broaden 15 = .ok (.getfield 173, 3) := dec_at dlX10_broaden_0_ok 8 rfl
theorem dX10_broaden_18 : decode cX10_broaden 18 = .ok (.iload_n 1, 1) := dec_at dlX10_broaden_0_ok 9 rfl
theorem dX10_broaden_19 : decode cX10_broaden 19 = .ok (.iaload, 1) := dec_at dlX10_broaden_0_ok 10 rfl
theorem dX10_broaden_20 : decode cX10_broaden 20 = .ok (.bipush 9, 2) := dec_at dlX10_broaden_0_ok 11 rfl
theorem dX10_broaden_22 : decode cX10_broaden 22 = .ok (.if_icmp .lt 6, 3) := dec_at dlX10_broaden_0_ok 12 rfl
theorem dX10_broaden_25 : decode cX10_broaden 25 = .ok (.ldc 220, 2) := dec_at dlX10_broaden_0_ok 13 rfl
theorem dX10_broaden_27 : decode cX10_broaden 27 = .ok (.ireturn, 1) := dec_at dlX10_broaden_0_ok 14 rfl
theorem dX10_broaden_28 : decode cX10_broaden 28 = .ok (.aload_n 0, 1) := dec_at dlX10_broaden_0_ok 15 rfl
theorem dX10_broaden_29 : decode cX10_broaden 29 = .ok (.getfield 49, 3) := dec_at dlX10_broaden_0_ok 16 rfl
theorem dX10_broaden_32 : decode cX10_broaden 32 = .ok (.aload_n 0, 1) := dec_at dlX10_broaden_0_ok 17 rfl
theorem dX10_broaden_33 : decode cX10_broaden 33 = .ok (.getfield 42, 3) := dec_at dlX10_broaden_0_ok 18 rfl
theorem dX10_broaden_36 : decode cX10_broaden 36 = .ok (.invokevirtual 205, 3) := dec_at dlX10_broaden_0_ok 19 rfl
theorem dX10_broaden_39 : decode cX10_broaden 39 = .ok (.aload_n 0, 1) := dec_at dlX10_broaden_0_ok 20 rfl
theorem dX10_broaden_40 : decode cX10_broaden 40 = .ok (.getfield 42, 3) := dec_at dlX10_broaden_0_ok 21 rfl
theorem dX10_broaden_43 : decode cX10_broaden 43 = .ok (.getfield 173, 3) := dec_at dlX10_broaden_0_ok 22 rfl
theorem dX10_broaden_46 : decode cX10_broaden 46 = .ok (.iload_n 1, 1) := dec_at dlX10_broaden_0_ok 23 rfl
theorem dX10_broaden_47 : decode cX10_broaden 47 = .ok (.dup2, 1) := dec_at dlX10_broaden_0_ok 24 rfl
theorem dX10_broaden_48 : decode cX10_broaden 48 = .ok (.iaload, 1) := dec_at dlX10_broaden_0_ok 25 rfl
theorem dX10_broaden_49 : decode cX10_broaden 49 = .ok (.iconst 1, 1) := dec_at dlX10_broaden_0_ok 26 rfl
theorem dX10_broaden_50 : decode cX10_broaden 50 = .ok (.iadd, 1) := dec_at dlX10_broaden_0_ok 27 rfl
theorem dX10_broaden_51 : decode cX10_broaden 51 = .ok (.iastore, 1) := dec_at dlX10_broaden_0_ok 28 rfl
theorem dX10_broaden_52 : decode cX10_broaden 52 = .ok (.aload_n 0, 1) := dec_at dlX10_broaden_0_ok 29 rfl
theorem dX10_broaden_53 : decode cX10_broaden 53 = .ok (.getfield 42, 3) := dec_at dlX10_broaden_0_ok 30 rfl
noncomputable def dlX10_broaden_56 : List (Nat × Instr × Nat) := [(56, .dup, 1), (57, .getfield 142, 3), (60, .iconst 1, 1), (61, .iadd, 1), (62, .putfield 142, 3), (65, .aload_n 0, 1), (66, .getfield 42, 3), (69, .getfield 173, 3), (72, .iload_n 1, 1), (73, .iaload, 1), (74, .ireturn, 1)]
theorem dlX10_broaden_56_ok : dlX10_broaden_56.all (fun r => decide (decode cX10_broaden r.1 = .ok r.2)) = true := by decide +kernel
theorem dX10_broaden_56 : decode cX10_broaden 56 = .ok (.dup, 1) := dec_at dlX10_broaden_56_ok 0 rfl
theorem dX10_broaden_57 : decode cX10_broaden 57 = .ok (.getfield 142, 3) := dec_at dlX10_broaden_56_ok 1 rfl
theorem dX10_broaden_60 : decode cX10_broaden 60 = .ok (.iconst 1, 1) := dec_at dlX10_broaden_56_ok 2 rfl
theorem dX10_broaden_61 : decode cX10_broaden 61 = .ok (.iadd, 1) := dec_at dlX10_broaden_56_ok 3 rfl
theorem dX10_broaden_62 : decode cX10_broaden 62 = .ok (.putfield 142, 3) := dec_at dlX10_broaden_56_ok 4 rfl
theorem dX10_broaden_65 : decode cX10_broaden 65 = .ok (.aload_n 0, 1) := dec_at dlX10_broaden_56_ok 5 rfl
theorem dX10_broaden_66 : decode cX10_broaden 66 = .ok (.getfield 42, 3) := dec_at dlX10_broaden_56_ok 6 rfl
theorem dX10_broaden_69 : decode cX10_broaden 69 = .ok (.getfield 173, 3) := dec_at dlX10_broaden_56_ok 7 rfl
theorem dX10_broaden_72 : decode cX10_broaden 72 = .ok (.iload_n 1, 1) := dec_at dlX10_broaden_56_ok 8 rfl
theorem dX10_broaden_73 : decode cX10_broaden 73 = .ok (.iaload, 1) := dec_at dlX10_broaden_56_ok 9 rfl
theorem dX10_broaden_74 : decode cX10_broaden 74 = .ok (.ireturn, 1) := dec_at dlX10_broaden_56_ok 10 rfl
set_option maxRecDepth 20000 in
theorem ggX10_whet_X10_isOverTime : GoodIn wsX10_whet wsX10_isOverTime := goodIn_s _ [(13, 1), (6, 1), (8, 1), (14, 1), (39, 14), (66, 8)] rfl (by decide +kernel)
set_option maxRecDepth 20000 in
theorem gX10_whet_X10_isOverTime : GoodIn wsX10_whet (wsV RX10 201 RX10 yX10_isOverTime wsX10_isOverTime) := goodIn_app (goodIn_s _ [(9, 4)] rfl (by decide +kernel)) ggX10_whet_X10_isOverTime
set_option maxRecDepth 20000 in
theorem ggX10_whet_X3_push : GoodIn wsX10_whet wsX3_push := goodIn_s _ [(19, 20), (74, 3), (66, 8)] rfl (by decide +kernel)
set_option maxRecDepth 20000 in
theorem gX10_whet_X3_push : GoodIn wsX10_whet (wsV RX10 205 RX3 yX3_push wsX3_push) := goodIn_app (goodIn_s _ [(15, 4)] rfl (by decide +kernel)) ggX10_whet_X3_push
noncomputable def dlX10_whet_0 : List (Nat × Instr × Nat) := [(0, .aload_n 0, 1), (1, .getfield 26, 3), (4, .getfield 225, 3), (7, .ifCond .ne 6, 3), (10, .ldc 220, 2), (12, .ireturn, 1), (13, .aload_n 0, 1), (14, .invokevirtual 201, 3), (17, .ifCond .eq 6, 3), (20, .ldc 104, 2), (22, .ireturn, 1), (23, .aload_n 0, 1), (24, .getfield 49, 3), (27, .aload_n 0, 1), (28, .getfield 42, 3), (31, .invokevirtual 205, 3), (34, .aload_n 0, 1), (35, .getfield 42, 3), (38, .getfield 142, 3), (41, .istore_n 1, 1), (42, .aload_n 0, 1), (43, .getfield 42, 3), (46, .iconst 0, 1), (47, .putfield 142, 3), (50, .aload_n 0, 1), (51, .getfield 42, 3), (54, .dup, 1), (55, .getfield 139, 3), (58, .iconst 5, 1), (59, .iadd, 1), (60, .putfield 139, 3)]
theorem dlX10_whet_0_ok : dlX10_whet_0.all (fun r => decide (decode cX10_whet r.1 = .ok r.2)) = true := by decide +kernel
theorem dX10_whet_0 : decode cX10_whet 0 = .ok (.aload_n 0, 1) := dec_at dlX10_whet_0_ok 0 rfl
theorem dX10_whet_1 : decode cX10_whet 1 = .ok (.getfield 26, 3) := dec_at dlX10_whet_0_ok 1 rfl
theorem dX10_whet_4 : decode cX10_whet 4 = .ok (.getfield 225, 3) := dec_at dlX10_whet_0_ok 2 rfl
theorem dX10_whet_7 : decode cX10_whet 7 = .ok (.ifCond .ne 6, 3) := dec_at dlX10_whet_0_ok 3 rfl
theorem dX10_whet_10 : decode cX10_whet 10 = .ok (.ldc 220, 2) := dec_at dlX10_whet_0_ok 4 rfl
theorem dX10_whet_12 : decode cX10_whet 12 = .ok (.ireturn, 1) := dec_at dlX10_whet_0_ok 5 rfl
theorem dX10_whet_13 : decode cX10_whet 13 = .ok (.aload_n 0, 1) := dec_at dlX10_whet_0_ok 6 rfl
theorem dX10_whet_14 : decode cX10_whet 14 = .ok (.invokevirtual 201, 3) := dec_at dlX10_whet_0_ok 7 rfl
theorem dX10_whet_17 : decode cX10_whet 17 = .ok (.ifCond .eq 6, 3) := dec_at dlX10_whet_0_ok 8 rfl
theorem dX10_whet_20 : decode cX10_whet 20 = .ok (.ldc 104, 2) := dec_at dlX10_whet_0_ok 9 rfl
theorem dX10_whet_22 : decode cX10_whet 22 = .ok (.ireturn, 1) := dec_at dlX10_whet_0_ok 10 rfl
theorem dX10_whet_23 : decode cX10_whet 23 = .ok (.aload_n 0, 1) := dec_at dlX10_whet_0_ok 11 rfl
theorem dX10_whet_24 : decode cX10_whet 24 = .ok (.getfield 49, 3) := dec_at dlX10_whet_0_ok 12 rfl
theorem dX10_whet_27 : decode cX10_whet 27 = .ok (.aload_n 0, 1) := dec_at dlX10_whet_0_ok 13 rfl
theorem dX10_whet_28 : decode cX10_whet 28 = .ok (.getfield 42, 3) := dec_at dlX10_whet_0_ok 14 rfl
theorem dX10_whet_31 : decode cX10_whet 31 = .ok (.invokevirtual 205, 3) := dec_at dlX10_whet_0_ok 15 rfl
theorem dX10_whet_34 : decode cX10_whet 34 = .ok (.aload_n 0, 1) := dec_at dlX10_whet_0_ok 16 rfl
theorem dX10_whet_35 : decode cX10_whet 35 = .ok (.getfield 42, 3) := dec_at dlX10_whet_0_ok 17 rfl
theorem dX10_whet_38 : decode cX10_whet 38 = .ok (.getfield 142, 3) := dec_at dlX10_whet_0_ok 18 rfl
theorem dX10_whet_41 : decode cX10_whet 41 = .ok (.istore_n 1, 1) := dec_at dlX10_whet_0_ok 19 rfl
theorem dX10_whet_42 : decode cX10_whet 42 = .ok (.aload_n 0, 1) := dec_at dlX10_whet_0_ok 20 rfl
theorem dX10_whet_43 : decode cX10_whet 43 = .ok (.getfield 42, 3) := dec_at dlX10_whet_0_ok 21 rfl
theorem dX10_whet_46 : decode cX10_whet 46 = .ok (.iconst 0, 1) := dec_at dlX10_whet_0_ok 22 rfl
theorem dX10_whet_47 : decode cX10_whet 47 = .ok (.putfield 142, 3) := dec_at dlX10_whet_0_ok 23 rfl
theorem dX10_whet_50 : decode cX10_whet 50 = .ok (.aload_n 0, 1) := dec_at dlX10_whet_0_ok 24 rfl
theorem dX10_whet_51 : decode cX10_whet 51 = .ok (.getfield 42, 3) := dec_at dlX10_whet_0_ok 25 rfl
theorem dX10_whet_54 : decode cX10_whet 54 = .ok (.dup, 1) := dec_at dlX10_whet_0_ok 26 rfl
theorem dX10_whet_55 : decode cX10_whet 55 = .ok (.getfield 139, 3) := dec_at dlX10_whet_0_ok 27 rfl
theorem dX10_whet_58 : decode cX10_whet 58 = .ok (.iconst 5, 1) := dec_at dlX10_whet_0_ok 28 rfl
theorem dX10_whet_59 : decode cX10_whet 59 = .ok (.iadd, 1) := dec_at dlX10_whet_0_ok 29 rfl
theorem dX10_whet_60 : decode cX10_whet 60 = .ok (.putfield 139, 3) := dec_at dlX10_whet_0_ok 30 rfl
noncomputable def dlX10_whet_63 : List (Nat × Instr × Nat) := [(63, .iload_n 1, 1), (64, .ireturn, 1)]
theorem dlX10_whet_63_ok : dlX10_whet_63.all (fun r => decide (decode cX10_whet r.1 = .ok r.2)) = true := by decide +kernel
theorem dX10_whet_63 : decode cX10_whet 63 = .ok (.iload_n 1, 1) := dec_at dlX10_whet_63_ok 0 rfl
theorem dX10_whet_64 : decode cX10_whet 64 = .ok (.ireturn, 1) := dec_at dlX10_whet_63_ok 1 rfl
set_option maxRecDepth 20000 in
theorem ggX10_drift_X10_within : GoodIn wsX10_drift wsX10_within := goodIn_s _ [(14, 1)] rfl (by decide +kernel)
set_option maxRecDepth 20000 in
theorem gX10_drift_X10_within : GoodIn wsX10_drift (va_wsS RX10 99 yX10_within wsX10_within) := goodIn_app (goodIn_s _ [(11, 3)] rfl (by decide +kernel)) ggX10_drift_X10_within
set_option maxRecDepth 20000 in
theorem ggX10_drift_X10_isOverTime : GoodIn wsX10_drift wsX10_isOverTime := goodIn_s _ [(18, 1), (7, 1), (10, 1), (19, 1), (117, 14), (144, 8)] rfl (by decide +kernel)
set_option maxRecDepth 20000 in
theorem gX10_drift_X10_isOverTime : GoodIn wsX10_drift (wsV RX10 201 RX10 yX10_isOverTime wsX10_isOverTime) := goodIn_app (goodIn_s _ [(15, 3), (13, 1)] rfl (by decide +kernel)) ggX10_drift_X10_isOverTime
set_option maxRecDepth 20000 in
theorem ggX10_drift_X3_push : GoodIn wsX10_drift wsX3_push := goodIn_s _ [(24, 20), (152, 3), (144, 8)] rfl (by decide +kernel)
set_option maxRecDepth 20000 in
theorem gX10_drift_X3_push : GoodIn wsX10_drift (wsV RX10 205 RX3 yX3_push wsX3_push) := goodIn_app (goodIn_s _ [(20, 4)] rfl (by decide +kernel)) ggX10_drift_X3_push
set_option maxRecDepth 20000 in
theorem ggX10_drift_X10_driftOnce : GoodIn wsX10_drift wsX10_driftOnce := goodIn_s _ [(47, 1), (2, 1), (8, 2), (7, 1), (48, 4), (13, 1), (52, 9), (31, 1), (61, 1), (35, 1), (62, 4), (34, 1), (66, 6), (40, 1), (72, 4), (41, 1), (33, 1), (76, 11), (42, 2), (87, 65)] rfl (by decide +kernel)
set_option maxRecDepth 20000 in
theorem gX10_drift_X10_driftOnce : GoodIn wsX10_drift (wsV RX10 229 RX10 yX10_driftOnce wsX10_driftOnce) := goodIn_app (goodIn_s _ [(44, 3), (13, 1)] rfl (by decide +kernel)) ggX10_drift_X10_driftOnce
noncomputable def dlX10_drift_0 : List (Nat × Instr × Nat) := [(0, .iload_n 1, 1), (1, .iconst 1, 1), (2, .bipush 60, 2), (4, .invokestatic 99, 3), (7, .ifCond .ne 6, 3), (10, .ldc 103, 2), (12, .ireturn, 1), (13, .aload_n 0, 1), (14, .getfield 26, 3), (17, .getfield 225, 3), (20, .ifCond .ne 6, 3), (23, .ldc 220, 2), (25, .ireturn, 1), (26, .aload_n 0, 1), (27, .invokevirtual 201, 3), (30, .ifCond .eq 6, 3), (33, .ldc 104, 2), (35, .ireturn, 1), (36, .aload_n 0, 1), (37, .getfield 49, 3), (40, .aload_n 0, 1), (41, .getfield 42, 3), (44, .invokevirtual 205, 3), (47, .aload_n 0, 1), (48, .getfield 26, 3), (51, .getfield 127, 3), (54, .ifCond .le 30, 3), (57, .aload_n 0, 1), (58, .getfield 26, 3), (61, .getfield 136, 3), (64, .ifCond .le 20, 3)]
theorem dlX10_drift_0_ok : dlX10_drift_0.all (fun r => decide (decode cX10_drift r.1 = .ok r.2)) = true := by decide +kernel
theorem dX10_drift_0 : decode cX10_drift 0 = .ok (.iload_n 1, 1) := dec_at dlX10_drift_0_ok 0 rfl
theorem dX10_drift_1 : decode cX10_drift 1 = .ok (.iconst 1, 1) := dec_at dlX10_drift_0_ok 1 rfl
theorem dX10_drift_2 : decode cX10_drift 2 = .ok (.bipush 60, 2) := dec_at dlX10_drift_0_ok 2 rfl
theorem dX10_drift_4 : decode cX10_drift 4 = .ok (.invokestatic 99, 3) := dec_at dlX10_drift_0_ok 3 rfl
theorem dX10_drift_7 : decode cX10_drift 7 = .ok (.ifCond .ne 6, 3) := dec_at dlX10_drift_0_ok 4 rfl
theorem dX10_drift_10 : decode cX10_drift 10 = .ok (.ldc 103, 2) := dec_at dlX10_drift_0_ok 5 rfl
theorem dX10_drift_12 : decode cX10_drift 12 = .ok (.ireturn, 1) := dec_at dlX10_drift_0_ok 6 rfl
theorem dX10_drift_13 : decode cX10_drift 13 = .ok (.aload_n 0, 1) := dec_at dlX10_drift_0_ok 7 rfl
theorem dX10_drift_14 : decode cX10_drift 14 = .ok (.getfield 26, 3) := dec_at dlX10_drift_0_ok 8 rfl
theorem dX10_drift_17 : decode cX10_drift 17 = .ok (.getfield 225, 3) := dec_at dlX10_drift_0_ok 9 rfl
theorem dX10_drift_20 : decode cX10_drift 20 = .ok (.ifCond .ne 6, 3) := dec_at dlX10_drift_0_ok 10 rfl
theorem dX10_drift_23 : decode cX10_drift 23 = .ok (.ldc 220, 2) := dec_at dlX10_drift_0_ok 11 rfl
theorem dX10_drift_25 : decode cX10_drift 25 = .ok (.ireturn, 1) := dec_at dlX10_drift_0_ok 12 rfl
theorem dX10_drift_26 : decode cX10_drift 26 = .ok (.aload_n 0, 1) := dec_at dlX10_drift_0_ok 13 rfl
theorem dX10_drift_27 : decode cX10_drift 27 = .ok (.invokevirtual 201, 3) := dec_at dlX10_drift_0_ok 14 rfl
theorem dX10_drift_30 : decode cX10_drift 30 = .ok (.ifCond .eq 6, 3) := dec_at dlX10_drift_0_ok 15 rfl
theorem dX10_drift_33 : decode cX10_drift 33 = .ok (.ldc 104, 2) := dec_at dlX10_drift_0_ok 16 rfl
theorem dX10_drift_35 : decode cX10_drift 35 = .ok (.ireturn, 1) := dec_at dlX10_drift_0_ok 17 rfl
theorem dX10_drift_36 : decode cX10_drift 36 = .ok (.aload_n 0, 1) := dec_at dlX10_drift_0_ok 18 rfl
theorem dX10_drift_37 : decode cX10_drift 37 = .ok (.getfield 49, 3) := dec_at dlX10_drift_0_ok 19 rfl
theorem dX10_drift_40 : decode cX10_drift 40 = .ok (.aload_n 0, 1) := dec_at dlX10_drift_0_ok 20 rfl
theorem dX10_drift_41 : decode cX10_drift 41 = .ok (.getfield 42, 3) := dec_at dlX10_drift_0_ok 21 rfl
theorem dX10_drift_44 : decode cX10_drift 44 = .ok (.invokevirtual 205, 3) := dec_at dlX10_drift_0_ok 22 rfl
theorem dX10_drift_47 : decode cX10_drift 47 = .ok (.aload_n 0, 1) := dec_at dlX10_drift_0_ok 23 rfl
theorem dX10_drift_48 : decode cX10_drift 48 = .ok (.getfield 26, 3) := dec_at dlX10_drift_0_ok 24 rfl
theorem dX10_drift_51 : decode cX10_drift 51 = .ok (.getfield 127, 3) := dec_at dlX10_drift_0_ok 25 rfl
theorem dX10_drift_54 : decode cX10_drift 54 = .ok (.ifCond .le 30, 3) := dec_at dlX10_drift_0_ok 26 rfl
theorem dX10_drift_57 : decode cX10_drift 57 = .ok (.aload_n 0, 1) := dec_at dlX10_drift_0_ok 27 rfl
theorem dX10_drift_58 : decode cX10_drift 58 = .ok (.getfield 26, 3) := dec_at dlX10_drift_0_ok 28 rfl
theorem dX10_drift_61 : decode cX10_drift 61 = .ok (.getfield 136, 3) := dec_at dlX10_drift_0_ok 29 rfl
theorem dX10_drift_64 : decode cX10_drift 64 = .ok (.ifCond .le 20, 3) := dec_at dlX10_drift_0_ok 30 rfl
noncomputable def dlX10_drift_67 : List (Nat × Instr × Nat) := [(67, .iconst 0, 1), (68, .istore_n 2, 1), (69, .iload_n 2, 1), (70, .iload_n 1, 1), (71, .if_icmp .ge 13, 3), (74, .aload_n 0, 1), (75, .invokevirtual 229, 3), (78, .iinc 2 1, 3), (81, .goto (-12), 3), (84, .aload_n 0, 1), (85, .getfield 42, 3), (88, .getfield 139, 3), (91, .ireturn, 1)]
theorem dlX10_drift_67_ok : dlX10_drift_67.all (fun r => decide (decode cX10_drift r.1 = .ok r.2)) = true := by decide +kernel
theorem dX10_drift_67 : decode cX10_drift 67 = .ok (.iconst 0, 1) := dec_at dlX10_drift_67_ok 0 rfl
theorem dX10_drift_68 : decode cX10_drift 68 = .ok (.istore_n 2, 1) := dec_at dlX10_drift_67_ok 1 rfl
theorem dX10_drift_69 : decode cX10_drift 69 = .ok (.iload_n 2, 1) := dec_at dlX10_drift_67_ok 2 rfl
theorem dX10_drift_70 : decode cX10_drift 70 = .ok (.iload_n 1, 1) := dec_at dlX10_drift_67_ok 3 rfl
theorem dX10_drift_71 : decode cX10_drift 71 = .ok (.if_icmp .ge 13, 3) := dec_at dlX10_drift_67_ok 4 rfl
theorem dX10_drift_74 : decode cX10_drift 74 = .ok (.aload_n 0, 1) := dec_at dlX10_drift_67_ok 5 rfl
theorem dX10_drift_75 : decode cX10_drift 75 = .ok (.invokevirtual 229, 3) := dec_at dlX10_drift_67_ok 6 rfl
theorem dX10_drift_78 : decode cX10_drift 78 = .ok (.iinc 2 1, 3) := dec_at dlX10_drift_67_ok 7 rfl
theorem dX10_drift_81 : decode cX10_drift 81 = .ok (.goto (-12), 3) := dec_at dlX10_drift_67_ok 8 rfl
theorem dX10_drift_84 : decode cX10_drift 84 = .ok (.aload_n 0, 1) := dec_at dlX10_drift_67_ok 9 rfl
theorem dX10_drift_85 : decode cX10_drift 85 = .ok (.getfield 42, 3) := dec_at dlX10_drift_67_ok 10 rfl
theorem dX10_drift_88 : decode cX10_drift 88 = .ok (.getfield 139, 3) := dec_at dlX10_drift_67_ok 11 rfl
theorem dX10_drift_91 : decode cX10_drift 91 = .ok (.ireturn, 1) := dec_at dlX10_drift_67_ok 12 rfl
set_option maxRecDepth 20000 in
theorem ggX10_undo_X3_popInto : GoodIn wsX10_undo wsX3_popInto := goodIn_s _ [(9, 20), (43, 11)] rfl (by decide +kernel)
set_option maxRecDepth 20000 in
theorem gX10_undo_X3_popInto : GoodIn wsX10_undo (wsV RX10 232 RX3 yX3_popInto wsX3_popInto) := goodIn_app (goodIn_s _ [(5, 4)] rfl (by decide +kernel)) ggX10_undo_X3_popInto
noncomputable def dlX10_undo_0 : List (Nat × Instr × Nat) := [(0, .aload_n 0, 1), (1, .getfield 49, 3), (4, .getfield 155, 3), (7, .ifCond .ne 6, 3), (10, .ldc 220, 2), (12, .ireturn, 1), (13, .aload_n 0, 1), (14, .getfield 49, 3), (17, .aload_n 0, 1), (18, .getfield 42, 3), (21, .invokevirtual 232, 3), (24, .aload_n 0, 1), (25, .getfield 49, 3), (28, .getfield 155, 3), (31, .ireturn, 1)]
theorem dlX10_undo_0_ok : dlX10_undo_0.all (fun r => decide (decode cX10_undo r.1 = .ok r.2)) = true := by decide +kernel
theorem dX10_undo_0 : decode cX10_undo 0 = .ok (.aload_n 0, 1) := dec_at dlX10_undo_0_ok 0 rfl
theorem dX10_undo_1 : decode cX10_undo 1 = .ok (.getfield 49, 3) := dec_at dlX10_undo_0_ok 1 rfl
theorem dX10_undo_4 : decode cX10_undo 4 = .ok (.getfield 155, 3) := dec_at dlX10_undo_0_ok 2 rfl
theorem dX10_undo_7 : decode cX10_undo 7 = .ok (.ifCond .ne 6, 3) := dec_at dlX10_undo_0_ok 3 rfl
theorem dX10_undo_10 : decode cX10_undo 10 = .ok (.ldc 220, 2) := dec_at dlX10_undo_0_ok 4 rfl
theorem dX10_undo_12 : decode cX10_undo 12 = .ok (.ireturn, 1) := dec_at dlX10_undo_0_ok 5 rfl
theorem dX10_undo_13 : decode cX10_undo 13 = .ok (.aload_n 0, 1) := dec_at dlX10_undo_0_ok 6 rfl
theorem dX10_undo_14 : decode cX10_undo 14 = .ok (.getfield 49, 3) := dec_at dlX10_undo_0_ok 7 rfl
theorem dX10_undo_17 : decode cX10_undo 17 = .ok (.aload_n 0, 1) := dec_at dlX10_undo_0_ok 8 rfl
theorem dX10_undo_18 : decode cX10_undo 18 = .ok (.getfield 42, 3) := dec_at dlX10_undo_0_ok 9 rfl
theorem dX10_undo_21 : decode cX10_undo 21 = .ok (.invokevirtual 232, 3) := dec_at dlX10_undo_0_ok 10 rfl
theorem dX10_undo_24 : decode cX10_undo 24 = .ok (.aload_n 0, 1) := dec_at dlX10_undo_0_ok 11 rfl
theorem dX10_undo_25 : decode cX10_undo 25 = .ok (.getfield 49, 3) := dec_at dlX10_undo_0_ok 12 rfl
theorem dX10_undo_28 : decode cX10_undo 28 = .ok (.getfield 155, 3) := dec_at dlX10_undo_0_ok 13 rfl
theorem dX10_undo_31 : decode cX10_undo 31 = .ok (.ireturn, 1) := dec_at dlX10_undo_0_ok 14 rfl
set_option maxRecDepth 20000 in
theorem ggX10_goodPages_X10_isQuill : GoodIn wsX10_goodPages wsX10_isQuill := goodIn_s _ [(7, 3), (63, 27)] rfl (by decide +kernel)
set_option maxRecDepth 20000 in
theorem gX10_goodPages_X10_isQuill : GoodIn wsX10_goodPages (wsV RX10 156 RX10 yX10_isQuill wsX10_isQuill) := goodIn_app (goodIn_s _ [(3, 4)] rfl (by decide +kernel)) ggX10_goodPages_X10_isQuill
set_option maxRecDepth 20000 in
theorem ggX10_goodPages_X10_isHand : GoodIn wsX10_goodPages wsX10_isHand := goodIn_s _ [(13, 1), (8, 1), (14, 1), (63, 27)] rfl (by decide +kernel)
set_option maxRecDepth 20000 in
theorem gX10_goodPages_X10_isHand : GoodIn wsX10_goodPages (wsV RX10 183 RX10 yX10_isHand wsX10_isHand) := goodIn_app (goodIn_s _ [(10, 3), (6, 1)] rfl (by decide +kernel)) ggX10_goodPages_X10_isHand
set_option maxRecDepth 20000 in
theorem ggX10_goodPages_X9_goodNow : GoodIn wsX10_goodPages wsX9_goodNow := goodIn_s _ [(19, 6), (18, 1), (25, 34), (6, 1), (59, 4), (90, 11), (77, 13)] rfl (by decide +kernel)
set_option maxRecDepth 20000 in
theorem gX10_goodPages_X9_goodNow : GoodIn wsX10_goodPages (wsV RX10 235 RX9 yX9_goodNow wsX9_goodNow) := goodIn_app (goodIn_s _ [(15, 4)] rfl (by decide +kernel)) ggX10_goodPages_X9_goodNow
noncomputable def dlX10_goodPages_0 : List (Nat × Instr × Nat) := [(0, .aload_n 0, 1), (1, .iload_n 1, 1), (2, .invokevirtual 156, 3), (5, .ifCond .eq 11, 3), (8, .aload_n 0, 1), (9, .iload_n 2, 1), (10, .invokevirtual 183, 3), (13, .ifCond .ne 6, 3), (16, .ldc 160, 2), (18, .ireturn, 1), (19, .aload_n 0, 1), (20, .getfield 65, 3), (23, .iload_n 1, 1), (24, .iload_n 2, 1), (25, .invokevirtual 235, 3), (28, .ireturn, 1)]
theorem dlX10_goodPages_0_ok : dlX10_goodPages_0.all (fun r => decide (decode cX10_goodPages r.1 = .ok r.2)) = true := by decide +kernel
theorem dX10_goodPages_0 : decode cX10_goodPages 0 = .ok (.aload_n 0, 1) := dec_at dlX10_goodPages_0_ok 0 rfl
theorem dX10_goodPages_1 : decode cX10_goodPages 1 = .ok (.iload_n 1, 1) := dec_at dlX10_goodPages_0_ok 1 rfl
theorem dX10_goodPages_2 : decode cX10_goodPages 2 = .ok (.invokevirtual 156, 3) := dec_at dlX10_goodPages_0_ok 2 rfl
theorem dX10_goodPages_5 : decode cX10_goodPages 5 = .ok (.ifCond .eq 11, 3) := dec_at dlX10_goodPages_0_ok 3 rfl
theorem dX10_goodPages_8 : decode cX10_goodPages 8 = .ok (.aload_n 0, 1) := dec_at dlX10_goodPages_0_ok 4 rfl
theorem dX10_goodPages_9 : decode cX10_goodPages 9 = .ok (.iload_n 2, 1) := dec_at dlX10_goodPages_0_ok 5 rfl
theorem dX10_goodPages_10 : decode cX10_goodPages 10 = .ok (.invokevirtual 183, 3) := dec_at dlX10_goodPages_0_ok 6 rfl
theorem dX10_goodPages_13 : decode cX10_goodPages 13 = .ok (.ifCond .ne 6, 3) := dec_at dlX10_goodPages_0_ok 7 rfl
theorem dX10_goodPages_16 : decode cX10_goodPages 16 = .ok (.ldc 160, 2) := dec_at dlX10_goodPages_0_ok 8 rfl
theorem dX10_goodPages_18 : decode cX10_goodPages 18 = .ok (.ireturn, 1) := dec_at dlX10_goodPages_0_ok 9 rfl
theorem dX10_goodPages_19 : decode cX10_goodPages 19 = .ok (.aload_n 0, 1) := dec_at dlX10_goodPages_0_ok 10 rfl
theorem dX10_goodPages_20 : decode cX10_goodPages 20 = .ok (.getfield 65, 3) := dec_at dlX10_goodPages_0_ok 11 rfl
theorem dX10_goodPages_23 : decode cX10_goodPages 23 = .ok (.iload_n 1, 1) := dec_at dlX10_goodPages_0_ok 12 rfl
theorem dX10_goodPages_24 : decode cX10_goodPages 24 = .ok (.iload_n 2, 1) := dec_at dlX10_goodPages_0_ok 13 rfl
theorem dX10_goodPages_25 : decode cX10_goodPages 25 = .ok (.invokevirtual 235, 3) := dec_at dlX10_goodPages_0_ok 14 rfl
theorem dX10_goodPages_28 : decode cX10_goodPages 28 = .ok (.ireturn, 1) := dec_at dlX10_goodPages_0_ok 15 rfl
set_option maxRecDepth 20000 in
theorem ggX10_life_X10_isQuill : GoodIn wsX10_life wsX10_isQuill := goodIn_s _ [(7, 3), (69, 27)] rfl (by decide +kernel)
set_option maxRecDepth 20000 in
theorem gX10_life_X10_isQuill : GoodIn wsX10_life (wsV RX10 156 RX10 yX10_isQuill wsX10_isQuill) := goodIn_app (goodIn_s _ [(3, 4)] rfl (by decide +kernel)) ggX10_life_X10_isQuill
set_option maxRecDepth 20000 in
theorem ggX10_life_X10_isHand : GoodIn wsX10_life wsX10_isHand := goodIn_s _ [(13, 1), (8, 1), (14, 1), (69, 27)] rfl (by decide +kernel)
set_option maxRecDepth 20000 in
theorem gX10_life_X10_isHand : GoodIn wsX10_life (wsV RX10 183 RX10 yX10_isHand wsX10_isHand) := goodIn_app (goodIn_s _ [(10, 3), (6, 1)] rfl (by decide +kernel)) ggX10_life_X10_isHand
set_option maxRecDepth 20000 in
theorem ggX10_life_X9_goodInLife : GoodIn wsX10_life wsX9_goodInLife := goodIn_s _ [(19, 10), (18, 1), (29, 38), (6, 1), (67, 2), (96, 11), (83, 13)] rfl (by decide +kernel)
set_option maxRecDepth 20000 in
theorem gX10_life_X9_goodInLife : GoodIn wsX10_life (wsV RX10 238 RX9 yX9_goodInLife wsX9_goodInLife) := goodIn_app (goodIn_s _ [(15, 4)] rfl (by decide +kernel)) ggX10_life_X9_goodInLife
noncomputable def dlX10_life_0 : List (Nat × Instr × Nat) := [(0, .aload_n 0, 1), (1, .iload_n 1, 1), (2, .invokevirtual 156, 3), (5, .ifCond .eq 11, 3), (8, .aload_n 0, 1), (9, .iload_n 2, 1), (10, .invokevirtual 183, 3), (13, .ifCond .ne 6, 3), (16, .ldc 160, 2), (18, .ireturn, 1), (19, .aload_n 0, 1), (20, .getfield 65, 3), (23, .iload_n 1, 1), (24, .iload_n 2, 1), (25, .invokevirtual 238, 3), (28, .ireturn, 1)]
theorem dlX10_life_0_ok : dlX10_life_0.all (fun r => decide (decode cX10_life r.1 = .ok r.2)) = true := by decide +kernel
theorem dX10_life_0 : decode cX10_life 0 = .ok (.aload_n 0, 1) := dec_at dlX10_life_0_ok 0 rfl
theorem dX10_life_1 : decode cX10_life 1 = .ok (.iload_n 1, 1) := dec_at dlX10_life_0_ok 1 rfl
theorem dX10_life_2 : decode cX10_life 2 = .ok (.invokevirtual 156, 3) := dec_at dlX10_life_0_ok 2 rfl
theorem dX10_life_5 : decode cX10_life 5 = .ok (.ifCond .eq 11, 3) := dec_at dlX10_life_0_ok 3 rfl
theorem dX10_life_8 : decode cX10_life 8 = .ok (.aload_n 0, 1) := dec_at dlX10_life_0_ok 4 rfl
theorem dX10_life_9 : decode cX10_life 9 = .ok (.iload_n 2, 1) := dec_at dlX10_life_0_ok 5 rfl
theorem dX10_life_10 : decode cX10_life 10 = .ok (.invokevirtual 183, 3) := dec_at dlX10_life_0_ok 6 rfl
theorem dX10_life_13 : decode cX10_life 13 = .ok (.ifCond .ne 6, 3) := dec_at dlX10_life_0_ok 7 rfl
theorem dX10_life_16 : decode cX10_life 16 = .ok (.ldc 160, 2) := dec_at dlX10_life_0_ok 8 rfl
theorem dX10_life_18 : decode cX10_life 18 = .ok (.ireturn, 1) := dec_at dlX10_life_0_ok 9 rfl
theorem dX10_life_19 : decode cX10_life 19 = .ok (.aload_n 0, 1) := dec_at dlX10_life_0_ok 10 rfl
theorem dX10_life_20 : decode cX10_life 20 = .ok (.getfield 65, 3) := dec_at dlX10_life_0_ok 11 rfl
theorem dX10_life_23 : decode cX10_life 23 = .ok (.iload_n 1, 1) := dec_at dlX10_life_0_ok 12 rfl
theorem dX10_life_24 : decode cX10_life 24 = .ok (.iload_n 2, 1) := dec_at dlX10_life_0_ok 13 rfl
theorem dX10_life_25 : decode cX10_life 25 = .ok (.invokevirtual 238, 3) := dec_at dlX10_life_0_ok 14 rfl
theorem dX10_life_28 : decode cX10_life 28 = .ok (.ireturn, 1) := dec_at dlX10_life_0_ok 15 rfl
set_option maxRecDepth 20000 in
theorem ggX10_toWhom_X10_isHand : GoodIn wsX10_toWhom wsX10_isHand := goodIn_s _ [(12, 1), (2, 1), (4, 1), (90, 27)] rfl (by decide +kernel)
set_option maxRecDepth 20000 in
theorem gX10_toWhom_X10_isHand : GoodIn wsX10_toWhom (wsV RX10 183 RX10 yX10_isHand wsX10_isHand) := goodIn_app (goodIn_s _ [(8, 4)] rfl (by decide +kernel)) ggX10_toWhom_X10_isHand
set_option maxRecDepth 20000 in
theorem ggX10_toWhom_X8_find : GoodIn wsX10_toWhom wsX8_find := goodIn_s _ [(17, 51), (11, 1), (68, 7), (16, 1), (75, 15), (117, 6), (104, 13), (123, 11)] rfl (by decide +kernel)
set_option maxRecDepth 20000 in
theorem gX10_toWhom_X8_find : GoodIn wsX10_toWhom (wsV RX10 241 RX8 yX8_find wsX8_find) := goodIn_app (goodIn_s _ [(13, 4)] rfl (by decide +kernel)) ggX10_toWhom_X8_find
noncomputable def dlX10_toWhom_0 : List (Nat × Instr × Nat) := [(0, .iload_n 1, 1), (1, .iconst (-1), 1), (2, .if_icmp .eq 14, 3), (5, .aload_n 0, 1), (6, .iload_n 1, 1), (7, .invokevirtual 183, 3), (10, .ifCond .ne 6, 3), (13, .ldc 160, 2), (15, .ireturn, 1), (16, .aload_n 0, 1), (17, .getfield 26, 3), (20, .getfield 127, 3), (23, .aload_n 0, 1), (24, .getfield 26, 3), (27, .getfield 136, 3), (30, .if_icmp .ge 5, 3), (33, .iconst (-1), 1), (34, .ireturn, 1), (35, .aload_n 0, 1), (36, .getfield 74, 3), (39, .invokevirtual 241, 3), (42, .iload_n 1, 1), (43, .iconst (-1), 1), (44, .if_icmp .ne 13, 3), (47, .aload_n 0, 1), (48, .getfield 74, 3), (51, .getfield 244, 3), (54, .goto 12, 3), (57, .aload_n 0, 1), (58, .getfield 74, 3), (61, .getfield 247, 3)]
theorem dlX10_toWhom_0_ok : dlX10_toWhom_0.all (fun r => decide (decode cX10_toWhom r.1 = .ok r.2)) = true := by decide +kernel
theorem dX10_toWhom_0 : decode cX10_toWhom 0 = .ok (.iload_n 1, 1) := dec_at dlX10_toWhom_0_ok 0 rfl
theorem dX10_toWhom_1 : decode cX10_toWhom 1 = .ok (.iconst (-1), 1) := dec_at dlX10_toWhom_0_ok 1 rfl
theorem dX10_toWhom_2 : decode cX10_toWhom 2 = .ok (.if_icmp .eq 14, 3) := dec_at dlX10_toWhom_0_ok 2 rfl
theorem dX10_toWhom_5 : decode cX10_toWhom 5 = .ok (.aload_n 0, 1) := dec_at dlX10_toWhom_0_ok 3 rfl
theorem dX10_toWhom_6 : decode cX10_toWhom 6 = .ok (.iload_n 1, 1) := dec_at dlX10_toWhom_0_ok 4 rfl
theorem dX10_toWhom_7 : decode cX10_toWhom 7 = .ok (.invokevirtual 183, 3) := dec_at dlX10_toWhom_0_ok 5 rfl
theorem dX10_toWhom_10 : decode cX10_toWhom 10 = .ok (.ifCond .ne 6, 3) := dec_at dlX10_toWhom_0_ok 6 rfl
theorem dX10_toWhom_13 : decode cX10_toWhom 13 = .ok (.ldc 160, 2) := dec_at dlX10_toWhom_0_ok 7 rfl
theorem dX10_toWhom_15 : decode cX10_toWhom 15 = .ok (.ireturn, 1) := dec_at dlX10_toWhom_0_ok 8 rfl
theorem dX10_toWhom_16 : decode cX10_toWhom 16 = .ok (.aload_n 0, 1) := dec_at dlX10_toWhom_0_ok 9 rfl
theorem dX10_toWhom_17 : decode cX10_toWhom 17 = .ok (.getfield 26, 3) := dec_at dlX10_toWhom_0_ok 10 rfl
theorem dX10_toWhom_20 : decode cX10_toWhom 20 = .ok (.getfield 127, 3) := dec_at dlX10_toWhom_0_ok 11 rfl
theorem dX10_toWhom_23 : decode cX10_toWhom 23 = .ok (.aload_n 0, 1) := dec_at dlX10_toWhom_0_ok 12 rfl
theorem dX10_toWhom_24 : decode cX10_toWhom 24 = .ok (.getfield 26, 3) := dec_at dlX10_toWhom_0_ok 13 rfl
theorem dX10_toWhom_27 : decode cX10_toWhom 27 = .ok (.getfield 136, 3) := dec_at dlX10_toWhom_0_ok 14 rfl
theorem dX10_toWhom_30 : decode cX10_toWhom 30 = .ok (.if_icmp .ge 5, 3) := dec_at dlX10_toWhom_0_ok 15 rfl
theorem dX10_toWhom_33 : decode cX10_toWhom 33 = .ok (.iconst (-1), 1) := dec_at dlX10_toWhom_0_ok 16 rfl
theorem dX10_toWhom_34 : decode cX10_toWhom 34 = .ok (.ireturn, 1) := dec_at dlX10_toWhom_0_ok 17 rfl
theorem dX10_toWhom_35 : decode cX10_toWhom 35 = .ok (.aload_n 0, 1) := dec_at dlX10_toWhom_0_ok 18 rfl
theorem dX10_toWhom_36 : decode cX10_toWhom 36 = .ok (.getfield 74, 3) := dec_at dlX10_toWhom_0_ok 19 rfl
theorem dX10_toWhom_39 : decode cX10_toWhom 39 = .ok (.invokevirtual 241, 3) := dec_at dlX10_toWhom_0_ok 20 rfl
theorem dX10_toWhom_42 : decode cX10_toWhom 42 = .ok (.iload_n 1, 1) := dec_at dlX10_toWhom_0_ok 21 rfl
theorem dX10_toWhom_43 : decode cX10_toWhom 43 = .ok (.iconst (-1), 1) := dec_at dlX10_toWhom_0_ok 22 rfl
theorem dX10_toWhom_44 : decode cX10_toWhom 44 = .ok (.if_icmp .ne 13, 3) := dec_at dlX10_toWhom_0_ok 23 rfl
theorem dX10_toWhom_47 : decode cX10_toWhom 47 = .ok (.aload_n 0, 1) := dec_at dlX10_toWhom_0_ok 24 rfl
theorem dX10_toWhom_48 : decode cX10_toWhom 48 = .ok (.getfield 74, 3) := dec_at dlX10_toWhom_0_ok 25 rfl
theorem dX10_toWhom_51 : decode cX10_toWhom 51 = .ok (.getfield 244, 3) := dec_at dlX10_toWhom_0_ok 26 rfl
theorem dX10_toWhom_54 : decode cX10_toWhom 54 = .ok (.goto 12, 3) := dec_at dlX10_toWhom_0_ok 27 rfl
theorem dX10_toWhom_57 : decode cX10_toWhom 57 = .ok (.aload_n 0, 1) := dec_at dlX10_toWhom_0_ok 28 rfl
theorem dX10_toWhom_58 : decode cX10_toWhom 58 = .ok (.getfield 74, 3) := dec_at dlX10_toWhom_0_ok 29 rfl
theorem dX10_toWhom_61 : decode cX10_toWhom 61 = .ok (.getfield 247, 3) := dec_at dlX10_toWhom_0_ok 30 rfl
noncomputable def dlX10_toWhom_64 : List (Nat × Instr × Nat) := [(64, .iload_n 1, 1), (65, .iaload, 1), (66, .ireturn, 1)]
theorem dlX10_toWhom_64_ok : dlX10_toWhom_64.all (fun r => decide (decode cX10_toWhom r.1 = .ok r.2)) = true := by decide +kernel
theorem dX10_toWhom_64 : decode cX10_toWhom 64 = .ok (.iload_n 1, 1) := dec_at dlX10_toWhom_64_ok 0 rfl
theorem dX10_toWhom_65 : decode cX10_toWhom 65 = .ok (.iaload, 1) := dec_at dlX10_toWhom_64_ok 1 rfl
theorem dX10_toWhom_66 : decode cX10_toWhom 66 = .ok (.ireturn, 1) := dec_at dlX10_toWhom_64_ok 2 rfl
set_option maxRecDepth 20000 in
theorem ggX10_fastest_X10_isHand : GoodIn wsX10_fastest wsX10_isHand := goodIn_s _ [(11, 3), (117, 14), (138, 13)] rfl (by decide +kernel)
set_option maxRecDepth 20000 in
theorem gX10_fastest_X10_isHand : GoodIn wsX10_fastest (wsV RX10 183 RX10 yX10_isHand wsX10_isHand) := goodIn_app (goodIn_s _ [(7, 4)] rfl (by decide +kernel)) ggX10_fastest_X10_isHand
set_option maxRecDepth 20000 in
theorem ggX10_fastest_X10_within : GoodIn wsX10_fastest wsX10_within := goodIn_s _ [(16, 1)] rfl (by decide +kernel)
set_option maxRecDepth 20000 in
theorem gX10_fastest_X10_within : GoodIn wsX10_fastest (va_wsS RX10 99 yX10_within wsX10_within) := goodIn_app (goodIn_s _ [(14, 2), (10, 1)] rfl (by decide +kernel)) ggX10_fastest_X10_within
set_option maxRecDepth 20000 in
theorem ggX10_fastest_X6_find : GoodIn wsX10_fastest wsX6_find := goodIn_s _ [(21, 29), (20, 1), (50, 57), (10, 1), (107, 10), (131, 7), (151, 8), (138, 13)] rfl (by decide +kernel)
set_option maxRecDepth 20000 in
theorem gX10_fastest_X6_find : GoodIn wsX10_fastest (wsV RX10 250 RX6 yX6_find wsX6_find) := goodIn_app (goodIn_s _ [(17, 4)] rfl (by decide +kernel)) ggX10_fastest_X6_find
noncomputable def dlX10_fastest_0 : List (Nat × Instr × Nat) := [(0, .aload_n 0, 1), (1, .iload_n 1, 1), (2, .invokevirtual 183, 3), (5, .ifCond .ne 6, 3), (8, .ldc 160, 2), (10, .ireturn, 1), (11, .iload_n 2, 1), (12, .iconst 1, 1), (13, .iconst 4, 1), (14, .invokestatic 99, 3), (17, .ifCond .eq 14, 3), (20, .iload_n 3, 1), (21, .iconst (-1), 1), (22, .iload_n 2, 1), (23, .iconst 1, 1), (24, .isub, 1), (25, .invokestatic 99, 3), (28, .ifCond .ne 6, 3), (31, .ldc 103, 2), (33, .ireturn, 1), (34, .aload_n 0, 1), (35, .getfield 81, 3), (38, .aload_n 0, 1), (39, .getfield 42, 3), (42, .iload_n 1, 1), (43, .iload_n 2, 1), (44, .invokevirtual 250, 3), (47, .ifCond .ne 5, 3), (50, .iconst (-1), 1), (51, .ireturn, 1), (52, .iload_n 3, 1)]
theorem dlX10_fastest_0_ok : dlX10_fastest_0.all (fun r => decide (decode cX10_fastest r.1 = .ok r.2)) = true := by decide +kernel
theorem dX10_fastest_0 : decode cX10_fastest 0 = .ok (.aload_n 0, 1) := dec_at dlX10_fastest_0_ok 0 rfl
theorem dX10_fastest_1 : decode cX10_fastest 1 = .ok (.iload_n 1, 1) := dec_at dlX10_fastest_0_ok 1 rfl
theorem dX10_fastest_2 : decode cX10_fastest 2 = .ok (.invokevirtual 183, 3) := dec_at dlX10_fastest_0_ok 2 rfl
theorem dX10_fastest_5 : decode cX10_fastest 5 = .ok (.ifCond .ne 6, 3) := dec_at dlX10_fastest_0_ok 3 rfl
theorem dX10_fastest_8 : decode cX10_fastest 8 = .ok (.ldc 160, 2) := dec_at dlX10_fastest_0_ok 4 rfl
theorem dX10_fastest_10 : decode cX10_fastest 10 = .ok (.ireturn, 1) := dec_at dlX10_fastest_0_ok 5 rfl
theorem dX10_fastest_11 : decode cX10_fastest 11 = .ok (.iload_n 2, 1) := dec_at dlX10_fastest_0_ok 6 rfl
theorem dX10_fastest_12 : decode cX10_fastest 12 = .ok (.iconst 1, 1) := dec_at dlX10_fastest_0_ok 7 rfl
theorem dX10_fastest_13 : decode cX10_fastest 13 = .ok (.iconst 4, 1) := dec_at dlX10_fastest_0_ok 8 rfl
theorem dX10_fastest_14 : decode cX10_fastest 14 = .ok (.invokestatic 99, 3) := dec_at dlX10_fastest_0_ok 9 rfl
theorem dX10_fastest_17 : decode cX10_fastest 17 = .ok (.ifCond .eq 14, 3) := dec_at dlX10_fastest_0_ok 10 rfl
theorem dX10_fastest_20 : decode cX10_fastest 20 = .ok (.iload_n 3, 1) := dec_at dlX10_fastest_0_ok 11 rfl
theorem dX10_fastest_21 : decode cX10_fastest 21 = .ok (.iconst (-1), 1) := dec_at dlX10_fastest_0_ok 12 rfl
theorem dX10_fastest_22 : decode cX10_fastest 22 = .ok (.iload_n 2, 1) := dec_at dlX10_fastest_0_ok 13 rfl
theorem dX10_fastest_23 : decode cX10_fastest 23 = .ok (.iconst 1, 1) := dec_at dlX10_fastest_0_ok 14 rfl
theorem dX10_fastest_24 : decode cX10_fastest 24 = .ok (.isub, 1) := dec_at dlX10_fastest_0_ok 15 rfl
theorem dX10_fastest_25 : decode cX10_fastest 25 = .ok (.invokestatic 99, 3) := dec_at dlX10_fastest_0_ok 16 rfl
theorem dX10_fastest_28 : decode cX10_fastest 28 = .ok (.ifCond .ne 6, 3) := dec_at dlX10_fastest_0_ok 17 rfl
theorem dX10_fastest_31 : decode cX10_fastest 31 = .ok (.ldc 103, 2) := dec_at dlX10_fastest_0_ok 18 rfl
theorem dX10_fastest_33 : decode cX10_fastest 33 = .ok (.ireturn, 1) := dec_at dlX10_fastest_0_ok 19 rfl
theorem dX10_fastest_34 : decode cX10_fastest 34 = .ok (.aload_n 0, 1) := dec_at dlX10_fastest_0_ok 20 rfl
theorem dX10_fastest_35 : decode cX10_fastest 35 = .ok (.getfield 81, 3) := dec_at dlX10_fastest_0_ok 21 rfl
theorem dX10_fastest_38 : decode cX10_fastest 38 = .ok (.aload_n 0, 1) := dec_at dlX10_fastest_0_ok 22 rfl
theorem dX10_fastest_39 : decode cX10_fastest 39 = .ok (.getfield 42, 3) := dec_at dlX10_fastest_0_ok 23 rfl
theorem dX10_fastest_42 : decode cX10_fastest 42 = .ok (.iload_n 1, 1) := dec_at dlX10_fastest_0_ok 24 rfl
theorem dX10_fastest_43 : decode cX10_fastest 43 = .ok (.iload_n 2, 1) := dec_at dlX10_fastest_0_ok 25 rfl
theorem dX10_fastest_44 : decode cX10_fastest 44 = .ok (.invokevirtual 250, 3) := dec_at dlX10_fastest_0_ok 26 rfl
theorem dX10_fastest_47 : decode cX10_fastest 47 = .ok (.ifCond .ne 5, 3) := dec_at dlX10_fastest_0_ok 27 rfl
theorem dX10_fastest_50 : decode cX10_fastest 50 = .ok (.iconst (-1), 1) := dec_at dlX10_fastest_0_ok 28 rfl
theorem dX10_fastest_51 : decode cX10_fastest 51 = .ok (.ireturn, 1) := dec_at dlX10_fastest_0_ok 29 rfl
theorem dX10_fastest_52 : decode cX10_fastest 52 = .ok (.iload_n 3, 1) := dec_at dlX10_fastest_0_ok 30 rfl
noncomputable def dlX10_fastest_53 : List (Nat × Instr × Nat) := [(53, .iconst (-1), 1), (54, .if_icmp .ne 13, 3), (57, .aload_n 0, 1), (58, .getfield 81, 3), (61, .getfield 253, 3), (64, .goto 12, 3), (67, .aload_n 0, 1), (68, .getfield 81, 3), (71, .getfield 254, 3), (74, .iload_n 3, 1), (75, .iaload, 1), (76, .ireturn, 1)]
theorem dlX10_fastest_53_ok : dlX10_fastest_53.all (fun r => decide (decode cX10_fastest r.1 = .ok r.2)) = true := by decide +kernel
theorem dX10_fastest_53 : decode cX10_fastest 53 = .ok (.iconst (-1), 1) := dec_at dlX10_fastest_53_ok 0 rfl
theorem dX10_fastest_54 : decode cX10_fastest 54 = .ok (.if_icmp .ne 13, 3) := dec_at dlX10_fastest_53_ok 1 rfl
theorem dX10_fastest_57 : decode cX10_fastest 57 = .ok (.aload_n 0, 1) := dec_at dlX10_fastest_53_ok 2 rfl
theorem dX10_fastest_58 : decode cX10_fastest 58 = .ok (.getfield 81, 3) := dec_at dlX10_fastest_53_ok 3 rfl
theorem dX10_fastest_61 : decode cX10_fastest 61 = .ok (.getfield 253, 3) := dec_at dlX10_fastest_53_ok 4 rfl
theorem dX10_fastest_64 : decode cX10_fastest 64 = .ok (.goto 12, 3) := dec_at dlX10_fastest_53_ok 5 rfl
theorem dX10_fastest_67 : decode cX10_fastest 67 = .ok (.aload_n 0, 1) := dec_at dlX10_fastest_53_ok 6 rfl
theorem dX10_fastest_68 : decode cX10_fastest 68 = .ok (.getfield 81, 3) := dec_at dlX10_fastest_53_ok 7 rfl
theorem dX10_fastest_71 : decode cX10_fastest 71 = .ok (.getfield 254, 3) := dec_at dlX10_fastest_53_ok 8 rfl
theorem dX10_fastest_74 : decode cX10_fastest 74 = .ok (.iload_n 3, 1) := dec_at dlX10_fastest_53_ok 9 rfl
theorem dX10_fastest_75 : decode cX10_fastest 75 = .ok (.iaload, 1) := dec_at dlX10_fastest_53_ok 10 rfl
theorem dX10_fastest_76 : decode cX10_fastest 76 = .ok (.ireturn, 1) := dec_at dlX10_fastest_53_ok 11 rfl
set_option maxRecDepth 20000 in
theorem ggX10_byTurns_X10_isQuill : GoodIn wsX10_byTurns wsX10_isQuill := goodIn_s _ [(7, 3), (67, 27)] rfl (by decide +kernel)
set_option maxRecDepth 20000 in
theorem gX10_byTurns_X10_isQuill : GoodIn wsX10_byTurns (wsV RX10 156 RX10 yX10_isQuill wsX10_isQuill) := goodIn_app (goodIn_s _ [(3, 4)] rfl (by decide +kernel)) ggX10_byTurns_X10_isQuill
set_option maxRecDepth 20000 in
theorem ggX10_byTurns_X10_isHand : GoodIn wsX10_byTurns wsX10_isHand := goodIn_s _ [(13, 1), (8, 1), (14, 1), (67, 27)] rfl (by decide +kernel)
set_option maxRecDepth 20000 in
theorem gX10_byTurns_X10_isHand : GoodIn wsX10_byTurns (wsV RX10 183 RX10 yX10_isHand wsX10_isHand) := goodIn_app (goodIn_s _ [(10, 3), (6, 1)] rfl (by decide +kernel)) ggX10_byTurns_X10_isHand
set_option maxRecDepth 20000 in
theorem ggX10_byTurns_X9_fewestByTurns : GoodIn wsX10_byTurns wsX9_fewestByTurns := goodIn_s _ [(19, 38), (18, 1), (57, 3), (6, 1), (60, 7), (94, 11), (81, 13)] rfl (by decide +kernel)
set_option maxRecDepth 20000 in
theorem gX10_byTurns_X9_fewestByTurns : GoodIn wsX10_byTurns (wsV RX10 257 RX9 yX9_fewestByTurns wsX9_fewestByTurns) := goodIn_app (goodIn_s _ [(15, 4)] rfl (by decide +kernel)) ggX10_byTurns_X9_fewestByTurns
noncomputable def dlX10_byTurns_0 : List (Nat × Instr × Nat) := [(0, .aload_n 0, 1), (1, .iload_n 1, 1), (2, .invokevirtual 156, 3), (5, .ifCond .eq 11, 3), (8, .aload_n 0, 1), (9, .iload_n 2, 1), (10, .invokevirtual 183, 3), (13, .ifCond .ne 6, 3), (16, .ldc 160, 2), (18, .ireturn, 1), (19, .aload_n 0, 1), (20, .getfield 65, 3), (23, .iload_n 1, 1), (24, .iload_n 2, 1), (25, .invokevirtual 257, 3), (28, .ireturn, 1)]
theorem dlX10_byTurns_0_ok : dlX10_byTurns_0.all (fun r => decide (decode cX10_byTurns r.1 = .ok r.2)) = true := by decide +kernel
theorem dX10_byTurns_0 : decode cX10_byTurns 0 = .ok (.aload_n 0, 1) := dec_at dlX10_byTurns_0_ok 0 rfl
theorem dX10_byTurns_1 : decode cX10_byTurns 1 = .ok (.iload_n 1, 1) := dec_at dlX10_byTurns_0_ok 1 rfl
theorem dX10_byTurns_2 : decode cX10_byTurns 2 = .ok (.invokevirtual 156, 3) := dec_at dlX10_byTurns_0_ok 2 rfl
theorem dX10_byTurns_5 : decode cX10_byTurns 5 = .ok (.ifCond .eq 11, 3) := dec_at dlX10_byTurns_0_ok 3 rfl
theorem dX10_byTurns_8 : decode cX10_byTurns 8 = .ok (.aload_n 0, 1) := dec_at dlX10_byTurns_0_ok 4 rfl
theorem dX10_byTurns_9 : decode cX10_byTurns 9 = .ok (.iload_n 2, 1) := dec_at dlX10_byTurns_0_ok 5 rfl
theorem dX10_byTurns_10 : decode cX10_byTurns 10 = .ok (.invokevirtual 183, 3) := dec_at dlX10_byTurns_0_ok 6 rfl
theorem dX10_byTurns_13 : decode cX10_byTurns 13 = .ok (.ifCond .ne 6, 3) := dec_at dlX10_byTurns_0_ok 7 rfl
theorem dX10_byTurns_16 : decode cX10_byTurns 16 = .ok (.ldc 160, 2) := dec_at dlX10_byTurns_0_ok 8 rfl
theorem dX10_byTurns_18 : decode cX10_byTurns 18 = .ok (.ireturn, 1) := dec_at dlX10_byTurns_0_ok 9 rfl
theorem dX10_byTurns_19 : decode cX10_byTurns 19 = .ok (.aload_n 0, 1) := dec_at dlX10_byTurns_0_ok 10 rfl
theorem dX10_byTurns_20 : decode cX10_byTurns 20 = .ok (.getfield 65, 3) := dec_at dlX10_byTurns_0_ok 11 rfl
theorem dX10_byTurns_23 : decode cX10_byTurns 23 = .ok (.iload_n 1, 1) := dec_at dlX10_byTurns_0_ok 12 rfl
theorem dX10_byTurns_24 : decode cX10_byTurns 24 = .ok (.iload_n 2, 1) := dec_at dlX10_byTurns_0_ok 13 rfl
theorem dX10_byTurns_25 : decode cX10_byTurns 25 = .ok (.invokevirtual 257, 3) := dec_at dlX10_byTurns_0_ok 14 rfl
theorem dX10_byTurns_28 : decode cX10_byTurns 28 = .ok (.ireturn, 1) := dec_at dlX10_byTurns_0_ok 15 rfl
set_option maxRecDepth 20000 in
theorem ggX10_dearer_X9_leftAheadOfRight : GoodIn wsX10_dearer wsX9_leftAheadOfRight := goodIn_s _ [(7, 8), (6, 1), (15, 44), (73, 24)] rfl (by decide +kernel)
set_option maxRecDepth 20000 in
theorem gX10_dearer_X9_leftAheadOfRight : GoodIn wsX10_dearer (wsV RX10 261 RX9 yX9_leftAheadOfRight wsX9_leftAheadOfRight) := goodIn_app (goodIn_s _ [(3, 4)] rfl (by decide +kernel)) ggX10_dearer_X9_leftAheadOfRight
noncomputable def dlX10_dearer_0 : List (Nat × Instr × Nat) := [(0, .ldc_w 260, 3), (3, .aload_n 0, 1), (4, .getfield 65, 3), (7, .invokevirtual 261, 3), (10, .iadd, 1), (11, .ireturn, 1)]
theorem dlX10_dearer_0_ok : dlX10_dearer_0.all (fun r => decide (decode cX10_dearer r.1 = .ok r.2)) = true := by decide +kernel
theorem dX10_dearer_0 : decode cX10_dearer 0 = .ok (.ldc_w 260, 3) := dec_at dlX10_dearer_0_ok 0 rfl
theorem dX10_dearer_3 : decode cX10_dearer 3 = .ok (.aload_n 0, 1) := dec_at dlX10_dearer_0_ok 1 rfl
theorem dX10_dearer_4 : decode cX10_dearer 4 = .ok (.getfield 65, 3) := dec_at dlX10_dearer_0_ok 2 rfl
theorem dX10_dearer_7 : decode cX10_dearer 7 = .ok (.invokevirtual 261, 3) := dec_at dlX10_dearer_0_ok 3 rfl
theorem dX10_dearer_10 : decode cX10_dearer 10 = .ok (.iadd, 1) := dec_at dlX10_dearer_0_ok 4 rfl
theorem dX10_dearer_11 : decode cX10_dearer 11 = .ok (.ireturn, 1) := dec_at dlX10_dearer_0_ok 5 rfl
set_option maxRecDepth 20000 in
theorem ggX10_geese_X10_isQuill : GoodIn wsX10_geese wsX10_isQuill := goodIn_s _ [(9, 3), (74, 27)] rfl (by decide +kernel)
set_option maxRecDepth 20000 in
theorem gX10_geese_X10_isQuill : GoodIn wsX10_geese (wsV RX10 156 RX10 yX10_isQuill wsX10_isQuill) := goodIn_app (goodIn_s _ [(5, 4)] rfl (by decide +kernel)) ggX10_geese_X10_isQuill
set_option maxRecDepth 20000 in
theorem ggX10_geese_X10_isHand : GoodIn wsX10_geese wsX10_isHand := goodIn_s _ [(15, 1), (10, 1), (16, 1), (74, 27)] rfl (by decide +kernel)
set_option maxRecDepth 20000 in
theorem gX10_geese_X10_isHand : GoodIn wsX10_geese (wsV RX10 183 RX10 yX10_isHand wsX10_isHand) := goodIn_app (goodIn_s _ [(12, 3), (8, 1)] rfl (by decide +kernel)) ggX10_geese_X10_isHand
set_option maxRecDepth 20000 in
theorem ggX10_geese_X10_within : GoodIn wsX10_geese wsX10_within := goodIn_s _ [(19, 1)] rfl (by decide +kernel)
set_option maxRecDepth 20000 in
theorem gX10_geese_X10_within : GoodIn wsX10_geese (va_wsS RX10 99 yX10_within wsX10_within) := goodIn_app (goodIn_s _ [(17, 2), (8, 1)] rfl (by decide +kernel)) ggX10_geese_X10_within
set_option maxRecDepth 20000 in
theorem ggX10_geese_X9_goodInLife : GoodIn wsX10_geese wsX9_goodInLife := goodIn_s _ [(24, 10), (23, 1), (34, 38), (8, 1), (72, 2), (101, 11), (88, 13)] rfl (by decide +kernel)
set_option maxRecDepth 20000 in
theorem gX10_geese_X9_goodInLife : GoodIn wsX10_geese (wsV RX10 238 RX9 yX9_goodInLife wsX9_goodInLife) := goodIn_app (goodIn_s _ [(20, 4)] rfl (by decide +kernel)) ggX10_geese_X9_goodInLife
noncomputable def dlX10_geese_0 : List (Nat × Instr × Nat) := [(0, .aload_n 0, 1), (1, .iload_n 1, 1), (2, .invokevirtual 156, 3), (5, .ifCond .eq 11, 3), (8, .aload_n 0, 1), (9, .iload_n 2, 1), (10, .invokevirtual 183, 3), (13, .ifCond .ne 6, 3), (16, .ldc 160, 2), (18, .ireturn, 1), (19, .iload_n 3, 1), (20, .iconst 1, 1), (21, .ldc_w 264, 3), (24, .invokestatic 99, 3), (27, .ifCond .ne 6, 3), (30, .ldc 103, 2), (32, .ireturn, 1), (33, .bipush 10, 2), (35, .aload_n 0, 1), (36, .getfield 65, 3), (39, .iload_n 1, 1), (40, .iload_n 2, 1), (41, .invokevirtual 238, 3), (44, .imul, 1), (45, .istore 4, 2), (47, .iload 4, 2), (49, .ifCond .gt 5, 3), (52, .iconst (-1), 1), (53, .ireturn, 1), (54, .iload_n 3, 1), (55, .iload 4, 2)]
theorem dlX10_geese_0_ok : dlX10_geese_0.all (fun r => decide (decode cX10_geese r.1 = .ok r.2)) = true := by decide +kernel
theorem dX10_geese_0 : decode cX10_geese 0 = .ok (.aload_n 0, 1) := dec_at dlX10_geese_0_ok 0 rfl
theorem dX10_geese_1 : decode cX10_geese 1 = .ok (.iload_n 1, 1) := dec_at dlX10_geese_0_ok 1 rfl
theorem dX10_geese_2 : decode cX10_geese 2 = .ok (.invokevirtual 156, 3) := dec_at dlX10_geese_0_ok 2 rfl
theorem dX10_geese_5 : decode cX10_geese 5 = .ok (.ifCond .eq 11, 3) := dec_at dlX10_geese_0_ok 3 rfl
theorem dX10_geese_8 : decode cX10_geese 8 = .ok (.aload_n 0, 1) := dec_at dlX10_geese_0_ok 4 rfl
theorem dX10_geese_9 : decode cX10_geese 9 = .ok (.iload_n 2, 1) := dec_at dlX10_geese_0_ok 5 rfl
theorem dX10_geese_10 : decode cX10_geese 10 = .ok (.invokevirtual 183, 3) := dec_at dlX10_geese_0_ok 6 rfl
theorem dX10_geese_13 : decode cX10_geese 13 = .ok (.ifCond .ne 6, 3) := dec_at dlX10_geese_0_ok 7 rfl
theorem dX10_geese_16 : decode cX10_geese 16 = .ok (.ldc 160, 2) := dec_at dlX10_geese_0_ok 8 rfl
theorem dX10_geese_18 : decode cX10_geese 18 = .ok (.ireturn, 1) := dec_at dlX10_geese_0_ok 9 rfl
theorem dX10_geese_19 : decode cX10_geese 19 = .ok (.iload_n 3, 1) := dec_at dlX10_geese_0_ok 10 rfl
theorem dX10_geese_20 : decode cX10_geese 20 = .ok (.iconst 1, 1) := dec_at dlX10_geese_0_ok 11 rfl
theorem dX10_geese_21 : decode cX10_geese 21 = .ok (.ldc_w 264, 3) := dec_at dlX10_geese_0_ok 12 rfl
theorem dX10_geese_24 : decode cX10_geese 24 = .ok (.invokestatic 99, 3) := dec_at dlX10_geese_0_ok 13 rfl
theorem dX10_geese_27 : decode cX10_geese 27 = .ok (.ifCond .ne 6, 3) := dec_at dlX10_geese_0_ok 14 rfl
theorem dX10_geese_30 : decode cX10_geese 30 = .ok (.ldc 103, 2) := dec_at dlX10_geese_0_ok 15 rfl
theorem dX10_geese_32 : decode cX10_geese 32 = .ok (.ireturn, 1) := dec_at dlX10_geese_0_ok 16 rfl
theorem dX10_geese_33 : decode cX10_geese 33 = .ok (.bipush 10, 2) := dec_at dlX10_geese_0_ok 17 rfl
theorem dX10_geese_35 : decode cX10_geese 35 = .ok (.aload_n 0, 1) := dec_at dlX10_geese_0_ok 18 rfl
theorem dX10_geese_36 : decode cX10_geese 36 = .ok (.getfield 65, 3) := dec_at dlX10_geese_0_ok 19 rfl
theorem dX10_geese_39 : decode cX10_geese 39 = .ok (.iload_n 1, 1) := dec_at dlX10_geese_0_ok 20 rfl
theorem dX10_geese_40 : decode cX10_geese 40 = .ok (.iload_n 2, 1) := dec_at dlX10_geese_0_ok 21 rfl
theorem dX10_geese_41 : decode cX10_geese 41 = .ok (.invokevirtual 238, 3) := dec_at dlX10_geese_0_ok 22 rfl
theorem dX10_geese_44 : decode cX10_geese 44 = .ok (.imul, 1) := dec_at dlX10_geese_0_ok 23 rfl
theorem dX10_geese_45 : decode cX10_geese 45 = .ok (.istore 4, 2) := dec_at dlX10_geese_0_ok 24 rfl
theorem dX10_geese_47 : decode cX10_geese 47 = .ok (.iload 4, 2) := dec_at dlX10_geese_0_ok 25 rfl
theorem dX10_geese_49 : decode cX10_geese 49 = .ok (.ifCond .gt 5, 3) := dec_at dlX10_geese_0_ok 26 rfl
theorem dX10_geese_52 : decode cX10_geese 52 = .ok (.iconst (-1), 1) := dec_at dlX10_geese_0_ok 27 rfl
theorem dX10_geese_53 : decode cX10_geese 53 = .ok (.ireturn, 1) := dec_at dlX10_geese_0_ok 28 rfl
theorem dX10_geese_54 : decode cX10_geese 54 = .ok (.iload_n 3, 1) := dec_at dlX10_geese_0_ok 29 rfl
theorem dX10_geese_55 : decode cX10_geese 55 = .ok (.iload 4, 2) := dec_at dlX10_geese_0_ok 30 rfl
noncomputable def dlX10_geese_57 : List (Nat × Instr × Nat) := [(57, .iadd, 1), (58, .iconst 1, 1), (59, .isub, 1), (60, .iload 4, 2), (62, .idiv, 1), (63, .ireturn, 1)]
theorem dlX10_geese_57_ok : dlX10_geese_57.all (fun r => decide (decode cX10_geese r.1 = .ok r.2)) = true := by decide +kernel
theorem dX10_geese_57 : decode cX10_geese 57 = .ok (.iadd, 1) := dec_at dlX10_geese_57_ok 0 rfl
theorem dX10_geese_58 : decode cX10_geese 58 = .ok (.iconst 1, 1) := dec_at dlX10_geese_57_ok 1 rfl
theorem dX10_geese_59 : decode cX10_geese 59 = .ok (.isub, 1) := dec_at dlX10_geese_57_ok 2 rfl
theorem dX10_geese_60 : decode cX10_geese 60 = .ok (.iload 4, 2) := dec_at dlX10_geese_57_ok 3 rfl
theorem dX10_geese_62 : decode cX10_geese 62 = .ok (.idiv, 1) := dec_at dlX10_geese_57_ok 4 rfl
theorem dX10_geese_63 : decode cX10_geese 63 = .ok (.ireturn, 1) := dec_at dlX10_geese_57_ok 5 rfl
set_option maxRecDepth 20000 in
theorem ggX10_crooked_X10_within : GoodIn wsX10_crooked wsX10_within := goodIn_s _ [(13, 1)] rfl (by decide +kernel)
set_option maxRecDepth 20000 in
theorem gX10_crooked_X10_within : GoodIn wsX10_crooked (va_wsS RX10 99 yX10_within wsX10_within) := goodIn_app (goodIn_s _ [(10, 3)] rfl (by decide +kernel)) ggX10_crooked_X10_within
noncomputable def dlX10_crooked_0 : List (Nat × Instr × Nat) := [(0, .iload_n 1, 1), (1, .iconst 0, 1), (2, .bipush 60, 2), (4, .invokestatic 99, 3), (7, .ifCond .eq 13, 3), (10, .iload_n 2, 1), (11, .iconst 0, 1), (12, .bipush 100, 2), (14, .invokestatic 99, 3), (17, .ifCond .ne 6, 3), (20, .ldc 103, 2), (22, .ireturn, 1), (23, .bipush 100, 2), (25, .bipush 100, 2), (27, .iload_n 2, 1), (28, .iconst 3, 1), (29, .aload_n 0, 1), (30, .getfield 42, 3), (33, .getfield 142, 3), (36, .imul, 1), (37, .iadd, 1), (38, .invokestatic 265, 3), (41, .isub, 1), (42, .istore_n 3, 1), (43, .ldc2_w 270, 3), (46, .lstore 4, 2), (48, .iconst 0, 1), (49, .istore 6, 2), (51, .iload 6, 2), (53, .iload_n 1, 1), (54, .if_icmp .ge 20, 3)]
theorem dlX10_crooked_0_ok : dlX10_crooked_0.all (fun r => decide (decode cX10_crooked r.1 = .ok r.2)) = true := by decide +kernel
theorem dX10_crooked_0 : decode cX10_crooked 0 = .ok (.iload_n 1, 1) := dec_at dlX10_crooked_0_ok 0 rfl
theorem dX10_crooked_1 : decode cX10_crooked 1 = .ok (.iconst 0, 1) := dec_at dlX10_crooked_0_ok 1 rfl
theorem dX10_crooked_2 : decode cX10_crooked 2 = .ok (.bipush 60, 2) := dec_at dlX10_crooked_0_ok 2 rfl
theorem dX10_crooked_4 : decode cX10_crooked 4 = .ok (.invokestatic 99, 3) := dec_at dlX10_crooked_0_ok 3 rfl
theorem dX10_crooked_7 : decode cX10_crooked 7 = .ok (.ifCond .eq 13, 3) := dec_at dlX10_crooked_0_ok 4 rfl
theorem dX10_crooked_10 : decode cX10_crooked 10 = .ok (.iload_n 2, 1) := dec_at dlX10_crooked_0_ok 5 rfl
theorem dX10_crooked_11 : decode cX10_crooked 11 = .ok (.iconst 0, 1) := dec_at dlX10_crooked_0_ok 6 rfl
theorem dX10_crooked_12 : decode cX10_crooked 12 = .ok (.bipush 100, 2) := dec_at dlX10_crooked_0_ok 7 rfl
theorem dX10_crooked_14 : decode cX10_crooked 14 = .ok (.invokestatic 99, 3) := dec_at dlX10_crooked_0_ok 8 rfl
theorem dX10_crooked_17 : decode cX10_crooked 17 = .ok (.ifCond .ne 6, 3) := dec_at dlX10_crooked_0_ok 9 rfl
theorem dX10_crooked_20 : decode cX10_crooked 20 = .ok (.ldc 103, 2) := dec_at dlX10_crooked_0_ok 10 rfl
theorem dX10_crooked_22 : decode cX10_crooked 22 = .ok (.ireturn, 1) := dec_at dlX10_crooked_0_ok 11 rfl
theorem dX10_crooked_23 : decode cX10_crooked 23 = .ok (.bipush 100, 2) := dec_at dlX10_crooked_0_ok 12 rfl
theorem dX10_crooked_25 : decode cX10_crooked 25 = .ok (.bipush 100, 2) := dec_at dlX10_crooked_0_ok 13 rfl
theorem dX10_crooked_27 : decode cX10_crooked 27 = .ok (.iload_n 2, 1) := dec_at dlX10_crooked_0_ok 14 rfl
theorem dX10_crooked_28 : decode cX10_crooked 28 = .ok (.iconst 3, 1) := dec_at dlX10_crooked_0_ok 15 rfl
theorem dX10_crooked_29 : decode cX10_crooked 29 = .ok (.aload_n 0, 1) := dec_at dlX10_crooked_0_ok 16 rfl
theorem dX10_crooked_30 : decode cX10_crooked 30 = .ok (.getfield 42, 3) := dec_at dlX10_crooked_0_ok 17 rfl
theorem dX10_crooked_33 : decode cX10_crooked 33 = .ok (.getfield 142, 3) := dec_at dlX10_crooked_0_ok 18 rfl
theorem dX10_crooked_36 : decode cX10_crooked 36 = .ok (.imul, 1) := dec_at dlX10_crooked_0_ok 19 rfl
theorem dX10_crooked_37 : decode cX10_crooked 37 = .ok (.iadd, 1) := dec_at dlX10_crooked_0_ok 20 rfl
theorem dX10_crooked_38 : decode cX10_crooked 38 = .ok (.invokestatic 265, 3) := dec_at dlX10_crooked_0_ok 21 rfl
theorem dX10_crooked_41 : decode cX10_crooked 41 = .ok (.isub, 1) := dec_at dlX10_crooked_0_ok 22 rfl
theorem dX10_crooked_42 : decode cX10_crooked 42 = .ok (.istore_n 3, 1) := dec_at dlX10_crooked_0_ok 23 rfl
theorem dX10_crooked_43 : decode cX10_crooked 43 = .ok (.ldc2_w 270, 3) := dec_at dlX10_crooked_0_ok 24 rfl
theorem dX10_crooked_46 : decode cX10_crooked 46 = .ok (.lstore 4, 2) := dec_at dlX10_crooked_0_ok 25 rfl
theorem dX10_crooked_48 : decode cX10_crooked 48 = .ok (.iconst 0, 1) := dec_at dlX10_crooked_0_ok 26 rfl
theorem dX10_crooked_49 : decode cX10_crooked 49 = .ok (.istore 6, 2) := dec_at dlX10_crooked_0_ok 27 rfl
theorem dX10_crooked_51 : decode cX10_crooked 51 = .ok (.iload 6, 2) := dec_at dlX10_crooked_0_ok 28 rfl
theorem dX10_crooked_53 : decode cX10_crooked 53 = .ok (.iload_n 1, 1) := dec_at dlX10_crooked_0_ok 29 rfl
theorem dX10_crooked_54 : decode cX10_crooked 54 = .ok (.if_icmp .ge 20, 3) := dec_at dlX10_crooked_0_ok 30 rfl
noncomputable def dlX10_crooked_57 : List (Nat × Instr × Nat) := [(57, .lload 4, 2), (59, .iload_n 3, 1), (60, .i2l, 1), (61, .lmul, 1), (62, .ldc2_w 272, 3), (65, .ldiv, 1), (66, .lstore 4, 2), (68, .iinc 6 1, 3), (71, .goto (-20), 3), (74, .lload 4, 2), (76, .l2i, 1), (77, .ireturn, 1)]
theorem dlX10_crooked_57_ok : dlX10_crooked_57.all (fun r => decide (decode cX10_crooked r.1 = .ok r.2)) = true := by decide +kernel
theorem dX10_crooked_57 : decode cX10_crooked 57 = .ok (.lload 4, 2) := dec_at dlX10_crooked_57_ok 0 rfl
theorem dX10_crooked_59 : decode cX10_crooked 59 = .ok (.iload_n 3, 1) := dec_at dlX10_crooked_57_ok 1 rfl
theorem dX10_crooked_60 : decode cX10_crooked 60 = .ok (.i2l, 1) := dec_at dlX10_crooked_57_ok 2 rfl
theorem dX10_crooked_61 : decode cX10_crooked 61 = .ok (.lmul, 1) := dec_at dlX10_crooked_57_ok 3 rfl
theorem dX10_crooked_62 : decode cX10_crooked 62 = .ok (.ldc2_w 272, 3) := dec_at dlX10_crooked_57_ok 4 rfl
theorem dX10_crooked_65 : decode cX10_crooked 65 = .ok (.ldiv, 1) := dec_at dlX10_crooked_57_ok 5 rfl
theorem dX10_crooked_66 : decode cX10_crooked 66 = .ok (.lstore 4, 2) := dec_at dlX10_crooked_57_ok 6 rfl
theorem dX10_crooked_68 : decode cX10_crooked 68 = .ok (.iinc 6 1, 3) := dec_at dlX10_crooked_57_ok 7 rfl
theorem dX10_crooked_71 : decode cX10_crooked 71 = .ok (.goto (-20), 3) := dec_at dlX10_crooked_57_ok 8 rfl
theorem dX10_crooked_74 : decode cX10_crooked 74 = .ok (.lload 4, 2) := dec_at dlX10_crooked_57_ok 9 rfl
theorem dX10_crooked_76 : decode cX10_crooked 76 = .ok (.l2i, 1) := dec_at dlX10_crooked_57_ok 10 rfl
theorem dX10_crooked_77 : decode cX10_crooked 77 = .ok (.ireturn, 1) := dec_at dlX10_crooked_57_ok 11 rfl
set_option maxRecDepth 20000 in
theorem ggX10_worn_X10_isQuill : GoodIn wsX10_worn wsX10_isQuill := goodIn_s _ [(10, 3), (25, 14), (44, 13)] rfl (by decide +kernel)
set_option maxRecDepth 20000 in
theorem gX10_worn_X10_isQuill : GoodIn wsX10_worn (wsV RX10 156 RX10 yX10_isQuill wsX10_isQuill) := goodIn_app (goodIn_s _ [(6, 4)] rfl (by decide +kernel)) ggX10_worn_X10_isQuill
set_option maxRecDepth 20000 in
theorem ggX10_worn_X10_within : GoodIn wsX10_worn wsX10_within := goodIn_s _ [(15, 1)] rfl (by decide +kernel)
set_option maxRecDepth 20000 in
theorem gX10_worn_X10_within : GoodIn wsX10_worn (va_wsS RX10 99 yX10_within wsX10_within) := goodIn_app (goodIn_s _ [(13, 2), (9, 1)] rfl (by decide +kernel)) ggX10_worn_X10_within
set_option maxRecDepth 20000 in
theorem ggX10_worn_X2_add : GoodIn wsX10_worn wsX2_add := goodIn_s _ [(20, 5), (39, 5)] rfl (by decide +kernel)
set_option maxRecDepth 20000 in
theorem gX10_worn_X2_add : GoodIn wsX10_worn (wsV RX10 274 RX2 yX2_add wsX2_add) := goodIn_app (goodIn_s _ [(16, 4)] rfl (by decide +kernel)) ggX10_worn_X2_add
noncomputable def dlX10_worn_0 : List (Nat × Instr × Nat) := [(0, .aload_n 0, 1), (1, .iload_n 1, 1), (2, .invokevirtual 156, 3), (5, .ifCond .ne 6, 3), (8, .ldc 160, 2), (10, .ireturn, 1), (11, .iload_n 2, 1), (12, .iconst 1, 1), (13, .bipush 9, 2), (15, .invokestatic 99, 3), (18, .ifCond .eq 13, 3), (21, .iload_n 3, 1), (22, .iconst 0, 1), (23, .bipush 99, 2), (25, .invokestatic 99, 3), (28, .ifCond .ne 6, 3), (31, .ldc 103, 2), (33, .ireturn, 1), (34, .aload_n 0, 1), (35, .getfield 88, 3), (38, .getfield 123, 3), (41, .bipush 6, 2), (43, .if_icmp .lt 6, 3), (46, .ldc 104, 2), (48, .ireturn, 1), (49, .aload_n 0, 1), (50, .getfield 88, 3), (53, .iload_n 1, 1), (54, .iload_n 2, 1), (55, .iload_n 3, 1), (56, .invokevirtual 274, 3)]
theorem dlX10_worn_0_ok : dlX10_worn_0.all (fun r => decide (decode cX10_worn r.1 = .ok r.2)) = true := by decide +kernel
theorem dX10_worn_0 : decode cX10_worn 0 = .ok (.aload_n 0, 1) := dec_at dlX10_worn_0_ok 0 rfl
theorem dX10_worn_1 : decode cX10_worn 1 = .ok (.iload_n 1, 1) := dec_at dlX10_worn_0_ok 1 rfl
theorem dX10_worn_2 : decode cX10_worn 2 = .ok (.invokevirtual 156, 3) := dec_at dlX10_worn_0_ok 2 rfl
theorem dX10_worn_5 : decode cX10_worn 5 = .ok (.ifCond .ne 6, 3) := dec_at dlX10_worn_0_ok 3 rfl
theorem dX10_worn_8 : decode cX10_worn 8 = .ok (.ldc 160, 2) := dec_at dlX10_worn_0_ok 4 rfl
theorem dX10_worn_10 : decode cX10_worn 10 = .ok (.ireturn, 1) := dec_at dlX10_worn_0_ok 5 rfl
theorem dX10_worn_11 : decode cX10_worn 11 = .ok (.iload_n 2, 1) := dec_at dlX10_worn_0_ok 6 rfl
theorem dX10_worn_12 : decode cX10_worn 12 = .ok (.iconst 1, 1) := dec_at dlX10_worn_0_ok 7 rfl
theorem dX10_worn_13 : decode cX10_worn 13 = .ok (.bipush 9, 2) := dec_at dlX10_worn_0_ok 8 rfl
theorem dX10_worn_15 : decode cX10_worn 15 = .ok (.invokestatic 99, 3) := dec_at dlX10_worn_0_ok 9 rfl
theorem dX10_worn_18 : decode cX10_worn 18 = .ok (.ifCond .eq 13, 3) := dec_at dlX10_worn_0_ok 10 rfl
theorem dX10_worn_21 : decode cX10_worn 21 = .ok (.iload_n 3, 1) := dec_at dlX10_worn_0_ok 11 rfl
theorem dX10_worn_22 : decode cX10_worn 22 = .ok (.iconst 0, 1) := dec_at dlX10_worn_0_ok 12 rfl
theorem dX10_worn_23 : decode cX10_worn 23 = .ok (.bipush 99, 2) := dec_at dlX10_worn_0_ok 13 rfl
theorem dX10_worn_25 : decode cX10_worn 25 = .ok (.invokestatic 99, 3) := dec_at dlX10_worn_0_ok 14 rfl
theorem dX10_worn_28 : decode cX10_worn 28 = .ok (.ifCond .ne 6, 3) := dec_at dlX10_worn_0_ok 15 rfl
theorem dX10_worn_31 : decode cX10_worn 31 = .ok (.ldc 103, 2) := dec_at dlX10_worn_0_ok 16 rfl
theorem dX10_worn_33 : decode cX10_worn 33 = .ok (.ireturn, 1) := dec_at dlX10_worn_0_ok 17 rfl
theorem dX10_worn_34 : decode cX10_worn 34 = .ok (.aload_n 0, 1) := dec_at dlX10_worn_0_ok 18 rfl
theorem dX10_worn_35 : decode cX10_worn 35 = .ok (.getfield 88, 3) := dec_at dlX10_worn_0_ok 19 rfl
theorem dX10_worn_38 : decode cX10_worn 38 = .ok (.getfield 123, 3) := dec_at dlX10_worn_0_ok 20 rfl
theorem dX10_worn_41 : decode cX10_worn 41 = .ok (.bipush 6, 2) := dec_at dlX10_worn_0_ok 21 rfl
theorem dX10_worn_43 : decode cX10_worn 43 = .ok (.if_icmp .lt 6, 3) := dec_at dlX10_worn_0_ok 22 rfl
theorem dX10_worn_46 : decode cX10_worn 46 = .ok (.ldc 104, 2) := dec_at dlX10_worn_0_ok 23 rfl
theorem dX10_worn_48 : decode cX10_worn 48 = .ok (.ireturn, 1) := dec_at dlX10_worn_0_ok 24 rfl
theorem dX10_worn_49 : decode cX10_worn 49 = .ok (.aload_n 0, 1) := dec_at dlX10_worn_0_ok 25 rfl
theorem dX10_worn_50 : decode cX10_worn 50 = .ok (.getfield 88, 3) := dec_at dlX10_worn_0_ok 26 rfl
theorem dX10_worn_53 : decode cX10_worn 53 = .ok (.iload_n 1, 1) := dec_at dlX10_worn_0_ok 27 rfl
theorem dX10_worn_54 : decode cX10_worn 54 = .ok (.iload_n 2, 1) := dec_at dlX10_worn_0_ok 28 rfl
theorem dX10_worn_55 : decode cX10_worn 55 = .ok (.iload_n 3, 1) := dec_at dlX10_worn_0_ok 29 rfl
theorem dX10_worn_56 : decode cX10_worn 56 = .ok (.invokevirtual 274, 3) := dec_at dlX10_worn_0_ok 30 rfl
noncomputable def dlX10_worn_59 : List (Nat × Instr × Nat) := [(59, .aload_n 0, 1), (60, .getfield 88, 3), (63, .getfield 123, 3), (66, .ireturn, 1)]
theorem dlX10_worn_59_ok : dlX10_worn_59.all (fun r => decide (decode cX10_worn r.1 = .ok r.2)) = true := by decide +kernel
theorem dX10_worn_59 : decode cX10_worn 59 = .ok (.aload_n 0, 1) := dec_at dlX10_worn_59_ok 0 rfl
theorem dX10_worn_60 : decode cX10_worn 60 = .ok (.getfield 88, 3) := dec_at dlX10_worn_59_ok 1 rfl
theorem dX10_worn_63 : decode cX10_worn 63 = .ok (.getfield 123, 3) := dec_at dlX10_worn_59_ok 2 rfl
theorem dX10_worn_66 : decode cX10_worn 66 = .ok (.ireturn, 1) := dec_at dlX10_worn_59_ok 3 rfl
set_option maxRecDepth 20000 in
theorem ggX10_whose_X2_fittingHands : GoodIn wsX10_whose wsX2_fittingHands := goodIn_s _ [(6, 6), (5, 1), (12, 33), (59, 18)] rfl (by decide +kernel)
set_option maxRecDepth 20000 in
theorem gX10_whose_X2_fittingHands : GoodIn wsX10_whose (wsV RX10 278 RX2 yX2_fittingHands wsX2_fittingHands) := goodIn_app (goodIn_s _ [(2, 4)] rfl (by decide +kernel)) ggX10_whose_X2_fittingHands
noncomputable def dlX10_whose_0 : List (Nat × Instr × Nat) := [(0, .aload_n 0, 1), (1, .getfield 88, 3), (4, .invokevirtual 278, 3), (7, .ireturn, 1)]
theorem dlX10_whose_0_ok : dlX10_whose_0.all (fun r => decide (decode cX10_whose r.1 = .ok r.2)) = true := by decide +kernel
theorem dX10_whose_0 : decode cX10_whose 0 = .ok (.aload_n 0, 1) := dec_at dlX10_whose_0_ok 0 rfl
theorem dX10_whose_1 : decode cX10_whose 1 = .ok (.getfield 88, 3) := dec_at dlX10_whose_0_ok 1 rfl
theorem dX10_whose_4 : decode cX10_whose 4 = .ok (.invokevirtual 278, 3) := dec_at dlX10_whose_0_ok 2 rfl
theorem dX10_whose_7 : decode cX10_whose 7 = .ok (.ireturn, 1) := dec_at dlX10_whose_0_ok 3 rfl
set_option maxRecDepth 20000 in
theorem ggX10_lookAt_X2_bestToLookAt : GoodIn wsX10_lookAt wsX2_bestToLookAt := goodIn_s _ [(6, 6), (5, 1), (12, 54), (80, 18)] rfl (by decide +kernel)
set_option maxRecDepth 20000 in
theorem gX10_lookAt_X2_bestToLookAt : GoodIn wsX10_lookAt (wsV RX10 281 RX2 yX2_bestToLookAt wsX2_bestToLookAt) := goodIn_app (goodIn_s _ [(2, 4)] rfl (by decide +kernel)) ggX10_lookAt_X2_bestToLookAt
noncomputable def dlX10_lookAt_0 : List (Nat × Instr × Nat) := [(0, .aload_n 0, 1), (1, .getfield 88, 3), (4, .invokevirtual 281, 3), (7, .ireturn, 1)]
theorem dlX10_lookAt_0_ok : dlX10_lookAt_0.all (fun r => decide (decode cX10_lookAt r.1 = .ok r.2)) = true := by decide +kernel
theorem dX10_lookAt_0 : decode cX10_lookAt 0 = .ok (.aload_n 0, 1) := dec_at dlX10_lookAt_0_ok 0 rfl
theorem dX10_lookAt_1 : decode cX10_lookAt 1 = .ok (.getfield 88, 3) := dec_at dlX10_lookAt_0_ok 1 rfl
theorem dX10_lookAt_4 : decode cX10_lookAt 4 = .ok (.invokevirtual 281, 3) := dec_at dlX10_lookAt_0_ok 2 rfl
theorem dX10_lookAt_7 : decode cX10_lookAt 7 = .ok (.ireturn, 1) := dec_at dlX10_lookAt_0_ok 3 rfl
set_option maxRecDepth 20000 in
theorem ggX10_note_X10_isQuill : GoodIn wsX10_note wsX10_isQuill := goodIn_s _ [(10, 3), (24, 14), (41, 13)] rfl (by decide +kernel)
set_option maxRecDepth 20000 in
theorem gX10_note_X10_isQuill : GoodIn wsX10_note (wsV RX10 156 RX10 yX10_isQuill wsX10_isQuill) := goodIn_app (goodIn_s _ [(6, 4)] rfl (by decide +kernel)) ggX10_note_X10_isQuill
set_option maxRecDepth 20000 in
theorem ggX10_note_X10_within : GoodIn wsX10_note wsX10_within := goodIn_s _ [(15, 1)] rfl (by decide +kernel)
set_option maxRecDepth 20000 in
theorem gX10_note_X10_within : GoodIn wsX10_note (va_wsS RX10 99 yX10_within wsX10_within) := goodIn_app (goodIn_s _ [(13, 2), (9, 1)] rfl (by decide +kernel)) ggX10_note_X10_within
set_option maxRecDepth 20000 in
theorem ggX10_note_X0_add : GoodIn wsX10_note wsX0_add := goodIn_s _ [(20, 4), (38, 3)] rfl (by decide +kernel)
set_option maxRecDepth 20000 in
theorem gX10_note_X0_add : GoodIn wsX10_note (wsV RX10 284 RX0 yX0_add wsX0_add) := goodIn_app (goodIn_s _ [(16, 4)] rfl (by decide +kernel)) ggX10_note_X0_add
noncomputable def dlX10_note_0 : List (Nat × Instr × Nat) := [(0, .aload_n 0, 1), (1, .iload_n 1, 1), (2, .invokevirtual 156, 3), (5, .ifCond .ne 6, 3), (8, .ldc 160, 2), (10, .ireturn, 1), (11, .iload_n 2, 1), (12, .iconst 0, 1), (13, .bipush 99, 2), (15, .invokestatic 99, 3), (18, .ifCond .ne 6, 3), (21, .ldc 103, 2), (23, .ireturn, 1), (24, .aload_n 0, 1), (25, .getfield 95, 3), (28, .getfield 126, 3), (31, .bipush 15, 2), (33, .if_icmp .lt 6, 3), (36, .ldc 104, 2), (38, .ireturn, 1), (39, .aload_n 0, 1), (40, .getfield 95, 3), (43, .iload_n 1, 1), (44, .iload_n 2, 1), (45, .invokevirtual 284, 3), (48, .aload_n 0, 1), (49, .getfield 95, 3), (52, .getfield 126, 3), (55, .ireturn, 1)]
theorem dlX10_note_0_ok : dlX10_note_0.all (fun r => decide (decode cX10_note r.1 = .ok r.2)) = true := by decide +kernel
theorem dX10_note_0 : decode cX10_note 0 = .ok (.aload_n 0, 1) := dec_at dlX10_note_0_ok 0 rfl
theorem dX10_note_1 : decode cX10_note 1 = .ok (.iload_n 1, 1) := dec_at dlX10_note_0_ok 1 rfl
theorem dX10_note_2 : decode cX10_note 2 = .ok (.invokevirtual 156, 3) := dec_at dlX10_note_0_ok 2 rfl
theorem dX10_note_5 : decode cX10_note 5 = .ok (.ifCond .ne 6, 3) := dec_at dlX10_note_0_ok 3 rfl
theorem dX10_note_8 : decode cX10_note 8 = .ok (.ldc 160, 2) := dec_at dlX10_note_0_ok 4 rfl
theorem dX10_note_10 : decode cX10_note 10 = .ok (.ireturn, 1) := dec_at dlX10_note_0_ok 5 rfl
theorem dX10_note_11 : decode cX10_note 11 = .ok (.iload_n 2, 1) := dec_at dlX10_note_0_ok 6 rfl
theorem dX10_note_12 : decode cX10_note 12 = .ok (.iconst 0, 1) := dec_at dlX10_note_0_ok 7 rfl
theorem dX10_note_13 : decode cX10_note 13 = .ok (.bipush 99, 2) := dec_at dlX10_note_0_ok 8 rfl
theorem dX10_note_15 : decode cX10_note 15 = .ok (.invokestatic 99, 3) := dec_at dlX10_note_0_ok 9 rfl
theorem dX10_note_18 : decode cX10_note 18 = .ok (.ifCond .ne 6, 3) := dec_at dlX10_note_0_ok 10 rfl
theorem dX10_note_21 : decode cX10_note 21 = .ok (.ldc 103, 2) := dec_at dlX10_note_0_ok 11 rfl
theorem dX10_note_23 : decode cX10_note 23 = .ok (.ireturn, 1) := dec_at dlX10_note_0_ok 12 rfl
theorem dX10_note_24 : decode cX10_note 24 = .ok (.aload_n 0, 1) := dec_at dlX10_note_0_ok 13 rfl
theorem dX10_note_25 : decode cX10_note 25 = .ok (.getfield 95, 3) := dec_at dlX10_note_0_ok 14 rfl
theorem dX10_note_28 : decode cX10_note 28 = .ok (.getfield 126, 3) := dec_at dlX10_note_0_ok 15 rfl
theorem dX10_note_31 : decode cX10_note 31 = .ok (.bipush 15, 2) := dec_at dlX10_note_0_ok 16 rfl
theorem dX10_note_33 : decode cX10_note 33 = .ok (.if_icmp .lt 6, 3) := dec_at dlX10_note_0_ok 17 rfl
theorem dX10_note_36 : decode cX10_note 36 = .ok (.ldc 104, 2) := dec_at dlX10_note_0_ok 18 rfl
theorem dX10_note_38 : decode cX10_note 38 = .ok (.ireturn, 1) := dec_at dlX10_note_0_ok 19 rfl
theorem dX10_note_39 : decode cX10_note 39 = .ok (.aload_n 0, 1) := dec_at dlX10_note_0_ok 20 rfl
theorem dX10_note_40 : decode cX10_note 40 = .ok (.getfield 95, 3) := dec_at dlX10_note_0_ok 21 rfl
theorem dX10_note_43 : decode cX10_note 43 = .ok (.iload_n 1, 1) := dec_at dlX10_note_0_ok 22 rfl
theorem dX10_note_44 : decode cX10_note 44 = .ok (.iload_n 2, 1) := dec_at dlX10_note_0_ok 23 rfl
theorem dX10_note_45 : decode cX10_note 45 = .ok (.invokevirtual 284, 3) := dec_at dlX10_note_0_ok 24 rfl
theorem dX10_note_48 : decode cX10_note 48 = .ok (.aload_n 0, 1) := dec_at dlX10_note_0_ok 25 rfl
theorem dX10_note_49 : decode cX10_note 49 = .ok (.getfield 95, 3) := dec_at dlX10_note_0_ok 26 rfl
theorem dX10_note_52 : decode cX10_note 52 = .ok (.getfield 126, 3) := dec_at dlX10_note_0_ok 27 rfl
theorem dX10_note_55 : decode cX10_note 55 = .ok (.ireturn, 1) := dec_at dlX10_note_0_ok 28 rfl
noncomputable def dlX10_tear_0 : List (Nat × Instr × Nat) := [(0, .aload_n 0, 1), (1, .getfield 88, 3), (4, .getfield 123, 3), (7, .aload_n 0, 1), (8, .getfield 95, 3), (11, .getfield 126, 3), (14, .iadd, 1), (15, .istore_n 1, 1), (16, .aload_n 0, 1), (17, .getfield 88, 3), (20, .iconst 0, 1), (21, .putfield 123, 3), (24, .aload_n 0, 1), (25, .getfield 95, 3), (28, .iconst 0, 1), (29, .putfield 126, 3), (32, .iload_n 1, 1), (33, .ireturn, 1)]
theorem dlX10_tear_0_ok : dlX10_tear_0.all (fun r => decide (decode cX10_tear r.1 = .ok r.2)) = true := by decide +kernel
theorem dX10_tear_0 : decode cX10_tear 0 = .ok (.aload_n 0, 1) := dec_at dlX10_tear_0_ok 0 rfl
theorem dX10_tear_1 : decode cX10_tear 1 = .ok (.getfield 88, 3) := dec_at dlX10_tear_0_ok 1 rfl
theorem dX10_tear_4 : decode cX10_tear 4 = .ok (.getfield 123, 3) := dec_at dlX10_tear_0_ok 2 rfl
theorem dX10_tear_7 : decode cX10_tear 7 = .ok (.aload_n 0, 1) := dec_at dlX10_tear_0_ok 3 rfl
theorem dX10_tear_8 : decode cX10_tear 8 = .ok (.getfield 95, 3) := dec_at dlX10_tear_0_ok 4 rfl
theorem dX10_tear_11 : decode cX10_tear 11 = .ok (.getfield 126, 3) := dec_at dlX10_tear_0_ok 5 rfl
theorem dX10_tear_14 : decode cX10_tear 14 = .ok (.iadd, 1) := dec_at dlX10_tear_0_ok 6 rfl
theorem dX10_tear_15 : decode cX10_tear 15 = .ok (.istore_n 1, 1) := dec_at dlX10_tear_0_ok 7 rfl
theorem dX10_tear_16 : decode cX10_tear 16 = .ok (.aload_n 0, 1) := dec_at dlX10_tear_0_ok 8 rfl
theorem dX10_tear_17 : decode cX10_tear 17 = .ok (.getfield 88, 3) := dec_at dlX10_tear_0_ok 9 rfl
theorem dX10_tear_20 : decode cX10_tear 20 = .ok (.iconst 0, 1) := dec_at dlX10_tear_0_ok 10 rfl
theorem dX10_tear_21 : decode cX10_tear 21 = .ok (.putfield 123, 3) := dec_at dlX10_tear_0_ok 11 rfl
theorem dX10_tear_24 : decode cX10_tear 24 = .ok (.aload_n 0, 1) := dec_at dlX10_tear_0_ok 12 rfl
theorem dX10_tear_25 : decode cX10_tear 25 = .ok (.getfield 95, 3) := dec_at dlX10_tear_0_ok 13 rfl
theorem dX10_tear_28 : decode cX10_tear 28 = .ok (.iconst 0, 1) := dec_at dlX10_tear_0_ok 14 rfl
theorem dX10_tear_29 : decode cX10_tear 29 = .ok (.putfield 126, 3) := dec_at dlX10_tear_0_ok 15 rfl
theorem dX10_tear_32 : decode cX10_tear 32 = .ok (.iload_n 1, 1) := dec_at dlX10_tear_0_ok 16 rfl
theorem dX10_tear_33 : decode cX10_tear 33 = .ok (.ireturn, 1) := dec_at dlX10_tear_0_ok 17 rfl
set_option maxRecDepth 20000 in
theorem ggX10_judge_X0_firstWrong : GoodIn wsX10_judge wsX0_firstWrong := goodIn_s _ [(7, 5), (26, 11)] rfl (by decide +kernel)
set_option maxRecDepth 20000 in
theorem gX10_judge_X0_firstWrong : GoodIn wsX10_judge (wsV RX10 287 RX0 yX0_firstWrong wsX0_firstWrong) := goodIn_app (goodIn_s _ [(3, 4)] rfl (by decide +kernel)) ggX10_judge_X0_firstWrong
noncomputable def dlX10_judge_0 : List (Nat × Instr × Nat) := [(0, .aload_n 0, 1), (1, .getfield 95, 3), (4, .aload_n 0, 1), (5, .getfield 42, 3), (8, .invokevirtual 287, 3), (11, .ireturn, 1)]
theorem dlX10_judge_0_ok : dlX10_judge_0.all (fun r => decide (decode cX10_judge r.1 = .ok r.2)) = true := by decide +kernel
theorem dX10_judge_0 : decode cX10_judge 0 = .ok (.aload_n 0, 1) := dec_at dlX10_judge_0_ok 0 rfl
theorem dX10_judge_1 : decode cX10_judge 1 = .ok (.getfield 95, 3) := dec_at dlX10_judge_0_ok 1 rfl
theorem dX10_judge_4 : decode cX10_judge 4 = .ok (.aload_n 0, 1) := dec_at dlX10_judge_0_ok 2 rfl
theorem dX10_judge_5 : decode cX10_judge 5 = .ok (.getfield 42, 3) := dec_at dlX10_judge_0_ok 3 rfl
theorem dX10_judge_8 : decode cX10_judge 8 = .ok (.invokevirtual 287, 3) := dec_at dlX10_judge_0_ok 4 rfl
theorem dX10_judge_11 : decode cX10_judge 11 = .ok (.ireturn, 1) := dec_at dlX10_judge_0_ok 5 rfl
noncomputable def dlX10_seed_0 : List (Nat × Instr × Nat) := [(0, .iload_n 1, 1), (1, .ifCond .ge 6, 3), (4, .ldc 103, 2), (6, .ireturn, 1), (7, .aload_n 0, 1), (8, .getfield 20, 3), (11, .istore_n 2, 1), (12, .aload_n 0, 1), (13, .iload_n 1, 1), (14, .putfield 20, 3), (17, .iload_n 2, 1), (18, .ireturn, 1)]
theorem dlX10_seed_0_ok : dlX10_seed_0.all (fun r => decide (decode cX10_seed r.1 = .ok r.2)) = true := by decide +kernel
theorem dX10_seed_0 : decode cX10_seed 0 = .ok (.iload_n 1, 1) := dec_at dlX10_seed_0_ok 0 rfl
theorem dX10_seed_1 : decode cX10_seed 1 = .ok (.ifCond .ge 6, 3) := dec_at dlX10_seed_0_ok 1 rfl
theorem dX10_seed_4 : decode cX10_seed 4 = .ok (.ldc 103, 2) := dec_at dlX10_seed_0_ok 2 rfl
theorem dX10_seed_6 : decode cX10_seed 6 = .ok (.ireturn, 1) := dec_at dlX10_seed_0_ok 3 rfl
theorem dX10_seed_7 : decode cX10_seed 7 = .ok (.aload_n 0, 1) := dec_at dlX10_seed_0_ok 4 rfl
theorem dX10_seed_8 : decode cX10_seed 8 = .ok (.getfield 20, 3) := dec_at dlX10_seed_0_ok 5 rfl
theorem dX10_seed_11 : decode cX10_seed 11 = .ok (.istore_n 2, 1) := dec_at dlX10_seed_0_ok 6 rfl
theorem dX10_seed_12 : decode cX10_seed 12 = .ok (.aload_n 0, 1) := dec_at dlX10_seed_0_ok 7 rfl
theorem dX10_seed_13 : decode cX10_seed 13 = .ok (.iload_n 1, 1) := dec_at dlX10_seed_0_ok 8 rfl
theorem dX10_seed_14 : decode cX10_seed 14 = .ok (.putfield 20, 3) := dec_at dlX10_seed_0_ok 9 rfl
theorem dX10_seed_17 : decode cX10_seed 17 = .ok (.iload_n 2, 1) := dec_at dlX10_seed_0_ok 10 rfl
theorem dX10_seed_18 : decode cX10_seed 18 = .ok (.ireturn, 1) := dec_at dlX10_seed_0_ok 11 rfl
set_option maxRecDepth 20000 in
theorem ggX10_keep_X10_within : GoodIn wsX10_keep wsX10_within := goodIn_s _ [(12, 1)] rfl (by decide +kernel)
set_option maxRecDepth 20000 in
theorem gX10_keep_X10_within : GoodIn wsX10_keep (va_wsS RX10 99 yX10_within wsX10_within) := goodIn_app (goodIn_s _ [(9, 3)] rfl (by decide +kernel)) ggX10_keep_X10_within
set_option maxRecDepth 20000 in
theorem ggX10_keep_X1_copyFrom : GoodIn wsX10_keep wsX1_copyFrom := goodIn_s _ [(17, 12), (52, 8)] rfl (by decide +kernel)
set_option maxRecDepth 20000 in
theorem gX10_keep_X1_copyFrom : GoodIn wsX10_keep (wsV RX10 295 RX1 yX1_copyFrom wsX1_copyFrom) := goodIn_app (goodIn_s _ [(13, 4)] rfl (by decide +kernel)) ggX10_keep_X1_copyFrom
set_option maxRecDepth 20000 in
theorem ggX10_keep_X3_forget : GoodIn wsX10_keep wsX3_forget := goodIn_s _ [(33, 2), (60, 3)] rfl (by decide +kernel)
set_option maxRecDepth 20000 in
theorem gX10_keep_X3_forget : GoodIn wsX10_keep (wsV RX10 119 RX3 yX3_forget wsX3_forget) := goodIn_app (goodIn_s _ [(29, 4)] rfl (by decide +kernel)) ggX10_keep_X3_forget
noncomputable def dlX10_keep_0 : List (Nat × Instr × Nat) := [(0, .iload_n 1, 1), (1, .iconst 0, 1), (2, .iconst 1, 1), (3, .invokestatic 99, 3), (6, .ifCond .ne 6, 3), (9, .ldc 160, 2), (11, .ireturn, 1), (12, .aload_n 0, 1), (13, .getfield 56, 3), (16, .getfield 291, 3), (19, .iload_n 1, 1), (20, .aaload, 1), (21, .aload_n 0, 1), (22, .getfield 42, 3), (25, .invokevirtual 295, 3), (28, .aload_n 0, 1), (29, .getfield 56, 3), (32, .getfield 297, 3), (35, .iload_n 1, 1), (36, .aload_n 0, 1), (37, .getfield 20, 3), (40, .iastore, 1), (41, .aload_n 0, 1), (42, .getfield 56, 3), (45, .getfield 300, 3), (48, .iload_n 1, 1), (49, .iconst 1, 1), (50, .bastore, 1), (51, .aload_n 0, 1), (52, .getfield 49, 3), (55, .invokevirtual 119, 3)]
theorem dlX10_keep_0_ok : dlX10_keep_0.all (fun r => decide (decode cX10_keep r.1 = .ok r.2)) = true := by decide +kernel
theorem dX10_keep_0 : decode cX10_keep 0 = .ok (.iload_n 1, 1) := dec_at dlX10_keep_0_ok 0 rfl
theorem dX10_keep_1 : decode cX10_keep 1 = .ok (.iconst 0, 1) := dec_at dlX10_keep_0_ok 1 rfl
theorem dX10_keep_2 : decode cX10_keep 2 = .ok (.iconst 1, 1) := dec_at dlX10_keep_0_ok 2 rfl
theorem dX10_keep_3 : decode cX10_keep 3 = .ok (.invokestatic 99, 3) := dec_at dlX10_keep_0_ok 3 rfl
theorem dX10_keep_6 : decode cX10_keep 6 = .ok (.ifCond .ne 6, 3) := dec_at dlX10_keep_0_ok 4 rfl
theorem dX10_keep_9 : decode cX10_keep 9 = .ok (.ldc 160, 2) := dec_at dlX10_keep_0_ok 5 rfl
theorem dX10_keep_11 : decode cX10_keep 11 = .ok (.ireturn, 1) := dec_at dlX10_keep_0_ok 6 rfl
theorem dX10_keep_12 : decode cX10_keep 12 = .ok (.aload_n 0, 1) := dec_at dlX10_keep_0_ok 7 rfl
theorem dX10_keep_13 : decode cX10_keep 13 = .ok (.getfield 56, 3) := dec_at dlX10_keep_0_ok 8 rfl
theorem dX10_keep_16 : decode cX10_keep 16 = .ok (.getfield 291, 3) := dec_at dlX10_keep_0_ok 9 rfl
theorem dX10_keep_19 : decode cX10_keep 19 = .ok (.iload_n 1, 1) := dec_at dlX10_keep_0_ok 10 rfl
theorem dX10_keep_20 : decode cX10_keep 20 = .ok (.aaload, 1) := dec_at dlX10_keep_0_ok 11 rfl
theorem dX10_keep_21 : decode cX10_keep 21 = .ok (.aload_n 0, 1) := dec_at dlX10_keep_0_ok 12 rfl
theorem dX10_keep_22 : decode cX10_keep 22 = .ok (.getfield 42, 3) := dec_at dlX10_keep_0_ok 13 rfl
theorem dX10_keep_25 : decode cX10_keep 25 = .ok (.invokevirtual 295, 3) := dec_at dlX10_keep_0_ok 14 rfl
theorem dX10_keep_28 : decode cX10_keep 28 = .ok (.aload_n 0, 1) := dec_at dlX10_keep_0_ok 15 rfl
theorem dX10_keep_29 : decode cX10_keep 29 = .ok (.getfield 56, 3) := dec_at dlX10_keep_0_ok 16 rfl
theorem dX10_keep_32 : decode cX10_keep 32 = .ok (.getfield 297, 3) := dec_at dlX10_keep_0_ok 17 rfl
theorem dX10_keep_35 : decode cX10_keep 35 = .ok (.iload_n 1, 1) := dec_at dlX10_keep_0_ok 18 rfl
theorem dX10_keep_36 : decode cX10_keep 36 = .ok (.aload_n 0, 1) := dec_at dlX10_keep_0_ok 19 rfl
theorem dX10_keep_37 : decode cX10_keep 37 = .ok (.getfield 20, 3) := dec_at dlX10_keep_0_ok 20 rfl
theorem dX10_keep_40 : decode cX10_keep 40 = .ok (.iastore, 1) := dec_at dlX10_keep_0_ok 21 rfl
theorem dX10_keep_41 : decode cX10_keep 41 = .ok (.aload_n 0, 1) := dec_at dlX10_keep_0_ok 22 rfl
theorem dX10_keep_42 : decode cX10_keep 42 = .ok (.getfield 56, 3) := dec_at dlX10_keep_0_ok 23 rfl
theorem dX10_keep_45 : decode cX10_keep 45 = .ok (.getfield 300, 3) := dec_at dlX10_keep_0_ok 24 rfl
theorem dX10_keep_48 : decode cX10_keep 48 = .ok (.iload_n 1, 1) := dec_at dlX10_keep_0_ok 25 rfl
theorem dX10_keep_49 : decode cX10_keep 49 = .ok (.iconst 1, 1) := dec_at dlX10_keep_0_ok 26 rfl
theorem dX10_keep_50 : decode cX10_keep 50 = .ok (.bastore, 1) := dec_at dlX10_keep_0_ok 27 rfl
theorem dX10_keep_51 : decode cX10_keep 51 = .ok (.aload_n 0, 1) := dec_at dlX10_keep_0_ok 28 rfl
theorem dX10_keep_52 : decode cX10_keep 52 = .ok (.getfield 49, 3) := dec_at dlX10_keep_0_ok 29 rfl
theorem dX10_keep_55 : decode cX10_keep 55 = .ok (.invokevirtual 119, 3) := dec_at dlX10_keep_0_ok 30 rfl
noncomputable def dlX10_keep_58 : List (Nat × Instr × Nat) := [(58, .iconst 1, 1), (59, .ireturn, 1)]
theorem dlX10_keep_58_ok : dlX10_keep_58.all (fun r => decide (decode cX10_keep r.1 = .ok r.2)) = true := by decide +kernel
theorem dX10_keep_58 : decode cX10_keep 58 = .ok (.iconst 1, 1) := dec_at dlX10_keep_58_ok 0 rfl
theorem dX10_keep_59 : decode cX10_keep 59 = .ok (.ireturn, 1) := dec_at dlX10_keep_58_ok 1 rfl
set_option maxRecDepth 20000 in
theorem ggX10_goBack_X10_within : GoodIn wsX10_goBack wsX10_within := goodIn_s _ [(13, 1)] rfl (by decide +kernel)
set_option maxRecDepth 20000 in
theorem gX10_goBack_X10_within : GoodIn wsX10_goBack (va_wsS RX10 99 yX10_within wsX10_within) := goodIn_app (goodIn_s _ [(10, 3)] rfl (by decide +kernel)) ggX10_goBack_X10_within
set_option maxRecDepth 20000 in
theorem ggX10_goBack_X1_copyFrom : GoodIn wsX10_goBack wsX1_copyFrom := goodIn_s _ [(18, 12), (53, 8)] rfl (by decide +kernel)
set_option maxRecDepth 20000 in
theorem gX10_goBack_X1_copyFrom : GoodIn wsX10_goBack (wsV RX10 295 RX1 yX1_copyFrom wsX1_copyFrom) := goodIn_app (goodIn_s _ [(14, 4)] rfl (by decide +kernel)) ggX10_goBack_X1_copyFrom
set_option maxRecDepth 20000 in
theorem ggX10_goBack_X3_forget : GoodIn wsX10_goBack wsX3_forget := goodIn_s _ [(34, 2), (61, 3)] rfl (by decide +kernel)
set_option maxRecDepth 20000 in
theorem gX10_goBack_X3_forget : GoodIn wsX10_goBack (wsV RX10 119 RX3 yX3_forget wsX3_forget) := goodIn_app (goodIn_s _ [(30, 4)] rfl (by decide +kernel)) ggX10_goBack_X3_forget
noncomputable def dlX10_goBack_0 : List (Nat × Instr × Nat) := [(0, .iload_n 1, 1), (1, .iconst 0, 1), (2, .iconst 1, 1), (3, .invokestatic 99, 3), (6, .ifCond .ne 6, 3), (9, .ldc 160, 2), (11, .ireturn, 1), (12, .aload_n 0, 1), (13, .getfield 56, 3), (16, .getfield 300, 3), (19, .iload_n 1, 1), (20, .baload, 1), (21, .ifCond .ne 6, 3), (24, .ldc 220, 2), (26, .ireturn, 1), (27, .aload_n 0, 1), (28, .getfield 42, 3), (31, .aload_n 0, 1), (32, .getfield 56, 3), (35, .getfield 291, 3), (38, .iload_n 1, 1), (39, .aaload, 1), (40, .invokevirtual 295, 3), (43, .aload_n 0, 1), (44, .aload_n 0, 1), (45, .getfield 56, 3), (48, .getfield 297, 3), (51, .iload_n 1, 1), (52, .iaload, 1), (53, .putfield 20, 3), (56, .aload_n 0, 1)]
theorem dlX10_goBack_0_ok : dlX10_goBack_0.all (fun r => decide (decode cX10_goBack r.1 = .ok r.2)) = true := by decide +kernel
theorem dX10_goBack_0 : decode cX10_goBack 0 = .ok (.iload_n 1, 1) := dec_at dlX10_goBack_0_ok 0 rfl
theorem dX10_goBack_1 : decode cX10_goBack 1 = .ok (.iconst 0, 1) := dec_at dlX10_goBack_0_ok 1 rfl
theorem dX10_goBack_2 : decode cX10_goBack 2 = .ok (.iconst 1, 1) := dec_at dlX10_goBack_0_ok 2 rfl
theorem dX10_goBack_3 : decode cX10_goBack 3 = .ok (.invokestatic 99, 3) := dec_at dlX10_goBack_0_ok 3 rfl
theorem dX10_goBack_6 : decode cX10_goBack 6 = .ok (.ifCond .ne 6, 3) := dec_at dlX10_goBack_0_ok 4 rfl
theorem dX10_goBack_9 : decode cX10_goBack 9 = .ok (.ldc 160, 2) := dec_at dlX10_goBack_0_ok 5 rfl
theorem dX10_goBack_11 : decode cX10_goBack 11 = .ok (.ireturn, 1) := dec_at dlX10_goBack_0_ok 6 rfl
theorem dX10_goBack_12 : decode cX10_goBack 12 = .ok (.aload_n 0, 1) := dec_at dlX10_goBack_0_ok 7 rfl
theorem dX10_goBack_13 : decode cX10_goBack 13 = .ok (.getfield 56, 3) := dec_at dlX10_goBack_0_ok 8 rfl
theorem dX10_goBack_16 : decode cX10_goBack 16 = .ok (.getfield 300, 3) := dec_at dlX10_goBack_0_ok 9 rfl
theorem dX10_goBack_19 : decode cX10_goBack 19 = .ok (.iload_n 1, 1) := dec_at dlX10_goBack_0_ok 10 rfl
theorem dX10_goBack_20 : decode cX10_goBack 20 = .ok (.baload, 1) := dec_at dlX10_goBack_0_ok 11 rfl
theorem dX10_goBack_21 : decode cX10_goBack 21 = .ok (.ifCond .ne 6, 3) := dec_at dlX10_goBack_0_ok 12 rfl
theorem dX10_goBack_24 : decode cX10_goBack 24 = .ok (.ldc 220, 2) := dec_at dlX10_goBack_0_ok 13 rfl
theorem dX10_goBack_26 : decode cX10_goBack 26 = .ok (.ireturn, 1) := dec_at dlX10_goBack_0_ok 14 rfl
theorem dX10_goBack_27 : decode cX10_goBack 27 = .ok (.aload_n 0, 1) := dec_at dlX10_goBack_0_ok 15 rfl
theorem dX10_goBack_28 : decode cX10_goBack 28 = .ok (.getfield 42, 3) := dec_at dlX10_goBack_0_ok 16 rfl
theorem dX10_goBack_31 : decode cX10_goBack 31 = .ok (.aload_n 0, 1) := dec_at dlX10_goBack_0_ok 17 rfl
theorem dX10_goBack_32 : decode cX10_goBack 32 = .ok (.getfield 56, 3) := dec_at dlX10_goBack_0_ok 18 rfl
theorem dX10_goBack_35 : decode cX10_goBack 35 = .ok (.getfield 291, 3) := dec_at dlX10_goBack_0_ok 19 rfl
theorem dX10_goBack_38 : decode cX10_goBack 38 = .ok (.iload_n 1, 1) := dec_at dlX10_goBack_0_ok 20 rfl
theorem dX10_goBack_39 : decode cX10_goBack 39 = .ok (.aaload, 1) := dec_at dlX10_goBack_0_ok 21 rfl
theorem dX10_goBack_40 : decode cX10_goBack 40 = .ok (.invokevirtual 295, 3) := dec_at dlX10_goBack_0_ok 22 rfl
theorem dX10_goBack_43 : decode cX10_goBack 43 = .ok (.aload_n 0, 1) := dec_at dlX10_goBack_0_ok 23 rfl
theorem dX10_goBack_44 : decode cX10_goBack 44 = .ok (.aload_n 0, 1) := dec_at dlX10_goBack_0_ok 24 rfl
theorem dX10_goBack_45 : decode cX10_goBack 45 = .ok (.getfield 56, 3) := dec_at dlX10_goBack_0_ok 25 rfl
theorem dX10_goBack_48 : decode cX10_goBack 48 = .ok (.getfield 297, 3) := dec_at dlX10_goBack_0_ok 26 rfl
theorem dX10_goBack_51 : decode cX10_goBack 51 = .ok (.iload_n 1, 1) := dec_at dlX10_goBack_0_ok 27 rfl
theorem dX10_goBack_52 : decode cX10_goBack 52 = .ok (.iaload, 1) := dec_at dlX10_goBack_0_ok 28 rfl
theorem dX10_goBack_53 : decode cX10_goBack 53 = .ok (.putfield 20, 3) := dec_at dlX10_goBack_0_ok 29 rfl
theorem dX10_goBack_56 : decode cX10_goBack 56 = .ok (.aload_n 0, 1) := dec_at dlX10_goBack_0_ok 30 rfl
noncomputable def dlX10_goBack_57 : List (Nat × Instr × Nat) := [(57, .getfield 49, 3), (60, .invokevirtual 119, 3), (63, .iconst 1, 1), (64, .ireturn, 1)]
theorem dlX10_goBack_57_ok : dlX10_goBack_57.all (fun r => decide (decode cX10_goBack r.1 = .ok r.2)) = true := by decide +kernel
theorem dX10_goBack_57 : decode cX10_goBack 57 = .ok (.getfield 49, 3) := dec_at dlX10_goBack_57_ok 0 rfl
theorem dX10_goBack_60 : decode cX10_goBack 60 = .ok (.invokevirtual 119, 3) := dec_at dlX10_goBack_57_ok 1 rfl
theorem dX10_goBack_63 : decode cX10_goBack 63 = .ok (.iconst 1, 1) := dec_at dlX10_goBack_57_ok 2 rfl
theorem dX10_goBack_64 : decode cX10_goBack 64 = .ok (.ireturn, 1) := dec_at dlX10_goBack_57_ok 3 rfl
noncomputable def dlX10_within_0 : List (Nat × Instr × Nat) := [(0, .iload_n 0, 1), (1, .iload_n 1, 1), (2, .if_icmp .lt 12, 3), (5, .iload_n 0, 1), (6, .iload_n 2, 1), (7, .if_icmp .gt 7, 3), (10, .iconst 1, 1), (11, .goto 4, 3), (14, .iconst 0, 1), (15, .ireturn, 1)]
theorem dlX10_within_0_ok : dlX10_within_0.all (fun r => decide (decode cX10_within r.1 = .ok r.2)) = true := by decide +kernel
theorem dX10_within_0 : decode cX10_within 0 = .ok (.iload_n 0, 1) := dec_at dlX10_within_0_ok 0 rfl
theorem dX10_within_1 : decode cX10_within 1 = .ok (.iload_n 1, 1) := dec_at dlX10_within_0_ok 1 rfl
theorem dX10_within_2 : decode cX10_within 2 = .ok (.if_icmp .lt 12, 3) := dec_at dlX10_within_0_ok 2 rfl
theorem dX10_within_5 : decode cX10_within 5 = .ok (.iload_n 0, 1) := dec_at dlX10_within_0_ok 3 rfl
theorem dX10_within_6 : decode cX10_within 6 = .ok (.iload_n 2, 1) := dec_at dlX10_within_0_ok 4 rfl
theorem dX10_within_7 : decode cX10_within 7 = .ok (.if_icmp .gt 7, 3) := dec_at dlX10_within_0_ok 5 rfl
theorem dX10_within_10 : decode cX10_within 10 = .ok (.iconst 1, 1) := dec_at dlX10_within_0_ok 6 rfl
theorem dX10_within_11 : decode cX10_within 11 = .ok (.goto 4, 3) := dec_at dlX10_within_0_ok 7 rfl
theorem dX10_within_14 : decode cX10_within 14 = .ok (.iconst 0, 1) := dec_at dlX10_within_0_ok 8 rfl
theorem dX10_within_15 : decode cX10_within 15 = .ok (.ireturn, 1) := dec_at dlX10_within_0_ok 9 rfl
noncomputable def dlX10_isQuill_0 : List (Nat × Instr × Nat) := [(0, .iload_n 1, 1), (1, .ifCond .lt 18, 3), (4, .iload_n 1, 1), (5, .aload_n 0, 1), (6, .getfield 26, 3), (9, .getfield 127, 3), (12, .if_icmp .ge 7, 3), (15, .iconst 1, 1), (16, .goto 4, 3), (19, .iconst 0, 1), (20, .ireturn, 1)]
theorem dlX10_isQuill_0_ok : dlX10_isQuill_0.all (fun r => decide (decode cX10_isQuill r.1 = .ok r.2)) = true := by decide +kernel
theorem dX10_isQuill_0 : decode cX10_isQuill 0 = .ok (.iload_n 1, 1) := dec_at dlX10_isQuill_0_ok 0 rfl
theorem dX10_isQuill_1 : decode cX10_isQuill 1 = .ok (.ifCond .lt 18, 3) := dec_at dlX10_isQuill_0_ok 1 rfl
theorem dX10_isQuill_4 : decode cX10_isQuill 4 = .ok (.iload_n 1, 1) := dec_at dlX10_isQuill_0_ok 2 rfl
theorem dX10_isQuill_5 : decode cX10_isQuill 5 = .ok (.aload_n 0, 1) := dec_at dlX10_isQuill_0_ok 3 rfl
theorem dX10_isQuill_6 : decode cX10_isQuill 6 = .ok (.getfield 26, 3) := dec_at dlX10_isQuill_0_ok 4 rfl
theorem dX10_isQuill_9 : decode cX10_isQuill 9 = .ok (.getfield 127, 3) := dec_at dlX10_isQuill_0_ok 5 rfl
theorem dX10_isQuill_12 : decode cX10_isQuill 12 = .ok (.if_icmp .ge 7, 3) := dec_at dlX10_isQuill_0_ok 6 rfl
theorem dX10_isQuill_15 : decode cX10_isQuill 15 = .ok (.iconst 1, 1) := dec_at dlX10_isQuill_0_ok 7 rfl
theorem dX10_isQuill_16 : decode cX10_isQuill 16 = .ok (.goto 4, 3) := dec_at dlX10_isQuill_0_ok 8 rfl
theorem dX10_isQuill_19 : decode cX10_isQuill 19 = .ok (.iconst 0, 1) := dec_at dlX10_isQuill_0_ok 9 rfl
theorem dX10_isQuill_20 : decode cX10_isQuill 20 = .ok (.ireturn, 1) := dec_at dlX10_isQuill_0_ok 10 rfl
noncomputable def dlX10_isHand_0 : List (Nat × Instr × Nat) := [(0, .iload_n 1, 1), (1, .ifCond .lt 18, 3), (4, .iload_n 1, 1), (5, .aload_n 0, 1), (6, .getfield 26, 3), (9, .getfield 136, 3), (12, .if_icmp .ge 7, 3), (15, .iconst 1, 1), (16, .goto 4, 3), (19, .iconst 0, 1), (20, .ireturn, 1)]
theorem dlX10_isHand_0_ok : dlX10_isHand_0.all (fun r => decide (decode cX10_isHand r.1 = .ok r.2)) = true := by decide +kernel
theorem dX10_isHand_0 : decode cX10_isHand 0 = .ok (.iload_n 1, 1) := dec_at dlX10_isHand_0_ok 0 rfl
theorem dX10_isHand_1 : decode cX10_isHand 1 = .ok (.ifCond .lt 18, 3) := dec_at dlX10_isHand_0_ok 1 rfl
theorem dX10_isHand_4 : decode cX10_isHand 4 = .ok (.iload_n 1, 1) := dec_at dlX10_isHand_0_ok 2 rfl
theorem dX10_isHand_5 : decode cX10_isHand 5 = .ok (.aload_n 0, 1) := dec_at dlX10_isHand_0_ok 3 rfl
theorem dX10_isHand_6 : decode cX10_isHand 6 = .ok (.getfield 26, 3) := dec_at dlX10_isHand_0_ok 4 rfl
theorem dX10_isHand_9 : decode cX10_isHand 9 = .ok (.getfield 136, 3) := dec_at dlX10_isHand_0_ok 5 rfl
theorem dX10_isHand_12 : decode cX10_isHand 12 = .ok (.if_icmp .ge 7, 3) := dec_at dlX10_isHand_0_ok 6 rfl
theorem dX10_isHand_15 : decode cX10_isHand 15 = .ok (.iconst 1, 1) := dec_at dlX10_isHand_0_ok 7 rfl
theorem dX10_isHand_16 : decode cX10_isHand 16 = .ok (.goto 4, 3) := dec_at dlX10_isHand_0_ok 8 rfl
theorem dX10_isHand_19 : decode cX10_isHand 19 = .ok (.iconst 0, 1) := dec_at dlX10_isHand_0_ok 9 rfl
theorem dX10_isHand_20 : decode cX10_isHand 20 = .ok (.ireturn, 1) := dec_at dlX10_isHand_0_ok 10 rfl
noncomputable def dlX10_isOverTime_0 : List (Nat × Instr × Nat) := [(0, .aload_n 0, 1), (1, .getfield 42, 3), (4, .getfield 139, 3), (7, .ldc_w 304, 3), (10, .if_icmp .le 7, 3), (13, .iconst 1, 1), (14, .goto 4, 3), (17, .iconst 0, 1), (18, .ireturn, 1)]
theorem dlX10_isOverTime_0_ok : dlX10_isOverTime_0.all (fun r => decide (decode cX10_isOverTime r.1 = .ok r.2)) = true := by decide +kernel
theorem dX10_isOverTime_0 : decode cX10_isOverTime 0 = .ok (.aload_n 0, 1) := dec_at dlX10_isOverTime_0_ok 0 rfl
theorem dX10_isOverTime_1 : decode cX10_isOverTime 1 = .ok (.getfield 42, 3) := dec_at dlX10_isOverTime_0_ok 1 rfl
theorem dX10_isOverTime_4 : decode cX10_isOverTime 4 = .ok (.getfield 139, 3) := dec_at dlX10_isOverTime_0_ok 2 rfl
theorem dX10_isOverTime_7 : decode cX10_isOverTime 7 = .ok (.ldc_w 304, 3) := dec_at dlX10_isOverTime_0_ok 3 rfl
theorem dX10_isOverTime_10 : decode cX10_isOverTime 10 = .ok (.if_icmp .le 7, 3) := dec_at dlX10_isOverTime_0_ok 4 rfl
theorem dX10_isOverTime_13 : decode cX10_isOverTime 13 = .ok (.iconst 1, 1) := dec_at dlX10_isOverTime_0_ok 5 rfl
theorem dX10_isOverTime_14 : decode cX10_isOverTime 14 = .ok (.goto 4, 3) := dec_at dlX10_isOverTime_0_ok 6 rfl
theorem dX10_isOverTime_17 : decode cX10_isOverTime 17 = .ok (.iconst 0, 1) := dec_at dlX10_isOverTime_0_ok 7 rfl
theorem dX10_isOverTime_18 : decode cX10_isOverTime 18 = .ok (.ireturn, 1) := dec_at dlX10_isOverTime_0_ok 8 rfl
noncomputable def dlX10_driedSoftness_0 : List (Nat × Instr × Nat) := [(0, .iload_n 0, 1), (1, .bipush 8, 2), (3, .iload_n 1, 1), (4, .imul, 1), (5, .isub, 1), (6, .iload_n 0, 1), (7, .iconst 3, 1), (8, .idiv, 1), (9, .invokestatic 305, 3), (12, .ireturn, 1)]
theorem dlX10_driedSoftness_0_ok : dlX10_driedSoftness_0.all (fun r => decide (decode cX10_driedSoftness r.1 = .ok r.2)) = true := by decide +kernel
theorem dX10_driedSoftness_0 : decode cX10_driedSoftness 0 = .ok (.iload_n 0, 1) := dec_at dlX10_driedSoftness_0_ok 0 rfl
theorem dX10_driedSoftness_1 : decode cX10_driedSoftness 1 = .ok (.bipush 8, 2) := dec_at dlX10_driedSoftness_0_ok 1 rfl
theorem dX10_driedSoftness_3 : decode cX10_driedSoftness 3 = .ok (.iload_n 1, 1) := dec_at dlX10_driedSoftness_0_ok 2 rfl
theorem dX10_driedSoftness_4 : decode cX10_driedSoftness 4 = .ok (.imul, 1) := dec_at dlX10_driedSoftness_0_ok 3 rfl
theorem dX10_driedSoftness_5 : decode cX10_driedSoftness 5 = .ok (.isub, 1) := dec_at dlX10_driedSoftness_0_ok 4 rfl
theorem dX10_driedSoftness_6 : decode cX10_driedSoftness 6 = .ok (.iload_n 0, 1) := dec_at dlX10_driedSoftness_0_ok 5 rfl
theorem dX10_driedSoftness_7 : decode cX10_driedSoftness 7 = .ok (.iconst 3, 1) := dec_at dlX10_driedSoftness_0_ok 6 rfl
theorem dX10_driedSoftness_8 : decode cX10_driedSoftness 8 = .ok (.idiv, 1) := dec_at dlX10_driedSoftness_0_ok 7 rfl
theorem dX10_driedSoftness_9 : decode cX10_driedSoftness 9 = .ok (.invokestatic 305, 3) := dec_at dlX10_driedSoftness_0_ok 8 rfl
theorem dX10_driedSoftness_12 : decode cX10_driedSoftness 12 = .ok (.ireturn, 1) := dec_at dlX10_driedSoftness_0_ok 9 rfl
noncomputable def dlX10_softerBy_0 : List (Nat × Instr × Nat) := [(0, .bipush 99, 2), (2, .iload_n 0, 1), (3, .iload_n 1, 1), (4, .iadd, 1), (5, .invokestatic 265, 3), (8, .ireturn, 1)]
theorem dlX10_softerBy_0_ok : dlX10_softerBy_0.all (fun r => decide (decode cX10_softerBy r.1 = .ok r.2)) = true := by decide +kernel
theorem dX10_softerBy_0 : decode cX10_softerBy 0 = .ok (.bipush 99, 2) := dec_at dlX10_softerBy_0_ok 0 rfl
theorem dX10_softerBy_2 : decode cX10_softerBy 2 = .ok (.iload_n 0, 1) := dec_at dlX10_softerBy_0_ok 1 rfl
theorem dX10_softerBy_3 : decode cX10_softerBy 3 = .ok (.iload_n 1, 1) := dec_at dlX10_softerBy_0_ok 2 rfl
theorem dX10_softerBy_4 : decode cX10_softerBy 4 = .ok (.iadd, 1) := dec_at dlX10_softerBy_0_ok 3 rfl
theorem dX10_softerBy_5 : decode cX10_softerBy 5 = .ok (.invokestatic 265, 3) := dec_at dlX10_softerBy_0_ok 4 rfl
theorem dX10_softerBy_8 : decode cX10_softerBy 8 = .ok (.ireturn, 1) := dec_at dlX10_softerBy_0_ok 5 rfl
noncomputable def dlX10_draw_0 : List (Nat × Instr × Nat) := [(0, .iload_n 1, 1), (1, .ifCond .gt 5, 3), (4, .iconst 0, 1), (5, .ireturn, 1), (6, .aload_n 0, 1), (7, .aload_n 0, 1), (8, .getfield 20, 3), (11, .i2l, 1), (12, .ldc2_w 308, 3), (15, .lmul, 1), (16, .ldc2_w 310, 3), (19, .ladd, 1), (20, .ldc2_w 312, 3), (23, .land, 1), (24, .l2i, 1), (25, .putfield 20, 3), (28, .aload_n 0, 1), (29, .getfield 20, 3), (32, .ldc_w 314, 3), (35, .idiv, 1), (36, .iload_n 1, 1), (37, .irem, 1), (38, .ireturn, 1)]
theorem dlX10_draw_0_ok : dlX10_draw_0.all (fun r => decide (decode cX10_draw r.1 = .ok r.2)) = true := by decide +kernel
theorem dX10_draw_0 : decode cX10_draw 0 = .ok (.iload_n 1, 1) := dec_at dlX10_draw_0_ok 0 rfl
theorem dX10_draw_1 : decode cX10_draw 1 = .ok (.ifCond .gt 5, 3) := dec_at dlX10_draw_0_ok 1 rfl
theorem dX10_draw_4 : decode cX10_draw 4 = .ok (.iconst 0, 1) := dec_at dlX10_draw_0_ok 2 rfl
theorem dX10_draw_5 : decode cX10_draw 5 = .ok (.ireturn, 1) := dec_at dlX10_draw_0_ok 3 rfl
theorem dX10_draw_6 : decode cX10_draw 6 = .ok (.aload_n 0, 1) := dec_at dlX10_draw_0_ok 4 rfl
theorem dX10_draw_7 : decode cX10_draw 7 = .ok (.aload_n 0, 1) := dec_at dlX10_draw_0_ok 5 rfl
theorem dX10_draw_8 : decode cX10_draw 8 = .ok (.getfield 20, 3) := dec_at dlX10_draw_0_ok 6 rfl
theorem dX10_draw_11 : decode cX10_draw 11 = .ok (.i2l, 1) := dec_at dlX10_draw_0_ok 7 rfl
theorem dX10_draw_12 : decode cX10_draw 12 = .ok (.ldc2_w 308, 3) := dec_at dlX10_draw_0_ok 8 rfl
theorem dX10_draw_15 : decode cX10_draw 15 = .ok (.lmul, 1) := dec_at dlX10_draw_0_ok 9 rfl
theorem dX10_draw_16 : decode cX10_draw 16 = .ok (.ldc2_w 310, 3) := dec_at dlX10_draw_0_ok 10 rfl
theorem dX10_draw_19 : decode cX10_draw 19 = .ok (.ladd, 1) := dec_at dlX10_draw_0_ok 11 rfl
theorem dX10_draw_20 : decode cX10_draw 20 = .ok (.ldc2_w 312, 3) := dec_at dlX10_draw_0_ok 12 rfl
theorem dX10_draw_23 : decode cX10_draw 23 = .ok (.land, 1) := dec_at dlX10_draw_0_ok 13 rfl
theorem dX10_draw_24 : decode cX10_draw 24 = .ok (.l2i, 1) := dec_at dlX10_draw_0_ok 14 rfl
theorem dX10_draw_25 : decode cX10_draw 25 = .ok (.putfield 20, 3) := dec_at dlX10_draw_0_ok 15 rfl
theorem dX10_draw_28 : decode cX10_draw 28 = .ok (.aload_n 0, 1) := dec_at dlX10_draw_0_ok 16 rfl
theorem dX10_draw_29 : decode cX10_draw 29 = .ok (.getfield 20, 3) := dec_at dlX10_draw_0_ok 17 rfl
theorem dX10_draw_32 : decode cX10_draw 32 = .ok (.ldc_w 314, 3) := dec_at dlX10_draw_0_ok 18 rfl
theorem dX10_draw_35 : decode cX10_draw 35 = .ok (.idiv, 1) := dec_at dlX10_draw_0_ok 19 rfl
theorem dX10_draw_36 : decode cX10_draw 36 = .ok (.iload_n 1, 1) := dec_at dlX10_draw_0_ok 20 rfl
theorem dX10_draw_37 : decode cX10_draw 37 = .ok (.irem, 1) := dec_at dlX10_draw_0_ok 21 rfl
theorem dX10_draw_38 : decode cX10_draw 38 = .ok (.ireturn, 1) := dec_at dlX10_draw_0_ok 22 rfl
set_option maxRecDepth 20000 in
theorem ggX10_driftOnce_X10_draw : GoodIn wsX10_driftOnce wsX10_draw := goodIn_s _ [(10, 6), (83, 14)] rfl (by decide +kernel)
set_option maxRecDepth 20000 in
theorem gX10_driftOnce_X10_draw : GoodIn wsX10_driftOnce (wsV RX10 315 RX10 yX10_draw wsX10_draw) := goodIn_app (goodIn_s _ [(6, 4)] rfl (by decide +kernel)) ggX10_driftOnce_X10_draw
set_option maxRecDepth 20000 in
theorem ggX10_driftOnce_X1_canMend : GoodIn wsX10_driftOnce wsX1_canMend := goodIn_s _ [(20, 5), (19, 1), (25, 4), (110, 8), (97, 13)] rfl (by decide +kernel)
set_option maxRecDepth 20000 in
theorem gX10_driftOnce_X1_canMend : GoodIn wsX10_driftOnce (wsV RX10 217 RX1 yX1_canMend wsX1_canMend) := goodIn_app (goodIn_s _ [(16, 4)] rfl (by decide +kernel)) ggX10_driftOnce_X1_canMend
set_option maxRecDepth 20000 in
theorem ggX10_driftOnce_X1_mendQuill : GoodIn wsX10_driftOnce wsX1_mendQuill := goodIn_s _ [(32, 1), (21, 1), (33, 6), (26, 1), (39, 1), (27, 1), (40, 1), (22, 3), (19, 1), (25, 1), (28, 1), (110, 8), (97, 13)] rfl (by decide +kernel)
set_option maxRecDepth 20000 in
theorem gX10_driftOnce_X1_mendQuill : GoodIn wsX10_driftOnce (wsV RX10 221 RX1 yX1_mendQuill wsX1_mendQuill) := goodIn_app (goodIn_s _ [(29, 3), (19, 1)] rfl (by decide +kernel)) ggX10_driftOnce_X1_mendQuill
set_option maxRecDepth 20000 in
theorem ggX10_driftOnce_X10_driedSoftness : GoodIn wsX10_driftOnce wsX10_driedSoftness := goodIn_s _ [(43, 3), (36, 1), (46, 1)] rfl (by decide +kernel)
set_option maxRecDepth 20000 in
theorem gX10_driftOnce_X10_driedSoftness : GoodIn wsX10_driftOnce (va_wsS RX10 213 yX10_driedSoftness wsX10_driedSoftness) := goodIn_app (goodIn_s _ [(41, 2), (9, 1)] rfl (by decide +kernel)) ggX10_driftOnce_X10_driedSoftness
set_option maxRecDepth 20000 in
theorem ggX10_driftOnce_X1_writePage : GoodIn wsX10_driftOnce wsX1_writePage := goodIn_s _ [(50, 1), (38, 1), (27, 1), (33, 1), (51, 2), (39, 1), (53, 7), (45, 1), (36, 1), (46, 1), (60, 13), (9, 1), (73, 2), (35, 1), (37, 1), (75, 8), (110, 8), (97, 13)] rfl (by decide +kernel)
set_option maxRecDepth 20000 in
theorem gX10_driftOnce_X1_writePage : GoodIn wsX10_driftOnce (wsV RX10 209 RX1 yX1_writePage wsX1_writePage) := goodIn_app (goodIn_s _ [(47, 3), (19, 1)] rfl (by decide +kernel)) ggX10_driftOnce_X1_writePage
noncomputable def dlX10_driftOnce_0 : List (Nat × Instr × Nat) := [(0, .aload_n 0, 1), (1, .aload_n 0, 1), (2, .getfield 26, 3), (5, .getfield 127, 3), (8, .invokevirtual 315, 3), (11, .istore_n 1, 1), (12, .aload_n 0, 1), (13, .aload_n 0, 1), (14, .getfield 26, 3), (17, .getfield 136, 3), (20, .invokevirtual 315, 3), (23, .istore_n 2, 1), (24, .aload_n 0, 1), (25, .iconst 3, 1), (26, .invokevirtual 315, 3), (29, .lookupswitch 74 #[(0, 27), (1, 49)], 27), (56, .aload_n 0, 1), (57, .getfield 42, 3), (60, .iload_n 1, 1), (61, .invokevirtual 217, 3), (64, .ifCond .eq 49, 3), (67, .aload_n 0, 1), (68, .getfield 42, 3), (71, .iload_n 1, 1), (72, .invokevirtual 221, 3), (75, .goto 38, 3), (78, .aload_n 0, 1), (79, .getfield 42, 3), (82, .getfield 180, 3), (85, .iload_n 1, 1), (86, .aload_n 0, 1)]
theorem dlX10_driftOnce_0_ok : dlX10_driftOnce_0.all (fun r => decide (decode cX10_driftOnce r.1 = .ok r.2)) = true := by decide +kernel
theorem dX10_driftOnce_0 : decode cX10_driftOnce 0 = .ok (.aload_n 0, 1) := dec_at dlX10_driftOnce_0_ok 0 rfl
theorem dX10_driftOnce_1 : decode cX10_driftOnce 1 = .ok (.aload_n 0, 1) := dec_at dlX10_driftOnce_0_ok 1 rfl
theorem dX10_driftOnce_2 : decode cX10_driftOnce 2 = .ok (.getfield 26, 3) := dec_at dlX10_driftOnce_0_ok 2 rfl
theorem dX10_driftOnce_5 : decode cX10_driftOnce 5 = .ok (.getfield 127, 3) := dec_at dlX10_driftOnce_0_ok 3 rfl
theorem dX10_driftOnce_8 : decode cX10_driftOnce 8 = .ok (.invokevirtual 315, 3) := dec_at dlX10_driftOnce_0_ok 4 rfl
theorem dX10_driftOnce_11 : decode cX10_driftOnce 11 = .ok (.istore_n 1, 1) := dec_at dlX10_driftOnce_0_ok 5 rfl
theorem dX10_driftOnce_12 : decode cX10_driftOnce 12 = .ok (.aload_n 0, 1) := dec_at dlX10_driftOnce_0_ok 6 rfl
theorem dX10_driftOnce_13 : decode cX10_driftOnce 13 = .ok (.aload_n 0, 1) := dec_at dlX10_driftOnce_0_ok 7 rfl
theorem dX10_driftOnce_14 : decode cX10_driftOnce 14 = .ok (.getfield 26, 3) := dec_at dlX10_driftOnce_0_ok 8 rfl
theorem dX10_driftOnce_17 : decode cX10_driftOnce 17 = .ok (.getfield 136, 3) := dec_at dlX10_driftOnce_0_ok 9 rfl
theorem dX10_driftOnce_20 : decode cX10_driftOnce 20 = .ok (.invokevirtual 315, 3) := dec_at dlX10_driftOnce_0_ok 10 rfl
theorem dX10_driftOnce_23 : decode cX10_driftOnce 23 = .ok (.istore_n 2, 1) := dec_at dlX10_driftOnce_0_ok 11 rfl
theorem dX10_driftOnce_24 : decode cX10_driftOnce 24 = .ok (.aload_n 0, 1) := dec_at dlX10_driftOnce_0_ok 12 rfl
theorem dX10_driftOnce_25 : decode cX10_driftOnce 25 = .ok (.iconst 3, 1) := dec_at dlX10_driftOnce_0_ok 13 rfl
theorem dX10_driftOnce_26 : decode cX10_driftOnce 26 = .ok (.invokevirtual 315, 3) := dec_at dlX10_driftOnce_0_ok 14 rfl
theorem dX10_driftOnce_29 : decode cX10_driftOnce 29 = .ok (.lookupswitch 74 #[(0, 27), (1, 49)], 27) := dec_at dlX10_driftOnce_0_ok 15 rfl
theorem dX10_driftOnce_56 : decode cX10_driftOnce 56 = .ok (.aload_n 0, 1) := dec_at dlX10_driftOnce_0_ok 16 rfl
theorem dX10_driftOnce_57 : decode cX10_driftOnce 57 = .ok (.getfield 42, 3) := dec_at dlX10_driftOnce_0_ok 17 rfl
theorem dX10_driftOnce_60 : decode cX10_driftOnce 60 = .ok (.iload_n 1, 1) := dec_at dlX10_driftOnce_0_ok 18 rfl
theorem dX10_driftOnce_61 : decode cX10_driftOnce 61 = .ok (.invokevirtual 217, 3) := dec_at dlX10_driftOnce_0_ok 19 rfl
theorem dX10_driftOnce_64 : decode cX10_driftOnce 64 = .ok (.ifCond .eq 49, 3) := dec_at dlX10_driftOnce_0_ok 20 rfl
theorem dX10_driftOnce_67 : decode cX10_driftOnce 67 = .ok (.aload_n 0, 1) := dec_at dlX10_driftOnce_0_ok 21 rfl
theorem dX10_driftOnce_68 : decode cX10_driftOnce 68 = .ok (.getfield 42, 3) := dec_at dlX10_driftOnce_0_ok 22 rfl
theorem dX10_driftOnce_71 : decode cX10_driftOnce 71 = .ok (.iload_n 1, 1) := dec_at dlX10_driftOnce_0_ok 23 rfl
theorem dX10_driftOnce_72 : decode cX10_driftOnce 72 = .ok (.invokevirtual 221, 3) := dec_at dlX10_driftOnce_0_ok 24 rfl
theorem dX10_driftOnce_75 : decode cX10_driftOnce 75 = .ok (.goto 38, 3) := dec_at dlX10_driftOnce_0_ok 25 rfl
theorem dX10_driftOnce_78 : decode cX10_driftOnce 78 = .ok (.aload_n 0, 1) := dec_at dlX10_driftOnce_0_ok 26 rfl
theorem dX10_driftOnce_79 : decode cX10_driftOnce 79 = .ok (.getfield 42, 3) := dec_at dlX10_driftOnce_0_ok 27 rfl
theorem dX10_driftOnce_82 : decode cX10_driftOnce 82 = .ok (.getfield 180, 3) := dec_at dlX10_driftOnce_0_ok 28 rfl
theorem dX10_driftOnce_85 : decode cX10_driftOnce 85 = .ok (.iload_n 1, 1) := dec_at dlX10_driftOnce_0_ok 29 rfl
theorem dX10_driftOnce_86 : decode cX10_driftOnce 86 = .ok (.aload_n 0, 1) := dec_at dlX10_driftOnce_0_ok 30 rfl
noncomputable def dlX10_driftOnce_87 : List (Nat × Instr × Nat) := [(87, .getfield 42, 3), (90, .getfield 180, 3), (93, .iload_n 1, 1), (94, .iaload, 1), (95, .iconst 1, 1), (96, .invokestatic 213, 3), (99, .iastore, 1), (100, .goto 13, 3), (103, .aload_n 0, 1), (104, .getfield 42, 3), (107, .iload_n 1, 1), (108, .iload_n 2, 1), (109, .invokevirtual 209, 3), (112, .pop, 1), (113, .return_, 1)]
theorem dlX10_driftOnce_87_ok : dlX10_driftOnce_87.all (fun r => decide (decode cX10_driftOnce r.1 = .ok r.2)) = true := by decide +kernel
theorem dX10_driftOnce_87 : decode cX10_driftOnce 87 = .ok (.getfield 42, 3) := dec_at dlX10_driftOnce_87_ok 0 rfl
theorem dX10_driftOnce_90 : decode cX10_driftOnce 90 = .ok (.getfield 180, 3) := dec_at dlX10_driftOnce_87_ok 1 rfl
theorem dX10_driftOnce_93 : decode cX10_driftOnce 93 = .ok (.iload_n 1, 1) := dec_at dlX10_driftOnce_87_ok 2 rfl
theorem dX10_driftOnce_94 : decode cX10_driftOnce 94 = .ok (.iaload, 1) := dec_at dlX10_driftOnce_87_ok 3 rfl
theorem dX10_driftOnce_95 : decode cX10_driftOnce 95 = .ok (.iconst 1, 1) := dec_at dlX10_driftOnce_87_ok 4 rfl
theorem dX10_driftOnce_96 : decode cX10_driftOnce 96 = .ok (.invokestatic 213, 3) := dec_at dlX10_driftOnce_87_ok 5 rfl
theorem dX10_driftOnce_99 : decode cX10_driftOnce 99 = .ok (.iastore, 1) := dec_at dlX10_driftOnce_87_ok 6 rfl
theorem dX10_driftOnce_100 : decode cX10_driftOnce 100 = .ok (.goto 13, 3) := dec_at dlX10_driftOnce_87_ok 7 rfl
theorem dX10_driftOnce_103 : decode cX10_driftOnce 103 = .ok (.aload_n 0, 1) := dec_at dlX10_driftOnce_87_ok 8 rfl
theorem dX10_driftOnce_104 : decode cX10_driftOnce 104 = .ok (.getfield 42, 3) := dec_at dlX10_driftOnce_87_ok 9 rfl
theorem dX10_driftOnce_107 : decode cX10_driftOnce 107 = .ok (.iload_n 1, 1) := dec_at dlX10_driftOnce_87_ok 10 rfl
theorem dX10_driftOnce_108 : decode cX10_driftOnce 108 = .ok (.iload_n 2, 1) := dec_at dlX10_driftOnce_87_ok 11 rfl
theorem dX10_driftOnce_109 : decode cX10_driftOnce 109 = .ok (.invokevirtual 209, 3) := dec_at dlX10_driftOnce_87_ok 12 rfl
theorem dX10_driftOnce_112 : decode cX10_driftOnce 112 = .ok (.pop, 1) := dec_at dlX10_driftOnce_87_ok 13 rfl
theorem dX10_driftOnce_113 : decode cX10_driftOnce 113 = .ok (.return_, 1) := dec_at dlX10_driftOnce_87_ok 14 rfl
noncomputable def dlX11_init_0 : List (Nat × Instr × Nat) := [(0, .aload_n 0, 1), (1, .invokespecial 1, 3), (4, .aload_n 0, 1), (5, .bipush 8, 2), (7, .newarray .int, 2), (9, .putfield 7, 3), (12, .aload_n 0, 1), (13, .bipush 8, 2), (15, .newarray .int, 2), (17, .putfield 13, 3), (20, .aload_n 0, 1), (21, .bipush 8, 2), (23, .newarray .int, 2), (25, .putfield 16, 3), (28, .aload_n 0, 1), (29, .iconst 4, 1), (30, .newarray .int, 2), (32, .putfield 19, 3), (35, .aload_n 0, 1), (36, .iconst 4, 1), (37, .newarray .int, 2), (39, .putfield 22, 3), (42, .aload_n 0, 1), (43, .iconst 4, 1), (44, .newarray .int, 2), (46, .putfield 25, 3), (49, .aload_n 0, 1), (50, .bipush 34, 2), (52, .newarray .int, 2), (54, .putfield 28, 3), (57, .aload_n 0, 1)]
theorem dlX11_init_0_ok : dlX11_init_0.all (fun r => decide (decode cX11_init r.1 = .ok r.2)) = true := by decide +kernel
theorem dX11_init_0 : decode cX11_init 0 = .ok (.aload_n 0, 1) := dec_at dlX11_init_0_ok 0 rfl
theorem dX11_init_1 : decode cX11_init 1 = .ok (.invokespecial 1, 3) := dec_at dlX11_init_0_ok 1 rfl
theorem dX11_init_4 : decode cX11_init 4 = .ok (.aload_n 0, 1) := dec_at dlX11_init_0_ok 2 rfl
theorem dX11_init_5 : decode cX11_init 5 = .ok (.bipush 8, 2) := dec_at dlX11_init_0_ok 3 rfl
theorem dX11_init_7 : decode cX11_init 7 = .ok (.newarray .int, 2) := dec_at dlX11_init_0_ok 4 rfl
theorem dX11_init_9 : decode cX11_init 9 = .ok (.putfield 7, 3) := dec_at dlX11_init_0_ok 5 rfl
theorem dX11_init_12 : decode cX11_init 12 = .ok (.aload_n 0, 1) := dec_at dlX11_init_0_ok 6 rfl
theorem dX11_init_13 : decode cX11_init 13 = .ok (.bipush 8, 2) := dec_at dlX11_init_0_ok 7 rfl
theorem dX11_init_15 : decode cX11_init 15 = .ok (.newarray .int, 2) := dec_at dlX11_init_0_ok 8 rfl
theorem dX11_init_17 : decode cX11_init 17 = .ok (.putfield 13, 3) := dec_at dlX11_init_0_ok 9 rfl
theorem dX11_init_20 : decode cX11_init 20 = .ok (.aload_n 0, 1) := dec_at dlX11_init_0_ok 10 rfl
theorem dX11_init_21 : decode cX11_init 21 = .ok (.bipush 8, 2) := dec_at dlX11_init_0_ok 11 rfl
theorem dX11_init_23 : decode cX11_init 23 = .ok (.newarray .int, 2) := dec_at dlX11_init_0_ok 12 rfl
theorem dX11_init_25 : decode cX11_init 25 = .ok (.putfield 16, 3) := dec_at dlX11_init_0_ok 13 rfl
theorem dX11_init_28 : decode cX11_init 28 = .ok (.aload_n 0, 1) := dec_at dlX11_init_0_ok 14 rfl
theorem dX11_init_29 : decode cX11_init 29 = .ok (.iconst 4, 1) := dec_at dlX11_init_0_ok 15 rfl
theorem dX11_init_30 : decode cX11_init 30 = .ok (.newarray .int, 2) := dec_at dlX11_init_0_ok 16 rfl
theorem dX11_init_32 : decode cX11_init 32 = .ok (.putfield 19, 3) := dec_at dlX11_init_0_ok 17 rfl
theorem dX11_init_35 : decode cX11_init 35 = .ok (.aload_n 0, 1) := dec_at dlX11_init_0_ok 18 rfl
theorem dX11_init_36 : decode cX11_init 36 = .ok (.iconst 4, 1) := dec_at dlX11_init_0_ok 19 rfl
theorem dX11_init_37 : decode cX11_init 37 = .ok (.newarray .int, 2) := dec_at dlX11_init_0_ok 20 rfl
theorem dX11_init_39 : decode cX11_init 39 = .ok (.putfield 22, 3) := dec_at dlX11_init_0_ok 21 rfl
theorem dX11_init_42 : decode cX11_init 42 = .ok (.aload_n 0, 1) := dec_at dlX11_init_0_ok 22 rfl
theorem dX11_init_43 : decode cX11_init 43 = .ok (.iconst 4, 1) := dec_at dlX11_init_0_ok 23 rfl
theorem dX11_init_44 : decode cX11_init 44 = .ok (.newarray .int, 2) := dec_at dlX11_init_0_ok 24 rfl
theorem dX11_init_46 : decode cX11_init 46 = .ok (.putfield 25, 3) := dec_at dlX11_init_0_ok 25 rfl
theorem dX11_init_49 : decode cX11_init 49 = .ok (.aload_n 0, 1) := dec_at dlX11_init_0_ok 26 rfl
theorem dX11_init_50 : decode cX11_init 50 = .ok (.bipush 34, 2) := dec_at dlX11_init_0_ok 27 rfl
theorem dX11_init_52 : decode cX11_init 52 = .ok (.newarray .int, 2) := dec_at dlX11_init_0_ok 28 rfl
theorem dX11_init_54 : decode cX11_init 54 = .ok (.putfield 28, 3) := dec_at dlX11_init_0_ok 29 rfl
theorem dX11_init_57 : decode cX11_init 57 = .ok (.aload_n 0, 1) := dec_at dlX11_init_0_ok 30 rfl
noncomputable def dlX11_init_58 : List (Nat × Instr × Nat) := [(58, .sipush 220, 3), (61, .newarray .int, 2), (63, .putfield 31, 3), (66, .aload_n 0, 1), (67, .iconst (-1), 1), (68, .putfield 34, 3), (71, .aload_n 0, 1), (72, .iconst 2, 1), (73, .newarray .int, 2), (75, .putfield 38, 3), (78, .aload_n 0, 1), (79, .bipush 8, 2), (81, .newarray .int, 2), (83, .putfield 41, 3), (86, .aload_n 0, 1), (87, .bipush 8, 2), (89, .newarray .int, 2), (91, .putfield 44, 3), (94, .aload_n 0, 1), (95, .bipush 8, 2), (97, .newarray .int, 2), (99, .putfield 47, 3), (102, .aload_n 0, 1), (103, .bipush 8, 2), (105, .newarray .int, 2), (107, .putfield 50, 3), (110, .aload_n 0, 1), (111, .bipush 8, 2), (113, .newarray .int, 2), (115, .putfield 53, 3), (118, .aload_n 0, 1)]
theorem dlX11_init_58_ok : dlX11_init_58.all (fun r => decide (decode cX11_init r.1 = .ok r.2)) = true := by decide +kernel
theorem dX11_init_58 : decode cX11_init 58 = .ok (.sipush 220, 3) := dec_at dlX11_init_58_ok 0 rfl
theorem dX11_init_61 : decode cX11_init 61 = .ok (.newarray .int, 2) := dec_at dlX11_init_58_ok 1 rfl
theorem dX11_init_63 : decode cX11_init 63 = .ok (.putfield 31, 3) := dec_at dlX11_init_58_ok 2 rfl
theorem dX11_init_66 : decode cX11_init 66 = .ok (.aload_n 0, 1) := dec_at dlX11_init_58_ok 3 rfl
theorem dX11_init_67 : decode cX11_init 67 = .ok (.iconst (-1), 1) := dec_at dlX11_init_58_ok 4 rfl
theorem dX11_init_68 : decode cX11_init 68 = .ok (.putfield 34, 3) := dec_at dlX11_init_58_ok 5 rfl
theorem dX11_init_71 : decode cX11_init 71 = .ok (.aload_n 0, 1) := dec_at dlX11_init_58_ok 6 rfl
theorem dX11_init_72 : decode cX11_init 72 = .ok (.iconst 2, 1) := dec_at dlX11_init_58_ok 7 rfl
theorem dX11_init_73 : decode cX11_init 73 = .ok (.newarray .int, 2) := dec_at dlX11_init_58_ok 8 rfl
theorem dX11_init_75 : decode cX11_init 75 = .ok (.putfield 38, 3) := dec_at dlX11_init_58_ok 9 rfl
theorem dX11_init_78 : decode cX11_init 78 = .ok (.aload_n 0, 1) := dec_at dlX11_init_58_ok 10 rfl
theorem dX11_init_79 : decode cX11_init 79 = .ok (.bipush 8, 2) := dec_at dlX11_init_58_ok 11 rfl
theorem dX11_init_81 : decode cX11_init 81 = .ok (.newarray .int, 2) := dec_at dlX11_init_58_ok 12 rfl
theorem dX11_init_83 : decode cX11_init 83 = .ok (.putfield 41, 3) := dec_at dlX11_init_58_ok 13 rfl
theorem dX11_init_86 : decode cX11_init 86 = .ok (.aload_n 0, 1) := dec_at dlX11_init_58_ok 14 rfl
theorem dX11_init_87 : decode cX11_init 87 = .ok (.bipush 8, 2) := dec_at dlX11_init_58_ok 15 rfl
theorem dX11_init_89 : decode cX11_init 89 = .ok (.newarray .int, 2) := dec_at dlX11_init_58_ok 16 rfl
theorem dX11_init_91 : decode cX11_init 91 = .ok (.putfield 44, 3) := dec_at dlX11_init_58_ok 17 rfl
theorem dX11_init_94 : decode cX11_init 94 = .ok (.aload_n 0, 1) := dec_at dlX11_init_58_ok 18 rfl
theorem dX11_init_95 : decode cX11_init 95 = .ok (.bipush 8, 2) := dec_at dlX11_init_58_ok 19 rfl
theorem dX11_init_97 : decode cX11_init 97 = .ok (.newarray .int, 2) := dec_at dlX11_init_58_ok 20 rfl
theorem dX11_init_99 : decode cX11_init 99 = .ok (.putfield 47, 3) := dec_at dlX11_init_58_ok 21 rfl
theorem dX11_init_102 : decode cX11_init 102 = .ok (.aload_n 0, 1) := dec_at dlX11_init_58_ok 22 rfl
theorem dX11_init_103 : decode cX11_init 103 = .ok (.bipush 8, 2) := dec_at dlX11_init_58_ok 23 rfl
theorem dX11_init_105 : decode cX11_init 105 = .ok (.newarray .int, 2) := dec_at dlX11_init_58_ok 24 rfl
theorem dX11_init_107 : decode cX11_init 107 = .ok (.putfield 50, 3) := dec_at dlX11_init_58_ok 25 rfl
theorem dX11_init_110 : decode cX11_init 110 = .ok (.aload_n 0, 1) := dec_at dlX11_init_58_ok 26 rfl
theorem dX11_init_111 : decode cX11_init 111 = .ok (.bipush 8, 2) := dec_at dlX11_init_58_ok 27 rfl
theorem dX11_init_113 : decode cX11_init 113 = .ok (.newarray .int, 2) := dec_at dlX11_init_58_ok 28 rfl
theorem dX11_init_115 : decode cX11_init 115 = .ok (.putfield 53, 3) := dec_at dlX11_init_58_ok 29 rfl
theorem dX11_init_118 : decode cX11_init 118 = .ok (.aload_n 0, 1) := dec_at dlX11_init_58_ok 30 rfl
noncomputable def dlX11_init_119 : List (Nat × Instr × Nat) := [(119, .iconst 4, 1), (120, .newarray .int, 2), (122, .putfield 56, 3), (125, .aload_n 0, 1), (126, .iconst 4, 1), (127, .newarray .int, 2), (129, .putfield 59, 3), (132, .aload_n 0, 1), (133, .iconst 4, 1), (134, .newarray .int, 2), (136, .putfield 62, 3), (139, .aload_n 0, 1), (140, .sipush 680, 3), (143, .newarray .int, 2), (145, .putfield 65, 3), (148, .aload_n 0, 1), (149, .bipush 34, 2), (151, .newarray .int, 2), (153, .putfield 68, 3), (156, .aload_n 0, 1), (157, .bipush 9, 2), (159, .newarray .int, 2), (161, .putfield 71, 3), (164, .aload_n 0, 1), (165, .bipush 6, 2), (167, .newarray .int, 2), (169, .putfield 74, 3), (172, .aload_n 0, 1), (173, .bipush 6, 2), (175, .newarray .int, 2), (177, .putfield 77, 3)]
theorem dlX11_init_119_ok : dlX11_init_119.all (fun r => decide (decode cX11_init r.1 = .ok r.2)) = true := by decide +kernel
theorem dX11_init_119 : decode cX11_init 119 = .ok (.iconst 4, 1) := dec_at dlX11_init_119_ok 0 rfl
theorem dX11_init_120 : decode cX11_init 120 = .ok (.newarray .int, 2) := dec_at dlX11_init_119_ok 1 rfl
theorem dX11_init_122 : decode cX11_init 122 = .ok (.putfield 56, 3) := dec_at dlX11_init_119_ok 2 rfl
theorem dX11_init_125 : decode cX11_init 125 = .ok (.aload_n 0, 1) := dec_at dlX11_init_119_ok 3 rfl
theorem dX11_init_126 : decode cX11_init 126 = .ok (.iconst 4, 1) := dec_at dlX11_init_119_ok 4 rfl
theorem dX11_init_127 : decode cX11_init 127 = .ok (.newarray .int, 2) := dec_at dlX11_init_119_ok 5 rfl
theorem dX11_init_129 : decode cX11_init 129 = .ok (.putfield 59, 3) := dec_at dlX11_init_119_ok 6 rfl
theorem dX11_init_132 : decode cX11_init 132 = .ok (.aload_n 0, 1) := dec_at dlX11_init_119_ok 7 rfl
theorem dX11_init_133 : decode cX11_init 133 = .ok (.iconst 4, 1) := dec_at dlX11_init_119_ok 8 rfl
theorem dX11_init_134 : decode cX11_init 134 = .ok (.newarray .int, 2) := dec_at dlX11_init_119_ok 9 rfl
theorem dX11_init_136 : decode cX11_init 136 = .ok (.putfield 62, 3) := dec_at dlX11_init_119_ok 10 rfl
theorem dX11_init_139 : decode cX11_init 139 = .ok (.aload_n 0, 1) := dec_at dlX11_init_119_ok 11 rfl
theorem dX11_init_140 : decode cX11_init 140 = .ok (.sipush 680, 3) := dec_at dlX11_init_119_ok 12 rfl
theorem dX11_init_143 : decode cX11_init 143 = .ok (.newarray .int, 2) := dec_at dlX11_init_119_ok 13 rfl
theorem dX11_init_145 : decode cX11_init 145 = .ok (.putfield 65, 3) := dec_at dlX11_init_119_ok 14 rfl
theorem dX11_init_148 : decode cX11_init 148 = .ok (.aload_n 0, 1) := dec_at dlX11_init_119_ok 15 rfl
theorem dX11_init_149 : decode cX11_init 149 = .ok (.bipush 34, 2) := dec_at dlX11_init_119_ok 16 rfl
theorem dX11_init_151 : decode cX11_init 151 = .ok (.newarray .int, 2) := dec_at dlX11_init_119_ok 17 rfl
theorem dX11_init_153 : decode cX11_init 153 = .ok (.putfield 68, 3) := dec_at dlX11_init_119_ok 18 rfl
theorem dX11_init_156 : decode cX11_init 156 = .ok (.aload_n 0, 1) := dec_at dlX11_init_119_ok 19 rfl
theorem dX11_init_157 : decode cX11_init 157 = .ok (.bipush 9, 2) := dec_at dlX11_init_119_ok 20 rfl
theorem dX11_init_159 : decode cX11_init 159 = .ok (.newarray .int, 2) := dec_at dlX11_init_119_ok 21 rfl
theorem dX11_init_161 : decode cX11_init 161 = .ok (.putfield 71, 3) := dec_at dlX11_init_119_ok 22 rfl
theorem dX11_init_164 : decode cX11_init 164 = .ok (.aload_n 0, 1) := dec_at dlX11_init_119_ok 23 rfl
theorem dX11_init_165 : decode cX11_init 165 = .ok (.bipush 6, 2) := dec_at dlX11_init_119_ok 24 rfl
theorem dX11_init_167 : decode cX11_init 167 = .ok (.newarray .int, 2) := dec_at dlX11_init_119_ok 25 rfl
theorem dX11_init_169 : decode cX11_init 169 = .ok (.putfield 74, 3) := dec_at dlX11_init_119_ok 26 rfl
theorem dX11_init_172 : decode cX11_init 172 = .ok (.aload_n 0, 1) := dec_at dlX11_init_119_ok 27 rfl
theorem dX11_init_173 : decode cX11_init 173 = .ok (.bipush 6, 2) := dec_at dlX11_init_119_ok 28 rfl
theorem dX11_init_175 : decode cX11_init 175 = .ok (.newarray .int, 2) := dec_at dlX11_init_119_ok 29 rfl
theorem dX11_init_177 : decode cX11_init 177 = .ok (.putfield 77, 3) := dec_at dlX11_init_119_ok 30 rfl
noncomputable def dlX11_init_180 : List (Nat × Instr × Nat) := [(180, .aload_n 0, 1), (181, .bipush 6, 2), (183, .newarray .int, 2), (185, .putfield 80, 3), (188, .aload_n 0, 1), (189, .bipush 15, 2), (191, .newarray .int, 2), (193, .putfield 83, 3), (196, .aload_n 0, 1), (197, .bipush 15, 2), (199, .newarray .int, 2), (201, .putfield 86, 3), (204, .aload_n 0, 1), (205, .bipush 70, 2), (207, .newarray .int, 2), (209, .putfield 89, 3), (212, .aload_n 0, 1), (213, .iconst 2, 1), (214, .newarray .boolean, 2), (216, .putfield 92, 3), (219, .aload_n 0, 1), (220, .iconst 0, 1), (221, .putfield 96, 3), (224, .return_, 1)]
theorem dlX11_init_180_ok : dlX11_init_180.all (fun r => decide (decode cX11_init r.1 = .ok r.2)) = true := by decide +kernel
theorem dX11_init_180 : decode cX11_init 180 = .ok (.aload_n 0, 1) := dec_at dlX11_init_180_ok 0 rfl
theorem dX11_init_181 : decode cX11_init 181 = .ok (.bipush 6, 2) := dec_at dlX11_init_180_ok 1 rfl
theorem dX11_init_183 : decode cX11_init 183 = .ok (.newarray .int, 2) := dec_at dlX11_init_180_ok 2 rfl
theorem dX11_init_185 : decode cX11_init 185 = .ok (.putfield 80, 3) := dec_at dlX11_init_180_ok 3 rfl
theorem dX11_init_188 : decode cX11_init 188 = .ok (.aload_n 0, 1) := dec_at dlX11_init_180_ok 4 rfl
theorem dX11_init_189 : decode cX11_init 189 = .ok (.bipush 15, 2) := dec_at dlX11_init_180_ok 5 rfl
theorem dX11_init_191 : decode cX11_init 191 = .ok (.newarray .int, 2) := dec_at dlX11_init_180_ok 6 rfl
theorem dX11_init_193 : decode cX11_init 193 = .ok (.putfield 83, 3) := dec_at dlX11_init_180_ok 7 rfl
theorem dX11_init_196 : decode cX11_init 196 = .ok (.aload_n 0, 1) := dec_at dlX11_init_180_ok 8 rfl
theorem dX11_init_197 : decode cX11_init 197 = .ok (.bipush 15, 2) := dec_at dlX11_init_180_ok 9 rfl
theorem dX11_init_199 : decode cX11_init 199 = .ok (.newarray .int, 2) := dec_at dlX11_init_180_ok 10 rfl
theorem dX11_init_201 : decode cX11_init 201 = .ok (.putfield 86, 3) := dec_at dlX11_init_180_ok 11 rfl
theorem dX11_init_204 : decode cX11_init 204 = .ok (.aload_n 0, 1) := dec_at dlX11_init_180_ok 12 rfl
theorem dX11_init_205 : decode cX11_init 205 = .ok (.bipush 70, 2) := dec_at dlX11_init_180_ok 13 rfl
theorem dX11_init_207 : decode cX11_init 207 = .ok (.newarray .int, 2) := dec_at dlX11_init_180_ok 14 rfl
theorem dX11_init_209 : decode cX11_init 209 = .ok (.putfield 89, 3) := dec_at dlX11_init_180_ok 15 rfl
theorem dX11_init_212 : decode cX11_init 212 = .ok (.aload_n 0, 1) := dec_at dlX11_init_180_ok 16 rfl
theorem dX11_init_213 : decode cX11_init 213 = .ok (.iconst 2, 1) := dec_at dlX11_init_180_ok 17 rfl
theorem dX11_init_214 : decode cX11_init 214 = .ok (.newarray .boolean, 2) := dec_at dlX11_init_180_ok 18 rfl
theorem dX11_init_216 : decode cX11_init 216 = .ok (.putfield 92, 3) := dec_at dlX11_init_180_ok 19 rfl
theorem dX11_init_219 : decode cX11_init 219 = .ok (.aload_n 0, 1) := dec_at dlX11_init_180_ok 20 rfl
theorem dX11_init_220 : decode cX11_init 220 = .ok (.iconst 0, 1) := dec_at dlX11_init_180_ok 21 rfl
theorem dX11_init_221 : decode cX11_init 221 = .ok (.putfield 96, 3) := dec_at dlX11_init_180_ok 22 rfl
theorem dX11_init_224 : decode cX11_init 224 = .ok (.return_, 1) := dec_at dlX11_init_180_ok 23 rfl
noncomputable def dlX11_in_0 : List (Nat × Instr × Nat) := [(0, .lload_n 0, 1), (1, .lload_n 2, 1), (2, .lcmp, 1), (3, .ifCond .lt 14, 3), (6, .lload_n 0, 1), (7, .lload 4, 2), (9, .lcmp, 1), (10, .ifCond .gt 7, 3), (13, .iconst 1, 1), (14, .goto 4, 3), (17, .iconst 0, 1), (18, .ireturn, 1)]
theorem dlX11_in_0_ok : dlX11_in_0.all (fun r => decide (decode cX11_in r.1 = .ok r.2)) = true := by decide +kernel
theorem dX11_in_0 : decode cX11_in 0 = .ok (.lload_n 0, 1) := dec_at dlX11_in_0_ok 0 rfl
theorem dX11_in_1 : decode cX11_in 1 = .ok (.lload_n 2, 1) := dec_at dlX11_in_0_ok 1 rfl
theorem dX11_in_2 : decode cX11_in 2 = .ok (.lcmp, 1) := dec_at dlX11_in_0_ok 2 rfl
theorem dX11_in_3 : decode cX11_in 3 = .ok (.ifCond .lt 14, 3) := dec_at dlX11_in_0_ok 3 rfl
theorem dX11_in_6 : decode cX11_in 6 = .ok (.lload_n 0, 1) := dec_at dlX11_in_0_ok 4 rfl
theorem dX11_in_7 : decode cX11_in 7 = .ok (.lload 4, 2) := dec_at dlX11_in_0_ok 5 rfl
theorem dX11_in_9 : decode cX11_in 9 = .ok (.lcmp, 1) := dec_at dlX11_in_0_ok 6 rfl
theorem dX11_in_10 : decode cX11_in 10 = .ok (.ifCond .gt 7, 3) := dec_at dlX11_in_0_ok 7 rfl
theorem dX11_in_13 : decode cX11_in 13 = .ok (.iconst 1, 1) := dec_at dlX11_in_0_ok 8 rfl
theorem dX11_in_14 : decode cX11_in 14 = .ok (.goto 4, 3) := dec_at dlX11_in_0_ok 9 rfl
theorem dX11_in_17 : decode cX11_in 17 = .ok (.iconst 0, 1) := dec_at dlX11_in_0_ok 10 rfl
theorem dX11_in_18 : decode cX11_in 18 = .ok (.ireturn, 1) := dec_at dlX11_in_0_ok 11 rfl
noncomputable def dlX11_has_0 : List (Nat × Instr × Nat) := [(0, .iload_n 0, 1), (1, .iload_n 1, 1), (2, .ishr, 1), (3, .iconst 1, 1), (4, .iand, 1), (5, .iconst 1, 1), (6, .if_icmp .ne 7, 3), (9, .iconst 1, 1), (10, .goto 4, 3), (13, .iconst 0, 1), (14, .ireturn, 1)]
theorem dlX11_has_0_ok : dlX11_has_0.all (fun r => decide (decode cX11_has r.1 = .ok r.2)) = true := by decide +kernel
theorem dX11_has_0 : decode cX11_has 0 = .ok (.iload_n 0, 1) := dec_at dlX11_has_0_ok 0 rfl
theorem dX11_has_1 : decode cX11_has 1 = .ok (.iload_n 1, 1) := dec_at dlX11_has_0_ok 1 rfl
theorem dX11_has_2 : decode cX11_has 2 = .ok (.ishr, 1) := dec_at dlX11_has_0_ok 2 rfl
theorem dX11_has_3 : decode cX11_has 3 = .ok (.iconst 1, 1) := dec_at dlX11_has_0_ok 3 rfl
theorem dX11_has_4 : decode cX11_has 4 = .ok (.iand, 1) := dec_at dlX11_has_0_ok 4 rfl
theorem dX11_has_5 : decode cX11_has 5 = .ok (.iconst 1, 1) := dec_at dlX11_has_0_ok 5 rfl
theorem dX11_has_6 : decode cX11_has 6 = .ok (.if_icmp .ne 7, 3) := dec_at dlX11_has_0_ok 6 rfl
theorem dX11_has_9 : decode cX11_has 9 = .ok (.iconst 1, 1) := dec_at dlX11_has_0_ok 7 rfl
theorem dX11_has_10 : decode cX11_has 10 = .ok (.goto 4, 3) := dec_at dlX11_has_0_ok 8 rfl
theorem dX11_has_13 : decode cX11_has 13 = .ok (.iconst 0, 1) := dec_at dlX11_has_0_ok 9 rfl
theorem dX11_has_14 : decode cX11_has 14 = .ok (.ireturn, 1) := dec_at dlX11_has_0_ok 10 rfl
noncomputable def dlX11_bits_0 : List (Nat × Instr × Nat) := [(0, .iconst 0, 1), (1, .istore_n 1, 1), (2, .iconst 0, 1), (3, .istore_n 2, 1), (4, .iload_n 2, 1), (5, .iconst 4, 1), (6, .if_icmp .ge 17, 3), (9, .iload_n 1, 1), (10, .iload_n 0, 1), (11, .iload_n 2, 1), (12, .ishr, 1), (13, .iconst 1, 1), (14, .iand, 1), (15, .iadd, 1), (16, .istore_n 1, 1), (17, .iinc 2 1, 3), (20, .goto (-16), 3), (23, .iload_n 1, 1), (24, .ireturn, 1)]
theorem dlX11_bits_0_ok : dlX11_bits_0.all (fun r => decide (decode cX11_bits r.1 = .ok r.2)) = true := by decide +kernel
theorem dX11_bits_0 : decode cX11_bits 0 = .ok (.iconst 0, 1) := dec_at dlX11_bits_0_ok 0 rfl
theorem dX11_bits_1 : decode cX11_bits 1 = .ok (.istore_n 1, 1) := dec_at dlX11_bits_0_ok 1 rfl
theorem dX11_bits_2 : decode cX11_bits 2 = .ok (.iconst 0, 1) := dec_at dlX11_bits_0_ok 2 rfl
theorem dX11_bits_3 : decode cX11_bits 3 = .ok (.istore_n 2, 1) := dec_at dlX11_bits_0_ok 3 rfl
theorem dX11_bits_4 : decode cX11_bits 4 = .ok (.iload_n 2, 1) := dec_at dlX11_bits_0_ok 4 rfl
theorem dX11_bits_5 : decode cX11_bits 5 = .ok (.iconst 4, 1) := dec_at dlX11_bits_0_ok 5 rfl
theorem dX11_bits_6 : decode cX11_bits 6 = .ok (.if_icmp .ge 17, 3) := dec_at dlX11_bits_0_ok 6 rfl
theorem dX11_bits_9 : decode cX11_bits 9 = .ok (.iload_n 1, 1) := dec_at dlX11_bits_0_ok 7 rfl
theorem dX11_bits_10 : decode cX11_bits 10 = .ok (.iload_n 0, 1) := dec_at dlX11_bits_0_ok 8 rfl
theorem dX11_bits_11 : decode cX11_bits 11 = .ok (.iload_n 2, 1) := dec_at dlX11_bits_0_ok 9 rfl
theorem dX11_bits_12 : decode cX11_bits 12 = .ok (.ishr, 1) := dec_at dlX11_bits_0_ok 10 rfl
theorem dX11_bits_13 : decode cX11_bits 13 = .ok (.iconst 1, 1) := dec_at dlX11_bits_0_ok 11 rfl
theorem dX11_bits_14 : decode cX11_bits 14 = .ok (.iand, 1) := dec_at dlX11_bits_0_ok 12 rfl
theorem dX11_bits_15 : decode cX11_bits 15 = .ok (.iadd, 1) := dec_at dlX11_bits_0_ok 13 rfl
theorem dX11_bits_16 : decode cX11_bits 16 = .ok (.istore_n 1, 1) := dec_at dlX11_bits_0_ok 14 rfl
theorem dX11_bits_17 : decode cX11_bits 17 = .ok (.iinc 2 1, 3) := dec_at dlX11_bits_0_ok 15 rfl
theorem dX11_bits_20 : decode cX11_bits 20 = .ok (.goto (-16), 3) := dec_at dlX11_bits_0_ok 16 rfl
theorem dX11_bits_23 : decode cX11_bits 23 = .ok (.iload_n 1, 1) := dec_at dlX11_bits_0_ok 17 rfl
theorem dX11_bits_24 : decode cX11_bits 24 = .ok (.ireturn, 1) := dec_at dlX11_bits_0_ok 18 rfl
set_option maxRecDepth 20000 in
theorem ggX11_isQuill_X11_in : GoodIn wsX11_isQuill wsX11_in := goodIn_s _ [(5, 1)] rfl (by decide +kernel)
set_option maxRecDepth 20000 in
theorem gX11_isQuill_X11_in : GoodIn wsX11_isQuill (va_wsS RX11 102 yX11_in wsX11_in) := goodIn_app (goodIn_s _ [(2, 3)] rfl (by decide +kernel)) ggX11_isQuill_X11_in
noncomputable def dlX11_isQuill_0 : List (Nat × Instr × Nat) := [(0, .iload_n 1, 1), (1, .i2l, 1), (2, .lconst 0, 1), (3, .aload_n 0, 1), (4, .getfield 99, 3), (7, .iconst 1, 1), (8, .isub, 1), (9, .i2l, 1), (10, .invokestatic 102, 3), (13, .ireturn, 1)]
theorem dlX11_isQuill_0_ok : dlX11_isQuill_0.all (fun r => decide (decode cX11_isQuill r.1 = .ok r.2)) = true := by decide +kernel
theorem dX11_isQuill_0 : decode cX11_isQuill 0 = .ok (.iload_n 1, 1) := dec_at dlX11_isQuill_0_ok 0 rfl
theorem dX11_isQuill_1 : decode cX11_isQuill 1 = .ok (.i2l, 1) := dec_at dlX11_isQuill_0_ok 1 rfl
theorem dX11_isQuill_2 : decode cX11_isQuill 2 = .ok (.lconst 0, 1) := dec_at dlX11_isQuill_0_ok 2 rfl
theorem dX11_isQuill_3 : decode cX11_isQuill 3 = .ok (.aload_n 0, 1) := dec_at dlX11_isQuill_0_ok 3 rfl
theorem dX11_isQuill_4 : decode cX11_isQuill 4 = .ok (.getfield 99, 3) := dec_at dlX11_isQuill_0_ok 4 rfl
theorem dX11_isQuill_7 : decode cX11_isQuill 7 = .ok (.iconst 1, 1) := dec_at dlX11_isQuill_0_ok 5 rfl
theorem dX11_isQuill_8 : decode cX11_isQuill 8 = .ok (.isub, 1) := dec_at dlX11_isQuill_0_ok 6 rfl
theorem dX11_isQuill_9 : decode cX11_isQuill 9 = .ok (.i2l, 1) := dec_at dlX11_isQuill_0_ok 7 rfl
theorem dX11_isQuill_10 : decode cX11_isQuill 10 = .ok (.invokestatic 102, 3) := dec_at dlX11_isQuill_0_ok 8 rfl
theorem dX11_isQuill_13 : decode cX11_isQuill 13 = .ok (.ireturn, 1) := dec_at dlX11_isQuill_0_ok 9 rfl
set_option maxRecDepth 20000 in
theorem ggX11_isHand_X11_in : GoodIn wsX11_isHand wsX11_in := goodIn_s _ [(5, 1)] rfl (by decide +kernel)
set_option maxRecDepth 20000 in
theorem gX11_isHand_X11_in : GoodIn wsX11_isHand (va_wsS RX11 102 yX11_in wsX11_in) := goodIn_app (goodIn_s _ [(2, 3)] rfl (by decide +kernel)) ggX11_isHand_X11_in
noncomputable def dlX11_isHand_0 : List (Nat × Instr × Nat) := [(0, .iload_n 1, 1), (1, .i2l, 1), (2, .lconst 0, 1), (3, .aload_n 0, 1), (4, .getfield 106, 3), (7, .iconst 1, 1), (8, .isub, 1), (9, .i2l, 1), (10, .invokestatic 102, 3), (13, .ireturn, 1)]
theorem dlX11_isHand_0_ok : dlX11_isHand_0.all (fun r => decide (decode cX11_isHand r.1 = .ok r.2)) = true := by decide +kernel
theorem dX11_isHand_0 : decode cX11_isHand 0 = .ok (.iload_n 1, 1) := dec_at dlX11_isHand_0_ok 0 rfl
theorem dX11_isHand_1 : decode cX11_isHand 1 = .ok (.i2l, 1) := dec_at dlX11_isHand_0_ok 1 rfl
theorem dX11_isHand_2 : decode cX11_isHand 2 = .ok (.lconst 0, 1) := dec_at dlX11_isHand_0_ok 2 rfl
theorem dX11_isHand_3 : decode cX11_isHand 3 = .ok (.aload_n 0, 1) := dec_at dlX11_isHand_0_ok 3 rfl
theorem dX11_isHand_4 : decode cX11_isHand 4 = .ok (.getfield 106, 3) := dec_at dlX11_isHand_0_ok 4 rfl
theorem dX11_isHand_7 : decode cX11_isHand 7 = .ok (.iconst 1, 1) := dec_at dlX11_isHand_0_ok 5 rfl
theorem dX11_isHand_8 : decode cX11_isHand 8 = .ok (.isub, 1) := dec_at dlX11_isHand_0_ok 6 rfl
theorem dX11_isHand_9 : decode cX11_isHand 9 = .ok (.i2l, 1) := dec_at dlX11_isHand_0_ok 7 rfl
theorem dX11_isHand_10 : decode cX11_isHand 10 = .ok (.invokestatic 102, 3) := dec_at dlX11_isHand_0_ok 8 rfl
theorem dX11_isHand_13 : decode cX11_isHand 13 = .ok (.ireturn, 1) := dec_at dlX11_isHand_0_ok 9 rfl
set_option maxRecDepth 20000 in
theorem ggX11_feed_X11_in : GoodIn wsX11_feed wsX11_in := goodIn_s _ [(9, 1)] rfl (by decide +kernel)
set_option maxRecDepth 20000 in
theorem gX11_feed_X11_in : GoodIn wsX11_feed (va_wsS RX11 102 yX11_in wsX11_in) := goodIn_app (goodIn_s _ [(6, 3)] rfl (by decide +kernel)) ggX11_feed_X11_in
noncomputable def dlX11_feed_0 : List (Nat × Instr × Nat) := [(0, .iload_n 1, 1), (1, .i2l, 1), (2, .lconst 0, 1), (3, .ldc2_w 109, 3), (6, .invokestatic 102, 3), (9, .ifCond .ne 6, 3), (12, .ldc 111, 2), (14, .ireturn, 1), (15, .aload_n 0, 1), (16, .getfield 112, 3), (19, .sipush 220, 3), (22, .if_icmp .ne 6, 3), (25, .ldc 115, 2), (27, .ireturn, 1), (28, .aload_n 0, 1), (29, .getfield 31, 3), (32, .aload_n 0, 1), (33, .getfield 112, 3), (36, .iload_n 1, 1), (37, .iastore, 1), (38, .aload_n 0, 1), (39, .dup, 1), (40, .getfield 112, 3), (43, .iconst 1, 1), (44, .iadd, 1), (45, .putfield 112, 3), (48, .aload_n 0, 1), (49, .getfield 112, 3), (52, .ireturn, 1)]
theorem dlX11_feed_0_ok : dlX11_feed_0.all (fun r => decide (decode cX11_feed r.1 = .ok r.2)) = true := by decide +kernel
theorem dX11_feed_0 : decode cX11_feed 0 = .ok (.iload_n 1, 1) := dec_at dlX11_feed_0_ok 0 rfl
theorem dX11_feed_1 : decode cX11_feed 1 = .ok (.i2l, 1) := dec_at dlX11_feed_0_ok 1 rfl
theorem dX11_feed_2 : decode cX11_feed 2 = .ok (.lconst 0, 1) := dec_at dlX11_feed_0_ok 2 rfl
theorem dX11_feed_3 : decode cX11_feed 3 = .ok (.ldc2_w 109, 3) := dec_at dlX11_feed_0_ok 3 rfl
theorem dX11_feed_6 : decode cX11_feed 6 = .ok (.invokestatic 102, 3) := dec_at dlX11_feed_0_ok 4 rfl
theorem dX11_feed_9 : decode cX11_feed 9 = .ok (.ifCond .ne 6, 3) := dec_at dlX11_feed_0_ok 5 rfl
theorem dX11_feed_12 : decode cX11_feed 12 = .ok (.ldc 111, 2) := dec_at dlX11_feed_0_ok 6 rfl
theorem dX11_feed_14 : decode cX11_feed 14 = .ok (.ireturn, 1) := dec_at dlX11_feed_0_ok 7 rfl
theorem dX11_feed_15 : decode cX11_feed 15 = .ok (.aload_n 0, 1) := dec_at dlX11_feed_0_ok 8 rfl
theorem dX11_feed_16 : decode cX11_feed 16 = .ok (.getfield 112, 3) := dec_at dlX11_feed_0_ok 9 rfl
theorem dX11_feed_19 : decode cX11_feed 19 = .ok (.sipush 220, 3) := dec_at dlX11_feed_0_ok 10 rfl
theorem dX11_feed_22 : decode cX11_feed 22 = .ok (.if_icmp .ne 6, 3) := dec_at dlX11_feed_0_ok 11 rfl
theorem dX11_feed_25 : decode cX11_feed 25 = .ok (.ldc 115, 2) := dec_at dlX11_feed_0_ok 12 rfl
theorem dX11_feed_27 : decode cX11_feed 27 = .ok (.ireturn, 1) := dec_at dlX11_feed_0_ok 13 rfl
theorem dX11_feed_28 : decode cX11_feed 28 = .ok (.aload_n 0, 1) := dec_at dlX11_feed_0_ok 14 rfl
theorem dX11_feed_29 : decode cX11_feed 29 = .ok (.getfield 31, 3) := dec_at dlX11_feed_0_ok 15 rfl
theorem dX11_feed_32 : decode cX11_feed 32 = .ok (.aload_n 0, 1) := dec_at dlX11_feed_0_ok 16 rfl
theorem dX11_feed_33 : decode cX11_feed 33 = .ok (.getfield 112, 3) := dec_at dlX11_feed_0_ok 17 rfl
theorem dX11_feed_36 : decode cX11_feed 36 = .ok (.iload_n 1, 1) := dec_at dlX11_feed_0_ok 18 rfl
theorem dX11_feed_37 : decode cX11_feed 37 = .ok (.iastore, 1) := dec_at dlX11_feed_0_ok 19 rfl
theorem dX11_feed_38 : decode cX11_feed 38 = .ok (.aload_n 0, 1) := dec_at dlX11_feed_0_ok 20 rfl
theorem dX11_feed_39 : decode cX11_feed 39 = .ok (.dup, 1) := dec_at dlX11_feed_0_ok 21 rfl
theorem dX11_feed_40 : decode cX11_feed 40 = .ok (.getfield 112, 3) := dec_at dlX11_feed_0_ok 22 rfl
theorem dX11_feed_43 : decode cX11_feed 43 = .ok (.iconst 1, 1) := dec_at dlX11_feed_0_ok 23 rfl
theorem dX11_feed_44 : decode cX11_feed 44 = .ok (.iadd, 1) := dec_at dlX11_feed_0_ok 24 rfl
theorem dX11_feed_45 : decode cX11_feed 45 = .ok (.putfield 112, 3) := dec_at dlX11_feed_0_ok 25 rfl
theorem dX11_feed_48 : decode cX11_feed 48 = .ok (.aload_n 0, 1) := dec_at dlX11_feed_0_ok 26 rfl
theorem dX11_feed_49 : decode cX11_feed 49 = .ok (.getfield 112, 3) := dec_at dlX11_feed_0_ok 27 rfl
theorem dX11_feed_52 : decode cX11_feed 52 = .ok (.ireturn, 1) := dec_at dlX11_feed_0_ok 28 rfl
noncomputable def dlX11_here_0 : List (Nat × Instr × Nat) := [(0, .aload_n 0, 1), (1, .getfield 116, 3), (4, .aload_n 0, 1), (5, .getfield 112, 3), (8, .if_icmp .ge 30, 3), (11, .aload_n 0, 1), (12, .getfield 31, 3), (15, .aload_n 0, 1), (16, .getfield 116, 3), (19, .iaload, 1), (20, .bipush 32, 2), (22, .if_icmp .ne 16, 3), (25, .aload_n 0, 1), (26, .dup, 1), (27, .getfield 116, 3), (30, .iconst 1, 1), (31, .iadd, 1), (32, .putfield 116, 3), (35, .goto (-35), 3), (38, .aload_n 0, 1), (39, .getfield 116, 3), (42, .aload_n 0, 1), (43, .getfield 112, 3), (46, .if_icmp .ge 15, 3), (49, .aload_n 0, 1), (50, .getfield 31, 3), (53, .aload_n 0, 1), (54, .getfield 116, 3), (57, .iaload, 1), (58, .goto 4, 3), (61, .iconst (-1), 1)]
theorem dlX11_here_0_ok : dlX11_here_0.all (fun r => decide (decode cX11_here r.1 = .ok r.2)) = true := by decide +kernel
theorem dX11_here_0 : decode cX11_here 0 = .ok (.aload_n 0, 1) := dec_at dlX11_here_0_ok 0 rfl
theorem dX11_here_1 : decode cX11_here 1 = .ok (.getfield 116, 3) := dec_at dlX11_here_0_ok 1 rfl
theorem dX11_here_4 : decode cX11_here 4 = .ok (.aload_n 0, 1) := dec_at dlX11_here_0_ok 2 rfl
theorem dX11_here_5 : decode cX11_here 5 = .ok (.getfield 112, 3) := dec_at dlX11_here_0_ok 3 rfl
theorem dX11_here_8 : decode cX11_here 8 = .ok (.if_icmp .ge 30, 3) := dec_at dlX11_here_0_ok 4 rfl
theorem dX11_here_11 : decode cX11_here 11 = .ok (.aload_n 0, 1) := dec_at dlX11_here_0_ok 5 rfl
theorem dX11_here_12 : decode cX11_here 12 = .ok (.getfield 31, 3) := dec_at dlX11_here_0_ok 6 rfl
theorem dX11_here_15 : decode cX11_here 15 = .ok (.aload_n 0, 1) := dec_at dlX11_here_0_ok 7 rfl
theorem dX11_here_16 : decode cX11_here 16 = .ok (.getfield 116, 3) := dec_at dlX11_here_0_ok 8 rfl
theorem dX11_here_19 : decode cX11_here 19 = .ok (.iaload, 1) := dec_at dlX11_here_0_ok 9 rfl
theorem dX11_here_20 : decode cX11_here 20 = .ok (.bipush 32, 2) := dec_at dlX11_here_0_ok 10 rfl
theorem dX11_here_22 : decode cX11_here 22 = .ok (.if_icmp .ne 16, 3) := dec_at dlX11_here_0_ok 11 rfl
theorem dX11_here_25 : decode cX11_here 25 = .ok (.aload_n 0, 1) := dec_at dlX11_here_0_ok 12 rfl
theorem dX11_here_26 : decode cX11_here 26 = .ok (.dup, 1) := dec_at dlX11_here_0_ok 13 rfl
theorem dX11_here_27 : decode cX11_here 27 = .ok (.getfield 116, 3) := dec_at dlX11_here_0_ok 14 rfl
theorem dX11_here_30 : decode cX11_here 30 = .ok (.iconst 1, 1) := dec_at dlX11_here_0_ok 15 rfl
theorem dX11_here_31 : decode cX11_here 31 = .ok (.iadd, 1) := dec_at dlX11_here_0_ok 16 rfl
theorem dX11_here_32 : decode cX11_here 32 = .ok (.putfield 116, 3) := dec_at dlX11_here_0_ok 17 rfl
theorem dX11_here_35 : decode cX11_here 35 = .ok (.goto (-35), 3) := dec_at dlX11_here_0_ok 18 rfl
theorem dX11_here_38 : decode cX11_here 38 = .ok (.aload_n 0, 1) := dec_at dlX11_here_0_ok 19 rfl
theorem dX11_here_39 : decode cX11_here 39 = .ok (.getfield 116, 3) := dec_at dlX11_here_0_ok 20 rfl
theorem dX11_here_42 : decode cX11_here 42 = .ok (.aload_n 0, 1) := dec_at dlX11_here_0_ok 21 rfl
theorem dX11_here_43 : decode cX11_here 43 = .ok (.getfield 112, 3) := dec_at dlX11_here_0_ok 22 rfl
theorem dX11_here_46 : decode cX11_here 46 = .ok (.if_icmp .ge 15, 3) := dec_at dlX11_here_0_ok 23 rfl
theorem dX11_here_49 : decode cX11_here 49 = .ok (.aload_n 0, 1) := dec_at dlX11_here_0_ok 24 rfl
theorem dX11_here_50 : decode cX11_here 50 = .ok (.getfield 31, 3) := dec_at dlX11_here_0_ok 25 rfl
theorem dX11_here_53 : decode cX11_here 53 = .ok (.aload_n 0, 1) := dec_at dlX11_here_0_ok 26 rfl
theorem dX11_here_54 : decode cX11_here 54 = .ok (.getfield 116, 3) := dec_at dlX11_here_0_ok 27 rfl
theorem dX11_here_57 : decode cX11_here 57 = .ok (.iaload, 1) := dec_at dlX11_here_0_ok 28 rfl
theorem dX11_here_58 : decode cX11_here 58 = .ok (.goto 4, 3) := dec_at dlX11_here_0_ok 29 rfl
theorem dX11_here_61 : decode cX11_here 61 = .ok (.iconst (-1), 1) := dec_at dlX11_here_0_ok 30 rfl
noncomputable def dlX11_here_62 : List (Nat × Instr × Nat) := [(62, .ireturn, 1)]
theorem dlX11_here_62_ok : dlX11_here_62.all (fun r => decide (decode cX11_here r.1 = .ok r.2)) = true := by decide +kernel
theorem dX11_here_62 : decode cX11_here 62 = .ok (.ireturn, 1) := dec_at dlX11_here_62_ok 0 rfl
noncomputable def dlX11_fails_0 : List (Nat × Instr × Nat) := [(0, .aload_n 0, 1), (1, .iload_n 2, 1), (2, .putfield 34, 3), (5, .iload_n 1, 1), (6, .ireturn, 1)]
theorem dlX11_fails_0_ok : dlX11_fails_0.all (fun r => decide (decode cX11_fails r.1 = .ok r.2)) = true := by decide +kernel
theorem dX11_fails_0 : decode cX11_fails 0 = .ok (.aload_n 0, 1) := dec_at dlX11_fails_0_ok 0 rfl
theorem dX11_fails_1 : decode cX11_fails 1 = .ok (.iload_n 2, 1) := dec_at dlX11_fails_0_ok 1 rfl
theorem dX11_fails_2 : decode cX11_fails 2 = .ok (.putfield 34, 3) := dec_at dlX11_fails_0_ok 2 rfl
theorem dX11_fails_5 : decode cX11_fails 5 = .ok (.iload_n 1, 1) := dec_at dlX11_fails_0_ok 3 rfl
theorem dX11_fails_6 : decode cX11_fails 6 = .ok (.ireturn, 1) := dec_at dlX11_fails_0_ok 4 rfl
set_option maxRecDepth 20000 in
theorem ggX11_takeNumber_X11_here : GoodIn wsX11_takeNumber wsX11_here := goodIn_s _ [(12, 1), (3, 1), (6, 2), (21, 46)] rfl (by decide +kernel)
set_option maxRecDepth 20000 in
theorem gX11_takeNumber_X11_here : GoodIn wsX11_takeNumber (wsV RX11 119 RX11 yX11_here wsX11_here) := goodIn_app (goodIn_s _ [(8, 4)] rfl (by decide +kernel)) ggX11_takeNumber_X11_here
set_option maxRecDepth 20000 in
theorem ggX11_takeNumber_X11_in : GoodIn wsX11_takeNumber wsX11_in := goodIn_s _ [(15, 1)] rfl (by decide +kernel)
set_option maxRecDepth 20000 in
theorem gX11_takeNumber_X11_in : GoodIn wsX11_takeNumber (va_wsS RX11 102 yX11_in wsX11_in) := goodIn_app (goodIn_s _ [(13, 2), (11, 1)] rfl (by decide +kernel)) ggX11_takeNumber_X11_in
set_option maxRecDepth 20000 in
theorem ggX11_takeNumber_X11_fails : GoodIn wsX11_takeNumber wsX11_fails := goodIn_s _ [(19, 48)] rfl (by decide +kernel)
set_option maxRecDepth 20000 in
theorem gX11_takeNumber_X11_fails : GoodIn wsX11_takeNumber (wsV RX11 127 RX11 yX11_fails wsX11_fails) := goodIn_app (goodIn_s _ [(16, 3), (11, 1)] rfl (by decide +kernel)) ggX11_takeNumber_X11_fails
noncomputable def dlX11_takeNumber_0 : List (Nat × Instr × Nat) := [(0, .aload_n 0, 1), (1, .invokevirtual 119, 3), (4, .istore_n 3, 1), (5, .iload_n 3, 1), (6, .i2l, 1), (7, .ldc2_w 123, 3), (10, .ldc2_w 125, 3), (13, .invokestatic 102, 3), (16, .ifCond .ne 13, 3), (19, .aload_n 0, 1), (20, .iconst 1, 1), (21, .aload_n 0, 1), (22, .getfield 116, 3), (25, .invokevirtual 127, 3), (28, .ireturn, 1), (29, .aload_n 0, 1), (30, .aload_n 0, 1), (31, .getfield 116, 3), (34, .putfield 131, 3), (37, .aload_n 0, 1), (38, .iconst 0, 1), (39, .putfield 134, 3), (42, .aload_n 0, 1), (43, .getfield 116, 3), (46, .aload_n 0, 1), (47, .getfield 112, 3), (50, .if_icmp .ge 79, 3), (53, .aload_n 0, 1), (54, .getfield 31, 3), (57, .aload_n 0, 1), (58, .getfield 116, 3)]
theorem dlX11_takeNumber_0_ok : dlX11_takeNumber_0.all (fun r => decide (decode cX11_takeNumber r.1 = .ok r.2)) = true := by decide +kernel
theorem dX11_takeNumber_0 : decode cX11_takeNumber 0 = .ok (.aload_n 0, 1) := dec_at dlX11_takeNumber_0_ok 0 rfl
theorem dX11_takeNumber_1 : decode cX11_takeNumber 1 = .ok (.invokevirtual 119, 3) := dec_at dlX11_takeNumber_0_ok 1 rfl
theorem dX11_takeNumber_4 : decode cX11_takeNumber 4 = .ok (.istore_n 3, 1) := dec_at dlX11_takeNumber_0_ok 2 rfl
theorem dX11_takeNumber_5 : decode cX11_takeNumber 5 = .ok (.iload_n 3, 1) := dec_at dlX11_takeNumber_0_ok 3 rfl
theorem dX11_takeNumber_6 : decode cX11_takeNumber 6 = .ok (.i2l, 1) := dec_at dlX11_takeNumber_0_ok 4 rfl
theorem dX11_takeNumber_7 : decode cX11_takeNumber 7 = .ok (.ldc2_w 123, 3) := dec_at dlX11_takeNumber_0_ok 5 rfl
theorem dX11_takeNumber_10 : decode cX11_takeNumber 10 = .ok (.ldc2_w 125, 3) := dec_at dlX11_takeNumber_0_ok 6 rfl
theorem dX11_takeNumber_13 : decode cX11_takeNumber 13 = .ok (.invokestatic 102, 3) := dec_at dlX11_takeNumber_0_ok 7 rfl
theorem dX11_takeNumber_16 : decode cX11_takeNumber 16 = .ok (.ifCond .ne 13, 3) := dec_at dlX11_takeNumber_0_ok 8 rfl
theorem dX11_takeNumber_19 : decode cX11_takeNumber 19 = .ok (.aload_n 0, 1) := dec_at dlX11_takeNumber_0_ok 9 rfl
theorem dX11_takeNumber_20 : decode cX11_takeNumber 20 = .ok (.iconst 1, 1) := dec_at dlX11_takeNumber_0_ok 10 rfl
theorem dX11_takeNumber_21 : decode cX11_takeNumber 21 = .ok (.aload_n 0, 1) := dec_at dlX11_takeNumber_0_ok 11 rfl
theorem dX11_takeNumber_22 : decode cX11_takeNumber 22 = .ok (.getfield 116, 3) := dec_at dlX11_takeNumber_0_ok 12 rfl
theorem dX11_takeNumber_25 : decode cX11_takeNumber 25 = .ok (.invokevirtual 127, 3) := dec_at dlX11_takeNumber_0_ok 13 rfl
theorem dX11_takeNumber_28 : decode cX11_takeNumber 28 = .ok (.ireturn, 1) := dec_at dlX11_takeNumber_0_ok 14 rfl
theorem dX11_takeNumber_29 : decode cX11_takeNumber 29 = .ok (.aload_n 0, 1) := dec_at dlX11_takeNumber_0_ok 15 rfl
theorem dX11_takeNumber_30 : decode cX11_takeNumber 30 = .ok (.aload_n 0, 1) := dec_at dlX11_takeNumber_0_ok 16 rfl
theorem dX11_takeNumber_31 : decode cX11_takeNumber 31 = .ok (.getfield 116, 3) := dec_at dlX11_takeNumber_0_ok 17 rfl
theorem dX11_takeNumber_34 : decode cX11_takeNumber 34 = .ok (.putfield 131, 3) := dec_at dlX11_takeNumber_0_ok 18 rfl
theorem dX11_takeNumber_37 : decode cX11_takeNumber 37 = .ok (.aload_n 0, 1) := dec_at dlX11_takeNumber_0_ok 19 rfl
theorem dX11_takeNumber_38 : decode cX11_takeNumber 38 = .ok (.iconst 0, 1) := dec_at dlX11_takeNumber_0_ok 20 rfl
theorem dX11_takeNumber_39 : decode cX11_takeNumber 39 = .ok (.putfield 134, 3) := dec_at dlX11_takeNumber_0_ok 21 rfl
theorem dX11_takeNumber_42 : decode cX11_takeNumber 42 = .ok (.aload_n 0, 1) := dec_at dlX11_takeNumber_0_ok 22 rfl
theorem dX11_takeNumber_43 : decode cX11_takeNumber 43 = .ok (.getfield 116, 3) := dec_at dlX11_takeNumber_0_ok 23 rfl
theorem dX11_takeNumber_46 : decode cX11_takeNumber 46 = .ok (.aload_n 0, 1) := dec_at dlX11_takeNumber_0_ok 24 rfl
theorem dX11_takeNumber_47 : decode cX11_takeNumber 47 = .ok (.getfield 112, 3) := dec_at dlX11_takeNumber_0_ok 25 rfl
theorem dX11_takeNumber_50 : decode cX11_takeNumber 50 = .ok (.if_icmp .ge 79, 3) := dec_at dlX11_takeNumber_0_ok 26 rfl
theorem dX11_takeNumber_53 : decode cX11_takeNumber 53 = .ok (.aload_n 0, 1) := dec_at dlX11_takeNumber_0_ok 27 rfl
theorem dX11_takeNumber_54 : decode cX11_takeNumber 54 = .ok (.getfield 31, 3) := dec_at dlX11_takeNumber_0_ok 28 rfl
theorem dX11_takeNumber_57 : decode cX11_takeNumber 57 = .ok (.aload_n 0, 1) := dec_at dlX11_takeNumber_0_ok 29 rfl
theorem dX11_takeNumber_58 : decode cX11_takeNumber 58 = .ok (.getfield 116, 3) := dec_at dlX11_takeNumber_0_ok 30 rfl
noncomputable def dlX11_takeNumber_61 : List (Nat × Instr × Nat) := [(61, .iaload, 1), (62, .i2l, 1), (63, .ldc2_w 123, 3), (66, .ldc2_w 125, 3), (69, .invokestatic 102, 3), (72, .ifCond .eq 57, 3), (75, .aload_n 0, 1), (76, .aload_n 0, 1), (77, .getfield 134, 3), (80, .sipush 10000, 3), (83, .if_icmp .le 10, 3), (86, .aload_n 0, 1), (87, .getfield 134, 3), (90, .goto 23, 3), (93, .bipush 10, 2), (95, .aload_n 0, 1), (96, .getfield 134, 3), (99, .imul, 1), (100, .aload_n 0, 1), (101, .getfield 31, 3), (104, .aload_n 0, 1), (105, .getfield 116, 3), (108, .iaload, 1), (109, .iadd, 1), (110, .bipush 48, 2), (112, .isub, 1), (113, .putfield 134, 3), (116, .aload_n 0, 1), (117, .dup, 1), (118, .getfield 116, 3), (121, .iconst 1, 1)]
theorem dlX11_takeNumber_61_ok : dlX11_takeNumber_61.all (fun r => decide (decode cX11_takeNumber r.1 = .ok r.2)) = true := by decide +kernel
theorem dX11_takeNumber_61 : decode cX11_takeNumber 61 = .ok (.iaload, 1) := dec_at dlX11_takeNumber_61_ok 0 rfl
theorem dX11_takeNumber_62 : decode cX11_takeNumber 62 = .ok (.i2l, 1) := dec_at dlX11_takeNumber_61_ok 1 rfl
theorem dX11_takeNumber_63 : decode cX11_takeNumber 63 = .ok (.ldc2_w 123, 3) := dec_at dlX11_takeNumber_61_ok 2 rfl
theorem dX11_takeNumber_66 : decode cX11_takeNumber 66 = .ok (.ldc2_w 125, 3) := dec_at dlX11_takeNumber_61_ok 3 rfl
theorem dX11_takeNumber_69 : decode cX11_takeNumber 69 = .ok (.invokestatic 102, 3) := dec_at dlX11_takeNumber_61_ok 4 rfl
theorem dX11_takeNumber_72 : decode cX11_takeNumber 72 = .ok (.ifCond .eq 57, 3) := dec_at dlX11_takeNumber_61_ok 5 rfl
theorem dX11_takeNumber_75 : decode cX11_takeNumber 75 = .ok (.aload_n 0, 1) := dec_at dlX11_takeNumber_61_ok 6 rfl
theorem dX11_takeNumber_76 : decode cX11_takeNumber 76 = .ok (.aload_n 0, 1) := dec_at dlX11_takeNumber_61_ok 7 rfl
theorem dX11_takeNumber_77 : decode cX11_takeNumber 77 = .ok (.getfield 134, 3) := dec_at dlX11_takeNumber_61_ok 8 rfl
theorem dX11_takeNumber_80 : decode cX11_takeNumber 80 = .ok (.sipush 10000, 3) := dec_at dlX11_takeNumber_61_ok 9 rfl
theorem dX11_takeNumber_83 : decode cX11_takeNumber 83 = .ok (.if_icmp .le 10, 3) := dec_at dlX11_takeNumber_61_ok 10 rfl
theorem dX11_takeNumber_86 : decode cX11_takeNumber 86 = .ok (.aload_n 0, 1) := dec_at dlX11_takeNumber_61_ok 11 rfl
theorem dX11_takeNumber_87 : decode cX11_takeNumber 87 = .ok (.getfield 134, 3) := dec_at dlX11_takeNumber_61_ok 12 rfl
theorem dX11_takeNumber_90 : decode cX11_takeNumber 90 = .ok (.goto 23, 3) := dec_at dlX11_takeNumber_61_ok 13 rfl
theorem dX11_takeNumber_93 : decode cX11_takeNumber 93 = .ok (.bipush 10, 2) := dec_at dlX11_takeNumber_61_ok 14 rfl
theorem dX11_takeNumber_95 : decode cX11_takeNumber 95 = .ok (.aload_n 0, 1) := dec_at dlX11_takeNumber_61_ok 15 rfl
theorem dX11_takeNumber_96 : decode cX11_takeNumber 96 = .ok (.getfield 134, 3) := dec_at dlX11_takeNumber_61_ok 16 rfl
theorem dX11_takeNumber_99 : decode cX11_takeNumber 99 = .ok (.imul, 1) := dec_at dlX11_takeNumber_61_ok 17 rfl
theorem dX11_takeNumber_100 : decode cX11_takeNumber 100 = .ok (.aload_n 0, 1) := dec_at dlX11_takeNumber_61_ok 18 rfl
theorem dX11_takeNumber_101 : decode cX11_takeNumber 101 = .ok (.getfield 31, 3) := dec_at dlX11_takeNumber_61_ok 19 rfl
theorem dX11_takeNumber_104 : decode cX11_takeNumber 104 = .ok (.aload_n 0, 1) := dec_at dlX11_takeNumber_61_ok 20 rfl
theorem dX11_takeNumber_105 : decode cX11_takeNumber 105 = .ok (.getfield 116, 3) := dec_at dlX11_takeNumber_61_ok 21 rfl
theorem dX11_takeNumber_108 : decode cX11_takeNumber 108 = .ok (.iaload, 1) := dec_at dlX11_takeNumber_61_ok 22 rfl
theorem dX11_takeNumber_109 : decode cX11_takeNumber 109 = .ok (.iadd, 1) := dec_at dlX11_takeNumber_61_ok 23 rfl
theorem dX11_takeNumber_110 : decode cX11_takeNumber 110 = .ok (.bipush 48, 2) := dec_at dlX11_takeNumber_61_ok 24 rfl
theorem dX11_takeNumber_112 : decode cX11_takeNumber 112 = .ok (.isub, 1) := dec_at dlX11_takeNumber_61_ok 25 rfl
theorem dX11_takeNumber_113 : decode cX11_takeNumber 113 = .ok (.putfield 134, 3) := dec_at dlX11_takeNumber_61_ok 26 rfl
theorem dX11_takeNumber_116 : decode cX11_takeNumber 116 = .ok (.aload_n 0, 1) := dec_at dlX11_takeNumber_61_ok 27 rfl
theorem dX11_takeNumber_117 : decode cX11_takeNumber 117 = .ok (.dup, 1) := dec_at dlX11_takeNumber_61_ok 28 rfl
theorem dX11_takeNumber_118 : decode cX11_takeNumber 118 = .ok (.getfield 116, 3) := dec_at dlX11_takeNumber_61_ok 29 rfl
theorem dX11_takeNumber_121 : decode cX11_takeNumber 121 = .ok (.iconst 1, 1) := dec_at dlX11_takeNumber_61_ok 30 rfl
noncomputable def dlX11_takeNumber_122 : List (Nat × Instr × Nat) := [(122, .iadd, 1), (123, .putfield 116, 3), (126, .goto (-84), 3), (129, .aload_n 0, 1), (130, .getfield 116, 3), (133, .aload_n 0, 1), (134, .getfield 131, 3), (137, .isub, 1), (138, .iconst 3, 1), (139, .if_icmp .gt 18, 3), (142, .aload_n 0, 1), (143, .getfield 134, 3), (146, .i2l, 1), (147, .iload_n 1, 1), (148, .i2l, 1), (149, .iload_n 2, 1), (150, .i2l, 1), (151, .invokestatic 102, 3), (154, .ifCond .ne 15, 3), (157, .aload_n 0, 1), (158, .iconst 2, 1), (159, .aload_n 0, 1), (160, .getfield 131, 3), (163, .invokevirtual 127, 3), (166, .goto 4, 3), (169, .iconst 0, 1), (170, .ireturn, 1)]
theorem dlX11_takeNumber_122_ok : dlX11_takeNumber_122.all (fun r => decide (decode cX11_takeNumber r.1 = .ok r.2)) = true := by decide +kernel
theorem dX11_takeNumber_122 : decode cX11_takeNumber 122 = .ok (.iadd, 1) := dec_at dlX11_takeNumber_122_ok 0 rfl
theorem dX11_takeNumber_123 : decode cX11_takeNumber 123 = .ok (.putfield 116, 3) := dec_at dlX11_takeNumber_122_ok 1 rfl
theorem dX11_takeNumber_126 : decode cX11_takeNumber 126 = .ok (.goto (-84), 3) := dec_at dlX11_takeNumber_122_ok 2 rfl
theorem dX11_takeNumber_129 : decode cX11_takeNumber 129 = .ok (.aload_n 0, 1) := dec_at dlX11_takeNumber_122_ok 3 rfl
theorem dX11_takeNumber_130 : decode cX11_takeNumber 130 = .ok (.getfield 116, 3) := dec_at dlX11_takeNumber_122_ok 4 rfl
theorem dX11_takeNumber_133 : decode cX11_takeNumber 133 = .ok (.aload_n 0, 1) := dec_at dlX11_takeNumber_122_ok 5 rfl
theorem dX11_takeNumber_134 : decode cX11_takeNumber 134 = .ok (.getfield 131, 3) := dec_at dlX11_takeNumber_122_ok 6 rfl
theorem dX11_takeNumber_137 : decode cX11_takeNumber 137 = .ok (.isub, 1) := dec_at dlX11_takeNumber_122_ok 7 rfl
theorem dX11_takeNumber_138 : decode cX11_takeNumber 138 = .ok (.iconst 3, 1) := dec_at dlX11_takeNumber_122_ok 8 rfl
theorem dX11_takeNumber_139 : decode cX11_takeNumber 139 = .ok (.if_icmp .gt 18, 3) := dec_at dlX11_takeNumber_122_ok 9 rfl
theorem dX11_takeNumber_142 : decode cX11_takeNumber 142 = .ok (.aload_n 0, 1) := dec_at dlX11_takeNumber_122_ok 10 rfl
theorem dX11_takeNumber_143 : decode cX11_takeNumber 143 = .ok (.getfield 134, 3) := dec_at dlX11_takeNumber_122_ok 11 rfl
theorem dX11_takeNumber_146 : decode cX11_takeNumber 146 = .ok (.i2l, 1) := dec_at dlX11_takeNumber_122_ok 12 rfl
theorem dX11_takeNumber_147 : decode cX11_takeNumber 147 = .ok (.iload_n 1, 1) := dec_at dlX11_takeNumber_122_ok 13 rfl
theorem dX11_takeNumber_148 : decode cX11_takeNumber 148 = .ok (.i2l, 1) := dec_at dlX11_takeNumber_122_ok 14 rfl
theorem dX11_takeNumber_149 : decode cX11_takeNumber 149 = .ok (.iload_n 2, 1) := dec_at dlX11_takeNumber_122_ok 15 rfl
theorem dX11_takeNumber_150 : decode cX11_takeNumber 150 = .ok (.i2l, 1) := dec_at dlX11_takeNumber_122_ok 16 rfl
theorem dX11_takeNumber_151 : decode cX11_takeNumber 151 = .ok (.invokestatic 102, 3) := dec_at dlX11_takeNumber_122_ok 17 rfl
theorem dX11_takeNumber_154 : decode cX11_takeNumber 154 = .ok (.ifCond .ne 15, 3) := dec_at dlX11_takeNumber_122_ok 18 rfl
theorem dX11_takeNumber_157 : decode cX11_takeNumber 157 = .ok (.aload_n 0, 1) := dec_at dlX11_takeNumber_122_ok 19 rfl
theorem dX11_takeNumber_158 : decode cX11_takeNumber 158 = .ok (.iconst 2, 1) := dec_at dlX11_takeNumber_122_ok 20 rfl
theorem dX11_takeNumber_159 : decode cX11_takeNumber 159 = .ok (.aload_n 0, 1) := dec_at dlX11_takeNumber_122_ok 21 rfl
theorem dX11_takeNumber_160 : decode cX11_takeNumber 160 = .ok (.getfield 131, 3) := dec_at dlX11_takeNumber_122_ok 22 rfl
theorem dX11_takeNumber_163 : decode cX11_takeNumber 163 = .ok (.invokevirtual 127, 3) := dec_at dlX11_takeNumber_122_ok 23 rfl
theorem dX11_takeNumber_166 : decode cX11_takeNumber 166 = .ok (.goto 4, 3) := dec_at dlX11_takeNumber_122_ok 24 rfl
theorem dX11_takeNumber_169 : decode cX11_takeNumber 169 = .ok (.iconst 0, 1) := dec_at dlX11_takeNumber_122_ok 25 rfl
theorem dX11_takeNumber_170 : decode cX11_takeNumber 170 = .ok (.ireturn, 1) := dec_at dlX11_takeNumber_122_ok 26 rfl
set_option maxRecDepth 20000 in
theorem ggX11_into_X11_takeNumber : GoodIn wsX11_into wsX11_takeNumber := goodIn_s _ [(6, 5), (1, 1), (11, 5), (5, 1), (16, 55)] rfl (by decide +kernel)
set_option maxRecDepth 20000 in
theorem gX11_into_X11_takeNumber : GoodIn wsX11_into (wsV RX11 137 RX11 yX11_takeNumber wsX11_takeNumber) := goodIn_app (goodIn_s _ [(2, 4)] rfl (by decide +kernel)) ggX11_into_X11_takeNumber
noncomputable def dlX11_into_0 : List (Nat × Instr × Nat) := [(0, .aload_n 0, 1), (1, .iload_n 3, 1), (2, .iload 4, 2), (4, .invokevirtual 137, 3), (7, .istore 5, 2), (9, .aload_n 1, 1), (10, .iload_n 2, 1), (11, .aload_n 0, 1), (12, .getfield 134, 3), (15, .iastore, 1), (16, .iload 5, 2), (18, .ireturn, 1)]
theorem dlX11_into_0_ok : dlX11_into_0.all (fun r => decide (decode cX11_into r.1 = .ok r.2)) = true := by decide +kernel
theorem dX11_into_0 : decode cX11_into 0 = .ok (.aload_n 0, 1) := dec_at dlX11_into_0_ok 0 rfl
theorem dX11_into_1 : decode cX11_into 1 = .ok (.iload_n 3, 1) := dec_at dlX11_into_0_ok 1 rfl
theorem dX11_into_2 : decode cX11_into 2 = .ok (.iload 4, 2) := dec_at dlX11_into_0_ok 2 rfl
theorem dX11_into_4 : decode cX11_into 4 = .ok (.invokevirtual 137, 3) := dec_at dlX11_into_0_ok 3 rfl
theorem dX11_into_7 : decode cX11_into 7 = .ok (.istore 5, 2) := dec_at dlX11_into_0_ok 4 rfl
theorem dX11_into_9 : decode cX11_into 9 = .ok (.aload_n 1, 1) := dec_at dlX11_into_0_ok 5 rfl
theorem dX11_into_10 : decode cX11_into 10 = .ok (.iload_n 2, 1) := dec_at dlX11_into_0_ok 6 rfl
theorem dX11_into_11 : decode cX11_into 11 = .ok (.aload_n 0, 1) := dec_at dlX11_into_0_ok 7 rfl
theorem dX11_into_12 : decode cX11_into 12 = .ok (.getfield 134, 3) := dec_at dlX11_into_0_ok 8 rfl
theorem dX11_into_15 : decode cX11_into 15 = .ok (.iastore, 1) := dec_at dlX11_into_0_ok 9 rfl
theorem dX11_into_16 : decode cX11_into 16 = .ok (.iload 5, 2) := dec_at dlX11_into_0_ok 10 rfl
theorem dX11_into_18 : decode cX11_into 18 = .ok (.ireturn, 1) := dec_at dlX11_into_0_ok 11 rfl
set_option maxRecDepth 20000 in
theorem ggX11_takeOffice_X11_into : GoodIn wsX11_takeOffice wsX11_into := goodIn_s _ [(6, 5), (5, 1), (11, 65)] rfl (by decide +kernel)
set_option maxRecDepth 20000 in
theorem gX11_takeOffice_X11_into : GoodIn wsX11_takeOffice (wsV RX11 140 RX11 yX11_into wsX11_into) := goodIn_app (goodIn_s _ [(2, 4)] rfl (by decide +kernel)) ggX11_takeOffice_X11_into
noncomputable def dlX11_takeOffice_0 : List (Nat × Instr × Nat) := [(0, .aload_n 0, 1), (1, .aload_n 0, 1), (2, .getfield 38, 3), (5, .iconst 0, 1), (6, .iconst 1, 1), (7, .bipush 20, 2), (9, .invokevirtual 140, 3), (12, .istore_n 1, 1), (13, .iload_n 1, 1), (14, .ifCond .le 7, 3), (17, .iload_n 1, 1), (18, .goto 15, 3), (21, .aload_n 0, 1), (22, .aload_n 0, 1), (23, .getfield 38, 3), (26, .iconst 1, 1), (27, .iconst 1, 1), (28, .bipush 20, 2), (30, .invokevirtual 140, 3), (33, .ireturn, 1)]
theorem dlX11_takeOffice_0_ok : dlX11_takeOffice_0.all (fun r => decide (decode cX11_takeOffice r.1 = .ok r.2)) = true := by decide +kernel
theorem dX11_takeOffice_0 : decode cX11_takeOffice 0 = .ok (.aload_n 0, 1) := dec_at dlX11_takeOffice_0_ok 0 rfl
theorem dX11_takeOffice_1 : decode cX11_takeOffice 1 = .ok (.aload_n 0, 1) := dec_at dlX11_takeOffice_0_ok 1 rfl
theorem dX11_takeOffice_2 : decode cX11_takeOffice 2 = .ok (.getfield 38, 3) := dec_at dlX11_takeOffice_0_ok 2 rfl
theorem dX11_takeOffice_5 : decode cX11_takeOffice 5 = .ok (.iconst 0, 1) := dec_at dlX11_takeOffice_0_ok 3 rfl
theorem dX11_takeOffice_6 : decode cX11_takeOffice 6 = .ok (.iconst 1, 1) := dec_at dlX11_takeOffice_0_ok 4 rfl
theorem dX11_takeOffice_7 : decode cX11_takeOffice 7 = .ok (.bipush 20, 2) := dec_at dlX11_takeOffice_0_ok 5 rfl
theorem dX11_takeOffice_9 : decode cX11_takeOffice 9 = .ok (.invokevirtual 140, 3) := dec_at dlX11_takeOffice_0_ok 6 rfl
theorem dX11_takeOffice_12 : decode cX11_takeOffice 12 = .ok (.istore_n 1, 1) := dec_at dlX11_takeOffice_0_ok 7 rfl
theorem dX11_takeOffice_13 : decode cX11_takeOffice 13 = .ok (.iload_n 1, 1) := dec_at dlX11_takeOffice_0_ok 8 rfl
theorem dX11_takeOffice_14 : decode cX11_takeOffice 14 = .ok (.ifCond .le 7, 3) := dec_at dlX11_takeOffice_0_ok 9 rfl
theorem dX11_takeOffice_17 : decode cX11_takeOffice 17 = .ok (.iload_n 1, 1) := dec_at dlX11_takeOffice_0_ok 10 rfl
theorem dX11_takeOffice_18 : decode cX11_takeOffice 18 = .ok (.goto 15, 3) := dec_at dlX11_takeOffice_0_ok 11 rfl
theorem dX11_takeOffice_21 : decode cX11_takeOffice 21 = .ok (.aload_n 0, 1) := dec_at dlX11_takeOffice_0_ok 12 rfl
theorem dX11_takeOffice_22 : decode cX11_takeOffice 22 = .ok (.aload_n 0, 1) := dec_at dlX11_takeOffice_0_ok 13 rfl
theorem dX11_takeOffice_23 : decode cX11_takeOffice 23 = .ok (.getfield 38, 3) := dec_at dlX11_takeOffice_0_ok 14 rfl
theorem dX11_takeOffice_26 : decode cX11_takeOffice 26 = .ok (.iconst 1, 1) := dec_at dlX11_takeOffice_0_ok 15 rfl
theorem dX11_takeOffice_27 : decode cX11_takeOffice 27 = .ok (.iconst 1, 1) := dec_at dlX11_takeOffice_0_ok 16 rfl
theorem dX11_takeOffice_28 : decode cX11_takeOffice 28 = .ok (.bipush 20, 2) := dec_at dlX11_takeOffice_0_ok 17 rfl
theorem dX11_takeOffice_30 : decode cX11_takeOffice 30 = .ok (.invokevirtual 140, 3) := dec_at dlX11_takeOffice_0_ok 18 rfl
theorem dX11_takeOffice_33 : decode cX11_takeOffice 33 = .ok (.ireturn, 1) := dec_at dlX11_takeOffice_0_ok 19 rfl
set_option maxRecDepth 20000 in
theorem ggX11_takeQuill_X11_into : GoodIn wsX11_takeQuill wsX11_into := goodIn_s _ [(11, 5), (10, 1), (16, 65)] rfl (by decide +kernel)
set_option maxRecDepth 20000 in
theorem gX11_takeQuill_X11_into : GoodIn wsX11_takeQuill (wsV RX11 140 RX11 yX11_into wsX11_into) := goodIn_app (goodIn_s _ [(7, 4)] rfl (by decide +kernel)) ggX11_takeQuill_X11_into
noncomputable def dlX11_takeQuill_0 : List (Nat × Instr × Nat) := [(0, .aload_n 0, 1), (1, .getfield 144, 3), (4, .istore_n 1, 1), (5, .aload_n 0, 1), (6, .dup, 1), (7, .getfield 144, 3), (10, .iconst 1, 1), (11, .iadd, 1), (12, .putfield 144, 3), (15, .aload_n 0, 1), (16, .aload_n 0, 1), (17, .getfield 41, 3), (20, .iload_n 1, 1), (21, .iconst 0, 1), (22, .iconst 1, 1), (23, .invokevirtual 140, 3), (26, .istore_n 2, 1), (27, .iload_n 2, 1), (28, .ifCond .le 7, 3), (31, .iload_n 2, 1), (32, .goto 14, 3), (35, .aload_n 0, 1), (36, .aload_n 0, 1), (37, .getfield 44, 3), (40, .iload_n 1, 1), (41, .iconst 1, 1), (42, .iconst 5, 1), (43, .invokevirtual 140, 3), (46, .istore_n 2, 1), (47, .iload_n 2, 1), (48, .ifCond .le 7, 3)]
theorem dlX11_takeQuill_0_ok : dlX11_takeQuill_0.all (fun r => decide (decode cX11_takeQuill r.1 = .ok r.2)) = true := by decide +kernel
theorem dX11_takeQuill_0 : decode cX11_takeQuill 0 = .ok (.aload_n 0, 1) := dec_at dlX11_takeQuill_0_ok 0 rfl
theorem dX11_takeQuill_1 : decode cX11_takeQuill 1 = .ok (.getfield 144, 3) := dec_at dlX11_takeQuill_0_ok 1 rfl
theorem dX11_takeQuill_4 : decode cX11_takeQuill 4 = .ok (.istore_n 1, 1) := dec_at dlX11_takeQuill_0_ok 2 rfl
theorem dX11_takeQuill_5 : decode cX11_takeQuill 5 = .ok (.aload_n 0, 1) := dec_at dlX11_takeQuill_0_ok 3 rfl
theorem dX11_takeQuill_6 : decode cX11_takeQuill 6 = .ok (.dup, 1) := dec_at dlX11_takeQuill_0_ok 4 rfl
theorem dX11_takeQuill_7 : decode cX11_takeQuill 7 = .ok (.getfield 144, 3) := dec_at dlX11_takeQuill_0_ok 5 rfl
theorem dX11_takeQuill_10 : decode cX11_takeQuill 10 = .ok (.iconst 1, 1) := dec_at dlX11_takeQuill_0_ok 6 rfl
theorem dX11_takeQuill_11 : decode cX11_takeQuill 11 = .ok (.iadd, 1) := dec_at dlX11_takeQuill_0_ok 7 rfl
theorem dX11_takeQuill_12 : decode cX11_takeQuill 12 = .ok (.putfield 144, 3) := dec_at dlX11_takeQuill_0_ok 8 rfl
theorem dX11_takeQuill_15 : decode cX11_takeQuill 15 = .ok (.aload_n 0, 1) := dec_at dlX11_takeQuill_0_ok 9 rfl
theorem dX11_takeQuill_16 : decode cX11_takeQuill 16 = .ok (.aload_n 0, 1) := dec_at dlX11_takeQuill_0_ok 10 rfl
theorem dX11_takeQuill_17 : decode cX11_takeQuill 17 = .ok (.getfield 41, 3) := dec_at dlX11_takeQuill_0_ok 11 rfl
theorem dX11_takeQuill_20 : decode cX11_takeQuill 20 = .ok (.iload_n 1, 1) := dec_at dlX11_takeQuill_0_ok 12 rfl
theorem dX11_takeQuill_21 : decode cX11_takeQuill 21 = .ok (.iconst 0, 1) := dec_at dlX11_takeQuill_0_ok 13 rfl
theorem dX11_takeQuill_22 : decode cX11_takeQuill 22 = .ok (.iconst 1, 1) := dec_at dlX11_takeQuill_0_ok 14 rfl
theorem dX11_takeQuill_23 : decode cX11_takeQuill 23 = .ok (.invokevirtual 140, 3) := dec_at dlX11_takeQuill_0_ok 15 rfl
theorem dX11_takeQuill_26 : decode cX11_takeQuill 26 = .ok (.istore_n 2, 1) := dec_at dlX11_takeQuill_0_ok 16 rfl
theorem dX11_takeQuill_27 : decode cX11_takeQuill 27 = .ok (.iload_n 2, 1) := dec_at dlX11_takeQuill_0_ok 17 rfl
theorem dX11_takeQuill_28 : decode cX11_takeQuill 28 = .ok (.ifCond .le 7, 3) := dec_at dlX11_takeQuill_0_ok 18 rfl
theorem dX11_takeQuill_31 : decode cX11_takeQuill 31 = .ok (.iload_n 2, 1) := dec_at dlX11_takeQuill_0_ok 19 rfl
theorem dX11_takeQuill_32 : decode cX11_takeQuill 32 = .ok (.goto 14, 3) := dec_at dlX11_takeQuill_0_ok 20 rfl
theorem dX11_takeQuill_35 : decode cX11_takeQuill 35 = .ok (.aload_n 0, 1) := dec_at dlX11_takeQuill_0_ok 21 rfl
theorem dX11_takeQuill_36 : decode cX11_takeQuill 36 = .ok (.aload_n 0, 1) := dec_at dlX11_takeQuill_0_ok 22 rfl
theorem dX11_takeQuill_37 : decode cX11_takeQuill 37 = .ok (.getfield 44, 3) := dec_at dlX11_takeQuill_0_ok 23 rfl
theorem dX11_takeQuill_40 : decode cX11_takeQuill 40 = .ok (.iload_n 1, 1) := dec_at dlX11_takeQuill_0_ok 24 rfl
theorem dX11_takeQuill_41 : decode cX11_takeQuill 41 = .ok (.iconst 1, 1) := dec_at dlX11_takeQuill_0_ok 25 rfl
theorem dX11_takeQuill_42 : decode cX11_takeQuill 42 = .ok (.iconst 5, 1) := dec_at dlX11_takeQuill_0_ok 26 rfl
theorem dX11_takeQuill_43 : decode cX11_takeQuill 43 = .ok (.invokevirtual 140, 3) := dec_at dlX11_takeQuill_0_ok 27 rfl
theorem dX11_takeQuill_46 : decode cX11_takeQuill 46 = .ok (.istore_n 2, 1) := dec_at dlX11_takeQuill_0_ok 28 rfl
theorem dX11_takeQuill_47 : decode cX11_takeQuill 47 = .ok (.iload_n 2, 1) := dec_at dlX11_takeQuill_0_ok 29 rfl
theorem dX11_takeQuill_48 : decode cX11_takeQuill 48 = .ok (.ifCond .le 7, 3) := dec_at dlX11_takeQuill_0_ok 30 rfl
noncomputable def dlX11_takeQuill_51 : List (Nat × Instr × Nat) := [(51, .iload_n 2, 1), (52, .goto 15, 3), (55, .aload_n 0, 1), (56, .aload_n 0, 1), (57, .getfield 47, 3), (60, .iload_n 1, 1), (61, .iconst 0, 1), (62, .bipush 9, 2), (64, .invokevirtual 140, 3), (67, .istore_n 2, 1), (68, .iload_n 2, 1), (69, .ifCond .le 7, 3), (72, .iload_n 2, 1), (73, .goto 15, 3), (76, .aload_n 0, 1), (77, .aload_n 0, 1), (78, .getfield 50, 3), (81, .iload_n 1, 1), (82, .iconst 0, 1), (83, .bipush 99, 2), (85, .invokevirtual 140, 3), (88, .istore_n 2, 1), (89, .iload_n 2, 1), (90, .ifCond .le 7, 3), (93, .iload_n 2, 1), (94, .goto 15, 3), (97, .aload_n 0, 1), (98, .aload_n 0, 1), (99, .getfield 53, 3), (102, .iload_n 1, 1), (103, .iconst 1, 1)]
theorem dlX11_takeQuill_51_ok : dlX11_takeQuill_51.all (fun r => decide (decode cX11_takeQuill r.1 = .ok r.2)) = true := by decide +kernel
theorem dX11_takeQuill_51 : decode cX11_takeQuill 51 = .ok (.iload_n 2, 1) := dec_at dlX11_takeQuill_51_ok 0 rfl
theorem dX11_takeQuill_52 : decode cX11_takeQuill 52 = .ok (.goto 15, 3) := dec_at dlX11_takeQuill_51_ok 1 rfl
theorem dX11_takeQuill_55 : decode cX11_takeQuill 55 = .ok (.aload_n 0, 1) := dec_at dlX11_takeQuill_51_ok 2 rfl
theorem dX11_takeQuill_56 : decode cX11_takeQuill 56 = .ok (.aload_n 0, 1) := dec_at dlX11_takeQuill_51_ok 3 rfl
theorem dX11_takeQuill_57 : decode cX11_takeQuill 57 = .ok (.getfield 47, 3) := dec_at dlX11_takeQuill_51_ok 4 rfl
theorem dX11_takeQuill_60 : decode cX11_takeQuill 60 = .ok (.iload_n 1, 1) := dec_at dlX11_takeQuill_51_ok 5 rfl
theorem dX11_takeQuill_61 : decode cX11_takeQuill 61 = .ok (.iconst 0, 1) := dec_at dlX11_takeQuill_51_ok 6 rfl
theorem dX11_takeQuill_62 : decode cX11_takeQuill 62 = .ok (.bipush 9, 2) := dec_at dlX11_takeQuill_51_ok 7 rfl
theorem dX11_takeQuill_64 : decode cX11_takeQuill 64 = .ok (.invokevirtual 140, 3) := dec_at dlX11_takeQuill_51_ok 8 rfl
theorem dX11_takeQuill_67 : decode cX11_takeQuill 67 = .ok (.istore_n 2, 1) := dec_at dlX11_takeQuill_51_ok 9 rfl
theorem dX11_takeQuill_68 : decode cX11_takeQuill 68 = .ok (.iload_n 2, 1) := dec_at dlX11_takeQuill_51_ok 10 rfl
theorem dX11_takeQuill_69 : decode cX11_takeQuill 69 = .ok (.ifCond .le 7, 3) := dec_at dlX11_takeQuill_51_ok 11 rfl
theorem dX11_takeQuill_72 : decode cX11_takeQuill 72 = .ok (.iload_n 2, 1) := dec_at dlX11_takeQuill_51_ok 12 rfl
theorem dX11_takeQuill_73 : decode cX11_takeQuill 73 = .ok (.goto 15, 3) := dec_at dlX11_takeQuill_51_ok 13 rfl
theorem dX11_takeQuill_76 : decode cX11_takeQuill 76 = .ok (.aload_n 0, 1) := dec_at dlX11_takeQuill_51_ok 14 rfl
theorem dX11_takeQuill_77 : decode cX11_takeQuill 77 = .ok (.aload_n 0, 1) := dec_at dlX11_takeQuill_51_ok 15 rfl
theorem dX11_takeQuill_78 : decode cX11_takeQuill 78 = .ok (.getfield 50, 3) := dec_at dlX11_takeQuill_51_ok 16 rfl
theorem dX11_takeQuill_81 : decode cX11_takeQuill 81 = .ok (.iload_n 1, 1) := dec_at dlX11_takeQuill_51_ok 17 rfl
theorem dX11_takeQuill_82 : decode cX11_takeQuill 82 = .ok (.iconst 0, 1) := dec_at dlX11_takeQuill_51_ok 18 rfl
theorem dX11_takeQuill_83 : decode cX11_takeQuill 83 = .ok (.bipush 99, 2) := dec_at dlX11_takeQuill_51_ok 19 rfl
theorem dX11_takeQuill_85 : decode cX11_takeQuill 85 = .ok (.invokevirtual 140, 3) := dec_at dlX11_takeQuill_51_ok 20 rfl
theorem dX11_takeQuill_88 : decode cX11_takeQuill 88 = .ok (.istore_n 2, 1) := dec_at dlX11_takeQuill_51_ok 21 rfl
theorem dX11_takeQuill_89 : decode cX11_takeQuill 89 = .ok (.iload_n 2, 1) := dec_at dlX11_takeQuill_51_ok 22 rfl
theorem dX11_takeQuill_90 : decode cX11_takeQuill 90 = .ok (.ifCond .le 7, 3) := dec_at dlX11_takeQuill_51_ok 23 rfl
theorem dX11_takeQuill_93 : decode cX11_takeQuill 93 = .ok (.iload_n 2, 1) := dec_at dlX11_takeQuill_51_ok 24 rfl
theorem dX11_takeQuill_94 : decode cX11_takeQuill 94 = .ok (.goto 15, 3) := dec_at dlX11_takeQuill_51_ok 25 rfl
theorem dX11_takeQuill_97 : decode cX11_takeQuill 97 = .ok (.aload_n 0, 1) := dec_at dlX11_takeQuill_51_ok 26 rfl
theorem dX11_takeQuill_98 : decode cX11_takeQuill 98 = .ok (.aload_n 0, 1) := dec_at dlX11_takeQuill_51_ok 27 rfl
theorem dX11_takeQuill_99 : decode cX11_takeQuill 99 = .ok (.getfield 53, 3) := dec_at dlX11_takeQuill_51_ok 28 rfl
theorem dX11_takeQuill_102 : decode cX11_takeQuill 102 = .ok (.iload_n 1, 1) := dec_at dlX11_takeQuill_51_ok 29 rfl
theorem dX11_takeQuill_103 : decode cX11_takeQuill 103 = .ok (.iconst 1, 1) := dec_at dlX11_takeQuill_51_ok 30 rfl
noncomputable def dlX11_takeQuill_104 : List (Nat × Instr × Nat) := [(104, .bipush 9, 2), (106, .invokevirtual 140, 3), (109, .ireturn, 1)]
theorem dlX11_takeQuill_104_ok : dlX11_takeQuill_104.all (fun r => decide (decode cX11_takeQuill r.1 = .ok r.2)) = true := by decide +kernel
theorem dX11_takeQuill_104 : decode cX11_takeQuill 104 = .ok (.bipush 9, 2) := dec_at dlX11_takeQuill_104_ok 0 rfl
theorem dX11_takeQuill_106 : decode cX11_takeQuill 106 = .ok (.invokevirtual 140, 3) := dec_at dlX11_takeQuill_104_ok 1 rfl
theorem dX11_takeQuill_109 : decode cX11_takeQuill 109 = .ok (.ireturn, 1) := dec_at dlX11_takeQuill_104_ok 2 rfl
set_option maxRecDepth 20000 in
theorem ggX11_takeHand_X11_into : GoodIn wsX11_takeHand wsX11_into := goodIn_s _ [(9, 5), (8, 1), (14, 65)] rfl (by decide +kernel)
set_option maxRecDepth 20000 in
theorem gX11_takeHand_X11_into : GoodIn wsX11_takeHand (wsV RX11 140 RX11 yX11_into wsX11_into) := goodIn_app (goodIn_s _ [(5, 4)] rfl (by decide +kernel)) ggX11_takeHand_X11_into
noncomputable def dlX11_takeHand_0 : List (Nat × Instr × Nat) := [(0, .aload_n 0, 1), (1, .getfield 147, 3), (4, .istore_n 1, 1), (5, .aload_n 0, 1), (6, .dup, 1), (7, .getfield 147, 3), (10, .iconst 1, 1), (11, .iadd, 1), (12, .putfield 147, 3), (15, .aload_n 0, 1), (16, .aload_n 0, 1), (17, .getfield 56, 3), (20, .iload_n 1, 1), (21, .iconst 0, 1), (22, .iconst 1, 1), (23, .invokevirtual 140, 3), (26, .istore_n 2, 1), (27, .iload_n 2, 1), (28, .ifCond .le 7, 3), (31, .iload_n 2, 1), (32, .goto 15, 3), (35, .aload_n 0, 1), (36, .aload_n 0, 1), (37, .getfield 59, 3), (40, .iload_n 1, 1), (41, .iconst 1, 1), (42, .bipush 9, 2), (44, .invokevirtual 140, 3), (47, .istore_n 2, 1), (48, .iload_n 2, 1), (49, .ifCond .le 7, 3)]
theorem dlX11_takeHand_0_ok : dlX11_takeHand_0.all (fun r => decide (decode cX11_takeHand r.1 = .ok r.2)) = true := by decide +kernel
theorem dX11_takeHand_0 : decode cX11_takeHand 0 = .ok (.aload_n 0, 1) := dec_at dlX11_takeHand_0_ok 0 rfl
theorem dX11_takeHand_1 : decode cX11_takeHand 1 = .ok (.getfield 147, 3) := dec_at dlX11_takeHand_0_ok 1 rfl
theorem dX11_takeHand_4 : decode cX11_takeHand 4 = .ok (.istore_n 1, 1) := dec_at dlX11_takeHand_0_ok 2 rfl
theorem dX11_takeHand_5 : decode cX11_takeHand 5 = .ok (.aload_n 0, 1) := dec_at dlX11_takeHand_0_ok 3 rfl
theorem dX11_takeHand_6 : decode cX11_takeHand 6 = .ok (.dup, 1) := dec_at dlX11_takeHand_0_ok 4 rfl
theorem dX11_takeHand_7 : decode cX11_takeHand 7 = .ok (.getfield 147, 3) := dec_at dlX11_takeHand_0_ok 5 rfl
theorem dX11_takeHand_10 : decode cX11_takeHand 10 = .ok (.iconst 1, 1) := dec_at dlX11_takeHand_0_ok 6 rfl
theorem dX11_takeHand_11 : decode cX11_takeHand 11 = .ok (.iadd, 1) := dec_at dlX11_takeHand_0_ok 7 rfl
theorem dX11_takeHand_12 : decode cX11_takeHand 12 = .ok (.putfield 147, 3) := dec_at dlX11_takeHand_0_ok 8 rfl
theorem dX11_takeHand_15 : decode cX11_takeHand 15 = .ok (.aload_n 0, 1) := dec_at dlX11_takeHand_0_ok 9 rfl
theorem dX11_takeHand_16 : decode cX11_takeHand 16 = .ok (.aload_n 0, 1) := dec_at dlX11_takeHand_0_ok 10 rfl
theorem dX11_takeHand_17 : decode cX11_takeHand 17 = .ok (.getfield 56, 3) := dec_at dlX11_takeHand_0_ok 11 rfl
theorem dX11_takeHand_20 : decode cX11_takeHand 20 = .ok (.iload_n 1, 1) := dec_at dlX11_takeHand_0_ok 12 rfl
theorem dX11_takeHand_21 : decode cX11_takeHand 21 = .ok (.iconst 0, 1) := dec_at dlX11_takeHand_0_ok 13 rfl
theorem dX11_takeHand_22 : decode cX11_takeHand 22 = .ok (.iconst 1, 1) := dec_at dlX11_takeHand_0_ok 14 rfl
theorem dX11_takeHand_23 : decode cX11_takeHand 23 = .ok (.invokevirtual 140, 3) := dec_at dlX11_takeHand_0_ok 15 rfl
theorem dX11_takeHand_26 : decode cX11_takeHand 26 = .ok (.istore_n 2, 1) := dec_at dlX11_takeHand_0_ok 16 rfl
theorem dX11_takeHand_27 : decode cX11_takeHand 27 = .ok (.iload_n 2, 1) := dec_at dlX11_takeHand_0_ok 17 rfl
theorem dX11_takeHand_28 : decode cX11_takeHand 28 = .ok (.ifCond .le 7, 3) := dec_at dlX11_takeHand_0_ok 18 rfl
theorem dX11_takeHand_31 : decode cX11_takeHand 31 = .ok (.iload_n 2, 1) := dec_at dlX11_takeHand_0_ok 19 rfl
theorem dX11_takeHand_32 : decode cX11_takeHand 32 = .ok (.goto 15, 3) := dec_at dlX11_takeHand_0_ok 20 rfl
theorem dX11_takeHand_35 : decode cX11_takeHand 35 = .ok (.aload_n 0, 1) := dec_at dlX11_takeHand_0_ok 21 rfl
theorem dX11_takeHand_36 : decode cX11_takeHand 36 = .ok (.aload_n 0, 1) := dec_at dlX11_takeHand_0_ok 22 rfl
theorem dX11_takeHand_37 : decode cX11_takeHand 37 = .ok (.getfield 59, 3) := dec_at dlX11_takeHand_0_ok 23 rfl
theorem dX11_takeHand_40 : decode cX11_takeHand 40 = .ok (.iload_n 1, 1) := dec_at dlX11_takeHand_0_ok 24 rfl
theorem dX11_takeHand_41 : decode cX11_takeHand 41 = .ok (.iconst 1, 1) := dec_at dlX11_takeHand_0_ok 25 rfl
theorem dX11_takeHand_42 : decode cX11_takeHand 42 = .ok (.bipush 9, 2) := dec_at dlX11_takeHand_0_ok 26 rfl
theorem dX11_takeHand_44 : decode cX11_takeHand 44 = .ok (.invokevirtual 140, 3) := dec_at dlX11_takeHand_0_ok 27 rfl
theorem dX11_takeHand_47 : decode cX11_takeHand 47 = .ok (.istore_n 2, 1) := dec_at dlX11_takeHand_0_ok 28 rfl
theorem dX11_takeHand_48 : decode cX11_takeHand 48 = .ok (.iload_n 2, 1) := dec_at dlX11_takeHand_0_ok 29 rfl
theorem dX11_takeHand_49 : decode cX11_takeHand 49 = .ok (.ifCond .le 7, 3) := dec_at dlX11_takeHand_0_ok 30 rfl
noncomputable def dlX11_takeHand_52 : List (Nat × Instr × Nat) := [(52, .iload_n 2, 1), (53, .goto 15, 3), (56, .aload_n 0, 1), (57, .aload_n 0, 1), (58, .getfield 62, 3), (61, .iload_n 1, 1), (62, .iconst 1, 1), (63, .bipush 9, 2), (65, .invokevirtual 140, 3), (68, .ireturn, 1)]
theorem dlX11_takeHand_52_ok : dlX11_takeHand_52.all (fun r => decide (decode cX11_takeHand r.1 = .ok r.2)) = true := by decide +kernel
theorem dX11_takeHand_52 : decode cX11_takeHand 52 = .ok (.iload_n 2, 1) := dec_at dlX11_takeHand_52_ok 0 rfl
theorem dX11_takeHand_53 : decode cX11_takeHand 53 = .ok (.goto 15, 3) := dec_at dlX11_takeHand_52_ok 1 rfl
theorem dX11_takeHand_56 : decode cX11_takeHand 56 = .ok (.aload_n 0, 1) := dec_at dlX11_takeHand_52_ok 2 rfl
theorem dX11_takeHand_57 : decode cX11_takeHand 57 = .ok (.aload_n 0, 1) := dec_at dlX11_takeHand_52_ok 3 rfl
theorem dX11_takeHand_58 : decode cX11_takeHand 58 = .ok (.getfield 62, 3) := dec_at dlX11_takeHand_52_ok 4 rfl
theorem dX11_takeHand_61 : decode cX11_takeHand 61 = .ok (.iload_n 1, 1) := dec_at dlX11_takeHand_52_ok 5 rfl
theorem dX11_takeHand_62 : decode cX11_takeHand 62 = .ok (.iconst 1, 1) := dec_at dlX11_takeHand_52_ok 6 rfl
theorem dX11_takeHand_63 : decode cX11_takeHand 63 = .ok (.bipush 9, 2) := dec_at dlX11_takeHand_52_ok 7 rfl
theorem dX11_takeHand_65 : decode cX11_takeHand 65 = .ok (.invokevirtual 140, 3) := dec_at dlX11_takeHand_52_ok 8 rfl
theorem dX11_takeHand_68 : decode cX11_takeHand 68 = .ok (.ireturn, 1) := dec_at dlX11_takeHand_52_ok 9 rfl
set_option maxRecDepth 20000 in
theorem ggX11_takeClause_X11_here : GoodIn wsX11_takeClause wsX11_here := goodIn_s _ [(9, 1), (2, 1), (10, 2), (52, 46)] rfl (by decide +kernel)
set_option maxRecDepth 20000 in
theorem gX11_takeClause_X11_here : GoodIn wsX11_takeClause (wsV RX11 119 RX11 yX11_here wsX11_here) := goodIn_app (goodIn_s _ [(5, 4)] rfl (by decide +kernel)) ggX11_takeClause_X11_here
set_option maxRecDepth 20000 in
theorem ggX11_takeClause_X11_fails : GoodIn wsX11_takeClause wsX11_fails := goodIn_s _ [(15, 2), (52, 46)] rfl (by decide +kernel)
set_option maxRecDepth 20000 in
theorem gX11_takeClause_X11_fails : GoodIn wsX11_takeClause (wsV RX11 127 RX11 yX11_fails wsX11_fails) := goodIn_app (goodIn_s _ [(12, 3), (8, 1)] rfl (by decide +kernel)) ggX11_takeClause_X11_fails
set_option maxRecDepth 20000 in
theorem ggX11_takeClause_X11_takeOffice : GoodIn wsX11_takeClause wsX11_takeOffice := goodIn_s _ [(20, 1), (1, 1), (21, 3), (8, 1), (24, 8), (2, 1), (32, 1), (10, 2), (5, 3), (9, 1), (33, 3), (12, 5), (52, 46)] rfl (by decide +kernel)
set_option maxRecDepth 20000 in
theorem gX11_takeClause_X11_takeOffice : GoodIn wsX11_takeClause (wsV RX11 150 RX11 yX11_takeOffice wsX11_takeOffice) := goodIn_app (goodIn_s _ [(17, 3), (8, 1)] rfl (by decide +kernel)) ggX11_takeClause_X11_takeOffice
set_option maxRecDepth 20000 in
theorem ggX11_takeClause_X11_takeQuill : GoodIn wsX11_takeClause wsX11_takeQuill := goodIn_s _ [(39, 1), (3, 1), (40, 5), (21, 3), (8, 1), (24, 8), (2, 1), (32, 1), (10, 2), (5, 3), (9, 1), (33, 3), (12, 5), (52, 46)] rfl (by decide +kernel)
set_option maxRecDepth 20000 in
theorem gX11_takeClause_X11_takeQuill : GoodIn wsX11_takeClause (wsV RX11 153 RX11 yX11_takeQuill wsX11_takeQuill) := goodIn_app (goodIn_s _ [(36, 3), (8, 1)] rfl (by decide +kernel)) ggX11_takeClause_X11_takeQuill
set_option maxRecDepth 20000 in
theorem ggX11_takeClause_X11_takeHand : GoodIn wsX11_takeClause wsX11_takeHand := goodIn_s _ [(48, 1), (4, 1), (49, 3), (21, 3), (8, 1), (24, 8), (2, 1), (32, 1), (10, 2), (5, 3), (9, 1), (33, 3), (12, 5), (52, 46)] rfl (by decide +kernel)
set_option maxRecDepth 20000 in
theorem gX11_takeClause_X11_takeHand : GoodIn wsX11_takeClause (wsV RX11 156 RX11 yX11_takeHand wsX11_takeHand) := goodIn_app (goodIn_s _ [(45, 3), (8, 1)] rfl (by decide +kernel)) ggX11_takeClause_X11_takeHand
noncomputable def dlX11_takeClause_0 : List (Nat × Instr × Nat) := [(0, .aload_n 0, 1), (1, .invokevirtual 119, 3), (4, .istore_n 1, 1), (5, .iload_n 1, 1), (6, .bipush 111, 2), (8, .if_icmp .ne 7, 3), (11, .iconst 0, 1), (12, .goto 24, 3), (15, .iload_n 1, 1), (16, .bipush 113, 2), (18, .if_icmp .ne 7, 3), (21, .iconst 1, 1), (22, .goto 14, 3), (25, .iload_n 1, 1), (26, .bipush 104, 2), (28, .if_icmp .ne 7, 3), (31, .iconst 2, 1), (32, .goto 4, 3), (35, .iconst (-1), 1), (36, .istore_n 2, 1), (37, .iload_n 2, 1), (38, .ifCond .lt 16, 3), (41, .iload_n 2, 1), (42, .ifCond .le 22, 3), (45, .aload_n 0, 1), (46, .getfield 38, 3), (49, .iconst 0, 1), (50, .iaload, 1), (51, .ifCond .ne 13, 3), (54, .aload_n 0, 1), (55, .iconst 1, 1)]
theorem dlX11_takeClause_0_ok : dlX11_takeClause_0.all (fun r => decide (decode cX11_takeClause r.1 = .ok r.2)) = true := by decide +kernel
theorem dX11_takeClause_0 : decode cX11_takeClause 0 = .ok (.aload_n 0, 1) := dec_at dlX11_takeClause_0_ok 0 rfl
theorem dX11_takeClause_1 : decode cX11_takeClause 1 = .ok (.invokevirtual 119, 3) := dec_at dlX11_takeClause_0_ok 1 rfl
theorem dX11_takeClause_4 : decode cX11_takeClause 4 = .ok (.istore_n 1, 1) := dec_at dlX11_takeClause_0_ok 2 rfl
theorem dX11_takeClause_5 : decode cX11_takeClause 5 = .ok (.iload_n 1, 1) := dec_at dlX11_takeClause_0_ok 3 rfl
theorem dX11_takeClause_6 : decode cX11_takeClause 6 = .ok (.bipush 111, 2) := dec_at dlX11_takeClause_0_ok 4 rfl
theorem dX11_takeClause_8 : decode cX11_takeClause 8 = .ok (.if_icmp .ne 7, 3) := dec_at dlX11_takeClause_0_ok 5 rfl
theorem dX11_takeClause_11 : decode cX11_takeClause 11 = .ok (.iconst 0, 1) := dec_at dlX11_takeClause_0_ok 6 rfl
theorem dX11_takeClause_12 : decode cX11_takeClause 12 = .ok (.goto 24, 3) := dec_at dlX11_takeClause_0_ok 7 rfl
theorem dX11_takeClause_15 : decode cX11_takeClause 15 = .ok (.iload_n 1, 1) := dec_at dlX11_takeClause_0_ok 8 rfl
theorem dX11_takeClause_16 : decode cX11_takeClause 16 = .ok (.bipush 113, 2) := dec_at dlX11_takeClause_0_ok 9 rfl
theorem dX11_takeClause_18 : decode cX11_takeClause 18 = .ok (.if_icmp .ne 7, 3) := dec_at dlX11_takeClause_0_ok 10 rfl
theorem dX11_takeClause_21 : decode cX11_takeClause 21 = .ok (.iconst 1, 1) := dec_at dlX11_takeClause_0_ok 11 rfl
theorem dX11_takeClause_22 : decode cX11_takeClause 22 = .ok (.goto 14, 3) := dec_at dlX11_takeClause_0_ok 12 rfl
theorem dX11_takeClause_25 : decode cX11_takeClause 25 = .ok (.iload_n 1, 1) := dec_at dlX11_takeClause_0_ok 13 rfl
theorem dX11_takeClause_26 : decode cX11_takeClause 26 = .ok (.bipush 104, 2) := dec_at dlX11_takeClause_0_ok 14 rfl
theorem dX11_takeClause_28 : decode cX11_takeClause 28 = .ok (.if_icmp .ne 7, 3) := dec_at dlX11_takeClause_0_ok 15 rfl
theorem dX11_takeClause_31 : decode cX11_takeClause 31 = .ok (.iconst 2, 1) := dec_at dlX11_takeClause_0_ok 16 rfl
theorem dX11_takeClause_32 : decode cX11_takeClause 32 = .ok (.goto 4, 3) := dec_at dlX11_takeClause_0_ok 17 rfl
theorem dX11_takeClause_35 : decode cX11_takeClause 35 = .ok (.iconst (-1), 1) := dec_at dlX11_takeClause_0_ok 18 rfl
theorem dX11_takeClause_36 : decode cX11_takeClause 36 = .ok (.istore_n 2, 1) := dec_at dlX11_takeClause_0_ok 19 rfl
theorem dX11_takeClause_37 : decode cX11_takeClause 37 = .ok (.iload_n 2, 1) := dec_at dlX11_takeClause_0_ok 20 rfl
theorem dX11_takeClause_38 : decode cX11_takeClause 38 = .ok (.ifCond .lt 16, 3) := dec_at dlX11_takeClause_0_ok 21 rfl
theorem dX11_takeClause_41 : decode cX11_takeClause 41 = .ok (.iload_n 2, 1) := dec_at dlX11_takeClause_0_ok 22 rfl
theorem dX11_takeClause_42 : decode cX11_takeClause 42 = .ok (.ifCond .le 22, 3) := dec_at dlX11_takeClause_0_ok 23 rfl
theorem dX11_takeClause_45 : decode cX11_takeClause 45 = .ok (.aload_n 0, 1) := dec_at dlX11_takeClause_0_ok 24 rfl
theorem dX11_takeClause_46 : decode cX11_takeClause 46 = .ok (.getfield 38, 3) := dec_at dlX11_takeClause_0_ok 25 rfl
theorem dX11_takeClause_49 : decode cX11_takeClause 49 = .ok (.iconst 0, 1) := dec_at dlX11_takeClause_0_ok 26 rfl
theorem dX11_takeClause_50 : decode cX11_takeClause 50 = .ok (.iaload, 1) := dec_at dlX11_takeClause_0_ok 27 rfl
theorem dX11_takeClause_51 : decode cX11_takeClause 51 = .ok (.ifCond .ne 13, 3) := dec_at dlX11_takeClause_0_ok 28 rfl
theorem dX11_takeClause_54 : decode cX11_takeClause 54 = .ok (.aload_n 0, 1) := dec_at dlX11_takeClause_0_ok 29 rfl
theorem dX11_takeClause_55 : decode cX11_takeClause 55 = .ok (.iconst 1, 1) := dec_at dlX11_takeClause_0_ok 30 rfl
noncomputable def dlX11_takeClause_56 : List (Nat × Instr × Nat) := [(56, .aload_n 0, 1), (57, .getfield 116, 3), (60, .invokevirtual 127, 3), (63, .ireturn, 1), (64, .iload_n 2, 1), (65, .ifCond .ne 20, 3), (68, .aload_n 0, 1), (69, .getfield 38, 3), (72, .iconst 0, 1), (73, .iaload, 1), (74, .ifCond .le 7, 3), (77, .iconst 1, 1), (78, .goto 42, 3), (81, .iconst 0, 1), (82, .goto 38, 3), (85, .iload_n 2, 1), (86, .iconst 1, 1), (87, .if_icmp .ne 20, 3), (90, .aload_n 0, 1), (91, .getfield 144, 3), (94, .bipush 8, 2), (96, .if_icmp .ne 7, 3), (99, .iconst 1, 1), (100, .goto 20, 3), (103, .iconst 0, 1), (104, .goto 16, 3), (107, .aload_n 0, 1), (108, .getfield 147, 3), (111, .iconst 4, 1), (112, .if_icmp .ne 7, 3), (115, .iconst 1, 1)]
theorem dlX11_takeClause_56_ok : dlX11_takeClause_56.all (fun r => decide (decode cX11_takeClause r.1 = .ok r.2)) = true := by decide +kernel
theorem dX11_takeClause_56 : decode cX11_takeClause 56 = .ok (.aload_n 0, 1) := dec_at dlX11_takeClause_56_ok 0 rfl
theorem dX11_takeClause_57 : decode cX11_takeClause 57 = .ok (.getfield 116, 3) := dec_at dlX11_takeClause_56_ok 1 rfl
theorem dX11_takeClause_60 : decode cX11_takeClause 60 = .ok (.invokevirtual 127, 3) := dec_at dlX11_takeClause_56_ok 2 rfl
theorem dX11_takeClause_63 : decode cX11_takeClause 63 = .ok (.ireturn, 1) := dec_at dlX11_takeClause_56_ok 3 rfl
theorem dX11_takeClause_64 : decode cX11_takeClause 64 = .ok (.iload_n 2, 1) := dec_at dlX11_takeClause_56_ok 4 rfl
theorem dX11_takeClause_65 : decode cX11_takeClause 65 = .ok (.ifCond .ne 20, 3) := dec_at dlX11_takeClause_56_ok 5 rfl
theorem dX11_takeClause_68 : decode cX11_takeClause 68 = .ok (.aload_n 0, 1) := dec_at dlX11_takeClause_56_ok 6 rfl
theorem dX11_takeClause_69 : decode cX11_takeClause 69 = .ok (.getfield 38, 3) := dec_at dlX11_takeClause_56_ok 7 rfl
theorem dX11_takeClause_72 : decode cX11_takeClause 72 = .ok (.iconst 0, 1) := dec_at dlX11_takeClause_56_ok 8 rfl
theorem dX11_takeClause_73 : decode cX11_takeClause 73 = .ok (.iaload, 1) := dec_at dlX11_takeClause_56_ok 9 rfl
theorem dX11_takeClause_74 : decode cX11_takeClause 74 = .ok (.ifCond .le 7, 3) := dec_at dlX11_takeClause_56_ok 10 rfl
theorem dX11_takeClause_77 : decode cX11_takeClause 77 = .ok (.iconst 1, 1) := dec_at dlX11_takeClause_56_ok 11 rfl
theorem dX11_takeClause_78 : decode cX11_takeClause 78 = .ok (.goto 42, 3) := dec_at dlX11_takeClause_56_ok 12 rfl
theorem dX11_takeClause_81 : decode cX11_takeClause 81 = .ok (.iconst 0, 1) := dec_at dlX11_takeClause_56_ok 13 rfl
theorem dX11_takeClause_82 : decode cX11_takeClause 82 = .ok (.goto 38, 3) := dec_at dlX11_takeClause_56_ok 14 rfl
theorem dX11_takeClause_85 : decode cX11_takeClause 85 = .ok (.iload_n 2, 1) := dec_at dlX11_takeClause_56_ok 15 rfl
theorem dX11_takeClause_86 : decode cX11_takeClause 86 = .ok (.iconst 1, 1) := dec_at dlX11_takeClause_56_ok 16 rfl
theorem dX11_takeClause_87 : decode cX11_takeClause 87 = .ok (.if_icmp .ne 20, 3) := dec_at dlX11_takeClause_56_ok 17 rfl
theorem dX11_takeClause_90 : decode cX11_takeClause 90 = .ok (.aload_n 0, 1) := dec_at dlX11_takeClause_56_ok 18 rfl
theorem dX11_takeClause_91 : decode cX11_takeClause 91 = .ok (.getfield 144, 3) := dec_at dlX11_takeClause_56_ok 19 rfl
theorem dX11_takeClause_94 : decode cX11_takeClause 94 = .ok (.bipush 8, 2) := dec_at dlX11_takeClause_56_ok 20 rfl
theorem dX11_takeClause_96 : decode cX11_takeClause 96 = .ok (.if_icmp .ne 7, 3) := dec_at dlX11_takeClause_56_ok 21 rfl
theorem dX11_takeClause_99 : decode cX11_takeClause 99 = .ok (.iconst 1, 1) := dec_at dlX11_takeClause_56_ok 22 rfl
theorem dX11_takeClause_100 : decode cX11_takeClause 100 = .ok (.goto 20, 3) := dec_at dlX11_takeClause_56_ok 23 rfl
theorem dX11_takeClause_103 : decode cX11_takeClause 103 = .ok (.iconst 0, 1) := dec_at dlX11_takeClause_56_ok 24 rfl
theorem dX11_takeClause_104 : decode cX11_takeClause 104 = .ok (.goto 16, 3) := dec_at dlX11_takeClause_56_ok 25 rfl
theorem dX11_takeClause_107 : decode cX11_takeClause 107 = .ok (.aload_n 0, 1) := dec_at dlX11_takeClause_56_ok 26 rfl
theorem dX11_takeClause_108 : decode cX11_takeClause 108 = .ok (.getfield 147, 3) := dec_at dlX11_takeClause_56_ok 27 rfl
theorem dX11_takeClause_111 : decode cX11_takeClause 111 = .ok (.iconst 4, 1) := dec_at dlX11_takeClause_56_ok 28 rfl
theorem dX11_takeClause_112 : decode cX11_takeClause 112 = .ok (.if_icmp .ne 7, 3) := dec_at dlX11_takeClause_56_ok 29 rfl
theorem dX11_takeClause_115 : decode cX11_takeClause 115 = .ok (.iconst 1, 1) := dec_at dlX11_takeClause_56_ok 30 rfl
noncomputable def dlX11_takeClause_116 : List (Nat × Instr × Nat) := [(116, .goto 4, 3), (119, .iconst 0, 1), (120, .istore_n 3, 1), (121, .iload_n 3, 1), (122, .ifCond .eq 13, 3), (125, .aload_n 0, 1), (126, .iconst 3, 1), (127, .aload_n 0, 1), (128, .getfield 116, 3), (131, .invokevirtual 127, 3), (134, .ireturn, 1), (135, .aload_n 0, 1), (136, .dup, 1), (137, .getfield 116, 3), (140, .iconst 1, 1), (141, .iadd, 1), (142, .putfield 116, 3), (145, .iload_n 2, 1), (146, .ifCond .ne 10, 3), (149, .aload_n 0, 1), (150, .invokevirtual 150, 3), (153, .goto 19, 3), (156, .iload_n 2, 1), (157, .iconst 1, 1), (158, .if_icmp .ne 10, 3), (161, .aload_n 0, 1), (162, .invokevirtual 153, 3), (165, .goto 7, 3), (168, .aload_n 0, 1), (169, .invokevirtual 156, 3), (172, .istore 4, 2)]
theorem dlX11_takeClause_116_ok : dlX11_takeClause_116.all (fun r => decide (decode cX11_takeClause r.1 = .ok r.2)) = true := by decide +kernel
theorem dX11_takeClause_116 : decode cX11_takeClause 116 = .ok (.goto 4, 3) := dec_at dlX11_takeClause_116_ok 0 rfl
theorem dX11_takeClause_119 : decode cX11_takeClause 119 = .ok (.iconst 0, 1) := dec_at dlX11_takeClause_116_ok 1 rfl
theorem dX11_takeClause_120 : decode cX11_takeClause 120 = .ok (.istore_n 3, 1) := dec_at dlX11_takeClause_116_ok 2 rfl
theorem dX11_takeClause_121 : decode cX11_takeClause 121 = .ok (.iload_n 3, 1) := dec_at dlX11_takeClause_116_ok 3 rfl
theorem dX11_takeClause_122 : decode cX11_takeClause 122 = .ok (.ifCond .eq 13, 3) := dec_at dlX11_takeClause_116_ok 4 rfl
theorem dX11_takeClause_125 : decode cX11_takeClause 125 = .ok (.aload_n 0, 1) := dec_at dlX11_takeClause_116_ok 5 rfl
theorem dX11_takeClause_126 : decode cX11_takeClause 126 = .ok (.iconst 3, 1) := dec_at dlX11_takeClause_116_ok 6 rfl
theorem dX11_takeClause_127 : decode cX11_takeClause 127 = .ok (.aload_n 0, 1) := dec_at dlX11_takeClause_116_ok 7 rfl
theorem dX11_takeClause_128 : decode cX11_takeClause 128 = .ok (.getfield 116, 3) := dec_at dlX11_takeClause_116_ok 8 rfl
theorem dX11_takeClause_131 : decode cX11_takeClause 131 = .ok (.invokevirtual 127, 3) := dec_at dlX11_takeClause_116_ok 9 rfl
theorem dX11_takeClause_134 : decode cX11_takeClause 134 = .ok (.ireturn, 1) := dec_at dlX11_takeClause_116_ok 10 rfl
theorem dX11_takeClause_135 : decode cX11_takeClause 135 = .ok (.aload_n 0, 1) := dec_at dlX11_takeClause_116_ok 11 rfl
theorem dX11_takeClause_136 : decode cX11_takeClause 136 = .ok (.dup, 1) := dec_at dlX11_takeClause_116_ok 12 rfl
theorem dX11_takeClause_137 : decode cX11_takeClause 137 = .ok (.getfield 116, 3) := dec_at dlX11_takeClause_116_ok 13 rfl
theorem dX11_takeClause_140 : decode cX11_takeClause 140 = .ok (.iconst 1, 1) := dec_at dlX11_takeClause_116_ok 14 rfl
theorem dX11_takeClause_141 : decode cX11_takeClause 141 = .ok (.iadd, 1) := dec_at dlX11_takeClause_116_ok 15 rfl
theorem dX11_takeClause_142 : decode cX11_takeClause 142 = .ok (.putfield 116, 3) := dec_at dlX11_takeClause_116_ok 16 rfl
theorem dX11_takeClause_145 : decode cX11_takeClause 145 = .ok (.iload_n 2, 1) := dec_at dlX11_takeClause_116_ok 17 rfl
theorem dX11_takeClause_146 : decode cX11_takeClause 146 = .ok (.ifCond .ne 10, 3) := dec_at dlX11_takeClause_116_ok 18 rfl
theorem dX11_takeClause_149 : decode cX11_takeClause 149 = .ok (.aload_n 0, 1) := dec_at dlX11_takeClause_116_ok 19 rfl
theorem dX11_takeClause_150 : decode cX11_takeClause 150 = .ok (.invokevirtual 150, 3) := dec_at dlX11_takeClause_116_ok 20 rfl
theorem dX11_takeClause_153 : decode cX11_takeClause 153 = .ok (.goto 19, 3) := dec_at dlX11_takeClause_116_ok 21 rfl
theorem dX11_takeClause_156 : decode cX11_takeClause 156 = .ok (.iload_n 2, 1) := dec_at dlX11_takeClause_116_ok 22 rfl
theorem dX11_takeClause_157 : decode cX11_takeClause 157 = .ok (.iconst 1, 1) := dec_at dlX11_takeClause_116_ok 23 rfl
theorem dX11_takeClause_158 : decode cX11_takeClause 158 = .ok (.if_icmp .ne 10, 3) := dec_at dlX11_takeClause_116_ok 24 rfl
theorem dX11_takeClause_161 : decode cX11_takeClause 161 = .ok (.aload_n 0, 1) := dec_at dlX11_takeClause_116_ok 25 rfl
theorem dX11_takeClause_162 : decode cX11_takeClause 162 = .ok (.invokevirtual 153, 3) := dec_at dlX11_takeClause_116_ok 26 rfl
theorem dX11_takeClause_165 : decode cX11_takeClause 165 = .ok (.goto 7, 3) := dec_at dlX11_takeClause_116_ok 27 rfl
theorem dX11_takeClause_168 : decode cX11_takeClause 168 = .ok (.aload_n 0, 1) := dec_at dlX11_takeClause_116_ok 28 rfl
theorem dX11_takeClause_169 : decode cX11_takeClause 169 = .ok (.invokevirtual 156, 3) := dec_at dlX11_takeClause_116_ok 29 rfl
theorem dX11_takeClause_172 : decode cX11_takeClause 172 = .ok (.istore 4, 2) := dec_at dlX11_takeClause_116_ok 30 rfl
noncomputable def dlX11_takeClause_174 : List (Nat × Instr × Nat) := [(174, .iload 4, 2), (176, .ifCond .ne 22, 3), (179, .aload_n 0, 1), (180, .invokevirtual 119, 3), (183, .bipush 59, 2), (185, .if_icmp .eq 13, 3), (188, .aload_n 0, 1), (189, .iconst 1, 1), (190, .aload_n 0, 1), (191, .getfield 116, 3), (194, .invokevirtual 127, 3), (197, .ireturn, 1), (198, .aload_n 0, 1), (199, .dup, 1), (200, .getfield 116, 3), (203, .iconst 1, 1), (204, .iadd, 1), (205, .putfield 116, 3), (208, .iload 4, 2), (210, .ireturn, 1)]
theorem dlX11_takeClause_174_ok : dlX11_takeClause_174.all (fun r => decide (decode cX11_takeClause r.1 = .ok r.2)) = true := by decide +kernel
theorem dX11_takeClause_174 : decode cX11_takeClause 174 = .ok (.iload 4, 2) := dec_at dlX11_takeClause_174_ok 0 rfl
theorem dX11_takeClause_176 : decode cX11_takeClause 176 = .ok (.ifCond .ne 22, 3) := dec_at dlX11_takeClause_174_ok 1 rfl
theorem dX11_takeClause_179 : decode cX11_takeClause 179 = .ok (.aload_n 0, 1) := dec_at dlX11_takeClause_174_ok 2 rfl
theorem dX11_takeClause_180 : decode cX11_takeClause 180 = .ok (.invokevirtual 119, 3) := dec_at dlX11_takeClause_174_ok 3 rfl
theorem dX11_takeClause_183 : decode cX11_takeClause 183 = .ok (.bipush 59, 2) := dec_at dlX11_takeClause_174_ok 4 rfl
theorem dX11_takeClause_185 : decode cX11_takeClause 185 = .ok (.if_icmp .eq 13, 3) := dec_at dlX11_takeClause_174_ok 5 rfl
theorem dX11_takeClause_188 : decode cX11_takeClause 188 = .ok (.aload_n 0, 1) := dec_at dlX11_takeClause_174_ok 6 rfl
theorem dX11_takeClause_189 : decode cX11_takeClause 189 = .ok (.iconst 1, 1) := dec_at dlX11_takeClause_174_ok 7 rfl
theorem dX11_takeClause_190 : decode cX11_takeClause 190 = .ok (.aload_n 0, 1) := dec_at dlX11_takeClause_174_ok 8 rfl
theorem dX11_takeClause_191 : decode cX11_takeClause 191 = .ok (.getfield 116, 3) := dec_at dlX11_takeClause_174_ok 9 rfl
theorem dX11_takeClause_194 : decode cX11_takeClause 194 = .ok (.invokevirtual 127, 3) := dec_at dlX11_takeClause_174_ok 10 rfl
theorem dX11_takeClause_197 : decode cX11_takeClause 197 = .ok (.ireturn, 1) := dec_at dlX11_takeClause_174_ok 11 rfl
theorem dX11_takeClause_198 : decode cX11_takeClause 198 = .ok (.aload_n 0, 1) := dec_at dlX11_takeClause_174_ok 12 rfl
theorem dX11_takeClause_199 : decode cX11_takeClause 199 = .ok (.dup, 1) := dec_at dlX11_takeClause_174_ok 13 rfl
theorem dX11_takeClause_200 : decode cX11_takeClause 200 = .ok (.getfield 116, 3) := dec_at dlX11_takeClause_174_ok 14 rfl
theorem dX11_takeClause_203 : decode cX11_takeClause 203 = .ok (.iconst 1, 1) := dec_at dlX11_takeClause_174_ok 15 rfl
theorem dX11_takeClause_204 : decode cX11_takeClause 204 = .ok (.iadd, 1) := dec_at dlX11_takeClause_174_ok 16 rfl
theorem dX11_takeClause_205 : decode cX11_takeClause 205 = .ok (.putfield 116, 3) := dec_at dlX11_takeClause_174_ok 17 rfl
theorem dX11_takeClause_208 : decode cX11_takeClause 208 = .ok (.iload 4, 2) := dec_at dlX11_takeClause_174_ok 18 rfl
theorem dX11_takeClause_210 : decode cX11_takeClause 210 = .ok (.ireturn, 1) := dec_at dlX11_takeClause_174_ok 19 rfl
noncomputable def dlX11_takeRead_0 : List (Nat × Instr × Nat) := [(0, .aload_n 0, 1), (1, .aload_n 0, 1), (2, .getfield 38, 3), (5, .iconst 0, 1), (6, .iaload, 1), (7, .putfield 96, 3), (10, .aload_n 0, 1), (11, .aload_n 0, 1), (12, .getfield 38, 3), (15, .iconst 1, 1), (16, .iaload, 1), (17, .putfield 159, 3), (20, .aload_n 0, 1), (21, .aload_n 0, 1), (22, .getfield 144, 3), (25, .putfield 99, 3), (28, .aload_n 0, 1), (29, .aload_n 0, 1), (30, .getfield 147, 3), (33, .putfield 106, 3), (36, .iconst 0, 1), (37, .istore_n 1, 1), (38, .iload_n 1, 1), (39, .bipush 34, 2), (41, .if_icmp .ge 16, 3), (44, .aload_n 0, 1), (45, .getfield 28, 3), (48, .iload_n 1, 1), (49, .iconst 0, 1), (50, .iastore, 1), (51, .iinc 1 1, 3)]
theorem dlX11_takeRead_0_ok : dlX11_takeRead_0.all (fun r => decide (decode cX11_takeRead r.1 = .ok r.2)) = true := by decide +kernel
theorem dX11_takeRead_0 : decode cX11_takeRead 0 = .ok (.aload_n 0, 1) := dec_at dlX11_takeRead_0_ok 0 rfl
theorem dX11_takeRead_1 : decode cX11_takeRead 1 = .ok (.aload_n 0, 1) := dec_at dlX11_takeRead_0_ok 1 rfl
theorem dX11_takeRead_2 : decode cX11_takeRead 2 = .ok (.getfield 38, 3) := dec_at dlX11_takeRead_0_ok 2 rfl
theorem dX11_takeRead_5 : decode cX11_takeRead 5 = .ok (.iconst 0, 1) := dec_at dlX11_takeRead_0_ok 3 rfl
theorem dX11_takeRead_6 : decode cX11_takeRead 6 = .ok (.iaload, 1) := dec_at dlX11_takeRead_0_ok 4 rfl
theorem dX11_takeRead_7 : decode cX11_takeRead 7 = .ok (.putfield 96, 3) := dec_at dlX11_takeRead_0_ok 5 rfl
theorem dX11_takeRead_10 : decode cX11_takeRead 10 = .ok (.aload_n 0, 1) := dec_at dlX11_takeRead_0_ok 6 rfl
theorem dX11_takeRead_11 : decode cX11_takeRead 11 = .ok (.aload_n 0, 1) := dec_at dlX11_takeRead_0_ok 7 rfl
theorem dX11_takeRead_12 : decode cX11_takeRead 12 = .ok (.getfield 38, 3) := dec_at dlX11_takeRead_0_ok 8 rfl
theorem dX11_takeRead_15 : decode cX11_takeRead 15 = .ok (.iconst 1, 1) := dec_at dlX11_takeRead_0_ok 9 rfl
theorem dX11_takeRead_16 : decode cX11_takeRead 16 = .ok (.iaload, 1) := dec_at dlX11_takeRead_0_ok 10 rfl
theorem dX11_takeRead_17 : decode cX11_takeRead 17 = .ok (.putfield 159, 3) := dec_at dlX11_takeRead_0_ok 11 rfl
theorem dX11_takeRead_20 : decode cX11_takeRead 20 = .ok (.aload_n 0, 1) := dec_at dlX11_takeRead_0_ok 12 rfl
theorem dX11_takeRead_21 : decode cX11_takeRead 21 = .ok (.aload_n 0, 1) := dec_at dlX11_takeRead_0_ok 13 rfl
theorem dX11_takeRead_22 : decode cX11_takeRead 22 = .ok (.getfield 144, 3) := dec_at dlX11_takeRead_0_ok 14 rfl
theorem dX11_takeRead_25 : decode cX11_takeRead 25 = .ok (.putfield 99, 3) := dec_at dlX11_takeRead_0_ok 15 rfl
theorem dX11_takeRead_28 : decode cX11_takeRead 28 = .ok (.aload_n 0, 1) := dec_at dlX11_takeRead_0_ok 16 rfl
theorem dX11_takeRead_29 : decode cX11_takeRead 29 = .ok (.aload_n 0, 1) := dec_at dlX11_takeRead_0_ok 17 rfl
theorem dX11_takeRead_30 : decode cX11_takeRead 30 = .ok (.getfield 147, 3) := dec_at dlX11_takeRead_0_ok 18 rfl
theorem dX11_takeRead_33 : decode cX11_takeRead 33 = .ok (.putfield 106, 3) := dec_at dlX11_takeRead_0_ok 19 rfl
theorem dX11_takeRead_36 : decode cX11_takeRead 36 = .ok (.iconst 0, 1) := dec_at dlX11_takeRead_0_ok 20 rfl
theorem dX11_takeRead_37 : decode cX11_takeRead 37 = .ok (.istore_n 1, 1) := dec_at dlX11_takeRead_0_ok 21 rfl
theorem dX11_takeRead_38 : decode cX11_takeRead 38 = .ok (.iload_n 1, 1) := dec_at dlX11_takeRead_0_ok 22 rfl
theorem dX11_takeRead_39 : decode cX11_takeRead 39 = .ok (.bipush 34, 2) := dec_at dlX11_takeRead_0_ok 23 rfl
theorem dX11_takeRead_41 : decode cX11_takeRead 41 = .ok (.if_icmp .ge 16, 3) := dec_at dlX11_takeRead_0_ok 24 rfl
theorem dX11_takeRead_44 : decode cX11_takeRead 44 = .ok (.aload_n 0, 1) := dec_at dlX11_takeRead_0_ok 25 rfl
theorem dX11_takeRead_45 : decode cX11_takeRead 45 = .ok (.getfield 28, 3) := dec_at dlX11_takeRead_0_ok 26 rfl
theorem dX11_takeRead_48 : decode cX11_takeRead 48 = .ok (.iload_n 1, 1) := dec_at dlX11_takeRead_0_ok 27 rfl
theorem dX11_takeRead_49 : decode cX11_takeRead 49 = .ok (.iconst 0, 1) := dec_at dlX11_takeRead_0_ok 28 rfl
theorem dX11_takeRead_50 : decode cX11_takeRead 50 = .ok (.iastore, 1) := dec_at dlX11_takeRead_0_ok 29 rfl
theorem dX11_takeRead_51 : decode cX11_takeRead 51 = .ok (.iinc 1 1, 3) := dec_at dlX11_takeRead_0_ok 30 rfl
noncomputable def dlX11_takeRead_54 : List (Nat × Instr × Nat) := [(54, .goto (-16), 3), (57, .iconst 0, 1), (58, .istore_n 1, 1), (59, .iload_n 1, 1), (60, .aload_n 0, 1), (61, .getfield 99, 3), (64, .if_icmp .ge 72, 3), (67, .aload_n 0, 1), (68, .getfield 7, 3), (71, .iload_n 1, 1), (72, .aload_n 0, 1), (73, .getfield 41, 3), (76, .iload_n 1, 1), (77, .iaload, 1), (78, .iastore, 1), (79, .aload_n 0, 1), (80, .getfield 13, 3), (83, .iload_n 1, 1), (84, .aload_n 0, 1), (85, .getfield 44, 3), (88, .iload_n 1, 1), (89, .iaload, 1), (90, .iastore, 1), (91, .aload_n 0, 1), (92, .getfield 16, 3), (95, .iload_n 1, 1), (96, .aload_n 0, 1), (97, .getfield 47, 3), (100, .iload_n 1, 1), (101, .iaload, 1), (102, .iastore, 1)]
theorem dlX11_takeRead_54_ok : dlX11_takeRead_54.all (fun r => decide (decode cX11_takeRead r.1 = .ok r.2)) = true := by decide +kernel
theorem dX11_takeRead_54 : decode cX11_takeRead 54 = .ok (.goto (-16), 3) := dec_at dlX11_takeRead_54_ok 0 rfl
theorem dX11_takeRead_57 : decode cX11_takeRead 57 = .ok (.iconst 0, 1) := dec_at dlX11_takeRead_54_ok 1 rfl
theorem dX11_takeRead_58 : decode cX11_takeRead 58 = .ok (.istore_n 1, 1) := dec_at dlX11_takeRead_54_ok 2 rfl
theorem dX11_takeRead_59 : decode cX11_takeRead 59 = .ok (.iload_n 1, 1) := dec_at dlX11_takeRead_54_ok 3 rfl
theorem dX11_takeRead_60 : decode cX11_takeRead 60 = .ok (.aload_n 0, 1) := dec_at dlX11_takeRead_54_ok 4 rfl
theorem dX11_takeRead_61 : decode cX11_takeRead 61 = .ok (.getfield 99, 3) := dec_at dlX11_takeRead_54_ok 5 rfl
theorem dX11_takeRead_64 : decode cX11_takeRead 64 = .ok (.if_icmp .ge 72, 3) := dec_at dlX11_takeRead_54_ok 6 rfl
theorem dX11_takeRead_67 : decode cX11_takeRead 67 = .ok (.aload_n 0, 1) := dec_at dlX11_takeRead_54_ok 7 rfl
theorem dX11_takeRead_68 : decode cX11_takeRead 68 = .ok (.getfield 7, 3) := dec_at dlX11_takeRead_54_ok 8 rfl
theorem dX11_takeRead_71 : decode cX11_takeRead 71 = .ok (.iload_n 1, 1) := dec_at dlX11_takeRead_54_ok 9 rfl
theorem dX11_takeRead_72 : decode cX11_takeRead 72 = .ok (.aload_n 0, 1) := dec_at dlX11_takeRead_54_ok 10 rfl
theorem dX11_takeRead_73 : decode cX11_takeRead 73 = .ok (.getfield 41, 3) := dec_at dlX11_takeRead_54_ok 11 rfl
theorem dX11_takeRead_76 : decode cX11_takeRead 76 = .ok (.iload_n 1, 1) := dec_at dlX11_takeRead_54_ok 12 rfl
theorem dX11_takeRead_77 : decode cX11_takeRead 77 = .ok (.iaload, 1) := dec_at dlX11_takeRead_54_ok 13 rfl
theorem dX11_takeRead_78 : decode cX11_takeRead 78 = .ok (.iastore, 1) := dec_at dlX11_takeRead_54_ok 14 rfl
theorem dX11_takeRead_79 : decode cX11_takeRead 79 = .ok (.aload_n 0, 1) := dec_at dlX11_takeRead_54_ok 15 rfl
theorem dX11_takeRead_80 : decode cX11_takeRead 80 = .ok (.getfield 13, 3) := dec_at dlX11_takeRead_54_ok 16 rfl
theorem dX11_takeRead_83 : decode cX11_takeRead 83 = .ok (.iload_n 1, 1) := dec_at dlX11_takeRead_54_ok 17 rfl
theorem dX11_takeRead_84 : decode cX11_takeRead 84 = .ok (.aload_n 0, 1) := dec_at dlX11_takeRead_54_ok 18 rfl
theorem dX11_takeRead_85 : decode cX11_takeRead 85 = .ok (.getfield 44, 3) := dec_at dlX11_takeRead_54_ok 19 rfl
theorem dX11_takeRead_88 : decode cX11_takeRead 88 = .ok (.iload_n 1, 1) := dec_at dlX11_takeRead_54_ok 20 rfl
theorem dX11_takeRead_89 : decode cX11_takeRead 89 = .ok (.iaload, 1) := dec_at dlX11_takeRead_54_ok 21 rfl
theorem dX11_takeRead_90 : decode cX11_takeRead 90 = .ok (.iastore, 1) := dec_at dlX11_takeRead_54_ok 22 rfl
theorem dX11_takeRead_91 : decode cX11_takeRead 91 = .ok (.aload_n 0, 1) := dec_at dlX11_takeRead_54_ok 23 rfl
theorem dX11_takeRead_92 : decode cX11_takeRead 92 = .ok (.getfield 16, 3) := dec_at dlX11_takeRead_54_ok 24 rfl
theorem dX11_takeRead_95 : decode cX11_takeRead 95 = .ok (.iload_n 1, 1) := dec_at dlX11_takeRead_54_ok 25 rfl
theorem dX11_takeRead_96 : decode cX11_takeRead 96 = .ok (.aload_n 0, 1) := dec_at dlX11_takeRead_54_ok 26 rfl
theorem dX11_takeRead_97 : decode cX11_takeRead 97 = .ok (.getfield 47, 3) := dec_at dlX11_takeRead_54_ok 27 rfl
theorem dX11_takeRead_100 : decode cX11_takeRead 100 = .ok (.iload_n 1, 1) := dec_at dlX11_takeRead_54_ok 28 rfl
theorem dX11_takeRead_101 : decode cX11_takeRead 101 = .ok (.iaload, 1) := dec_at dlX11_takeRead_54_ok 29 rfl
theorem dX11_takeRead_102 : decode cX11_takeRead 102 = .ok (.iastore, 1) := dec_at dlX11_takeRead_54_ok 30 rfl
noncomputable def dlX11_takeRead_103 : List (Nat × Instr × Nat) := [(103, .aload_n 0, 1), (104, .getfield 28, 3), (107, .iload_n 1, 1), (108, .aload_n 0, 1), (109, .getfield 50, 3), (112, .iload_n 1, 1), (113, .iaload, 1), (114, .iastore, 1), (115, .aload_n 0, 1), (116, .getfield 28, 3), (119, .bipush 8, 2), (121, .iload_n 1, 1), (122, .iadd, 1), (123, .aload_n 0, 1), (124, .getfield 53, 3), (127, .iload_n 1, 1), (128, .iaload, 1), (129, .iastore, 1), (130, .iinc 1 1, 3), (133, .goto (-74), 3), (136, .iconst 0, 1), (137, .istore_n 1, 1), (138, .iload_n 1, 1), (139, .aload_n 0, 1), (140, .getfield 106, 3), (143, .if_icmp .ge 45, 3), (146, .aload_n 0, 1), (147, .getfield 19, 3), (150, .iload_n 1, 1), (151, .aload_n 0, 1), (152, .getfield 56, 3)]
theorem dlX11_takeRead_103_ok : dlX11_takeRead_103.all (fun r => decide (decode cX11_takeRead r.1 = .ok r.2)) = true := by decide +kernel
theorem dX11_takeRead_103 : decode cX11_takeRead 103 = .ok (.aload_n 0, 1) := dec_at dlX11_takeRead_103_ok 0 rfl
theorem dX11_takeRead_104 : decode cX11_takeRead 104 = .ok (.getfield 28, 3) := dec_at dlX11_takeRead_103_ok 1 rfl
theorem dX11_takeRead_107 : decode cX11_takeRead 107 = .ok (.iload_n 1, 1) := dec_at dlX11_takeRead_103_ok 2 rfl
theorem dX11_takeRead_108 : decode cX11_takeRead 108 = .ok (.aload_n 0, 1) := dec_at dlX11_takeRead_103_ok 3 rfl
theorem dX11_takeRead_109 : decode cX11_takeRead 109 = .ok (.getfield 50, 3) := dec_at dlX11_takeRead_103_ok 4 rfl
theorem dX11_takeRead_112 : decode cX11_takeRead 112 = .ok (.iload_n 1, 1) := dec_at dlX11_takeRead_103_ok 5 rfl
theorem dX11_takeRead_113 : decode cX11_takeRead 113 = .ok (.iaload, 1) := dec_at dlX11_takeRead_103_ok 6 rfl
theorem dX11_takeRead_114 : decode cX11_takeRead 114 = .ok (.iastore, 1) := dec_at dlX11_takeRead_103_ok 7 rfl
theorem dX11_takeRead_115 : decode cX11_takeRead 115 = .ok (.aload_n 0, 1) := dec_at dlX11_takeRead_103_ok 8 rfl
theorem dX11_takeRead_116 : decode cX11_takeRead 116 = .ok (.getfield 28, 3) := dec_at dlX11_takeRead_103_ok 9 rfl
theorem dX11_takeRead_119 : decode cX11_takeRead 119 = .ok (.bipush 8, 2) := dec_at dlX11_takeRead_103_ok 10 rfl
theorem dX11_takeRead_121 : decode cX11_takeRead 121 = .ok (.iload_n 1, 1) := dec_at dlX11_takeRead_103_ok 11 rfl
theorem dX11_takeRead_122 : decode cX11_takeRead 122 = .ok (.iadd, 1) := dec_at dlX11_takeRead_103_ok 12 rfl
theorem dX11_takeRead_123 : decode cX11_takeRead 123 = .ok (.aload_n 0, 1) := dec_at dlX11_takeRead_103_ok 13 rfl
theorem dX11_takeRead_124 : decode cX11_takeRead 124 = .ok (.getfield 53, 3) := dec_at dlX11_takeRead_103_ok 14 rfl
theorem dX11_takeRead_127 : decode cX11_takeRead 127 = .ok (.iload_n 1, 1) := dec_at dlX11_takeRead_103_ok 15 rfl
theorem dX11_takeRead_128 : decode cX11_takeRead 128 = .ok (.iaload, 1) := dec_at dlX11_takeRead_103_ok 16 rfl
theorem dX11_takeRead_129 : decode cX11_takeRead 129 = .ok (.iastore, 1) := dec_at dlX11_takeRead_103_ok 17 rfl
theorem dX11_takeRead_130 : decode cX11_takeRead 130 = .ok (.iinc 1 1, 3) := dec_at dlX11_takeRead_103_ok 18 rfl
theorem dX11_takeRead_133 : decode cX11_takeRead 133 = .ok (.goto (-74), 3) := dec_at dlX11_takeRead_103_ok 19 rfl
theorem dX11_takeRead_136 : decode cX11_takeRead 136 = .ok (.iconst 0, 1) := dec_at dlX11_takeRead_103_ok 20 rfl
theorem dX11_takeRead_137 : decode cX11_takeRead 137 = .ok (.istore_n 1, 1) := dec_at dlX11_takeRead_103_ok 21 rfl
theorem dX11_takeRead_138 : decode cX11_takeRead 138 = .ok (.iload_n 1, 1) := dec_at dlX11_takeRead_103_ok 22 rfl
theorem dX11_takeRead_139 : decode cX11_takeRead 139 = .ok (.aload_n 0, 1) := dec_at dlX11_takeRead_103_ok 23 rfl
theorem dX11_takeRead_140 : decode cX11_takeRead 140 = .ok (.getfield 106, 3) := dec_at dlX11_takeRead_103_ok 24 rfl
theorem dX11_takeRead_143 : decode cX11_takeRead 143 = .ok (.if_icmp .ge 45, 3) := dec_at dlX11_takeRead_103_ok 25 rfl
theorem dX11_takeRead_146 : decode cX11_takeRead 146 = .ok (.aload_n 0, 1) := dec_at dlX11_takeRead_103_ok 26 rfl
theorem dX11_takeRead_147 : decode cX11_takeRead 147 = .ok (.getfield 19, 3) := dec_at dlX11_takeRead_103_ok 27 rfl
theorem dX11_takeRead_150 : decode cX11_takeRead 150 = .ok (.iload_n 1, 1) := dec_at dlX11_takeRead_103_ok 28 rfl
theorem dX11_takeRead_151 : decode cX11_takeRead 151 = .ok (.aload_n 0, 1) := dec_at dlX11_takeRead_103_ok 29 rfl
theorem dX11_takeRead_152 : decode cX11_takeRead 152 = .ok (.getfield 56, 3) := dec_at dlX11_takeRead_103_ok 30 rfl
noncomputable def dlX11_takeRead_155 : List (Nat × Instr × Nat) := [(155, .iload_n 1, 1), (156, .iaload, 1), (157, .iastore, 1), (158, .aload_n 0, 1), (159, .getfield 22, 3), (162, .iload_n 1, 1), (163, .aload_n 0, 1), (164, .getfield 59, 3), (167, .iload_n 1, 1), (168, .iaload, 1), (169, .iastore, 1), (170, .aload_n 0, 1), (171, .getfield 25, 3), (174, .iload_n 1, 1), (175, .aload_n 0, 1), (176, .getfield 62, 3), (179, .iload_n 1, 1), (180, .iaload, 1), (181, .iastore, 1), (182, .iinc 1 1, 3), (185, .goto (-47), 3), (188, .return_, 1)]
theorem dlX11_takeRead_155_ok : dlX11_takeRead_155.all (fun r => decide (decode cX11_takeRead r.1 = .ok r.2)) = true := by decide +kernel
theorem dX11_takeRead_155 : decode cX11_takeRead 155 = .ok (.iload_n 1, 1) := dec_at dlX11_takeRead_155_ok 0 rfl
theorem dX11_takeRead_156 : decode cX11_takeRead 156 = .ok (.iaload, 1) := dec_at dlX11_takeRead_155_ok 1 rfl
theorem dX11_takeRead_157 : decode cX11_takeRead 157 = .ok (.iastore, 1) := dec_at dlX11_takeRead_155_ok 2 rfl
theorem dX11_takeRead_158 : decode cX11_takeRead 158 = .ok (.aload_n 0, 1) := dec_at dlX11_takeRead_155_ok 3 rfl
theorem dX11_takeRead_159 : decode cX11_takeRead 159 = .ok (.getfield 22, 3) := dec_at dlX11_takeRead_155_ok 4 rfl
theorem dX11_takeRead_162 : decode cX11_takeRead 162 = .ok (.iload_n 1, 1) := dec_at dlX11_takeRead_155_ok 5 rfl
theorem dX11_takeRead_163 : decode cX11_takeRead 163 = .ok (.aload_n 0, 1) := dec_at dlX11_takeRead_155_ok 6 rfl
theorem dX11_takeRead_164 : decode cX11_takeRead 164 = .ok (.getfield 59, 3) := dec_at dlX11_takeRead_155_ok 7 rfl
theorem dX11_takeRead_167 : decode cX11_takeRead 167 = .ok (.iload_n 1, 1) := dec_at dlX11_takeRead_155_ok 8 rfl
theorem dX11_takeRead_168 : decode cX11_takeRead 168 = .ok (.iaload, 1) := dec_at dlX11_takeRead_155_ok 9 rfl
theorem dX11_takeRead_169 : decode cX11_takeRead 169 = .ok (.iastore, 1) := dec_at dlX11_takeRead_155_ok 10 rfl
theorem dX11_takeRead_170 : decode cX11_takeRead 170 = .ok (.aload_n 0, 1) := dec_at dlX11_takeRead_155_ok 11 rfl
theorem dX11_takeRead_171 : decode cX11_takeRead 171 = .ok (.getfield 25, 3) := dec_at dlX11_takeRead_155_ok 12 rfl
theorem dX11_takeRead_174 : decode cX11_takeRead 174 = .ok (.iload_n 1, 1) := dec_at dlX11_takeRead_155_ok 13 rfl
theorem dX11_takeRead_175 : decode cX11_takeRead 175 = .ok (.aload_n 0, 1) := dec_at dlX11_takeRead_155_ok 14 rfl
theorem dX11_takeRead_176 : decode cX11_takeRead 176 = .ok (.getfield 62, 3) := dec_at dlX11_takeRead_155_ok 15 rfl
theorem dX11_takeRead_179 : decode cX11_takeRead 179 = .ok (.iload_n 1, 1) := dec_at dlX11_takeRead_155_ok 16 rfl
theorem dX11_takeRead_180 : decode cX11_takeRead 180 = .ok (.iaload, 1) := dec_at dlX11_takeRead_155_ok 17 rfl
theorem dX11_takeRead_181 : decode cX11_takeRead 181 = .ok (.iastore, 1) := dec_at dlX11_takeRead_155_ok 18 rfl
theorem dX11_takeRead_182 : decode cX11_takeRead 182 = .ok (.iinc 1 1, 3) := dec_at dlX11_takeRead_155_ok 19 rfl
theorem dX11_takeRead_185 : decode cX11_takeRead 185 = .ok (.goto (-47), 3) := dec_at dlX11_takeRead_155_ok 20 rfl
theorem dX11_takeRead_188 : decode cX11_takeRead 188 = .ok (.return_, 1) := dec_at dlX11_takeRead_155_ok 21 rfl
set_option maxRecDepth 20000 in
theorem ggX11_office_X11_here : GoodIn wsX11_office wsX11_here := goodIn_s _ [(16, 1), (2, 1), (6, 1), (17, 1), (75, 46)] rfl (by decide +kernel)
set_option maxRecDepth 20000 in
theorem gX11_office_X11_here : GoodIn wsX11_office (wsV RX11 119 RX11 yX11_here wsX11_here) := goodIn_app (goodIn_s _ [(12, 4)] rfl (by decide +kernel)) ggX11_office_X11_here
set_option maxRecDepth 20000 in
theorem ggX11_office_X11_takeClause : GoodIn wsX11_office wsX11_takeClause := goodIn_s _ [(21, 1), (3, 1), (2, 1), (4, 2), (12, 5), (6, 1), (17, 1), (22, 4), (1, 1), (26, 35), (75, 46)] rfl (by decide +kernel)
set_option maxRecDepth 20000 in
theorem gX11_office_X11_takeClause : GoodIn wsX11_office (wsV RX11 162 RX11 yX11_takeClause wsX11_takeClause) := goodIn_app (goodIn_s _ [(18, 3), (15, 1)] rfl (by decide +kernel)) ggX11_office_X11_takeClause
set_option maxRecDepth 20000 in
theorem ggX11_office_X11_takeRead : GoodIn wsX11_office wsX11_takeRead := goodIn_s _ [(64, 1), (3, 1), (65, 2), (4, 1), (11, 1), (5, 1), (67, 3), (49, 1), (70, 1), (50, 1), (71, 1), (51, 3), (72, 1), (58, 1), (73, 1), (59, 1), (74, 1), (60, 1), (75, 46)] rfl (by decide +kernel)
set_option maxRecDepth 20000 in
theorem gX11_office_X11_takeRead : GoodIn wsX11_office (wsV RX11 165 RX11 yX11_takeRead wsX11_takeRead) := goodIn_app (goodIn_s _ [(61, 3), (15, 1)] rfl (by decide +kernel)) ggX11_office_X11_takeRead
noncomputable def dlX11_office_0 : List (Nat × Instr × Nat) := [(0, .aload_n 0, 1), (1, .iconst (-1), 1), (2, .putfield 34, 3), (5, .aload_n 0, 1), (6, .iconst 0, 1), (7, .putfield 116, 3), (10, .aload_n 0, 1), (11, .getfield 38, 3), (14, .iconst 0, 1), (15, .iconst 0, 1), (16, .iastore, 1), (17, .aload_n 0, 1), (18, .getfield 38, 3), (21, .iconst 1, 1), (22, .iconst 0, 1), (23, .iastore, 1), (24, .aload_n 0, 1), (25, .iconst 0, 1), (26, .putfield 144, 3), (29, .aload_n 0, 1), (30, .iconst 0, 1), (31, .putfield 147, 3), (34, .iconst 0, 1), (35, .istore_n 1, 1), (36, .iload_n 1, 1), (37, .ifCond .ne 18, 3), (40, .aload_n 0, 1), (41, .invokevirtual 119, 3), (44, .ifCond .lt 11, 3), (47, .aload_n 0, 1), (48, .invokevirtual 162, 3)]
theorem dlX11_office_0_ok : dlX11_office_0.all (fun r => decide (decode cX11_office r.1 = .ok r.2)) = true := by decide +kernel
theorem dX11_office_0 : decode cX11_office 0 = .ok (.aload_n 0, 1) := dec_at dlX11_office_0_ok 0 rfl
theorem dX11_office_1 : decode cX11_office 1 = .ok (.iconst (-1), 1) := dec_at dlX11_office_0_ok 1 rfl
theorem dX11_office_2 : decode cX11_office 2 = .ok (.putfield 34, 3) := dec_at dlX11_office_0_ok 2 rfl
theorem dX11_office_5 : decode cX11_office 5 = .ok (.aload_n 0, 1) := dec_at dlX11_office_0_ok 3 rfl
theorem dX11_office_6 : decode cX11_office 6 = .ok (.iconst 0, 1) := dec_at dlX11_office_0_ok 4 rfl
theorem dX11_office_7 : decode cX11_office 7 = .ok (.putfield 116, 3) := dec_at dlX11_office_0_ok 5 rfl
theorem dX11_office_10 : decode cX11_office 10 = .ok (.aload_n 0, 1) := dec_at dlX11_office_0_ok 6 rfl
theorem dX11_office_11 : decode cX11_office 11 = .ok (.getfield 38, 3) := dec_at dlX11_office_0_ok 7 rfl
theorem dX11_office_14 : decode cX11_office 14 = .ok (.iconst 0, 1) := dec_at dlX11_office_0_ok 8 rfl
theorem dX11_office_15 : decode cX11_office 15 = .ok (.iconst 0, 1) := dec_at dlX11_office_0_ok 9 rfl
theorem dX11_office_16 : decode cX11_office 16 = .ok (.iastore, 1) := dec_at dlX11_office_0_ok 10 rfl
theorem dX11_office_17 : decode cX11_office 17 = .ok (.aload_n 0, 1) := dec_at dlX11_office_0_ok 11 rfl
theorem dX11_office_18 : decode cX11_office 18 = .ok (.getfield 38, 3) := dec_at dlX11_office_0_ok 12 rfl
theorem dX11_office_21 : decode cX11_office 21 = .ok (.iconst 1, 1) := dec_at dlX11_office_0_ok 13 rfl
theorem dX11_office_22 : decode cX11_office 22 = .ok (.iconst 0, 1) := dec_at dlX11_office_0_ok 14 rfl
theorem dX11_office_23 : decode cX11_office 23 = .ok (.iastore, 1) := dec_at dlX11_office_0_ok 15 rfl
theorem dX11_office_24 : decode cX11_office 24 = .ok (.aload_n 0, 1) := dec_at dlX11_office_0_ok 16 rfl
theorem dX11_office_25 : decode cX11_office 25 = .ok (.iconst 0, 1) := dec_at dlX11_office_0_ok 17 rfl
theorem dX11_office_26 : decode cX11_office 26 = .ok (.putfield 144, 3) := dec_at dlX11_office_0_ok 18 rfl
theorem dX11_office_29 : decode cX11_office 29 = .ok (.aload_n 0, 1) := dec_at dlX11_office_0_ok 19 rfl
theorem dX11_office_30 : decode cX11_office 30 = .ok (.iconst 0, 1) := dec_at dlX11_office_0_ok 20 rfl
theorem dX11_office_31 : decode cX11_office 31 = .ok (.putfield 147, 3) := dec_at dlX11_office_0_ok 21 rfl
theorem dX11_office_34 : decode cX11_office 34 = .ok (.iconst 0, 1) := dec_at dlX11_office_0_ok 22 rfl
theorem dX11_office_35 : decode cX11_office 35 = .ok (.istore_n 1, 1) := dec_at dlX11_office_0_ok 23 rfl
theorem dX11_office_36 : decode cX11_office 36 = .ok (.iload_n 1, 1) := dec_at dlX11_office_0_ok 24 rfl
theorem dX11_office_37 : decode cX11_office 37 = .ok (.ifCond .ne 18, 3) := dec_at dlX11_office_0_ok 25 rfl
theorem dX11_office_40 : decode cX11_office 40 = .ok (.aload_n 0, 1) := dec_at dlX11_office_0_ok 26 rfl
theorem dX11_office_41 : decode cX11_office 41 = .ok (.invokevirtual 119, 3) := dec_at dlX11_office_0_ok 27 rfl
theorem dX11_office_44 : decode cX11_office 44 = .ok (.ifCond .lt 11, 3) := dec_at dlX11_office_0_ok 28 rfl
theorem dX11_office_47 : decode cX11_office 47 = .ok (.aload_n 0, 1) := dec_at dlX11_office_0_ok 29 rfl
theorem dX11_office_48 : decode cX11_office 48 = .ok (.invokevirtual 162, 3) := dec_at dlX11_office_0_ok 30 rfl
noncomputable def dlX11_office_51 : List (Nat × Instr × Nat) := [(51, .istore_n 1, 1), (52, .goto (-16), 3), (55, .aload_n 0, 1), (56, .iconst 0, 1), (57, .putfield 112, 3), (60, .iload_n 1, 1), (61, .ifCond .le 8, 3), (64, .bipush (-10), 2), (66, .iload_n 1, 1), (67, .isub, 1), (68, .ireturn, 1), (69, .aload_n 0, 1), (70, .invokevirtual 165, 3), (73, .aload_n 0, 1), (74, .iconst 0, 1), (75, .putfield 168, 3), (78, .aload_n 0, 1), (79, .iconst 0, 1), (80, .putfield 171, 3), (83, .aload_n 0, 1), (84, .iconst 0, 1), (85, .putfield 174, 3), (88, .aload_n 0, 1), (89, .getfield 92, 3), (92, .iconst 0, 1), (93, .iconst 0, 1), (94, .bastore, 1), (95, .aload_n 0, 1), (96, .getfield 92, 3), (99, .iconst 1, 1), (100, .iconst 0, 1)]
theorem dlX11_office_51_ok : dlX11_office_51.all (fun r => decide (decode cX11_office r.1 = .ok r.2)) = true := by decide +kernel
theorem dX11_office_51 : decode cX11_office 51 = .ok (.istore_n 1, 1) := dec_at dlX11_office_51_ok 0 rfl
theorem dX11_office_52 : decode cX11_office 52 = .ok (.goto (-16), 3) := dec_at dlX11_office_51_ok 1 rfl
theorem dX11_office_55 : decode cX11_office 55 = .ok (.aload_n 0, 1) := dec_at dlX11_office_51_ok 2 rfl
theorem dX11_office_56 : decode cX11_office 56 = .ok (.iconst 0, 1) := dec_at dlX11_office_51_ok 3 rfl
theorem dX11_office_57 : decode cX11_office 57 = .ok (.putfield 112, 3) := dec_at dlX11_office_51_ok 4 rfl
theorem dX11_office_60 : decode cX11_office 60 = .ok (.iload_n 1, 1) := dec_at dlX11_office_51_ok 5 rfl
theorem dX11_office_61 : decode cX11_office 61 = .ok (.ifCond .le 8, 3) := dec_at dlX11_office_51_ok 6 rfl
theorem dX11_office_64 : decode cX11_office 64 = .ok (.bipush (-10), 2) := dec_at dlX11_office_51_ok 7 rfl
theorem dX11_office_66 : decode cX11_office 66 = .ok (.iload_n 1, 1) := dec_at dlX11_office_51_ok 8 rfl
theorem dX11_office_67 : decode cX11_office 67 = .ok (.isub, 1) := dec_at dlX11_office_51_ok 9 rfl
theorem dX11_office_68 : decode cX11_office 68 = .ok (.ireturn, 1) := dec_at dlX11_office_51_ok 10 rfl
theorem dX11_office_69 : decode cX11_office 69 = .ok (.aload_n 0, 1) := dec_at dlX11_office_51_ok 11 rfl
theorem dX11_office_70 : decode cX11_office 70 = .ok (.invokevirtual 165, 3) := dec_at dlX11_office_51_ok 12 rfl
theorem dX11_office_73 : decode cX11_office 73 = .ok (.aload_n 0, 1) := dec_at dlX11_office_51_ok 13 rfl
theorem dX11_office_74 : decode cX11_office 74 = .ok (.iconst 0, 1) := dec_at dlX11_office_51_ok 14 rfl
theorem dX11_office_75 : decode cX11_office 75 = .ok (.putfield 168, 3) := dec_at dlX11_office_51_ok 15 rfl
theorem dX11_office_78 : decode cX11_office 78 = .ok (.aload_n 0, 1) := dec_at dlX11_office_51_ok 16 rfl
theorem dX11_office_79 : decode cX11_office 79 = .ok (.iconst 0, 1) := dec_at dlX11_office_51_ok 17 rfl
theorem dX11_office_80 : decode cX11_office 80 = .ok (.putfield 171, 3) := dec_at dlX11_office_51_ok 18 rfl
theorem dX11_office_83 : decode cX11_office 83 = .ok (.aload_n 0, 1) := dec_at dlX11_office_51_ok 19 rfl
theorem dX11_office_84 : decode cX11_office 84 = .ok (.iconst 0, 1) := dec_at dlX11_office_51_ok 20 rfl
theorem dX11_office_85 : decode cX11_office 85 = .ok (.putfield 174, 3) := dec_at dlX11_office_51_ok 21 rfl
theorem dX11_office_88 : decode cX11_office 88 = .ok (.aload_n 0, 1) := dec_at dlX11_office_51_ok 22 rfl
theorem dX11_office_89 : decode cX11_office 89 = .ok (.getfield 92, 3) := dec_at dlX11_office_51_ok 23 rfl
theorem dX11_office_92 : decode cX11_office 92 = .ok (.iconst 0, 1) := dec_at dlX11_office_51_ok 24 rfl
theorem dX11_office_93 : decode cX11_office 93 = .ok (.iconst 0, 1) := dec_at dlX11_office_51_ok 25 rfl
theorem dX11_office_94 : decode cX11_office 94 = .ok (.bastore, 1) := dec_at dlX11_office_51_ok 26 rfl
theorem dX11_office_95 : decode cX11_office 95 = .ok (.aload_n 0, 1) := dec_at dlX11_office_51_ok 27 rfl
theorem dX11_office_96 : decode cX11_office 96 = .ok (.getfield 92, 3) := dec_at dlX11_office_51_ok 28 rfl
theorem dX11_office_99 : decode cX11_office 99 = .ok (.iconst 1, 1) := dec_at dlX11_office_51_ok 29 rfl
theorem dX11_office_100 : decode cX11_office 100 = .ok (.iconst 0, 1) := dec_at dlX11_office_51_ok 30 rfl
noncomputable def dlX11_office_101 : List (Nat × Instr × Nat) := [(101, .bastore, 1), (102, .aload_n 0, 1), (103, .getfield 99, 3), (106, .ireturn, 1)]
theorem dlX11_office_101_ok : dlX11_office_101.all (fun r => decide (decode cX11_office r.1 = .ok r.2)) = true := by decide +kernel
theorem dX11_office_101 : decode cX11_office 101 = .ok (.bastore, 1) := dec_at dlX11_office_101_ok 0 rfl
theorem dX11_office_102 : decode cX11_office 102 = .ok (.aload_n 0, 1) := dec_at dlX11_office_101_ok 1 rfl
theorem dX11_office_103 : decode cX11_office 103 = .ok (.getfield 99, 3) := dec_at dlX11_office_101_ok 2 rfl
theorem dX11_office_106 : decode cX11_office 106 = .ok (.ireturn, 1) := dec_at dlX11_office_101_ok 3 rfl
noncomputable def dlX11_fault_0 : List (Nat × Instr × Nat) := [(0, .aload_n 0, 1), (1, .getfield 34, 3), (4, .ireturn, 1)]
theorem dlX11_fault_0_ok : dlX11_fault_0.all (fun r => decide (decode cX11_fault r.1 = .ok r.2)) = true := by decide +kernel
theorem dX11_fault_0 : decode cX11_fault 0 = .ok (.aload_n 0, 1) := dec_at dlX11_fault_0_ok 0 rfl
theorem dX11_fault_1 : decode cX11_fault 1 = .ok (.getfield 34, 3) := dec_at dlX11_fault_0_ok 1 rfl
theorem dX11_fault_4 : decode cX11_fault 4 = .ok (.ireturn, 1) := dec_at dlX11_fault_0_ok 2 rfl
noncomputable def dlX11_sumOf_0 : List (Nat × Instr × Nat) := [(0, .iconst 0, 1), (1, .istore_n 2, 1), (2, .iconst 0, 1), (3, .istore_n 3, 1), (4, .iload_n 3, 1), (5, .aload_n 0, 1), (6, .getfield 106, 3), (9, .if_icmp .ge 20, 3), (12, .iload_n 2, 1), (13, .aload_n 0, 1), (14, .getfield 28, 3), (17, .iload_n 1, 1), (18, .iload_n 3, 1), (19, .iadd, 1), (20, .iaload, 1), (21, .iadd, 1), (22, .istore_n 2, 1), (23, .iinc 3 1, 3), (26, .goto (-22), 3), (29, .iload_n 2, 1), (30, .ireturn, 1)]
theorem dlX11_sumOf_0_ok : dlX11_sumOf_0.all (fun r => decide (decode cX11_sumOf r.1 = .ok r.2)) = true := by decide +kernel
theorem dX11_sumOf_0 : decode cX11_sumOf 0 = .ok (.iconst 0, 1) := dec_at dlX11_sumOf_0_ok 0 rfl
theorem dX11_sumOf_1 : decode cX11_sumOf 1 = .ok (.istore_n 2, 1) := dec_at dlX11_sumOf_0_ok 1 rfl
theorem dX11_sumOf_2 : decode cX11_sumOf 2 = .ok (.iconst 0, 1) := dec_at dlX11_sumOf_0_ok 2 rfl
theorem dX11_sumOf_3 : decode cX11_sumOf 3 = .ok (.istore_n 3, 1) := dec_at dlX11_sumOf_0_ok 3 rfl
theorem dX11_sumOf_4 : decode cX11_sumOf 4 = .ok (.iload_n 3, 1) := dec_at dlX11_sumOf_0_ok 4 rfl
theorem dX11_sumOf_5 : decode cX11_sumOf 5 = .ok (.aload_n 0, 1) := dec_at dlX11_sumOf_0_ok 5 rfl
theorem dX11_sumOf_6 : decode cX11_sumOf 6 = .ok (.getfield 106, 3) := dec_at dlX11_sumOf_0_ok 6 rfl
theorem dX11_sumOf_9 : decode cX11_sumOf 9 = .ok (.if_icmp .ge 20, 3) := dec_at dlX11_sumOf_0_ok 7 rfl
theorem dX11_sumOf_12 : decode cX11_sumOf 12 = .ok (.iload_n 2, 1) := dec_at dlX11_sumOf_0_ok 8 rfl
theorem dX11_sumOf_13 : decode cX11_sumOf 13 = .ok (.aload_n 0, 1) := dec_at dlX11_sumOf_0_ok 9 rfl
theorem dX11_sumOf_14 : decode cX11_sumOf 14 = .ok (.getfield 28, 3) := dec_at dlX11_sumOf_0_ok 10 rfl
theorem dX11_sumOf_17 : decode cX11_sumOf 17 = .ok (.iload_n 1, 1) := dec_at dlX11_sumOf_0_ok 11 rfl
theorem dX11_sumOf_18 : decode cX11_sumOf 18 = .ok (.iload_n 3, 1) := dec_at dlX11_sumOf_0_ok 12 rfl
theorem dX11_sumOf_19 : decode cX11_sumOf 19 = .ok (.iadd, 1) := dec_at dlX11_sumOf_0_ok 13 rfl
theorem dX11_sumOf_20 : decode cX11_sumOf 20 = .ok (.iaload, 1) := dec_at dlX11_sumOf_0_ok 14 rfl
theorem dX11_sumOf_21 : decode cX11_sumOf 21 = .ok (.iadd, 1) := dec_at dlX11_sumOf_0_ok 15 rfl
theorem dX11_sumOf_22 : decode cX11_sumOf 22 = .ok (.istore_n 2, 1) := dec_at dlX11_sumOf_0_ok 16 rfl
theorem dX11_sumOf_23 : decode cX11_sumOf 23 = .ok (.iinc 3 1, 3) := dec_at dlX11_sumOf_0_ok 17 rfl
theorem dX11_sumOf_26 : decode cX11_sumOf 26 = .ok (.goto (-22), 3) := dec_at dlX11_sumOf_0_ok 18 rfl
theorem dX11_sumOf_29 : decode cX11_sumOf 29 = .ok (.iload_n 2, 1) := dec_at dlX11_sumOf_0_ok 19 rfl
theorem dX11_sumOf_30 : decode cX11_sumOf 30 = .ok (.ireturn, 1) := dec_at dlX11_sumOf_0_ok 20 rfl
noncomputable def dlX11_softOnes_0 : List (Nat × Instr × Nat) := [(0, .iconst 0, 1), (1, .istore_n 1, 1), (2, .iconst 0, 1), (3, .istore_n 2, 1), (4, .iload_n 2, 1), (5, .aload_n 0, 1), (6, .getfield 99, 3), (9, .if_icmp .ge 33, 3), (12, .iload_n 1, 1), (13, .aload_n 0, 1), (14, .getfield 28, 3), (17, .bipush 16, 2), (19, .iload_n 2, 1), (20, .iadd, 1), (21, .iaload, 1), (22, .bipush 50, 2), (24, .if_icmp .le 9, 3), (27, .iconst 1, 1), (28, .iload_n 2, 1), (29, .ishl, 1), (30, .goto 4, 3), (33, .iconst 0, 1), (34, .ior, 1), (35, .istore_n 1, 1), (36, .iinc 2 1, 3), (39, .goto (-35), 3), (42, .iload_n 1, 1), (43, .ireturn, 1)]
theorem dlX11_softOnes_0_ok : dlX11_softOnes_0.all (fun r => decide (decode cX11_softOnes r.1 = .ok r.2)) = true := by decide +kernel
theorem dX11_softOnes_0 : decode cX11_softOnes 0 = .ok (.iconst 0, 1) := dec_at dlX11_softOnes_0_ok 0 rfl
theorem dX11_softOnes_1 : decode cX11_softOnes 1 = .ok (.istore_n 1, 1) := dec_at dlX11_softOnes_0_ok 1 rfl
theorem dX11_softOnes_2 : decode cX11_softOnes 2 = .ok (.iconst 0, 1) := dec_at dlX11_softOnes_0_ok 2 rfl
theorem dX11_softOnes_3 : decode cX11_softOnes 3 = .ok (.istore_n 2, 1) := dec_at dlX11_softOnes_0_ok 3 rfl
theorem dX11_softOnes_4 : decode cX11_softOnes 4 = .ok (.iload_n 2, 1) := dec_at dlX11_softOnes_0_ok 4 rfl
theorem dX11_softOnes_5 : decode cX11_softOnes 5 = .ok (.aload_n 0, 1) := dec_at dlX11_softOnes_0_ok 5 rfl
theorem dX11_softOnes_6 : decode cX11_softOnes 6 = .ok (.getfield 99, 3) := dec_at dlX11_softOnes_0_ok 6 rfl
theorem dX11_softOnes_9 : decode cX11_softOnes 9 = .ok (.if_icmp .ge 33, 3) := dec_at dlX11_softOnes_0_ok 7 rfl
theorem dX11_softOnes_12 : decode cX11_softOnes 12 = .ok (.iload_n 1, 1) := dec_at dlX11_softOnes_0_ok 8 rfl
theorem dX11_softOnes_13 : decode cX11_softOnes 13 = .ok (.aload_n 0, 1) := dec_at dlX11_softOnes_0_ok 9 rfl
theorem dX11_softOnes_14 : decode cX11_softOnes 14 = .ok (.getfield 28, 3) := dec_at dlX11_softOnes_0_ok 10 rfl
theorem dX11_softOnes_17 : decode cX11_softOnes 17 = .ok (.bipush 16, 2) := dec_at dlX11_softOnes_0_ok 11 rfl
theorem dX11_softOnes_19 : decode cX11_softOnes 19 = .ok (.iload_n 2, 1) := dec_at dlX11_softOnes_0_ok 12 rfl
theorem dX11_softOnes_20 : decode cX11_softOnes 20 = .ok (.iadd, 1) := dec_at dlX11_softOnes_0_ok 13 rfl
theorem dX11_softOnes_21 : decode cX11_softOnes 21 = .ok (.iaload, 1) := dec_at dlX11_softOnes_0_ok 14 rfl
theorem dX11_softOnes_22 : decode cX11_softOnes 22 = .ok (.bipush 50, 2) := dec_at dlX11_softOnes_0_ok 15 rfl
theorem dX11_softOnes_24 : decode cX11_softOnes 24 = .ok (.if_icmp .le 9, 3) := dec_at dlX11_softOnes_0_ok 16 rfl
theorem dX11_softOnes_27 : decode cX11_softOnes 27 = .ok (.iconst 1, 1) := dec_at dlX11_softOnes_0_ok 17 rfl
theorem dX11_softOnes_28 : decode cX11_softOnes 28 = .ok (.iload_n 2, 1) := dec_at dlX11_softOnes_0_ok 18 rfl
theorem dX11_softOnes_29 : decode cX11_softOnes 29 = .ok (.ishl, 1) := dec_at dlX11_softOnes_0_ok 19 rfl
theorem dX11_softOnes_30 : decode cX11_softOnes 30 = .ok (.goto 4, 3) := dec_at dlX11_softOnes_0_ok 20 rfl
theorem dX11_softOnes_33 : decode cX11_softOnes 33 = .ok (.iconst 0, 1) := dec_at dlX11_softOnes_0_ok 21 rfl
theorem dX11_softOnes_34 : decode cX11_softOnes 34 = .ok (.ior, 1) := dec_at dlX11_softOnes_0_ok 22 rfl
theorem dX11_softOnes_35 : decode cX11_softOnes 35 = .ok (.istore_n 1, 1) := dec_at dlX11_softOnes_0_ok 23 rfl
theorem dX11_softOnes_36 : decode cX11_softOnes 36 = .ok (.iinc 2 1, 3) := dec_at dlX11_softOnes_0_ok 24 rfl
theorem dX11_softOnes_39 : decode cX11_softOnes 39 = .ok (.goto (-35), 3) := dec_at dlX11_softOnes_0_ok 25 rfl
theorem dX11_softOnes_42 : decode cX11_softOnes 42 = .ok (.iload_n 1, 1) := dec_at dlX11_softOnes_0_ok 26 rfl
theorem dX11_softOnes_43 : decode cX11_softOnes 43 = .ok (.ireturn, 1) := dec_at dlX11_softOnes_0_ok 27 rfl
set_option maxRecDepth 20000 in
theorem ggX11_told_X11_sumOf : GoodIn wsX11_told wsX11_sumOf := goodIn_s _ [(15, 1), (4, 1), (6, 1), (20, 46)] rfl (by decide +kernel)
set_option maxRecDepth 20000 in
theorem gX11_told_X11_sumOf : GoodIn wsX11_told (wsV RX11 177 RX11 yX11_sumOf wsX11_sumOf) := goodIn_app (goodIn_s _ [(11, 4)] rfl (by decide +kernel)) ggX11_told_X11_sumOf
set_option maxRecDepth 20000 in
theorem ggX11_told_X11_softOnes : GoodIn wsX11_told wsX11_softOnes := goodIn_s _ [(19, 1), (3, 1), (6, 1), (20, 46)] rfl (by decide +kernel)
set_option maxRecDepth 20000 in
theorem gX11_told_X11_softOnes : GoodIn wsX11_told (wsV RX11 181 RX11 yX11_softOnes wsX11_softOnes) := goodIn_app (goodIn_s _ [(16, 3), (14, 1)] rfl (by decide +kernel)) ggX11_told_X11_softOnes
noncomputable def dlX11_told_0 : List (Nat × Instr × Nat) := [(0, .iload_n 1, 1), (1, .tableswitch 142 0 12 #[67, 72, 77, 82, 87, 92, 100, 108, 115, 122, 127, 132, 137], 67), (68, .aload_n 0, 1), (69, .getfield 96, 3), (72, .ireturn, 1), (73, .aload_n 0, 1), (74, .getfield 159, 3), (77, .ireturn, 1), (78, .aload_n 0, 1), (79, .getfield 99, 3), (82, .ireturn, 1), (83, .aload_n 0, 1), (84, .getfield 106, 3), (87, .ireturn, 1), (88, .aload_n 0, 1), (89, .getfield 112, 3), (92, .ireturn, 1), (93, .aload_n 0, 1), (94, .getfield 28, 3), (97, .bipush 32, 2), (99, .iaload, 1), (100, .ireturn, 1), (101, .aload_n 0, 1), (102, .getfield 28, 3), (105, .bipush 33, 2), (107, .iaload, 1), (108, .ireturn, 1), (109, .aload_n 0, 1), (110, .bipush 24, 2), (112, .invokevirtual 177, 3), (115, .ireturn, 1)]
theorem dlX11_told_0_ok : dlX11_told_0.all (fun r => decide (decode cX11_told r.1 = .ok r.2)) = true := by decide +kernel
theorem dX11_told_0 : decode cX11_told 0 = .ok (.iload_n 1, 1) := dec_at dlX11_told_0_ok 0 rfl
theorem dX11_told_1 : decode cX11_told 1 = .ok (.tableswitch 142 0 12 #[67, 72, 77, 82, 87, 92, 100, 108, 115, 122, 127, 132, 137], 67) := dec_at dlX11_told_0_ok 1 rfl
theorem dX11_told_68 : decode cX11_told 68 = .ok (.aload_n 0, 1) := dec_at dlX11_told_0_ok 2 rfl
theorem dX11_told_69 : decode cX11_told 69 = .ok (.getfield 96, 3) := dec_at dlX11_told_0_ok 3 rfl
theorem dX11_told_72 : decode cX11_told 72 = .ok (.ireturn, 1) := dec_at dlX11_told_0_ok 4 rfl
theorem dX11_told_73 : decode cX11_told 73 = .ok (.aload_n 0, 1) := dec_at dlX11_told_0_ok 5 rfl
theorem dX11_told_74 : decode cX11_told 74 = .ok (.getfield 159, 3) := dec_at dlX11_told_0_ok 6 rfl
theorem dX11_told_77 : decode cX11_told 77 = .ok (.ireturn, 1) := dec_at dlX11_told_0_ok 7 rfl
theorem dX11_told_78 : decode cX11_told 78 = .ok (.aload_n 0, 1) := dec_at dlX11_told_0_ok 8 rfl
theorem dX11_told_79 : decode cX11_told 79 = .ok (.getfield 99, 3) := dec_at dlX11_told_0_ok 9 rfl
theorem dX11_told_82 : decode cX11_told 82 = .ok (.ireturn, 1) := dec_at dlX11_told_0_ok 10 rfl
theorem dX11_told_83 : decode cX11_told 83 = .ok (.aload_n 0, 1) := dec_at dlX11_told_0_ok 11 rfl
theorem dX11_told_84 : decode cX11_told 84 = .ok (.getfield 106, 3) := dec_at dlX11_told_0_ok 12 rfl
theorem dX11_told_87 : decode cX11_told 87 = .ok (.ireturn, 1) := dec_at dlX11_told_0_ok 13 rfl
theorem dX11_told_88 : decode cX11_told 88 = .ok (.aload_n 0, 1) := dec_at dlX11_told_0_ok 14 rfl
theorem dX11_told_89 : decode cX11_told 89 = .ok (.getfield 112, 3) := dec_at dlX11_told_0_ok 15 rfl
theorem dX11_told_92 : decode cX11_told 92 = .ok (.ireturn, 1) := dec_at dlX11_told_0_ok 16 rfl
theorem dX11_told_93 : decode cX11_told 93 = .ok (.aload_n 0, 1) := dec_at dlX11_told_0_ok 17 rfl
theorem dX11_told_94 : decode cX11_told 94 = .ok (.getfield 28, 3) := dec_at dlX11_told_0_ok 18 rfl
theorem dX11_told_97 : decode cX11_told 97 = .ok (.bipush 32, 2) := dec_at dlX11_told_0_ok 19 rfl
theorem dX11_told_99 : decode cX11_told 99 = .ok (.iaload, 1) := dec_at dlX11_told_0_ok 20 rfl
theorem dX11_told_100 : decode cX11_told 100 = .ok (.ireturn, 1) := dec_at dlX11_told_0_ok 21 rfl
theorem dX11_told_101 : decode cX11_told 101 = .ok (.aload_n 0, 1) := dec_at dlX11_told_0_ok 22 rfl
theorem dX11_told_102 : decode cX11_told 102 = .ok (.getfield 28, 3) := dec_at dlX11_told_0_ok 23 rfl
theorem dX11_told_105 : decode cX11_told 105 = .ok (.bipush 33, 2) := dec_at dlX11_told_0_ok 24 rfl
theorem dX11_told_107 : decode cX11_told 107 = .ok (.iaload, 1) := dec_at dlX11_told_0_ok 25 rfl
theorem dX11_told_108 : decode cX11_told 108 = .ok (.ireturn, 1) := dec_at dlX11_told_0_ok 26 rfl
theorem dX11_told_109 : decode cX11_told 109 = .ok (.aload_n 0, 1) := dec_at dlX11_told_0_ok 27 rfl
theorem dX11_told_110 : decode cX11_told 110 = .ok (.bipush 24, 2) := dec_at dlX11_told_0_ok 28 rfl
theorem dX11_told_112 : decode cX11_told 112 = .ok (.invokevirtual 177, 3) := dec_at dlX11_told_0_ok 29 rfl
theorem dX11_told_115 : decode cX11_told 115 = .ok (.ireturn, 1) := dec_at dlX11_told_0_ok 30 rfl
noncomputable def dlX11_told_116 : List (Nat × Instr × Nat) := [(116, .aload_n 0, 1), (117, .bipush 28, 2), (119, .invokevirtual 177, 3), (122, .ireturn, 1), (123, .aload_n 0, 1), (124, .invokevirtual 181, 3), (127, .ireturn, 1), (128, .aload_n 0, 1), (129, .getfield 168, 3), (132, .ireturn, 1), (133, .aload_n 0, 1)]
theorem dlX11_told_116_ok : dlX11_told_116.all (fun r => decide (decode cX11_told r.1 = .ok r.2)) = true := by decide +kernel
theorem dX11_told_116 : decode cX11_told 116 = .ok (.aload_n 0, 1) := dec_at dlX11_told_116_ok 0 rfl
theorem dX11_told_117 : decode cX11_told 117 = .ok (.bipush 28, 2) := dec_at dlX11_told_116_ok 1 rfl
theorem dX11_told_119 : decode cX11_told 119 = .ok (.invokevirtual 177, 3) := dec_at dlX11_told_116_ok 2 rfl
theorem dX11_told_122 : decode cX11_told 122 = .ok (.ireturn, 1) := dec_at dlX11_told_116_ok 3 rfl
theorem dX11_told_123 : decode cX11_told 123 = .ok (.aload_n 0, 1) := dec_at dlX11_told_116_ok 4 rfl
theorem dX11_told_124 : decode cX11_told 124 = .ok (.invokevirtual 181, 3) := dec_at dlX11_told_116_ok 5 rfl
theorem dX11_told_127 : decode cX11_told 127 = .ok (.ireturn, 1) := dec_at dlX11_told_116_ok 6 rfl
theorem dX11_told_128 : decode cX11_told 128 = .ok (.aload_n 0, 1) := dec_at dlX11_told_116_ok 7 rfl
theorem dX11_told_129 : decode cX11_told 129 = .ok (.getfield 168, 3) := dec_at dlX11_told_116_ok 8 rfl
theorem dX11_told_132 : decode cX11_told 132 = .ok (.ireturn, 1) := dec_at dlX11_told_116_ok 9 rfl
theorem dX11_told_133 : decode cX11_told 133 = .ok (.aload_n 0, 1) := dec_at dlX11_told_116_ok 10 rfl
