set_option maxRecDepth 20000 in
theorem ggX10_feed_X10_within : GoodIn wsX10_feed wsX10_within := goodIn_r _ [8] (by decide +kernel) (by decide +kernel)
set_option maxRecDepth 20000 in
theorem gX10_feed_X10_within : GoodIn wsX10_feed (va_wsS RX10 99 yX10_within wsX10_within) := goodIn_app (goodIn_of _ (by decide +kernel)) ggX10_feed_X10_within
theorem dX10_feed_0 : decode cX10_feed 0 = .ok (.iload_n 1, 1) := by decide +kernel
theorem dX10_feed_1 : decode cX10_feed 1 = .ok (.iconst 0, 1) := by decide +kernel
theorem dX10_feed_2 : decode cX10_feed 2 = .ok (.sipush 255, 3) := by decide +kernel
theorem dX10_feed_5 : decode cX10_feed 5 = .ok (.invokestatic 99, 3) := by decide +kernel
theorem dX10_feed_8 : decode cX10_feed 8 = .ok (.ifCond .ne 6, 3) := by decide +kernel
theorem dX10_feed_11 : decode cX10_feed 11 = .ok (.ldc 103, 2) := by decide +kernel
theorem dX10_feed_13 : decode cX10_feed 13 = .ok (.ireturn, 1) := by decide +kernel
theorem dX10_feed_14 : decode cX10_feed 14 = .ok (.aload_n 0, 1) := by decide +kernel
theorem dX10_feed_15 : decode cX10_feed 15 = .ok (.getfield 13, 3) := by decide +kernel
theorem dX10_feed_18 : decode cX10_feed 18 = .ok (.sipush 220, 3) := by decide +kernel
theorem dX10_feed_21 : decode cX10_feed 21 = .ok (.if_icmp .lt 6, 3) := by decide +kernel
theorem dX10_feed_24 : decode cX10_feed 24 = .ok (.ldc 104, 2) := by decide +kernel
theorem dX10_feed_26 : decode cX10_feed 26 = .ok (.ireturn, 1) := by decide +kernel
theorem dX10_feed_27 : decode cX10_feed 27 = .ok (.aload_n 0, 1) := by decide +kernel
theorem dX10_feed_28 : decode cX10_feed 28 = .ok (.getfield 9, 3) := by decide +kernel
theorem dX10_feed_31 : decode cX10_feed 31 = .ok (.aload_n 0, 1) := by decide +kernel
theorem dX10_feed_32 : decode cX10_feed 32 = .ok (.getfield 13, 3) := by decide +kernel
theorem dX10_feed_35 : decode cX10_feed 35 = .ok (.iload_n 1, 1) := by decide +kernel
theorem dX10_feed_36 : decode cX10_feed 36 = .ok (.iastore, 1) := by decide +kernel
theorem dX10_feed_37 : decode cX10_feed 37 = .ok (.aload_n 0, 1) := by decide +kernel
theorem dX10_feed_38 : decode cX10_feed 38 = .ok (.dup, 1) := by decide +kernel
theorem dX10_feed_39 : decode cX10_feed 39 = .ok (.getfield 13, 3) := by decide +kernel
theorem dX10_feed_42 : decode cX10_feed 42 = .ok (.iconst 1, 1) := by decide +kernel
theorem dX10_feed_43 : decode cX10_feed 43 = .ok (.iadd, 1) := by decide +kernel
theorem dX10_feed_44 : decode cX10_feed 44 = .ok (.putfield 13, 3) := by decide +kernel
theorem dX10_feed_47 : decode cX10_feed 47 = .ok (.aload_n 0, 1) := by decide +kernel
theorem dX10_feed_48 : decode cX10_feed 48 = .ok (.getfield 13, 3) := by decide +kernel
theorem dX10_feed_51 : decode cX10_feed 51 = .ok (.ireturn, 1) := by decide +kernel
set_option maxRecDepth 20000 in
theorem ggX10_office_X7_readText : GoodIn wsX10_office wsX7_readText := goodIn_r _ [20, 21, 22, 23, 24, 25, 26, 27, 28, 29, 30, 31, 32, 33, 34, 35, 36, 37, 38, 39, 40, 41, 42, 43, 44, 45, 46, 47, 48, 49, 50, 19, 51, 52, 53, 54, 55, 56, 57, 58, 59, 60, 61, 62, 63, 64, 65, 66, 67, 68, 69, 70, 71, 72, 73, 74, 75, 76, 77, 78, 79, 80, 81, 82, 83, 84, 85, 86, 87, 88, 89, 90, 91, 92, 93, 94, 95, 96, 97, 98, 99, 100, 101, 102, 103, 104, 105, 106, 107, 108, 109, 110, 111, 158, 159, 160, 161, 162, 163, 164, 173, 174, 175, 176, 177, 178, 179, 180, 181, 182, 183, 184, 185] (by decide +kernel) (by decide +kernel)
set_option maxRecDepth 20000 in
theorem gX10_office_X7_readText : GoodIn wsX10_office (wsV RX10 105 RX7 yX7_readText wsX7_readText) := goodIn_app (goodIn_of _ (by decide +kernel)) ggX10_office_X7_readText
set_option maxRecDepth 20000 in
theorem ggX10_office_X5_copyFrom : GoodIn wsX10_office wsX5_copyFrom := goodIn_r _ [115, 43, 44, 45, 46, 47, 100, 116, 35, 36, 37, 101, 102, 103, 104, 109, 110, 111, 173, 174, 175, 176, 177, 178, 179, 180, 181, 182, 183, 184, 185] (by decide +kernel) (by decide +kernel)
set_option maxRecDepth 20000 in
theorem gX10_office_X5_copyFrom : GoodIn wsX10_office (wsV RX10 113 RX5 yX5_copyFrom wsX5_copyFrom) := goodIn_app (goodIn_of _ (by decide +kernel)) ggX10_office_X5_copyFrom
set_option maxRecDepth 20000 in
theorem ggX10_office_X1_layOut : GoodIn wsX10_office wsX1_layOut := goodIn_r _ [121, 122, 123, 124, 125, 126, 127, 128, 129, 130, 131, 186, 187, 188, 189, 190, 191, 192, 193, 173, 174, 175, 176, 177, 178, 179, 180, 181, 182, 183, 184, 185] (by decide +kernel) (by decide +kernel)
set_option maxRecDepth 20000 in
theorem gX10_office_X1_layOut : GoodIn wsX10_office (wsV RX10 116 RX1 yX1_layOut wsX1_layOut) := goodIn_app (goodIn_of _ (by decide +kernel)) ggX10_office_X1_layOut
set_option maxRecDepth 20000 in
theorem ggX10_office_X3_forget : GoodIn wsX10_office wsX3_forget := goodIn_r _ [136, 137, 194, 195, 196] (by decide +kernel) (by decide +kernel)
set_option maxRecDepth 20000 in
theorem gX10_office_X3_forget : GoodIn wsX10_office (wsV RX10 119 RX3 yX3_forget wsX3_forget) := goodIn_app (goodIn_of _ (by decide +kernel)) ggX10_office_X3_forget
set_option maxRecDepth 20000 in
theorem ggX10_office_X4_forget : GoodIn wsX10_office wsX4_forget := goodIn_r _ [142, 143, 197, 198, 199] (by decide +kernel) (by decide +kernel)
set_option maxRecDepth 20000 in
theorem gX10_office_X4_forget : GoodIn wsX10_office (wsV RX10 122 RX4 yX4_forget wsX4_forget) := goodIn_app (goodIn_of _ (by decide +kernel)) ggX10_office_X4_forget
theorem dX10_office_0 : decode cX10_office 0 = .ok (.aload_n 0, 1) := by decide +kernel
theorem dX10_office_1 : decode cX10_office 1 = .ok (.getfield 13, 3) := by decide +kernel
theorem dX10_office_4 : decode cX10_office 4 = .ok (.istore_n 1, 1) := by decide +kernel
theorem dX10_office_5 : decode cX10_office 5 = .ok (.aload_n 0, 1) := by decide +kernel
theorem dX10_office_6 : decode cX10_office 6 = .ok (.iconst 0, 1) := by decide +kernel
theorem dX10_office_7 : decode cX10_office 7 = .ok (.putfield 13, 3) := by decide +kernel
theorem dX10_office_10 : decode cX10_office 10 = .ok (.aload_n 0, 1) := by decide +kernel
theorem dX10_office_11 : decode cX10_office 11 = .ok (.getfield 33, 3) := by decide +kernel
theorem dX10_office_14 : decode cX10_office 14 = .ok (.aload_n 0, 1) := by decide +kernel
theorem dX10_office_15 : decode cX10_office 15 = .ok (.getfield 9, 3) := by decide +kernel
theorem dX10_office_18 : decode cX10_office 18 = .ok (.iload_n 1, 1) := by decide +kernel
theorem dX10_office_19 : decode cX10_office 19 = .ok (.invokevirtual 105, 3) := by decide +kernel
theorem dX10_office_22 : decode cX10_office 22 = .ok (.istore_n 2, 1) := by decide +kernel
theorem dX10_office_23 : decode cX10_office 23 = .ok (.aload_n 0, 1) := by decide +kernel
theorem dX10_office_24 : decode cX10_office 24 = .ok (.aload_n 0, 1) := by decide +kernel
theorem dX10_office_25 : decode cX10_office 25 = .ok (.getfield 33, 3) := by decide +kernel
theorem dX10_office_28 : decode cX10_office 28 = .ok (.getfield 109, 3) := by decide +kernel
theorem dX10_office_31 : decode cX10_office 31 = .ok (.putfield 17, 3) := by decide +kernel
theorem dX10_office_34 : decode cX10_office 34 = .ok (.iload_n 2, 1) := by decide +kernel
theorem dX10_office_35 : decode cX10_office 35 = .ok (.ifCond .eq 8, 3) := by decide +kernel
theorem dX10_office_38 : decode cX10_office 38 = .ok (.bipush (-10), 2) := by decide +kernel
theorem dX10_office_40 : decode cX10_office 40 = .ok (.iload_n 2, 1) := by decide +kernel
theorem dX10_office_41 : decode cX10_office 41 = .ok (.isub, 1) := by decide +kernel
theorem dX10_office_42 : decode cX10_office 42 = .ok (.ireturn, 1) := by decide +kernel
theorem dX10_office_43 : decode cX10_office 43 = .ok (.aload_n 0, 1) := by decide +kernel
theorem dX10_office_44 : decode cX10_office 44 = .ok (.getfield 26, 3) := by decide +kernel
theorem dX10_office_47 : decode cX10_office 47 = .ok (.aload_n 0, 1) := by decide +kernel
theorem dX10_office_48 : decode cX10_office 48 = .ok (.getfield 33, 3) := by decide +kernel
theorem dX10_office_51 : decode cX10_office 51 = .ok (.getfield 110, 3) := by decide +kernel
theorem dX10_office_54 : decode cX10_office 54 = .ok (.invokevirtual 113, 3) := by decide +kernel
theorem dX10_office_57 : decode cX10_office 57 = .ok (.aload_n 0, 1) := by decide +kernel
theorem dX10_office_58 : decode cX10_office 58 = .ok (.getfield 42, 3) := by decide +kernel
theorem dX10_office_61 : decode cX10_office 61 = .ok (.invokevirtual 116, 3) := by decide +kernel
theorem dX10_office_64 : decode cX10_office 64 = .ok (.aload_n 0, 1) := by decide +kernel
theorem dX10_office_65 : decode cX10_office 65 = .ok (.getfield 49, 3) := by decide +kernel
theorem dX10_office_68 : decode cX10_office 68 = .ok (.invokevirtual 119, 3) := by decide +kernel
theorem dX10_office_71 : decode cX10_office 71 = .ok (.aload_n 0, 1) := by decide +kernel
theorem dX10_office_72 : decode cX10_office 72 = .ok (.getfield 56, 3) := by decide +kernel
theorem dX10_office_75 : decode cX10_office 75 = .ok (.invokevirtual 122, 3) := by decide +kernel
theorem dX10_office_78 : decode cX10_office 78 = .ok (.aload_n 0, 1) := by decide +kernel
theorem dX10_office_79 : decode cX10_office 79 = .ok (.getfield 88, 3) := by decide +kernel
theorem dX10_office_82 : decode cX10_office 82 = .ok (.iconst 0, 1) := by decide +kernel
theorem dX10_office_83 : decode cX10_office 83 = .ok (.putfield 123, 3) := by decide +kernel
theorem dX10_office_86 : decode cX10_office 86 = .ok (.aload_n 0, 1) := by decide +kernel
theorem dX10_office_87 : decode cX10_office 87 = .ok (.getfield 95, 3) := by decide +kernel
theorem dX10_office_90 : decode cX10_office 90 = .ok (.iconst 0, 1) := by decide +kernel
theorem dX10_office_91 : decode cX10_office 91 = .ok (.putfield 126, 3) := by decide +kernel
theorem dX10_office_94 : decode cX10_office 94 = .ok (.aload_n 0, 1) := by decide +kernel
theorem dX10_office_95 : decode cX10_office 95 = .ok (.getfield 26, 3) := by decide +kernel
theorem dX10_office_98 : decode cX10_office 98 = .ok (.getfield 127, 3) := by decide +kernel
theorem dX10_office_101 : decode cX10_office 101 = .ok (.ireturn, 1) := by decide +kernel
theorem dX10_fault_0 : decode cX10_fault 0 = .ok (.aload_n 0, 1) := by decide +kernel
theorem dX10_fault_1 : decode cX10_fault 1 = .ok (.getfield 17, 3) := by decide +kernel
theorem dX10_fault_4 : decode cX10_fault 4 = .ok (.ireturn, 1) := by decide +kernel
set_option maxRecDepth 20000 in
theorem ggX10_worn_X10_isQuill : GoodIn wsX10_worn wsX10_isQuill := goodIn_r _ [10, 11, 12, 25, 26, 27, 28, 29, 30, 31, 32, 33, 34, 35, 36, 37, 38, 44, 45, 46, 47, 48, 49, 50, 51, 52, 53, 54, 55, 56] (by decide +kernel) (by decide +kernel)
set_option maxRecDepth 20000 in
theorem gX10_worn_X10_isQuill : GoodIn wsX10_worn (wsV RX10 156 RX10 yX10_isQuill wsX10_isQuill) := goodIn_app (goodIn_of _ (by decide +kernel)) ggX10_worn_X10_isQuill
set_option maxRecDepth 20000 in
theorem ggX10_worn_X10_within : GoodIn wsX10_worn wsX10_within := goodIn_r _ [15] (by decide +kernel) (by decide +kernel)
set_option maxRecDepth 20000 in
theorem gX10_worn_X10_within : GoodIn wsX10_worn (va_wsS RX10 99 yX10_within wsX10_within) := goodIn_app (goodIn_of _ (by decide +kernel)) ggX10_worn_X10_within
set_option maxRecDepth 20000 in
theorem ggX10_worn_X2_add : GoodIn wsX10_worn wsX2_add := goodIn_r _ [20, 21, 22, 23, 24, 39, 40, 41, 42, 43] (by decide +kernel) (by decide +kernel)
set_option maxRecDepth 20000 in
theorem gX10_worn_X2_add : GoodIn wsX10_worn (wsV RX10 274 RX2 yX2_add wsX2_add) := goodIn_app (goodIn_of _ (by decide +kernel)) ggX10_worn_X2_add
theorem dX10_worn_0 : decode cX10_worn 0 = .ok (.aload_n 0, 1) := by decide +kernel
theorem dX10_worn_1 : decode cX10_worn 1 = .ok (.iload_n 1, 1) := by decide +kernel
theorem dX10_worn_2 : decode cX10_worn 2 = .ok (.invokevirtual 156, 3) := by decide +kernel
theorem dX10_worn_5 : decode cX10_worn 5 = .ok (.ifCond .ne 6, 3) := by decide +kernel
theorem dX10_worn_8 : decode cX10_worn 8 = .ok (.ldc 160, 2) := by decide +kernel
theorem dX10_worn_10 : decode cX10_worn 10 = .ok (.ireturn, 1) := by decide +kernel
theorem dX10_worn_11 : decode cX10_worn 11 = .ok (.iload_n 2, 1) := by decide +kernel
theorem dX10_worn_12 : decode cX10_worn 12 = .ok (.iconst 1, 1) := by decide +kernel
theorem dX10_worn_13 : decode cX10_worn 13 = .ok (.bipush 9, 2) := by decide +kernel
theorem dX10_worn_15 : decode cX10_worn 15 = .ok (.invokestatic 99, 3) := by decide +kernel
theorem dX10_worn_18 : decode cX10_worn 18 = .ok (.ifCond .eq 13, 3) := by decide +kernel
theorem dX10_worn_21 : decode cX10_worn 21 = .ok (.iload_n 3, 1) := by decide +kernel
theorem dX10_worn_22 : decode cX10_worn 22 = .ok (.iconst 0, 1) := by decide +kernel
theorem dX10_worn_23 : decode cX10_worn 23 = .ok (.bipush 99, 2) := by decide +kernel
theorem dX10_worn_25 : decode cX10_worn 25 = .ok (.invokestatic 99, 3) := by decide +kernel
theorem dX10_worn_28 : decode cX10_worn 28 = .ok (.ifCond .ne 6, 3) := by decide +kernel
theorem dX10_worn_31 : decode cX10_worn 31 = .ok (.ldc 103, 2) := by decide +kernel
theorem dX10_worn_33 : decode cX10_worn 33 = .ok (.ireturn, 1) := by decide +kernel
theorem dX10_worn_34 : decode cX10_worn 34 = .ok (.aload_n 0, 1) := by decide +kernel
theorem dX10_worn_35 : decode cX10_worn 35 = .ok (.getfield 88, 3) := by decide +kernel
theorem dX10_worn_38 : decode cX10_worn 38 = .ok (.getfield 123, 3) := by decide +kernel
theorem dX10_worn_41 : decode cX10_worn 41 = .ok (.bipush 6, 2) := by decide +kernel
theorem dX10_worn_43 : decode cX10_worn 43 = .ok (.if_icmp .lt 6, 3) := by decide +kernel
theorem dX10_worn_46 : decode cX10_worn 46 = .ok (.ldc 104, 2) := by decide +kernel
theorem dX10_worn_48 : decode cX10_worn 48 = .ok (.ireturn, 1) := by decide +kernel
theorem dX10_worn_49 : decode cX10_worn 49 = .ok (.aload_n 0, 1) := by decide +kernel
theorem dX10_worn_50 : decode cX10_worn 50 = .ok (.getfield 88, 3) := by decide +kernel
theorem dX10_worn_53 : decode cX10_worn 53 = .ok (.iload_n 1, 1) := by decide +kernel
theorem dX10_worn_54 : decode cX10_worn 54 = .ok (.iload_n 2, 1) := by decide +kernel
theorem dX10_worn_55 : decode cX10_worn 55 = .ok (.iload_n 3, 1) := by decide +kernel
theorem dX10_worn_56 : decode cX10_worn 56 = .ok (.invokevirtual 274, 3) := by decide +kernel
theorem dX10_worn_59 : decode cX10_worn 59 = .ok (.aload_n 0, 1) := by decide +kernel
theorem dX10_worn_60 : decode cX10_worn 60 = .ok (.getfield 88, 3) := by decide +kernel
theorem dX10_worn_63 : decode cX10_worn 63 = .ok (.getfield 123, 3) := by decide +kernel
theorem dX10_worn_66 : decode cX10_worn 66 = .ok (.ireturn, 1) := by decide +kernel
set_option maxRecDepth 20000 in
theorem ggX10_note_X10_isQuill : GoodIn wsX10_note wsX10_isQuill := goodIn_r _ [10, 11, 12, 24, 25, 26, 27, 28, 29, 30, 31, 32, 33, 34, 35, 36, 37, 41, 42, 43, 44, 45, 46, 47, 48, 49, 50, 51, 52, 53] (by decide +kernel) (by decide +kernel)
set_option maxRecDepth 20000 in
theorem gX10_note_X10_isQuill : GoodIn wsX10_note (wsV RX10 156 RX10 yX10_isQuill wsX10_isQuill) := goodIn_app (goodIn_of _ (by decide +kernel)) ggX10_note_X10_isQuill
set_option maxRecDepth 20000 in
theorem ggX10_note_X10_within : GoodIn wsX10_note wsX10_within := goodIn_r _ [15] (by decide +kernel) (by decide +kernel)
set_option maxRecDepth 20000 in
theorem gX10_note_X10_within : GoodIn wsX10_note (va_wsS RX10 99 yX10_within wsX10_within) := goodIn_app (goodIn_of _ (by decide +kernel)) ggX10_note_X10_within
set_option maxRecDepth 20000 in
theorem ggX10_note_X0_add : GoodIn wsX10_note wsX0_add := goodIn_r _ [20, 21, 22, 23, 38, 39, 40] (by decide +kernel) (by decide +kernel)
set_option maxRecDepth 20000 in
theorem gX10_note_X0_add : GoodIn wsX10_note (wsV RX10 284 RX0 yX0_add wsX0_add) := goodIn_app (goodIn_of _ (by decide +kernel)) ggX10_note_X0_add
theorem dX10_note_0 : decode cX10_note 0 = .ok (.aload_n 0, 1) := by decide +kernel
theorem dX10_note_1 : decode cX10_note 1 = .ok (.iload_n 1, 1) := by decide +kernel
theorem dX10_note_2 : decode cX10_note 2 = .ok (.invokevirtual 156, 3) := by decide +kernel
theorem dX10_note_5 : decode cX10_note 5 = .ok (.ifCond .ne 6, 3) := by decide +kernel
theorem dX10_note_8 : decode cX10_note 8 = .ok (.ldc 160, 2) := by decide +kernel
theorem dX10_note_10 : decode cX10_note 10 = .ok (.ireturn, 1) := by decide +kernel
theorem dX10_note_11 : decode cX10_note 11 = .ok (.iload_n 2, 1) := by decide +kernel
theorem dX10_note_12 : decode cX10_note 12 = .ok (.iconst 0, 1) := by decide +kernel
theorem dX10_note_13 : decode cX10_note 13 = .ok (.bipush 99, 2) := by decide +kernel
theorem dX10_note_15 : decode cX10_note 15 = .ok (.invokestatic 99, 3) := by decide +kernel
theorem dX10_note_18 : decode cX10_note 18 = .ok (.ifCond .ne 6, 3) := by decide +kernel
theorem dX10_note_21 : decode cX10_note 21 = .ok (.ldc 103, 2) := by decide +kernel
theorem dX10_note_23 : decode cX10_note 23 = .ok (.ireturn, 1) := by decide +kernel
theorem dX10_note_24 : decode cX10_note 24 = .ok (.aload_n 0, 1) := by decide +kernel
theorem dX10_note_25 : decode cX10_note 25 = .ok (.getfield 95, 3) := by decide +kernel
theorem dX10_note_28 : decode cX10_note 28 = .ok (.getfield 126, 3) := by decide +kernel
theorem dX10_note_31 : decode cX10_note 31 = .ok (.bipush 15, 2) := by decide +kernel
theorem dX10_note_33 : decode cX10_note 33 = .ok (.if_icmp .lt 6, 3) := by decide +kernel
theorem dX10_note_36 : decode cX10_note 36 = .ok (.ldc 104, 2) := by decide +kernel
theorem dX10_note_38 : decode cX10_note 38 = .ok (.ireturn, 1) := by decide +kernel
theorem dX10_note_39 : decode cX10_note 39 = .ok (.aload_n 0, 1) := by decide +kernel
theorem dX10_note_40 : decode cX10_note 40 = .ok (.getfield 95, 3) := by decide +kernel
theorem dX10_note_43 : decode cX10_note 43 = .ok (.iload_n 1, 1) := by decide +kernel
theorem dX10_note_44 : decode cX10_note 44 = .ok (.iload_n 2, 1) := by decide +kernel
theorem dX10_note_45 : decode cX10_note 45 = .ok (.invokevirtual 284, 3) := by decide +kernel
theorem dX10_note_48 : decode cX10_note 48 = .ok (.aload_n 0, 1) := by decide +kernel
theorem dX10_note_49 : decode cX10_note 49 = .ok (.getfield 95, 3) := by decide +kernel
theorem dX10_note_52 : decode cX10_note 52 = .ok (.getfield 126, 3) := by decide +kernel
theorem dX10_note_55 : decode cX10_note 55 = .ok (.ireturn, 1) := by decide +kernel
theorem dX10_tear_0 : decode cX10_tear 0 = .ok (.aload_n 0, 1) := by decide +kernel
theorem dX10_tear_1 : decode cX10_tear 1 = .ok (.getfield 88, 3) := by decide +kernel
theorem dX10_tear_4 : decode cX10_tear 4 = .ok (.getfield 123, 3) := by decide +kernel
theorem dX10_tear_7 : decode cX10_tear 7 = .ok (.aload_n 0, 1) := by decide +kernel
theorem dX10_tear_8 : decode cX10_tear 8 = .ok (.getfield 95, 3) := by decide +kernel
theorem dX10_tear_11 : decode cX10_tear 11 = .ok (.getfield 126, 3) := by decide +kernel
theorem dX10_tear_14 : decode cX10_tear 14 = .ok (.iadd, 1) := by decide +kernel
theorem dX10_tear_15 : decode cX10_tear 15 = .ok (.istore_n 1, 1) := by decide +kernel
theorem dX10_tear_16 : decode cX10_tear 16 = .ok (.aload_n 0, 1) := by decide +kernel
theorem dX10_tear_17 : decode cX10_tear 17 = .ok (.getfield 88, 3) := by decide +kernel
theorem dX10_tear_20 : decode cX10_tear 20 = .ok (.iconst 0, 1) := by decide +kernel
theorem dX10_tear_21 : decode cX10_tear 21 = .ok (.putfield 123, 3) := by decide +kernel
theorem dX10_tear_24 : decode cX10_tear 24 = .ok (.aload_n 0, 1) := by decide +kernel
theorem dX10_tear_25 : decode cX10_tear 25 = .ok (.getfield 95, 3) := by decide +kernel
theorem dX10_tear_28 : decode cX10_tear 28 = .ok (.iconst 0, 1) := by decide +kernel
theorem dX10_tear_29 : decode cX10_tear 29 = .ok (.putfield 126, 3) := by decide +kernel
theorem dX10_tear_32 : decode cX10_tear 32 = .ok (.iload_n 1, 1) := by decide +kernel
theorem dX10_tear_33 : decode cX10_tear 33 = .ok (.ireturn, 1) := by decide +kernel
set_option maxRecDepth 20000 in
theorem ggX10_keep_X10_within : GoodIn wsX10_keep wsX10_within := goodIn_r _ [12] (by decide +kernel) (by decide +kernel)
set_option maxRecDepth 20000 in
theorem gX10_keep_X10_within : GoodIn wsX10_keep (va_wsS RX10 99 yX10_within wsX10_within) := goodIn_app (goodIn_of _ (by decide +kernel)) ggX10_keep_X10_within
set_option maxRecDepth 20000 in
theorem ggX10_keep_X1_copyFrom : GoodIn wsX10_keep wsX1_copyFrom := goodIn_r _ [17, 18, 19, 20, 21, 22, 23, 24, 25, 26, 27, 28, 52, 53, 54, 55, 56, 57, 58, 59] (by decide +kernel) (by decide +kernel)
set_option maxRecDepth 20000 in
theorem gX10_keep_X1_copyFrom : GoodIn wsX10_keep (wsV RX10 295 RX1 yX1_copyFrom wsX1_copyFrom) := goodIn_app (goodIn_of _ (by decide +kernel)) ggX10_keep_X1_copyFrom
set_option maxRecDepth 20000 in
theorem ggX10_keep_X3_forget : GoodIn wsX10_keep wsX3_forget := goodIn_r _ [33, 34, 60, 61, 62] (by decide +kernel) (by decide +kernel)
set_option maxRecDepth 20000 in
theorem gX10_keep_X3_forget : GoodIn wsX10_keep (wsV RX10 119 RX3 yX3_forget wsX3_forget) := goodIn_app (goodIn_of _ (by decide +kernel)) ggX10_keep_X3_forget
theorem dX10_keep_0 : decode cX10_keep 0 = .ok (.iload_n 1, 1) := by decide +kernel
theorem dX10_keep_1 : decode cX10_keep 1 = .ok (.iconst 0, 1) := by decide +kernel
theorem dX10_keep_2 : decode cX10_keep 2 = .ok (.iconst 1, 1) := by decide +kernel
theorem dX10_keep_3 : decode cX10_keep 3 = .ok (.invokestatic 99, 3) := by decide +kernel
theorem dX10_keep_6 : decode cX10_keep 6 = .ok (.ifCond .ne 6, 3) := by decide +kernel
theorem dX10_keep_9 : decode cX10_keep 9 = .ok (.ldc 160, 2) := by decide +kernel
theorem dX10_keep_11 : decode cX10_keep 11 = .ok (.ireturn, 1) := by decide +kernel
theorem dX10_keep_12 : decode cX10_keep 12 = .ok (.aload_n 0, 1) := by decide +kernel
theorem dX10_keep_13 : decode cX10_keep 13 = .ok (.getfield 56, 3) := by decide +kernel
theorem dX10_keep_16 : decode cX10_keep 16 = .ok (.getfield 291, 3) := by decide +kernel
theorem dX10_keep_19 : decode cX10_keep 19 = .ok (.iload_n 1, 1) := by decide +kernel
theorem dX10_keep_20 : decode cX10_keep 20 = .ok (.aaload, 1) := by decide +kernel
theorem dX10_keep_21 : decode cX10_keep 21 = .ok (.aload_n 0, 1) := by decide +kernel
theorem dX10_keep_22 : decode cX10_keep 22 = .ok (.getfield 42, 3) := by decide +kernel
theorem dX10_keep_25 : decode cX10_keep 25 = .ok (.invokevirtual 295, 3) := by decide +kernel
theorem dX10_keep_28 : decode cX10_keep 28 = .ok (.aload_n 0, 1) := by decide +kernel
theorem dX10_keep_29 : decode cX10_keep 29 = .ok (.getfield 56, 3) := by decide +kernel
theorem dX10_keep_32 : decode cX10_keep 32 = .ok (.getfield 297, 3) := by decide +kernel
theorem dX10_keep_35 : decode cX10_keep 35 = .ok (.iload_n 1, 1) := by decide +kernel
theorem dX10_keep_36 : decode cX10_keep 36 = .ok (.aload_n 0, 1) := by decide +kernel
theorem dX10_keep_37 : decode cX10_keep 37 = .ok (.getfield 20, 3) := by decide +kernel
theorem dX10_keep_40 : decode cX10_keep 40 = .ok (.iastore, 1) := by decide +kernel
theorem dX10_keep_41 : decode cX10_keep 41 = .ok (.aload_n 0, 1) := by decide +kernel
theorem dX10_keep_42 : decode cX10_keep 42 = .ok (.getfield 56, 3) := by decide +kernel
theorem dX10_keep_45 : decode cX10_keep 45 = .ok (.getfield 300, 3) := by decide +kernel
theorem dX10_keep_48 : decode cX10_keep 48 = .ok (.iload_n 1, 1) := by decide +kernel
theorem dX10_keep_49 : decode cX10_keep 49 = .ok (.iconst 1, 1) := by decide +kernel
theorem dX10_keep_50 : decode cX10_keep 50 = .ok (.bastore, 1) := by decide +kernel
theorem dX10_keep_51 : decode cX10_keep 51 = .ok (.aload_n 0, 1) := by decide +kernel
theorem dX10_keep_52 : decode cX10_keep 52 = .ok (.getfield 49, 3) := by decide +kernel
theorem dX10_keep_55 : decode cX10_keep 55 = .ok (.invokevirtual 119, 3) := by decide +kernel
theorem dX10_keep_58 : decode cX10_keep 58 = .ok (.iconst 1, 1) := by decide +kernel
theorem dX10_keep_59 : decode cX10_keep 59 = .ok (.ireturn, 1) := by decide +kernel
set_option maxRecDepth 20000 in
theorem ggX10_goBack_X10_within : GoodIn wsX10_goBack wsX10_within := goodIn_r _ [13] (by decide +kernel) (by decide +kernel)
set_option maxRecDepth 20000 in
theorem gX10_goBack_X10_within : GoodIn wsX10_goBack (va_wsS RX10 99 yX10_within wsX10_within) := goodIn_app (goodIn_of _ (by decide +kernel)) ggX10_goBack_X10_within
set_option maxRecDepth 20000 in
theorem ggX10_goBack_X1_copyFrom : GoodIn wsX10_goBack wsX1_copyFrom := goodIn_r _ [18, 19, 20, 21, 22, 23, 24, 25, 26, 27, 28, 29, 53, 54, 55, 56, 57, 58, 59, 60] (by decide +kernel) (by decide +kernel)
set_option maxRecDepth 20000 in
theorem gX10_goBack_X1_copyFrom : GoodIn wsX10_goBack (wsV RX10 295 RX1 yX1_copyFrom wsX1_copyFrom) := goodIn_app (goodIn_of _ (by decide +kernel)) ggX10_goBack_X1_copyFrom
set_option maxRecDepth 20000 in
theorem ggX10_goBack_X3_forget : GoodIn wsX10_goBack wsX3_forget := goodIn_r _ [34, 35, 61, 62, 63] (by decide +kernel) (by decide +kernel)
set_option maxRecDepth 20000 in
theorem gX10_goBack_X3_forget : GoodIn wsX10_goBack (wsV RX10 119 RX3 yX3_forget wsX3_forget) := goodIn_app (goodIn_of _ (by decide +kernel)) ggX10_goBack_X3_forget
theorem dX10_goBack_0 : decode cX10_goBack 0 = .ok (.iload_n 1, 1) := by decide +kernel
theorem dX10_goBack_1 : decode cX10_goBack 1 = .ok (.iconst 0, 1) := by decide +kernel
theorem dX10_goBack_2 : decode cX10_goBack 2 = .ok (.iconst 1, 1) := by decide +kernel
theorem dX10_goBack_3 : decode cX10_goBack 3 = .ok (.invokestatic 99, 3) := by decide +kernel
theorem dX10_goBack_6 : decode cX10_goBack 6 = .ok (.ifCond .ne 6, 3) := by decide +kernel
theorem dX10_goBack_9 : decode cX10_goBack 9 = .ok (.ldc 160, 2) := by decide +kernel
theorem dX10_goBack_11 : decode cX10_goBack 11 = .ok (.ireturn, 1) := by decide +kernel
theorem dX10_goBack_12 : decode cX10_goBack 12 = .ok (.aload_n 0, 1) := by decide +kernel
theorem dX10_goBack_13 : decode cX10_goBack 13 = .ok (.getfield 56, 3) := by decide +kernel
theorem dX10_goBack_16 : decode cX10_goBack 16 = .ok (.getfield 300, 3) := by decide +kernel
theorem dX10_goBack_19 : decode cX10_goBack 19 = .ok (.iload_n 1, 1) := by decide +kernel
theorem dX10_goBack_20 : decode cX10_goBack 20 = .ok (.baload, 1) := by decide +kernel
theorem dX10_goBack_21 : decode cX10_goBack 21 = .ok (.ifCond .ne 6, 3) := by decide +kernel
theorem dX10_goBack_24 : decode cX10_goBack 24 = .ok (.ldc 220, 2) := by decide +kernel
theorem dX10_goBack_26 : decode cX10_goBack 26 = .ok (.ireturn, 1) := by decide +kernel
theorem dX10_goBack_27 : decode cX10_goBack 27 = .ok (.aload_n 0, 1) := by decide +kernel
theorem dX10_goBack_28 : decode cX10_goBack 28 = .ok (.getfield 42, 3) := by decide +kernel
theorem dX10_goBack_31 : decode cX10_goBack 31 = .ok (.aload_n 0, 1) := by decide +kernel
theorem dX10_goBack_32 : decode cX10_goBack 32 = .ok (.getfield 56, 3) := by decide +kernel
theorem dX10_goBack_35 : decode cX10_goBack 35 = .ok (.getfield 291, 3) := by decide +kernel
theorem dX10_goBack_38 : decode cX10_goBack 38 = .ok (.iload_n 1, 1) := by decide +kernel
theorem dX10_goBack_39 : decode cX10_goBack 39 = .ok (.aaload, 1) := by decide +kernel
theorem dX10_goBack_40 : decode cX10_goBack 40 = .ok (.invokevirtual 295, 3) := by decide +kernel
theorem dX10_goBack_43 : decode cX10_goBack 43 = .ok (.aload_n 0, 1) := by decide +kernel
theorem dX10_goBack_44 : decode cX10_goBack 44 = .ok (.aload_n 0, 1) := by decide +kernel
theorem dX10_goBack_45 : decode cX10_goBack 45 = .ok (.getfield 56, 3) := by decide +kernel
theorem dX10_goBack_48 : decode cX10_goBack 48 = .ok (.getfield 297, 3) := by decide +kernel
theorem dX10_goBack_51 : decode cX10_goBack 51 = .ok (.iload_n 1, 1) := by decide +kernel
theorem dX10_goBack_52 : decode cX10_goBack 52 = .ok (.iaload, 1) := by decide +kernel
theorem dX10_goBack_53 : decode cX10_goBack 53 = .ok (.putfield 20, 3) := by decide +kernel
theorem dX10_goBack_56 : decode cX10_goBack 56 = .ok (.aload_n 0, 1) := by decide +kernel
theorem dX10_goBack_57 : decode cX10_goBack 57 = .ok (.getfield 49, 3) := by decide +kernel
theorem dX10_goBack_60 : decode cX10_goBack 60 = .ok (.invokevirtual 119, 3) := by decide +kernel
theorem dX10_goBack_63 : decode cX10_goBack 63 = .ok (.iconst 1, 1) := by decide +kernel
theorem dX10_goBack_64 : decode cX10_goBack 64 = .ok (.ireturn, 1) := by decide +kernel
theorem dX10_within_0 : decode cX10_within 0 = .ok (.iload_n 0, 1) := by decide +kernel
theorem dX10_within_1 : decode cX10_within 1 = .ok (.iload_n 1, 1) := by decide +kernel
theorem dX10_within_2 : decode cX10_within 2 = .ok (.if_icmp .lt 12, 3) := by decide +kernel
theorem dX10_within_5 : decode cX10_within 5 = .ok (.iload_n 0, 1) := by decide +kernel
theorem dX10_within_6 : decode cX10_within 6 = .ok (.iload_n 2, 1) := by decide +kernel
theorem dX10_within_7 : decode cX10_within 7 = .ok (.if_icmp .gt 7, 3) := by decide +kernel
theorem dX10_within_10 : decode cX10_within 10 = .ok (.iconst 1, 1) := by decide +kernel
theorem dX10_within_11 : decode cX10_within 11 = .ok (.goto 4, 3) := by decide +kernel
theorem dX10_within_14 : decode cX10_within 14 = .ok (.iconst 0, 1) := by decide +kernel
theorem dX10_within_15 : decode cX10_within 15 = .ok (.ireturn, 1) := by decide +kernel
theorem dX10_isQuill_0 : decode cX10_isQuill 0 = .ok (.iload_n 1, 1) := by decide +kernel
theorem dX10_isQuill_1 : decode cX10_isQuill 1 = .ok (.ifCond .lt 18, 3) := by decide +kernel
theorem dX10_isQuill_4 : decode cX10_isQuill 4 = .ok (.iload_n 1, 1) := by decide +kernel
theorem dX10_isQuill_5 : decode cX10_isQuill 5 = .ok (.aload_n 0, 1) := by decide +kernel
theorem dX10_isQuill_6 : decode cX10_isQuill 6 = .ok (.getfield 26, 3) := by decide +kernel
theorem dX10_isQuill_9 : decode cX10_isQuill 9 = .ok (.getfield 127, 3) := by decide +kernel
theorem dX10_isQuill_12 : decode cX10_isQuill 12 = .ok (.if_icmp .ge 7, 3) := by decide +kernel
theorem dX10_isQuill_15 : decode cX10_isQuill 15 = .ok (.iconst 1, 1) := by decide +kernel
theorem dX10_isQuill_16 : decode cX10_isQuill 16 = .ok (.goto 4, 3) := by decide +kernel
theorem dX10_isQuill_19 : decode cX10_isQuill 19 = .ok (.iconst 0, 1) := by decide +kernel
theorem dX10_isQuill_20 : decode cX10_isQuill 20 = .ok (.ireturn, 1) := by decide +kernel
theorem dX10_isHand_0 : decode cX10_isHand 0 = .ok (.iload_n 1, 1) := by decide +kernel
theorem dX10_isHand_1 : decode cX10_isHand 1 = .ok (.ifCond .lt 18, 3) := by decide +kernel
theorem dX10_isHand_4 : decode cX10_isHand 4 = .ok (.iload_n 1, 1) := by decide +kernel
theorem dX10_isHand_5 : decode cX10_isHand 5 = .ok (.aload_n 0, 1) := by decide +kernel
theorem dX10_isHand_6 : decode cX10_isHand 6 = .ok (.getfield 26, 3) := by decide +kernel
theorem dX10_isHand_9 : decode cX10_isHand 9 = .ok (.getfield 136, 3) := by decide +kernel
theorem dX10_isHand_12 : decode cX10_isHand 12 = .ok (.if_icmp .ge 7, 3) := by decide +kernel
theorem dX10_isHand_15 : decode cX10_isHand 15 = .ok (.iconst 1, 1) := by decide +kernel
theorem dX10_isHand_16 : decode cX10_isHand 16 = .ok (.goto 4, 3) := by decide +kernel
theorem dX10_isHand_19 : decode cX10_isHand 19 = .ok (.iconst 0, 1) := by decide +kernel
theorem dX10_isHand_20 : decode cX10_isHand 20 = .ok (.ireturn, 1) := by decide +kernel
theorem dX10_driedSoftness_0 : decode cX10_driedSoftness 0 = .ok (.iload_n 0, 1) := by decide +kernel
theorem dX10_driedSoftness_1 : decode cX10_driedSoftness 1 = .ok (.bipush 8, 2) := by decide +kernel
theorem dX10_driedSoftness_3 : decode cX10_driedSoftness 3 = .ok (.iload_n 1, 1) := by decide +kernel
theorem dX10_driedSoftness_4 : decode cX10_driedSoftness 4 = .ok (.imul, 1) := by decide +kernel
theorem dX10_driedSoftness_5 : decode cX10_driedSoftness 5 = .ok (.isub, 1) := by decide +kernel
theorem dX10_driedSoftness_6 : decode cX10_driedSoftness 6 = .ok (.iload_n 0, 1) := by decide +kernel
theorem dX10_driedSoftness_7 : decode cX10_driedSoftness 7 = .ok (.iconst 3, 1) := by decide +kernel
theorem dX10_driedSoftness_8 : decode cX10_driedSoftness 8 = .ok (.idiv, 1) := by decide +kernel
theorem dX10_driedSoftness_9 : decode cX10_driedSoftness 9 = .ok (.invokestatic 305, 3) := by decide +kernel
theorem dX10_driedSoftness_12 : decode cX10_driedSoftness 12 = .ok (.ireturn, 1) := by decide +kernel
theorem dX10_softerBy_0 : decode cX10_softerBy 0 = .ok (.bipush 99, 2) := by decide +kernel
theorem dX10_softerBy_2 : decode cX10_softerBy 2 = .ok (.iload_n 0, 1) := by decide +kernel
theorem dX10_softerBy_3 : decode cX10_softerBy 3 = .ok (.iload_n 1, 1) := by decide +kernel
theorem dX10_softerBy_4 : decode cX10_softerBy 4 = .ok (.iadd, 1) := by decide +kernel
theorem dX10_softerBy_5 : decode cX10_softerBy 5 = .ok (.invokestatic 265, 3) := by decide +kernel
theorem dX10_softerBy_8 : decode cX10_softerBy 8 = .ok (.ireturn, 1) := by decide +kernel
theorem dX11_in_0 : decode cX11_in 0 = .ok (.lload_n 0, 1) := by decide +kernel
theorem dX11_in_1 : decode cX11_in 1 = .ok (.lload_n 2, 1) := by decide +kernel
theorem dX11_in_2 : decode cX11_in 2 = .ok (.lcmp, 1) := by decide +kernel
theorem dX11_in_3 : decode cX11_in 3 = .ok (.ifCond .lt 14, 3) := by decide +kernel
theorem dX11_in_6 : decode cX11_in 6 = .ok (.lload_n 0, 1) := by decide +kernel
theorem dX11_in_7 : decode cX11_in 7 = .ok (.lload 4, 2) := by decide +kernel
theorem dX11_in_9 : decode cX11_in 9 = .ok (.lcmp, 1) := by decide +kernel
theorem dX11_in_10 : decode cX11_in 10 = .ok (.ifCond .gt 7, 3) := by decide +kernel
theorem dX11_in_13 : decode cX11_in 13 = .ok (.iconst 1, 1) := by decide +kernel
theorem dX11_in_14 : decode cX11_in 14 = .ok (.goto 4, 3) := by decide +kernel
theorem dX11_in_17 : decode cX11_in 17 = .ok (.iconst 0, 1) := by decide +kernel
theorem dX11_in_18 : decode cX11_in 18 = .ok (.ireturn, 1) := by decide +kernel
set_option maxRecDepth 20000 in
theorem ggX11_isQuill_X11_in : GoodIn wsX11_isQuill wsX11_in := goodIn_r _ [5] (by decide +kernel) (by decide +kernel)
set_option maxRecDepth 20000 in
theorem gX11_isQuill_X11_in : GoodIn wsX11_isQuill (va_wsS RX11 102 yX11_in wsX11_in) := goodIn_app (goodIn_of _ (by decide +kernel)) ggX11_isQuill_X11_in
theorem dX11_isQuill_0 : decode cX11_isQuill 0 = .ok (.iload_n 1, 1) := by decide +kernel
theorem dX11_isQuill_1 : decode cX11_isQuill 1 = .ok (.i2l, 1) := by decide +kernel
theorem dX11_isQuill_2 : decode cX11_isQuill 2 = .ok (.lconst 0, 1) := by decide +kernel
theorem dX11_isQuill_3 : decode cX11_isQuill 3 = .ok (.aload_n 0, 1) := by decide +kernel
theorem dX11_isQuill_4 : decode cX11_isQuill 4 = .ok (.getfield 99, 3) := by decide +kernel
theorem dX11_isQuill_7 : decode cX11_isQuill 7 = .ok (.iconst 1, 1) := by decide +kernel
theorem dX11_isQuill_8 : decode cX11_isQuill 8 = .ok (.isub, 1) := by decide +kernel
theorem dX11_isQuill_9 : decode cX11_isQuill 9 = .ok (.i2l, 1) := by decide +kernel
theorem dX11_isQuill_10 : decode cX11_isQuill 10 = .ok (.invokestatic 102, 3) := by decide +kernel
theorem dX11_isQuill_13 : decode cX11_isQuill 13 = .ok (.ireturn, 1) := by decide +kernel
set_option maxRecDepth 20000 in
theorem ggX11_isHand_X11_in : GoodIn wsX11_isHand wsX11_in := goodIn_r _ [5] (by decide +kernel) (by decide +kernel)
set_option maxRecDepth 20000 in
theorem gX11_isHand_X11_in : GoodIn wsX11_isHand (va_wsS RX11 102 yX11_in wsX11_in) := goodIn_app (goodIn_of _ (by decide +kernel)) ggX11_isHand_X11_in
theorem dX11_isHand_0 : decode cX11_isHand 0 = .ok (.iload_n 1, 1) := by decide +kernel
theorem dX11_isHand_1 : decode cX11_isHand 1 = .ok (.i2l, 1) := by decide +kernel
theorem dX11_isHand_2 : decode cX11_isHand 2 = .ok (.lconst 0, 1) := by decide +kernel
theorem dX11_isHand_3 : decode cX11_isHand 3 = .ok (.aload_n 0, 1) := by decide +kernel
theorem dX11_isHand_4 : decode cX11_isHand 4 = .ok (.getfield 106, 3) := by decide +kernel
theorem dX11_isHand_7 : decode cX11_isHand 7 = .ok (.iconst 1, 1) := by decide +kernel
theorem dX11_isHand_8 : decode cX11_isHand 8 = .ok (.isub, 1) := by decide +kernel
theorem dX11_isHand_9 : decode cX11_isHand 9 = .ok (.i2l, 1) := by decide +kernel
theorem dX11_isHand_10 : decode cX11_isHand 10 = .ok (.invokestatic 102, 3) := by decide +kernel
theorem dX11_isHand_13 : decode cX11_isHand 13 = .ok (.ireturn, 1) := by decide +kernel
set_option maxRecDepth 20000 in
theorem ggX11_feed_X11_in : GoodIn wsX11_feed wsX11_in := goodIn_r _ [9] (by decide +kernel) (by decide +kernel)
set_option maxRecDepth 20000 in
theorem gX11_feed_X11_in : GoodIn wsX11_feed (va_wsS RX11 102 yX11_in wsX11_in) := goodIn_app (goodIn_of _ (by decide +kernel)) ggX11_feed_X11_in
theorem dX11_feed_0 : decode cX11_feed 0 = .ok (.iload_n 1, 1) := by decide +kernel
theorem dX11_feed_1 : decode cX11_feed 1 = .ok (.i2l, 1) := by decide +kernel
theorem dX11_feed_2 : decode cX11_feed 2 = .ok (.lconst 0, 1) := by decide +kernel
theorem dX11_feed_3 : decode cX11_feed 3 = .ok (.ldc2_w 109, 3) := by decide +kernel
theorem dX11_feed_6 : decode cX11_feed 6 = .ok (.invokestatic 102, 3) := by decide +kernel
theorem dX11_feed_9 : decode cX11_feed 9 = .ok (.ifCond .ne 6, 3) := by decide +kernel
theorem dX11_feed_12 : decode cX11_feed 12 = .ok (.ldc 111, 2) := by decide +kernel
theorem dX11_feed_14 : decode cX11_feed 14 = .ok (.ireturn, 1) := by decide +kernel
theorem dX11_feed_15 : decode cX11_feed 15 = .ok (.aload_n 0, 1) := by decide +kernel
theorem dX11_feed_16 : decode cX11_feed 16 = .ok (.getfield 112, 3) := by decide +kernel
theorem dX11_feed_19 : decode cX11_feed 19 = .ok (.sipush 220, 3) := by decide +kernel
theorem dX11_feed_22 : decode cX11_feed 22 = .ok (.if_icmp .ne 6, 3) := by decide +kernel
theorem dX11_feed_25 : decode cX11_feed 25 = .ok (.ldc 115, 2) := by decide +kernel
theorem dX11_feed_27 : decode cX11_feed 27 = .ok (.ireturn, 1) := by decide +kernel
theorem dX11_feed_28 : decode cX11_feed 28 = .ok (.aload_n 0, 1) := by decide +kernel
theorem dX11_feed_29 : decode cX11_feed 29 = .ok (.getfield 31, 3) := by decide +kernel
theorem dX11_feed_32 : decode cX11_feed 32 = .ok (.aload_n 0, 1) := by decide +kernel
theorem dX11_feed_33 : decode cX11_feed 33 = .ok (.getfield 112, 3) := by decide +kernel
theorem dX11_feed_36 : decode cX11_feed 36 = .ok (.iload_n 1, 1) := by decide +kernel
theorem dX11_feed_37 : decode cX11_feed 37 = .ok (.iastore, 1) := by decide +kernel
theorem dX11_feed_38 : decode cX11_feed 38 = .ok (.aload_n 0, 1) := by decide +kernel
theorem dX11_feed_39 : decode cX11_feed 39 = .ok (.dup, 1) := by decide +kernel
theorem dX11_feed_40 : decode cX11_feed 40 = .ok (.getfield 112, 3) := by decide +kernel
theorem dX11_feed_43 : decode cX11_feed 43 = .ok (.iconst 1, 1) := by decide +kernel
theorem dX11_feed_44 : decode cX11_feed 44 = .ok (.iadd, 1) := by decide +kernel
theorem dX11_feed_45 : decode cX11_feed 45 = .ok (.putfield 112, 3) := by decide +kernel
theorem dX11_feed_48 : decode cX11_feed 48 = .ok (.aload_n 0, 1) := by decide +kernel
theorem dX11_feed_49 : decode cX11_feed 49 = .ok (.getfield 112, 3) := by decide +kernel
theorem dX11_feed_52 : decode cX11_feed 52 = .ok (.ireturn, 1) := by decide +kernel
theorem dX11_here_0 : decode cX11_here 0 = .ok (.aload_n 0, 1) := by decide +kernel
theorem dX11_here_1 : decode cX11_here 1 = .ok (.getfield 116, 3) := by decide +kernel
theorem dX11_here_4 : decode cX11_here 4 = .ok (.aload_n 0, 1) := by decide +kernel
theorem dX11_here_5 : decode cX11_here 5 = .ok (.getfield 112, 3) := by decide +kernel
theorem dX11_here_8 : decode cX11_here 8 = .ok (.if_icmp .ge 30, 3) := by decide +kernel
theorem dX11_here_11 : decode cX11_here 11 = .ok (.aload_n 0, 1) := by decide +kernel
theorem dX11_here_12 : decode cX11_here 12 = .ok (.getfield 31, 3) := by decide +kernel
theorem dX11_here_15 : decode cX11_here 15 = .ok (.aload_n 0, 1) := by decide +kernel
theorem dX11_here_16 : decode cX11_here 16 = .ok (.getfield 116, 3) := by decide +kernel
theorem dX11_here_19 : decode cX11_here 19 = .ok (.iaload, 1) := by decide +kernel
theorem dX11_here_20 : decode cX11_here 20 = .ok (.bipush 32, 2) := by decide +kernel
theorem dX11_here_22 : decode cX11_here 22 = .ok (.if_icmp .ne 16, 3) := by decide +kernel
theorem dX11_here_25 : decode cX11_here 25 = .ok (.aload_n 0, 1) := by decide +kernel
theorem dX11_here_26 : decode cX11_here 26 = .ok (.dup, 1) := by decide +kernel
theorem dX11_here_27 : decode cX11_here 27 = .ok (.getfield 116, 3) := by decide +kernel
theorem dX11_here_30 : decode cX11_here 30 = .ok (.iconst 1, 1) := by decide +kernel
theorem dX11_here_31 : decode cX11_here 31 = .ok (.iadd, 1) := by decide +kernel
theorem dX11_here_32 : decode cX11_here 32 = .ok (.putfield 116, 3) := by decide +kernel
theorem dX11_here_35 : decode cX11_here 35 = .ok (.goto (-35), 3) := by decide +kernel
theorem dX11_here_38 : decode cX11_here 38 = .ok (.aload_n 0, 1) := by decide +kernel
theorem dX11_here_39 : decode cX11_here 39 = .ok (.getfield 116, 3) := by decide +kernel
theorem dX11_here_42 : decode cX11_here 42 = .ok (.aload_n 0, 1) := by decide +kernel
theorem dX11_here_43 : decode cX11_here 43 = .ok (.getfield 112, 3) := by decide +kernel
theorem dX11_here_46 : decode cX11_here 46 = .ok (.if_icmp .ge 15, 3) := by decide +kernel
theorem dX11_here_49 : decode cX11_here 49 = .ok (.aload_n 0, 1) := by decide +kernel
theorem dX11_here_50 : decode cX11_here 50 = .ok (.getfield 31, 3) := by decide +kernel
theorem dX11_here_53 : decode cX11_here 53 = .ok (.aload_n 0, 1) := by decide +kernel
theorem dX11_here_54 : decode cX11_here 54 = .ok (.getfield 116, 3) := by decide +kernel
theorem dX11_here_57 : decode cX11_here 57 = .ok (.iaload, 1) := by decide +kernel
theorem dX11_here_58 : decode cX11_here 58 = .ok (.goto 4, 3) := by decide +kernel
theorem dX11_here_61 : decode cX11_here 61 = .ok (.iconst (-1), 1) := by decide +kernel
theorem dX11_here_62 : decode cX11_here 62 = .ok (.ireturn, 1) := by decide +kernel
theorem dX11_fails_0 : decode cX11_fails 0 = .ok (.aload_n 0, 1) := by decide +kernel
theorem dX11_fails_1 : decode cX11_fails 1 = .ok (.iload_n 2, 1) := by decide +kernel
theorem dX11_fails_2 : decode cX11_fails 2 = .ok (.putfield 34, 3) := by decide +kernel
theorem dX11_fails_5 : decode cX11_fails 5 = .ok (.iload_n 1, 1) := by decide +kernel
theorem dX11_fails_6 : decode cX11_fails 6 = .ok (.ireturn, 1) := by decide +kernel
set_option maxRecDepth 20000 in
theorem ggX11_takeNumber_X11_here : GoodIn wsX11_takeNumber wsX11_here := goodIn_r _ [12, 3, 6, 7, 21, 22, 23, 24, 25, 26, 27, 28, 29, 30, 31, 32, 33, 34, 35, 36, 37, 38, 39, 40, 41, 42, 43, 44, 45, 46, 47, 48, 49, 50, 51, 52, 53, 54, 55, 56, 57, 58, 59, 60, 61, 62, 63, 64, 65, 66] (by decide +kernel) (by decide +kernel)
set_option maxRecDepth 20000 in
theorem gX11_takeNumber_X11_here : GoodIn wsX11_takeNumber (wsV RX11 119 RX11 yX11_here wsX11_here) := goodIn_app (goodIn_of _ (by decide +kernel)) ggX11_takeNumber_X11_here
set_option maxRecDepth 20000 in
theorem ggX11_takeNumber_X11_in : GoodIn wsX11_takeNumber wsX11_in := goodIn_r _ [15] (by decide +kernel) (by decide +kernel)
set_option maxRecDepth 20000 in
theorem gX11_takeNumber_X11_in : GoodIn wsX11_takeNumber (va_wsS RX11 102 yX11_in wsX11_in) := goodIn_app (goodIn_of _ (by decide +kernel)) ggX11_takeNumber_X11_in
set_option maxRecDepth 20000 in
theorem ggX11_takeNumber_X11_fails : GoodIn wsX11_takeNumber wsX11_fails := goodIn_r _ [19, 20, 21, 22, 23, 24, 25, 26, 27, 28, 29, 30, 31, 32, 33, 34, 35, 36, 37, 38, 39, 40, 41, 42, 43, 44, 45, 46, 47, 48, 49, 50, 51, 52, 53, 54, 55, 56, 57, 58, 59, 60, 61, 62, 63, 64, 65, 66] (by decide +kernel) (by decide +kernel)
set_option maxRecDepth 20000 in
theorem gX11_takeNumber_X11_fails : GoodIn wsX11_takeNumber (wsV RX11 127 RX11 yX11_fails wsX11_fails) := goodIn_app (goodIn_of _ (by decide +kernel)) ggX11_takeNumber_X11_fails
theorem dX11_takeNumber_0 : decode cX11_takeNumber 0 = .ok (.aload_n 0, 1) := by decide +kernel
theorem dX11_takeNumber_1 : decode cX11_takeNumber 1 = .ok (.invokevirtual 119, 3) := by decide +kernel
theorem dX11_takeNumber_4 : decode cX11_takeNumber 4 = .ok (.istore_n 3, 1) := by decide +kernel
theorem dX11_takeNumber_5 : decode cX11_takeNumber 5 = .ok (.iload_n 3, 1) := by decide +kernel
theorem dX11_takeNumber_6 : decode cX11_takeNumber 6 = .ok (.i2l, 1) := by decide +kernel
theorem dX11_takeNumber_7 : decode cX11_takeNumber 7 = .ok (.ldc2_w 123, 3) := by decide +kernel
theorem dX11_takeNumber_10 : decode cX11_takeNumber 10 = .ok (.ldc2_w 125, 3) := by decide +kernel
theorem dX11_takeNumber_13 : decode cX11_takeNumber 13 = .ok (.invokestatic 102, 3) := by decide +kernel
theorem dX11_takeNumber_16 : decode cX11_takeNumber 16 = .ok (.ifCond .ne 13, 3) := by decide +kernel
theorem dX11_takeNumber_19 : decode cX11_takeNumber 19 = .ok (.aload_n 0, 1) := by decide +kernel
theorem dX11_takeNumber_20 : decode cX11_takeNumber 20 = .ok (.iconst 1, 1) := by decide +kernel
theorem dX11_takeNumber_21 : decode cX11_takeNumber 21 = .ok (.aload_n 0, 1) := by decide +kernel
theorem dX11_takeNumber_22 : decode cX11_takeNumber 22 = .ok (.getfield 116, 3) := by decide +kernel
theorem dX11_takeNumber_25 : decode cX11_takeNumber 25 = .ok (.invokevirtual 127, 3) := by decide +kernel
theorem dX11_takeNumber_28 : decode cX11_takeNumber 28 = .ok (.ireturn, 1) := by decide +kernel
theorem dX11_takeNumber_29 : decode cX11_takeNumber 29 = .ok (.aload_n 0, 1) := by decide +kernel
theorem dX11_takeNumber_30 : decode cX11_takeNumber 30 = .ok (.aload_n 0, 1) := by decide +kernel
theorem dX11_takeNumber_31 : decode cX11_takeNumber 31 = .ok (.getfield 116, 3) := by decide +kernel
theorem dX11_takeNumber_34 : decode cX11_takeNumber 34 = .ok (.putfield 131, 3) := by decide +kernel
theorem dX11_takeNumber_37 : decode cX11_takeNumber 37 = .ok (.aload_n 0, 1) := by decide +kernel
theorem dX11_takeNumber_38 : decode cX11_takeNumber 38 = .ok (.iconst 0, 1) := by decide +kernel
theorem dX11_takeNumber_39 : decode cX11_takeNumber 39 = .ok (.putfield 134, 3) := by decide +kernel
theorem dX11_takeNumber_42 : decode cX11_takeNumber 42 = .ok (.aload_n 0, 1) := by decide +kernel
theorem dX11_takeNumber_43 : decode cX11_takeNumber 43 = .ok (.getfield 116, 3) := by decide +kernel
theorem dX11_takeNumber_46 : decode cX11_takeNumber 46 = .ok (.aload_n 0, 1) := by decide +kernel
theorem dX11_takeNumber_47 : decode cX11_takeNumber 47 = .ok (.getfield 112, 3) := by decide +kernel
theorem dX11_takeNumber_50 : decode cX11_takeNumber 50 = .ok (.if_icmp .ge 79, 3) := by decide +kernel
theorem dX11_takeNumber_53 : decode cX11_takeNumber 53 = .ok (.aload_n 0, 1) := by decide +kernel
theorem dX11_takeNumber_54 : decode cX11_takeNumber 54 = .ok (.getfield 31, 3) := by decide +kernel
theorem dX11_takeNumber_57 : decode cX11_takeNumber 57 = .ok (.aload_n 0, 1) := by decide +kernel
theorem dX11_takeNumber_58 : decode cX11_takeNumber 58 = .ok (.getfield 116, 3) := by decide +kernel
theorem dX11_takeNumber_61 : decode cX11_takeNumber 61 = .ok (.iaload, 1) := by decide +kernel
theorem dX11_takeNumber_62 : decode cX11_takeNumber 62 = .ok (.i2l, 1) := by decide +kernel
theorem dX11_takeNumber_63 : decode cX11_takeNumber 63 = .ok (.ldc2_w 123, 3) := by decide +kernel
theorem dX11_takeNumber_66 : decode cX11_takeNumber 66 = .ok (.ldc2_w 125, 3) := by decide +kernel
theorem dX11_takeNumber_69 : decode cX11_takeNumber 69 = .ok (.invokestatic 102, 3) := by decide +kernel
theorem dX11_takeNumber_72 : decode cX11_takeNumber 72 = .ok (.ifCond .eq 57, 3) := by decide +kernel
theorem dX11_takeNumber_75 : decode cX11_takeNumber 75 = .ok (.aload_n 0, 1) := by decide +kernel
theorem dX11_takeNumber_76 : decode cX11_takeNumber 76 = .ok (.aload_n 0, 1) := by decide +kernel
theorem dX11_takeNumber_77 : decode cX11_takeNumber 77 = .ok (.getfield 134, 3) := by decide +kernel
theorem dX11_takeNumber_80 : decode cX11_takeNumber 80 = .ok (.sipush 10000, 3) := by decide +kernel
theorem dX11_takeNumber_83 : decode cX11_takeNumber 83 = .ok (.if_icmp .le 10, 3) := by decide +kernel
theorem dX11_takeNumber_86 : decode cX11_takeNumber 86 = .ok (.aload_n 0, 1) := by decide +kernel
theorem dX11_takeNumber_87 : decode cX11_takeNumber 87 = .ok (.getfield 134, 3) := by decide +kernel
theorem dX11_takeNumber_90 : decode cX11_takeNumber 90 = .ok (.goto 23, 3) := by decide +kernel
theorem dX11_takeNumber_93 : decode cX11_takeNumber 93 = .ok (.bipush 10, 2) := by decide +kernel
theorem dX11_takeNumber_95 : decode cX11_takeNumber 95 = .ok (.aload_n 0, 1) := by decide +kernel
theorem dX11_takeNumber_96 : decode cX11_takeNumber 96 = .ok (.getfield 134, 3) := by decide +kernel
theorem dX11_takeNumber_99 : decode cX11_takeNumber 99 = .ok (.imul, 1) := by decide +kernel
theorem dX11_takeNumber_100 : decode cX11_takeNumber 100 = .ok (.aload_n 0, 1) := by decide +kernel
theorem dX11_takeNumber_101 : decode cX11_takeNumber 101 = .ok (.getfield 31, 3) := by decide +kernel
theorem dX11_takeNumber_104 : decode cX11_takeNumber 104 = .ok (.aload_n 0, 1) := by decide +kernel
theorem dX11_takeNumber_105 : decode cX11_takeNumber 105 = .ok (.getfield 116, 3) := by decide +kernel
theorem dX11_takeNumber_108 : decode cX11_takeNumber 108 = .ok (.iaload, 1) := by decide +kernel
theorem dX11_takeNumber_109 : decode cX11_takeNumber 109 = .ok (.iadd, 1) := by decide +kernel
theorem dX11_takeNumber_110 : decode cX11_takeNumber 110 = .ok (.bipush 48, 2) := by decide +kernel
theorem dX11_takeNumber_112 : decode cX11_takeNumber 112 = .ok (.isub, 1) := by decide +kernel
theorem dX11_takeNumber_113 : decode cX11_takeNumber 113 = .ok (.putfield 134, 3) := by decide +kernel
theorem dX11_takeNumber_116 : decode cX11_takeNumber 116 = .ok (.aload_n 0, 1) := by decide +kernel
theorem dX11_takeNumber_117 : decode cX11_takeNumber 117 = .ok (.dup, 1) := by decide +kernel
theorem dX11_takeNumber_118 : decode cX11_takeNumber 118 = .ok (.getfield 116, 3) := by decide +kernel
theorem dX11_takeNumber_121 : decode cX11_takeNumber 121 = .ok (.iconst 1, 1) := by decide +kernel
theorem dX11_takeNumber_122 : decode cX11_takeNumber 122 = .ok (.iadd, 1) := by decide +kernel
theorem dX11_takeNumber_123 : decode cX11_takeNumber 123 = .ok (.putfield 116, 3) := by decide +kernel
theorem dX11_takeNumber_126 : decode cX11_takeNumber 126 = .ok (.goto (-84), 3) := by decide +kernel
theorem dX11_takeNumber_129 : decode cX11_takeNumber 129 = .ok (.aload_n 0, 1) := by decide +kernel
theorem dX11_takeNumber_130 : decode cX11_takeNumber 130 = .ok (.getfield 116, 3) := by decide +kernel
theorem dX11_takeNumber_133 : decode cX11_takeNumber 133 = .ok (.aload_n 0, 1) := by decide +kernel
theorem dX11_takeNumber_134 : decode cX11_takeNumber 134 = .ok (.getfield 131, 3) := by decide +kernel
theorem dX11_takeNumber_137 : decode cX11_takeNumber 137 = .ok (.isub, 1) := by decide +kernel
theorem dX11_takeNumber_138 : decode cX11_takeNumber 138 = .ok (.iconst 3, 1) := by decide +kernel
theorem dX11_takeNumber_139 : decode cX11_takeNumber 139 = .ok (.if_icmp .gt 18, 3) := by decide +kernel
theorem dX11_takeNumber_142 : decode cX11_takeNumber 142 = .ok (.aload_n 0, 1) := by decide +kernel
theorem dX11_takeNumber_143 : decode cX11_takeNumber 143 = .ok (.getfield 134, 3) := by decide +kernel
theorem dX11_takeNumber_146 : decode cX11_takeNumber 146 = .ok (.i2l, 1) := by decide +kernel
theorem dX11_takeNumber_147 : decode cX11_takeNumber 147 = .ok (.iload_n 1, 1) := by decide +kernel
theorem dX11_takeNumber_148 : decode cX11_takeNumber 148 = .ok (.i2l, 1) := by decide +kernel
theorem dX11_takeNumber_149 : decode cX11_takeNumber 149 = .ok (.iload_n 2, 1) := by decide +kernel
theorem dX11_takeNumber_150 : decode cX11_takeNumber 150 = .ok (.i2l, 1) := by decide +kernel
theorem dX11_takeNumber_151 : decode cX11_takeNumber 151 = .ok (.invokestatic 102, 3) := by decide +kernel
theorem dX11_takeNumber_154 : decode cX11_takeNumber 154 = .ok (.ifCond .ne 15, 3) := by decide +kernel
theorem dX11_takeNumber_157 : decode cX11_takeNumber 157 = .ok (.aload_n 0, 1) := by decide +kernel
theorem dX11_takeNumber_158 : decode cX11_takeNumber 158 = .ok (.iconst 2, 1) := by decide +kernel
theorem dX11_takeNumber_159 : decode cX11_takeNumber 159 = .ok (.aload_n 0, 1) := by decide +kernel
theorem dX11_takeNumber_160 : decode cX11_takeNumber 160 = .ok (.getfield 131, 3) := by decide +kernel
theorem dX11_takeNumber_163 : decode cX11_takeNumber 163 = .ok (.invokevirtual 127, 3) := by decide +kernel
theorem dX11_takeNumber_166 : decode cX11_takeNumber 166 = .ok (.goto 4, 3) := by decide +kernel
theorem dX11_takeNumber_169 : decode cX11_takeNumber 169 = .ok (.iconst 0, 1) := by decide +kernel
theorem dX11_takeNumber_170 : decode cX11_takeNumber 170 = .ok (.ireturn, 1) := by decide +kernel
set_option maxRecDepth 20000 in
theorem ggX11_into_X11_takeNumber : GoodIn wsX11_into wsX11_takeNumber := goodIn_r _ [6, 7, 8, 9, 10, 1, 11, 12, 13, 14, 15, 5, 16, 17, 18, 19, 20, 21, 22, 23, 24, 25, 26, 27, 28, 29, 30, 31, 32, 33, 34, 35, 36, 37, 38, 39, 40, 41, 42, 43, 44, 45, 46, 47, 48, 49, 50, 51, 52, 53, 54, 55, 56, 57, 58, 59, 60, 61, 62, 63, 64, 65, 66, 67, 68, 69, 70] (by decide +kernel) (by decide +kernel)
set_option maxRecDepth 20000 in
theorem gX11_into_X11_takeNumber : GoodIn wsX11_into (wsV RX11 137 RX11 yX11_takeNumber wsX11_takeNumber) := goodIn_app (goodIn_of _ (by decide +kernel)) ggX11_into_X11_takeNumber
theorem dX11_into_0 : decode cX11_into 0 = .ok (.aload_n 0, 1) := by decide +kernel
theorem dX11_into_1 : decode cX11_into 1 = .ok (.iload_n 3, 1) := by decide +kernel
theorem dX11_into_2 : decode cX11_into 2 = .ok (.iload 4, 2) := by decide +kernel
theorem dX11_into_4 : decode cX11_into 4 = .ok (.invokevirtual 137, 3) := by decide +kernel
theorem dX11_into_7 : decode cX11_into 7 = .ok (.istore 5, 2) := by decide +kernel
theorem dX11_into_9 : decode cX11_into 9 = .ok (.aload_n 1, 1) := by decide +kernel
theorem dX11_into_10 : decode cX11_into 10 = .ok (.iload_n 2, 1) := by decide +kernel
theorem dX11_into_11 : decode cX11_into 11 = .ok (.aload_n 0, 1) := by decide +kernel
theorem dX11_into_12 : decode cX11_into 12 = .ok (.getfield 134, 3) := by decide +kernel
theorem dX11_into_15 : decode cX11_into 15 = .ok (.iastore, 1) := by decide +kernel
theorem dX11_into_16 : decode cX11_into 16 = .ok (.iload 5, 2) := by decide +kernel
theorem dX11_into_18 : decode cX11_into 18 = .ok (.ireturn, 1) := by decide +kernel
set_option maxRecDepth 20000 in
theorem ggX11_takeOffice_X11_into : GoodIn wsX11_takeOffice wsX11_into := goodIn_r _ [6, 7, 8, 9, 10, 5, 11, 12, 13, 14, 15, 16, 17, 18, 19, 20, 21, 22, 23, 24, 25, 26, 27, 28, 29, 30, 31, 32, 33, 34, 35, 36, 37, 38, 39, 40, 41, 42, 43, 44, 45, 46, 47, 48, 49, 50, 51, 52, 53, 54, 55, 56, 57, 58, 59, 60, 61, 62, 63, 64, 65, 66, 67, 68, 69, 70, 71, 72, 73, 74, 75] (by decide +kernel) (by decide +kernel)
set_option maxRecDepth 20000 in
theorem gX11_takeOffice_X11_into : GoodIn wsX11_takeOffice (wsV RX11 140 RX11 yX11_into wsX11_into) := goodIn_app (goodIn_of _ (by decide +kernel)) ggX11_takeOffice_X11_into
theorem dX11_takeOffice_0 : decode cX11_takeOffice 0 = .ok (.aload_n 0, 1) := by decide +kernel
theorem dX11_takeOffice_1 : decode cX11_takeOffice 1 = .ok (.aload_n 0, 1) := by decide +kernel
theorem dX11_takeOffice_2 : decode cX11_takeOffice 2 = .ok (.getfield 38, 3) := by decide +kernel
theorem dX11_takeOffice_5 : decode cX11_takeOffice 5 = .ok (.iconst 0, 1) := by decide +kernel
theorem dX11_takeOffice_6 : decode cX11_takeOffice 6 = .ok (.iconst 1, 1) := by decide +kernel
theorem dX11_takeOffice_7 : decode cX11_takeOffice 7 = .ok (.bipush 20, 2) := by decide +kernel
theorem dX11_takeOffice_9 : decode cX11_takeOffice 9 = .ok (.invokevirtual 140, 3) := by decide +kernel
theorem dX11_takeOffice_12 : decode cX11_takeOffice 12 = .ok (.istore_n 1, 1) := by decide +kernel
theorem dX11_takeOffice_13 : decode cX11_takeOffice 13 = .ok (.iload_n 1, 1) := by decide +kernel
theorem dX11_takeOffice_14 : decode cX11_takeOffice 14 = .ok (.ifCond .le 7, 3) := by decide +kernel
theorem dX11_takeOffice_17 : decode cX11_takeOffice 17 = .ok (.iload_n 1, 1) := by decide +kernel
theorem dX11_takeOffice_18 : decode cX11_takeOffice 18 = .ok (.goto 15, 3) := by decide +kernel
theorem dX11_takeOffice_21 : decode cX11_takeOffice 21 = .ok (.aload_n 0, 1) := by decide +kernel
theorem dX11_takeOffice_22 : decode cX11_takeOffice 22 = .ok (.aload_n 0, 1) := by decide +kernel
theorem dX11_takeOffice_23 : decode cX11_takeOffice 23 = .ok (.getfield 38, 3) := by decide +kernel
theorem dX11_takeOffice_26 : decode cX11_takeOffice 26 = .ok (.iconst 1, 1) := by decide +kernel
theorem dX11_takeOffice_27 : decode cX11_takeOffice 27 = .ok (.iconst 1, 1) := by decide +kernel
theorem dX11_takeOffice_28 : decode cX11_takeOffice 28 = .ok (.bipush 20, 2) := by decide +kernel
theorem dX11_takeOffice_30 : decode cX11_takeOffice 30 = .ok (.invokevirtual 140, 3) := by decide +kernel
theorem dX11_takeOffice_33 : decode cX11_takeOffice 33 = .ok (.ireturn, 1) := by decide +kernel
set_option maxRecDepth 20000 in
theorem ggX11_takeQuill_X11_into : GoodIn wsX11_takeQuill wsX11_into := goodIn_r _ [11, 12, 13, 14, 15, 10, 16, 17, 18, 19, 20, 21, 22, 23, 24, 25, 26, 27, 28, 29, 30, 31, 32, 33, 34, 35, 36, 37, 38, 39, 40, 41, 42, 43, 44, 45, 46, 47, 48, 49, 50, 51, 52, 53, 54, 55, 56, 57, 58, 59, 60, 61, 62, 63, 64, 65, 66, 67, 68, 69, 70, 71, 72, 73, 74, 75, 76, 77, 78, 79, 80] (by decide +kernel) (by decide +kernel)
set_option maxRecDepth 20000 in
theorem gX11_takeQuill_X11_into : GoodIn wsX11_takeQuill (wsV RX11 140 RX11 yX11_into wsX11_into) := goodIn_app (goodIn_of _ (by decide +kernel)) ggX11_takeQuill_X11_into
theorem dX11_takeQuill_0 : decode cX11_takeQuill 0 = .ok (.aload_n 0, 1) := by decide +kernel
theorem dX11_takeQuill_1 : decode cX11_takeQuill 1 = .ok (.getfield 144, 3) := by decide +kernel
theorem dX11_takeQuill_4 : decode cX11_takeQuill 4 = .ok (.istore_n 1, 1) := by decide +kernel
theorem dX11_takeQuill_5 : decode cX11_takeQuill 5 = .ok (.aload_n 0, 1) := by decide +kernel
theorem dX11_takeQuill_6 : decode cX11_takeQuill 6 = .ok (.dup, 1) := by decide +kernel
theorem dX11_takeQuill_7 : decode cX11_takeQuill 7 = .ok (.getfield 144, 3) := by decide +kernel
theorem dX11_takeQuill_10 : decode cX11_takeQuill 10 = .ok (.iconst 1, 1) := by decide +kernel
theorem dX11_takeQuill_11 : decode cX11_takeQuill 11 = .ok (.iadd, 1) := by decide +kernel
theorem dX11_takeQuill_12 : decode cX11_takeQuill 12 = .ok (.putfield 144, 3) := by decide +kernel
theorem dX11_takeQuill_15 : decode cX11_takeQuill 15 = .ok (.aload_n 0, 1) := by decide +kernel
theorem dX11_takeQuill_16 : decode cX11_takeQuill 16 = .ok (.aload_n 0, 1) := by decide +kernel
theorem dX11_takeQuill_17 : decode cX11_takeQuill 17 = .ok (.getfield 41, 3) := by decide +kernel
theorem dX11_takeQuill_20 : decode cX11_takeQuill 20 = .ok (.iload_n 1, 1) := by decide +kernel
theorem dX11_takeQuill_21 : decode cX11_takeQuill 21 = .ok (.iconst 0, 1) := by decide +kernel
theorem dX11_takeQuill_22 : decode cX11_takeQuill 22 = .ok (.iconst 1, 1) := by decide +kernel
theorem dX11_takeQuill_23 : decode cX11_takeQuill 23 = .ok (.invokevirtual 140, 3) := by decide +kernel
theorem dX11_takeQuill_26 : decode cX11_takeQuill 26 = .ok (.istore_n 2, 1) := by decide +kernel
theorem dX11_takeQuill_27 : decode cX11_takeQuill 27 = .ok (.iload_n 2, 1) := by decide +kernel
theorem dX11_takeQuill_28 : decode cX11_takeQuill 28 = .ok (.ifCond .le 7, 3) := by decide +kernel
theorem dX11_takeQuill_31 : decode cX11_takeQuill 31 = .ok (.iload_n 2, 1) := by decide +kernel
theorem dX11_takeQuill_32 : decode cX11_takeQuill 32 = .ok (.goto 14, 3) := by decide +kernel
theorem dX11_takeQuill_35 : decode cX11_takeQuill 35 = .ok (.aload_n 0, 1) := by decide +kernel
theorem dX11_takeQuill_36 : decode cX11_takeQuill 36 = .ok (.aload_n 0, 1) := by decide +kernel
theorem dX11_takeQuill_37 : decode cX11_takeQuill 37 = .ok (.getfield 44, 3) := by decide +kernel
theorem dX11_takeQuill_40 : decode cX11_takeQuill 40 = .ok (.iload_n 1, 1) := by decide +kernel
theorem dX11_takeQuill_41 : decode cX11_takeQuill 41 = .ok (.iconst 1, 1) := by decide +kernel
theorem dX11_takeQuill_42 : decode cX11_takeQuill 42 = .ok (.iconst 5, 1) := by decide +kernel
theorem dX11_takeQuill_43 : decode cX11_takeQuill 43 = .ok (.invokevirtual 140, 3) := by decide +kernel
theorem dX11_takeQuill_46 : decode cX11_takeQuill 46 = .ok (.istore_n 2, 1) := by decide +kernel
theorem dX11_takeQuill_47 : decode cX11_takeQuill 47 = .ok (.iload_n 2, 1) := by decide +kernel
theorem dX11_takeQuill_48 : decode cX11_takeQuill 48 = .ok (.ifCond .le 7, 3) := by decide +kernel
theorem dX11_takeQuill_51 : decode cX11_takeQuill 51 = .ok (.iload_n 2, 1) := by decide +kernel
theorem dX11_takeQuill_52 : decode cX11_takeQuill 52 = .ok (.goto 15, 3) := by decide +kernel
theorem dX11_takeQuill_55 : decode cX11_takeQuill 55 = .ok (.aload_n 0, 1) := by decide +kernel
theorem dX11_takeQuill_56 : decode cX11_takeQuill 56 = .ok (.aload_n 0, 1) := by decide +kernel
theorem dX11_takeQuill_57 : decode cX11_takeQuill 57 = .ok (.getfield 47, 3) := by decide +kernel
theorem dX11_takeQuill_60 : decode cX11_takeQuill 60 = .ok (.iload_n 1, 1) := by decide +kernel
theorem dX11_takeQuill_61 : decode cX11_takeQuill 61 = .ok (.iconst 0, 1) := by decide +kernel
theorem dX11_takeQuill_62 : decode cX11_takeQuill 62 = .ok (.bipush 9, 2) := by decide +kernel
theorem dX11_takeQuill_64 : decode cX11_takeQuill 64 = .ok (.invokevirtual 140, 3) := by decide +kernel
theorem dX11_takeQuill_67 : decode cX11_takeQuill 67 = .ok (.istore_n 2, 1) := by decide +kernel
theorem dX11_takeQuill_68 : decode cX11_takeQuill 68 = .ok (.iload_n 2, 1) := by decide +kernel
theorem dX11_takeQuill_69 : decode cX11_takeQuill 69 = .ok (.ifCond .le 7, 3) := by decide +kernel
theorem dX11_takeQuill_72 : decode cX11_takeQuill 72 = .ok (.iload_n 2, 1) := by decide +kernel
theorem dX11_takeQuill_73 : decode cX11_takeQuill 73 = .ok (.goto 15, 3) := by decide +kernel
theorem dX11_takeQuill_76 : decode cX11_takeQuill 76 = .ok (.aload_n 0, 1) := by decide +kernel
theorem dX11_takeQuill_77 : decode cX11_takeQuill 77 = .ok (.aload_n 0, 1) := by decide +kernel
theorem dX11_takeQuill_78 : decode cX11_takeQuill 78 = .ok (.getfield 50, 3) := by decide +kernel
theorem dX11_takeQuill_81 : decode cX11_takeQuill 81 = .ok (.iload_n 1, 1) := by decide +kernel
theorem dX11_takeQuill_82 : decode cX11_takeQuill 82 = .ok (.iconst 0, 1) := by decide +kernel
theorem dX11_takeQuill_83 : decode cX11_takeQuill 83 = .ok (.bipush 99, 2) := by decide +kernel
theorem dX11_takeQuill_85 : decode cX11_takeQuill 85 = .ok (.invokevirtual 140, 3) := by decide +kernel
theorem dX11_takeQuill_88 : decode cX11_takeQuill 88 = .ok (.istore_n 2, 1) := by decide +kernel
theorem dX11_takeQuill_89 : decode cX11_takeQuill 89 = .ok (.iload_n 2, 1) := by decide +kernel
theorem dX11_takeQuill_90 : decode cX11_takeQuill 90 = .ok (.ifCond .le 7, 3) := by decide +kernel
theorem dX11_takeQuill_93 : decode cX11_takeQuill 93 = .ok (.iload_n 2, 1) := by decide +kernel
theorem dX11_takeQuill_94 : decode cX11_takeQuill 94 = .ok (.goto 15, 3) := by decide +kernel
theorem dX11_takeQuill_97 : decode cX11_takeQuill 97 = .ok (.aload_n 0, 1) := by decide +kernel
theorem dX11_takeQuill_98 : decode cX11_takeQuill 98 = .ok (.aload_n 0, 1) := by decide +kernel
theorem dX11_takeQuill_99 : decode cX11_takeQuill 99 = .ok (.getfield 53, 3) := by decide +kernel
theorem dX11_takeQuill_102 : decode cX11_takeQuill 102 = .ok (.iload_n 1, 1) := by decide +kernel
theorem dX11_takeQuill_103 : decode cX11_takeQuill 103 = .ok (.iconst 1, 1) := by decide +kernel
theorem dX11_takeQuill_104 : decode cX11_takeQuill 104 = .ok (.bipush 9, 2) := by decide +kernel
theorem dX11_takeQuill_106 : decode cX11_takeQuill 106 = .ok (.invokevirtual 140, 3) := by decide +kernel
theorem dX11_takeQuill_109 : decode cX11_takeQuill 109 = .ok (.ireturn, 1) := by decide +kernel
set_option maxRecDepth 20000 in
theorem ggX11_takeHand_X11_into : GoodIn wsX11_takeHand wsX11_into := goodIn_r _ [9, 10, 11, 12, 13, 8, 14, 15, 16, 17, 18, 19, 20, 21, 22, 23, 24, 25, 26, 27, 28, 29, 30, 31, 32, 33, 34, 35, 36, 37, 38, 39, 40, 41, 42, 43, 44, 45, 46, 47, 48, 49, 50, 51, 52, 53, 54, 55, 56, 57, 58, 59, 60, 61, 62, 63, 64, 65, 66, 67, 68, 69, 70, 71, 72, 73, 74, 75, 76, 77, 78] (by decide +kernel) (by decide +kernel)
set_option maxRecDepth 20000 in
theorem gX11_takeHand_X11_into : GoodIn wsX11_takeHand (wsV RX11 140 RX11 yX11_into wsX11_into) := goodIn_app (goodIn_of _ (by decide +kernel)) ggX11_takeHand_X11_into
theorem dX11_takeHand_0 : decode cX11_takeHand 0 = .ok (.aload_n 0, 1) := by decide +kernel
theorem dX11_takeHand_1 : decode cX11_takeHand 1 = .ok (.getfield 147, 3) := by decide +kernel
theorem dX11_takeHand_4 : decode cX11_takeHand 4 = .ok (.istore_n 1, 1) := by decide +kernel
theorem dX11_takeHand_5 : decode cX11_takeHand 5 = .ok (.aload_n 0, 1) := by decide +kernel
theorem dX11_takeHand_6 : decode cX11_takeHand 6 = .ok (.dup, 1) := by decide +kernel
theorem dX11_takeHand_7 : decode cX11_takeHand 7 = .ok (.getfield 147, 3) := by decide +kernel
theorem dX11_takeHand_10 : decode cX11_takeHand 10 = .ok (.iconst 1, 1) := by decide +kernel
theorem dX11_takeHand_11 : decode cX11_takeHand 11 = .ok (.iadd, 1) := by decide +kernel
theorem dX11_takeHand_12 : decode cX11_takeHand 12 = .ok (.putfield 147, 3) := by decide +kernel
theorem dX11_takeHand_15 : decode cX11_takeHand 15 = .ok (.aload_n 0, 1) := by decide +kernel
theorem dX11_takeHand_16 : decode cX11_takeHand 16 = .ok (.aload_n 0, 1) := by decide +kernel
theorem dX11_takeHand_17 : decode cX11_takeHand 17 = .ok (.getfield 56, 3) := by decide +kernel
theorem dX11_takeHand_20 : decode cX11_takeHand 20 = .ok (.iload_n 1, 1) := by decide +kernel
theorem dX11_takeHand_21 : decode cX11_takeHand 21 = .ok (.iconst 0, 1) := by decide +kernel
theorem dX11_takeHand_22 : decode cX11_takeHand 22 = .ok (.iconst 1, 1) := by decide +kernel
theorem dX11_takeHand_23 : decode cX11_takeHand 23 = .ok (.invokevirtual 140, 3) := by decide +kernel
theorem dX11_takeHand_26 : decode cX11_takeHand 26 = .ok (.istore_n 2, 1) := by decide +kernel
theorem dX11_takeHand_27 : decode cX11_takeHand 27 = .ok (.iload_n 2, 1) := by decide +kernel
theorem dX11_takeHand_28 : decode cX11_takeHand 28 = .ok (.ifCond .le 7, 3) := by decide +kernel
theorem dX11_takeHand_31 : decode cX11_takeHand 31 = .ok (.iload_n 2, 1) := by decide +kernel
theorem dX11_takeHand_32 : decode cX11_takeHand 32 = .ok (.goto 15, 3) := by decide +kernel
theorem dX11_takeHand_35 : decode cX11_takeHand 35 = .ok (.aload_n 0, 1) := by decide +kernel
theorem dX11_takeHand_36 : decode cX11_takeHand 36 = .ok (.aload_n 0, 1) := by decide +kernel
theorem dX11_takeHand_37 : decode cX11_takeHand 37 = .ok (.getfield 59, 3) := by decide +kernel
theorem dX11_takeHand_40 : decode cX11_takeHand 40 = .ok (.iload_n 1, 1) := by decide +kernel
theorem dX11_takeHand_41 : decode cX11_takeHand 41 = .ok (.iconst 1, 1) := by decide +kernel
theorem dX11_takeHand_42 : decode cX11_takeHand 42 = .ok (.bipush 9, 2) := by decide +kernel
theorem dX11_takeHand_44 : decode cX11_takeHand 44 = .ok (.invokevirtual 140, 3) := by decide +kernel
theorem dX11_takeHand_47 : decode cX11_takeHand 47 = .ok (.istore_n 2, 1) := by decide +kernel
theorem dX11_takeHand_48 : decode cX11_takeHand 48 = .ok (.iload_n 2, 1) := by decide +kernel
theorem dX11_takeHand_49 : decode cX11_takeHand 49 = .ok (.ifCond .le 7, 3) := by decide +kernel
theorem dX11_takeHand_52 : decode cX11_takeHand 52 = .ok (.iload_n 2, 1) := by decide +kernel
theorem dX11_takeHand_53 : decode cX11_takeHand 53 = .ok (.goto 15, 3) := by decide +kernel
theorem dX11_takeHand_56 : decode cX11_takeHand 56 = .ok (.aload_n 0, 1) := by decide +kernel
theorem dX11_takeHand_57 : decode cX11_takeHand 57 = .ok (.aload_n 0, 1) := by decide +kernel
theorem dX11_takeHand_58 : decode cX11_takeHand 58 = .ok (.getfield 62, 3) := by decide +kernel
theorem dX11_takeHand_61 : decode cX11_takeHand 61 = .ok (.iload_n 1, 1) := by decide +kernel
theorem dX11_takeHand_62 : decode cX11_takeHand 62 = .ok (.iconst 1, 1) := by decide +kernel
theorem dX11_takeHand_63 : decode cX11_takeHand 63 = .ok (.bipush 9, 2) := by decide +kernel
theorem dX11_takeHand_65 : decode cX11_takeHand 65 = .ok (.invokevirtual 140, 3) := by decide +kernel
theorem dX11_takeHand_68 : decode cX11_takeHand 68 = .ok (.ireturn, 1) := by decide +kernel
set_option maxRecDepth 20000 in
theorem ggX11_takeClause_X11_here : GoodIn wsX11_takeClause wsX11_here := goodIn_r _ [9, 2, 10, 11, 52, 53, 54, 55, 56, 57, 58, 59, 60, 61, 62, 63, 64, 65, 66, 67, 68, 69, 70, 71, 72, 73, 74, 75, 76, 77, 78, 79, 80, 81, 82, 83, 84, 85, 86, 87, 88, 89, 90, 91, 92, 93, 94, 95, 96, 97] (by decide +kernel) (by decide +kernel)
set_option maxRecDepth 20000 in
theorem gX11_takeClause_X11_here : GoodIn wsX11_takeClause (wsV RX11 119 RX11 yX11_here wsX11_here) := goodIn_app (goodIn_of _ (by decide +kernel)) ggX11_takeClause_X11_here
set_option maxRecDepth 20000 in
theorem ggX11_takeClause_X11_fails : GoodIn wsX11_takeClause wsX11_fails := goodIn_r _ [15, 16, 52, 53, 54, 55, 56, 57, 58, 59, 60, 61, 62, 63, 64, 65, 66, 67, 68, 69, 70, 71, 72, 73, 74, 75, 76, 77, 78, 79, 80, 81, 82, 83, 84, 85, 86, 87, 88, 89, 90, 91, 92, 93, 94, 95, 96, 97] (by decide +kernel) (by decide +kernel)
set_option maxRecDepth 20000 in
theorem gX11_takeClause_X11_fails : GoodIn wsX11_takeClause (wsV RX11 127 RX11 yX11_fails wsX11_fails) := goodIn_app (goodIn_of _ (by decide +kernel)) ggX11_takeClause_X11_fails
set_option maxRecDepth 20000 in
theorem ggX11_takeClause_X11_takeOffice : GoodIn wsX11_takeClause wsX11_takeOffice := goodIn_r _ [20, 1, 21, 22, 23, 8, 24, 25, 26, 27, 28, 29, 30, 31, 2, 32, 10, 11, 5, 6, 7, 9, 33, 34, 35, 12, 13, 14, 15, 16, 52, 53, 54, 55, 56, 57, 58, 59, 60, 61, 62, 63, 64, 65, 66, 67, 68, 69, 70, 71, 72, 73, 74, 75, 76, 77, 78, 79, 80, 81, 82, 83, 84, 85, 86, 87, 88, 89, 90, 91, 92, 93, 94, 95, 96, 97] (by decide +kernel) (by decide +kernel)
set_option maxRecDepth 20000 in
theorem gX11_takeClause_X11_takeOffice : GoodIn wsX11_takeClause (wsV RX11 150 RX11 yX11_takeOffice wsX11_takeOffice) := goodIn_app (goodIn_of _ (by decide +kernel)) ggX11_takeClause_X11_takeOffice
set_option maxRecDepth 20000 in
theorem ggX11_takeClause_X11_takeQuill : GoodIn wsX11_takeClause wsX11_takeQuill := goodIn_r _ [39, 3, 40, 41, 42, 43, 44, 21, 22, 23, 8, 24, 25, 26, 27, 28, 29, 30, 31, 2, 32, 10, 11, 5, 6, 7, 9, 33, 34, 35, 12, 13, 14, 15, 16, 52, 53, 54, 55, 56, 57, 58, 59, 60, 61, 62, 63, 64, 65, 66, 67, 68, 69, 70, 71, 72, 73, 74, 75, 76, 77, 78, 79, 80, 81, 82, 83, 84, 85, 86, 87, 88, 89, 90, 91, 92, 93, 94, 95, 96, 97] (by decide +kernel) (by decide +kernel)
set_option maxRecDepth 20000 in
theorem gX11_takeClause_X11_takeQuill : GoodIn wsX11_takeClause (wsV RX11 153 RX11 yX11_takeQuill wsX11_takeQuill) := goodIn_app (goodIn_of _ (by decide +kernel)) ggX11_takeClause_X11_takeQuill
set_option maxRecDepth 20000 in
theorem ggX11_takeClause_X11_takeHand : GoodIn wsX11_takeClause wsX11_takeHand := goodIn_r _ [48, 4, 49, 50, 51, 21, 22, 23, 8, 24, 25, 26, 27, 28, 29, 30, 31, 2, 32, 10, 11, 5, 6, 7, 9, 33, 34, 35, 12, 13, 14, 15, 16, 52, 53, 54, 55, 56, 57, 58, 59, 60, 61, 62, 63, 64, 65, 66, 67, 68, 69, 70, 71, 72, 73, 74, 75, 76, 77, 78, 79, 80, 81, 82, 83, 84, 85, 86, 87, 88, 89, 90, 91, 92, 93, 94, 95, 96, 97] (by decide +kernel) (by decide +kernel)
set_option maxRecDepth 20000 in
theorem gX11_takeClause_X11_takeHand : GoodIn wsX11_takeClause (wsV RX11 156 RX11 yX11_takeHand wsX11_takeHand) := goodIn_app (goodIn_of _ (by decide +kernel)) ggX11_takeClause_X11_takeHand
theorem dX11_takeClause_0 : decode cX11_takeClause 0 = .ok (.aload_n 0, 1) := by decide +kernel
theorem dX11_takeClause_1 : decode cX11_takeClause 1 = .ok (.invokevirtual 119, 3) := by decide +kernel
theorem dX11_takeClause_4 : decode cX11_takeClause 4 = .ok (.istore_n 1, 1) := by decide +kernel
theorem dX11_takeClause_5 : decode cX11_takeClause 5 = .ok (.iload_n 1, 1) := by decide +kernel
theorem dX11_takeClause_6 : decode cX11_takeClause 6 = .ok (.bipush 111, 2) := by decide +kernel
theorem dX11_takeClause_8 : decode cX11_takeClause 8 = .ok (.if_icmp .ne 7, 3) := by decide +kernel
theorem dX11_takeClause_11 : decode cX11_takeClause 11 = .ok (.iconst 0, 1) := by decide +kernel
theorem dX11_takeClause_12 : decode cX11_takeClause 12 = .ok (.goto 24, 3) := by decide +kernel
theorem dX11_takeClause_15 : decode cX11_takeClause 15 = .ok (.iload_n 1, 1) := by decide +kernel
theorem dX11_takeClause_16 : decode cX11_takeClause 16 = .ok (.bipush 113, 2) := by decide +kernel
theorem dX11_takeClause_18 : decode cX11_takeClause 18 = .ok (.if_icmp .ne 7, 3) := by decide +kernel
theorem dX11_takeClause_21 : decode cX11_takeClause 21 = .ok (.iconst 1, 1) := by decide +kernel
theorem dX11_takeClause_22 : decode cX11_takeClause 22 = .ok (.goto 14, 3) := by decide +kernel
theorem dX11_takeClause_25 : decode cX11_takeClause 25 = .ok (.iload_n 1, 1) := by decide +kernel
theorem dX11_takeClause_26 : decode cX11_takeClause 26 = .ok (.bipush 104, 2) := by decide +kernel
theorem dX11_takeClause_28 : decode cX11_takeClause 28 = .ok (.if_icmp .ne 7, 3) := by decide +kernel
theorem dX11_takeClause_31 : decode cX11_takeClause 31 = .ok (.iconst 2, 1) := by decide +kernel
theorem dX11_takeClause_32 : decode cX11_takeClause 32 = .ok (.goto 4, 3) := by decide +kernel
theorem dX11_takeClause_35 : decode cX11_takeClause 35 = .ok (.iconst (-1), 1) := by decide +kernel
theorem dX11_takeClause_36 : decode cX11_takeClause 36 = .ok (.istore_n 2, 1) := by decide +kernel
theorem dX11_takeClause_37 : decode cX11_takeClause 37 = .ok (.iload_n 2, 1) := by decide +kernel
theorem dX11_takeClause_38 : decode cX11_takeClause 38 = .ok (.ifCond .lt 16, 3) := by decide +kernel
theorem dX11_takeClause_41 : decode cX11_takeClause 41 = .ok (.iload_n 2, 1) := by decide +kernel
theorem dX11_takeClause_42 : decode cX11_takeClause 42 = .ok (.ifCond .le 22, 3) := by decide +kernel
theorem dX11_takeClause_45 : decode cX11_takeClause 45 = .ok (.aload_n 0, 1) := by decide +kernel
theorem dX11_takeClause_46 : decode cX11_takeClause 46 = .ok (.getfield 38, 3) := by decide +kernel
theorem dX11_takeClause_49 : decode cX11_takeClause 49 = .ok (.iconst 0, 1) := by decide +kernel
theorem dX11_takeClause_50 : decode cX11_takeClause 50 = .ok (.iaload, 1) := by decide +kernel
theorem dX11_takeClause_51 : decode cX11_takeClause 51 = .ok (.ifCond .ne 13, 3) := by decide +kernel
theorem dX11_takeClause_54 : decode cX11_takeClause 54 = .ok (.aload_n 0, 1) := by decide +kernel
theorem dX11_takeClause_55 : decode cX11_takeClause 55 = .ok (.iconst 1, 1) := by decide +kernel
theorem dX11_takeClause_56 : decode cX11_takeClause 56 = .ok (.aload_n 0, 1) := by decide +kernel
theorem dX11_takeClause_57 : decode cX11_takeClause 57 = .ok (.getfield 116, 3) := by decide +kernel
theorem dX11_takeClause_60 : decode cX11_takeClause 60 = .ok (.invokevirtual 127, 3) := by decide +kernel
theorem dX11_takeClause_63 : decode cX11_takeClause 63 = .ok (.ireturn, 1) := by decide +kernel
theorem dX11_takeClause_64 : decode cX11_takeClause 64 = .ok (.iload_n 2, 1) := by decide +kernel
theorem dX11_takeClause_65 : decode cX11_takeClause 65 = .ok (.ifCond .ne 20, 3) := by decide +kernel
theorem dX11_takeClause_68 : decode cX11_takeClause 68 = .ok (.aload_n 0, 1) := by decide +kernel
theorem dX11_takeClause_69 : decode cX11_takeClause 69 = .ok (.getfield 38, 3) := by decide +kernel
theorem dX11_takeClause_72 : decode cX11_takeClause 72 = .ok (.iconst 0, 1) := by decide +kernel
theorem dX11_takeClause_73 : decode cX11_takeClause 73 = .ok (.iaload, 1) := by decide +kernel
theorem dX11_takeClause_74 : decode cX11_takeClause 74 = .ok (.ifCond .le 7, 3) := by decide +kernel
theorem dX11_takeClause_77 : decode cX11_takeClause 77 = .ok (.iconst 1, 1) := by decide +kernel
theorem dX11_takeClause_78 : decode cX11_takeClause 78 = .ok (.goto 42, 3) := by decide +kernel
theorem dX11_takeClause_81 : decode cX11_takeClause 81 = .ok (.iconst 0, 1) := by decide +kernel
theorem dX11_takeClause_82 : decode cX11_takeClause 82 = .ok (.goto 38, 3) := by decide +kernel
theorem dX11_takeClause_85 : decode cX11_takeClause 85 = .ok (.iload_n 2, 1) := by decide +kernel
theorem dX11_takeClause_86 : decode cX11_takeClause 86 = .ok (.iconst 1, 1) := by decide +kernel
theorem dX11_takeClause_87 : decode cX11_takeClause 87 = .ok (.if_icmp .ne 20, 3) := by decide +kernel
theorem dX11_takeClause_90 : decode cX11_takeClause 90 = .ok (.aload_n 0, 1) := by decide +kernel
theorem dX11_takeClause_91 : decode cX11_takeClause 91 = .ok (.getfield 144, 3) := by decide +kernel
theorem dX11_takeClause_94 : decode cX11_takeClause 94 = .ok (.bipush 8, 2) := by decide +kernel
theorem dX11_takeClause_96 : decode cX11_takeClause 96 = .ok (.if_icmp .ne 7, 3) := by decide +kernel
theorem dX11_takeClause_99 : decode cX11_takeClause 99 = .ok (.iconst 1, 1) := by decide +kernel
theorem dX11_takeClause_100 : decode cX11_takeClause 100 = .ok (.goto 20, 3) := by decide +kernel
theorem dX11_takeClause_103 : decode cX11_takeClause 103 = .ok (.iconst 0, 1) := by decide +kernel
theorem dX11_takeClause_104 : decode cX11_takeClause 104 = .ok (.goto 16, 3) := by decide +kernel
theorem dX11_takeClause_107 : decode cX11_takeClause 107 = .ok (.aload_n 0, 1) := by decide +kernel
theorem dX11_takeClause_108 : decode cX11_takeClause 108 = .ok (.getfield 147, 3) := by decide +kernel
theorem dX11_takeClause_111 : decode cX11_takeClause 111 = .ok (.iconst 4, 1) := by decide +kernel
theorem dX11_takeClause_112 : decode cX11_takeClause 112 = .ok (.if_icmp .ne 7, 3) := by decide +kernel
theorem dX11_takeClause_115 : decode cX11_takeClause 115 = .ok (.iconst 1, 1) := by decide +kernel
theorem dX11_takeClause_116 : decode cX11_takeClause 116 = .ok (.goto 4, 3) := by decide +kernel
theorem dX11_takeClause_119 : decode cX11_takeClause 119 = .ok (.iconst 0, 1) := by decide +kernel
theorem dX11_takeClause_120 : decode cX11_takeClause 120 = .ok (.istore_n 3, 1) := by decide +kernel
theorem dX11_takeClause_121 : decode cX11_takeClause 121 = .ok (.iload_n 3, 1) := by decide +kernel
theorem dX11_takeClause_122 : decode cX11_takeClause 122 = .ok (.ifCond .eq 13, 3) := by decide +kernel
theorem dX11_takeClause_125 : decode cX11_takeClause 125 = .ok (.aload_n 0, 1) := by decide +kernel
theorem dX11_takeClause_126 : decode cX11_takeClause 126 = .ok (.iconst 3, 1) := by decide +kernel
theorem dX11_takeClause_127 : decode cX11_takeClause 127 = .ok (.aload_n 0, 1) := by decide +kernel
theorem dX11_takeClause_128 : decode cX11_takeClause 128 = .ok (.getfield 116, 3) := by decide +kernel
theorem dX11_takeClause_131 : decode cX11_takeClause 131 = .ok (.invokevirtual 127, 3) := by decide +kernel
theorem dX11_takeClause_134 : decode cX11_takeClause 134 = .ok (.ireturn, 1) := by decide +kernel
theorem dX11_takeClause_135 : decode cX11_takeClause 135 = .ok (.aload_n 0, 1) := by decide +kernel
theorem dX11_takeClause_136 : decode cX11_takeClause 136 = .ok (.dup, 1) := by decide +kernel
theorem dX11_takeClause_137 : decode cX11_takeClause 137 = .ok (.getfield 116, 3) := by decide +kernel
theorem dX11_takeClause_140 : decode cX11_takeClause 140 = .ok (.iconst 1, 1) := by decide +kernel
theorem dX11_takeClause_141 : decode cX11_takeClause 141 = .ok (.iadd, 1) := by decide +kernel
theorem dX11_takeClause_142 : decode cX11_takeClause 142 = .ok (.putfield 116, 3) := by decide +kernel
theorem dX11_takeClause_145 : decode cX11_takeClause 145 = .ok (.iload_n 2, 1) := by decide +kernel
theorem dX11_takeClause_146 : decode cX11_takeClause 146 = .ok (.ifCond .ne 10, 3) := by decide +kernel
theorem dX11_takeClause_149 : decode cX11_takeClause 149 = .ok (.aload_n 0, 1) := by decide +kernel
theorem dX11_takeClause_150 : decode cX11_takeClause 150 = .ok (.invokevirtual 150, 3) := by decide +kernel
theorem dX11_takeClause_153 : decode cX11_takeClause 153 = .ok (.goto 19, 3) := by decide +kernel
theorem dX11_takeClause_156 : decode cX11_takeClause 156 = .ok (.iload_n 2, 1) := by decide +kernel
theorem dX11_takeClause_157 : decode cX11_takeClause 157 = .ok (.iconst 1, 1) := by decide +kernel
theorem dX11_takeClause_158 : decode cX11_takeClause 158 = .ok (.if_icmp .ne 10, 3) := by decide +kernel
theorem dX11_takeClause_161 : decode cX11_takeClause 161 = .ok (.aload_n 0, 1) := by decide +kernel
theorem dX11_takeClause_162 : decode cX11_takeClause 162 = .ok (.invokevirtual 153, 3) := by decide +kernel
theorem dX11_takeClause_165 : decode cX11_takeClause 165 = .ok (.goto 7, 3) := by decide +kernel
theorem dX11_takeClause_168 : decode cX11_takeClause 168 = .ok (.aload_n 0, 1) := by decide +kernel
theorem dX11_takeClause_169 : decode cX11_takeClause 169 = .ok (.invokevirtual 156, 3) := by decide +kernel
theorem dX11_takeClause_172 : decode cX11_takeClause 172 = .ok (.istore 4, 2) := by decide +kernel
theorem dX11_takeClause_174 : decode cX11_takeClause 174 = .ok (.iload 4, 2) := by decide +kernel
theorem dX11_takeClause_176 : decode cX11_takeClause 176 = .ok (.ifCond .ne 22, 3) := by decide +kernel
theorem dX11_takeClause_179 : decode cX11_takeClause 179 = .ok (.aload_n 0, 1) := by decide +kernel
theorem dX11_takeClause_180 : decode cX11_takeClause 180 = .ok (.invokevirtual 119, 3) := by decide +kernel
theorem dX11_takeClause_183 : decode cX11_takeClause 183 = .ok (.bipush 59, 2) := by decide +kernel
theorem dX11_takeClause_185 : decode cX11_takeClause 185 = .ok (.if_icmp .eq 13, 3) := by decide +kernel
theorem dX11_takeClause_188 : decode cX11_takeClause 188 = .ok (.aload_n 0, 1) := by decide +kernel
theorem dX11_takeClause_189 : decode cX11_takeClause 189 = .ok (.iconst 1, 1) := by decide +kernel
theorem dX11_takeClause_190 : decode cX11_takeClause 190 = .ok (.aload_n 0, 1) := by decide +kernel
theorem dX11_takeClause_191 : decode cX11_takeClause 191 = .ok (.getfield 116, 3) := by decide +kernel
theorem dX11_takeClause_194 : decode cX11_takeClause 194 = .ok (.invokevirtual 127, 3) := by decide +kernel
theorem dX11_takeClause_197 : decode cX11_takeClause 197 = .ok (.ireturn, 1) := by decide +kernel
theorem dX11_takeClause_198 : decode cX11_takeClause 198 = .ok (.aload_n 0, 1) := by decide +kernel
theorem dX11_takeClause_199 : decode cX11_takeClause 199 = .ok (.dup, 1) := by decide +kernel
theorem dX11_takeClause_200 : decode cX11_takeClause 200 = .ok (.getfield 116, 3) := by decide +kernel
theorem dX11_takeClause_203 : decode cX11_takeClause 203 = .ok (.iconst 1, 1) := by decide +kernel
theorem dX11_takeClause_204 : decode cX11_takeClause 204 = .ok (.iadd, 1) := by decide +kernel
theorem dX11_takeClause_205 : decode cX11_takeClause 205 = .ok (.putfield 116, 3) := by decide +kernel
theorem dX11_takeClause_208 : decode cX11_takeClause 208 = .ok (.iload 4, 2) := by decide +kernel
theorem dX11_takeClause_210 : decode cX11_takeClause 210 = .ok (.ireturn, 1) := by decide +kernel
theorem dX11_takeRead_0 : decode cX11_takeRead 0 = .ok (.aload_n 0, 1) := by decide +kernel
theorem dX11_takeRead_1 : decode cX11_takeRead 1 = .ok (.aload_n 0, 1) := by decide +kernel
theorem dX11_takeRead_2 : decode cX11_takeRead 2 = .ok (.getfield 38, 3) := by decide +kernel
theorem dX11_takeRead_5 : decode cX11_takeRead 5 = .ok (.iconst 0, 1) := by decide +kernel
theorem dX11_takeRead_6 : decode cX11_takeRead 6 = .ok (.iaload, 1) := by decide +kernel
theorem dX11_takeRead_7 : decode cX11_takeRead 7 = .ok (.putfield 96, 3) := by decide +kernel
theorem dX11_takeRead_10 : decode cX11_takeRead 10 = .ok (.aload_n 0, 1) := by decide +kernel
theorem dX11_takeRead_11 : decode cX11_takeRead 11 = .ok (.aload_n 0, 1) := by decide +kernel
theorem dX11_takeRead_12 : decode cX11_takeRead 12 = .ok (.getfield 38, 3) := by decide +kernel
theorem dX11_takeRead_15 : decode cX11_takeRead 15 = .ok (.iconst 1, 1) := by decide +kernel
theorem dX11_takeRead_16 : decode cX11_takeRead 16 = .ok (.iaload, 1) := by decide +kernel
theorem dX11_takeRead_17 : decode cX11_takeRead 17 = .ok (.putfield 159, 3) := by decide +kernel
theorem dX11_takeRead_20 : decode cX11_takeRead 20 = .ok (.aload_n 0, 1) := by decide +kernel
theorem dX11_takeRead_21 : decode cX11_takeRead 21 = .ok (.aload_n 0, 1) := by decide +kernel
theorem dX11_takeRead_22 : decode cX11_takeRead 22 = .ok (.getfield 144, 3) := by decide +kernel
theorem dX11_takeRead_25 : decode cX11_takeRead 25 = .ok (.putfield 99, 3) := by decide +kernel
theorem dX11_takeRead_28 : decode cX11_takeRead 28 = .ok (.aload_n 0, 1) := by decide +kernel
theorem dX11_takeRead_29 : decode cX11_takeRead 29 = .ok (.aload_n 0, 1) := by decide +kernel
theorem dX11_takeRead_30 : decode cX11_takeRead 30 = .ok (.getfield 147, 3) := by decide +kernel
theorem dX11_takeRead_33 : decode cX11_takeRead 33 = .ok (.putfield 106, 3) := by decide +kernel
theorem dX11_takeRead_36 : decode cX11_takeRead 36 = .ok (.iconst 0, 1) := by decide +kernel
theorem dX11_takeRead_37 : decode cX11_takeRead 37 = .ok (.istore_n 1, 1) := by decide +kernel
theorem dX11_takeRead_38 : decode cX11_takeRead 38 = .ok (.iload_n 1, 1) := by decide +kernel
theorem dX11_takeRead_39 : decode cX11_takeRead 39 = .ok (.bipush 34, 2) := by decide +kernel
theorem dX11_takeRead_41 : decode cX11_takeRead 41 = .ok (.if_icmp .ge 16, 3) := by decide +kernel
theorem dX11_takeRead_44 : decode cX11_takeRead 44 = .ok (.aload_n 0, 1) := by decide +kernel
theorem dX11_takeRead_45 : decode cX11_takeRead 45 = .ok (.getfield 28, 3) := by decide +kernel
theorem dX11_takeRead_48 : decode cX11_takeRead 48 = .ok (.iload_n 1, 1) := by decide +kernel
theorem dX11_takeRead_49 : decode cX11_takeRead 49 = .ok (.iconst 0, 1) := by decide +kernel
theorem dX11_takeRead_50 : decode cX11_takeRead 50 = .ok (.iastore, 1) := by decide +kernel
theorem dX11_takeRead_51 : decode cX11_takeRead 51 = .ok (.iinc 1 1, 3) := by decide +kernel
theorem dX11_takeRead_54 : decode cX11_takeRead 54 = .ok (.goto (-16), 3) := by decide +kernel
theorem dX11_takeRead_57 : decode cX11_takeRead 57 = .ok (.iconst 0, 1) := by decide +kernel
theorem dX11_takeRead_58 : decode cX11_takeRead 58 = .ok (.istore_n 1, 1) := by decide +kernel
theorem dX11_takeRead_59 : decode cX11_takeRead 59 = .ok (.iload_n 1, 1) := by decide +kernel
theorem dX11_takeRead_60 : decode cX11_takeRead 60 = .ok (.aload_n 0, 1) := by decide +kernel
theorem dX11_takeRead_61 : decode cX11_takeRead 61 = .ok (.getfield 99, 3) := by decide +kernel
theorem dX11_takeRead_64 : decode cX11_takeRead 64 = .ok (.if_icmp .ge 72, 3) := by decide +kernel
theorem dX11_takeRead_67 : decode cX11_takeRead 67 = .ok (.aload_n 0, 1) := by decide +kernel
theorem dX11_takeRead_68 : decode cX11_takeRead 68 = .ok (.getfield 7, 3) := by decide +kernel
theorem dX11_takeRead_71 : decode cX11_takeRead 71 = .ok (.iload_n 1, 1) := by decide +kernel
theorem dX11_takeRead_72 : decode cX11_takeRead 72 = .ok (.aload_n 0, 1) := by decide +kernel
theorem dX11_takeRead_73 : decode cX11_takeRead 73 = .ok (.getfield 41, 3) := by decide +kernel
theorem dX11_takeRead_76 : decode cX11_takeRead 76 = .ok (.iload_n 1, 1) := by decide +kernel
theorem dX11_takeRead_77 : decode cX11_takeRead 77 = .ok (.iaload, 1) := by decide +kernel
theorem dX11_takeRead_78 : decode cX11_takeRead 78 = .ok (.iastore, 1) := by decide +kernel
theorem dX11_takeRead_79 : decode cX11_takeRead 79 = .ok (.aload_n 0, 1) := by decide +kernel
theorem dX11_takeRead_80 : decode cX11_takeRead 80 = .ok (.getfield 13, 3) := by decide +kernel
theorem dX11_takeRead_83 : decode cX11_takeRead 83 = .ok (.iload_n 1, 1) := by decide +kernel
theorem dX11_takeRead_84 : decode cX11_takeRead 84 = .ok (.aload_n 0, 1) := by decide +kernel
theorem dX11_takeRead_85 : decode cX11_takeRead 85 = .ok (.getfield 44, 3) := by decide +kernel
theorem dX11_takeRead_88 : decode cX11_takeRead 88 = .ok (.iload_n 1, 1) := by decide +kernel
theorem dX11_takeRead_89 : decode cX11_takeRead 89 = .ok (.iaload, 1) := by decide +kernel
theorem dX11_takeRead_90 : decode cX11_takeRead 90 = .ok (.iastore, 1) := by decide +kernel
theorem dX11_takeRead_91 : decode cX11_takeRead 91 = .ok (.aload_n 0, 1) := by decide +kernel
theorem dX11_takeRead_92 : decode cX11_takeRead 92 = .ok (.getfield 16, 3) := by decide +kernel
theorem dX11_takeRead_95 : decode cX11_takeRead 95 = .ok (.iload_n 1, 1) := by decide +kernel
theorem dX11_takeRead_96 : decode cX11_takeRead 96 = .ok (.aload_n 0, 1) := by decide +kernel
theorem dX11_takeRead_97 : decode cX11_takeRead 97 = .ok (.getfield 47, 3) := by decide +kernel
theorem dX11_takeRead_100 : decode cX11_takeRead 100 = .ok (.iload_n 1, 1) := by decide +kernel
theorem dX11_takeRead_101 : decode cX11_takeRead 101 = .ok (.iaload, 1) := by decide +kernel
theorem dX11_takeRead_102 : decode cX11_takeRead 102 = .ok (.iastore, 1) := by decide +kernel
theorem dX11_takeRead_103 : decode cX11_takeRead 103 = .ok (.aload_n 0, 1) := by decide +kernel
theorem dX11_takeRead_104 : decode cX11_takeRead 104 = .ok (.getfield 28, 3) := by decide +kernel
theorem dX11_takeRead_107 : decode cX11_takeRead 107 = .ok (.iload_n 1, 1) := by decide +kernel
theorem dX11_takeRead_108 : decode cX11_takeRead 108 = .ok (.aload_n 0, 1) := by decide +kernel
theorem dX11_takeRead_109 : decode cX11_takeRead 109 = .ok (.getfield 50, 3) := by decide +kernel
theorem dX11_takeRead_112 : decode cX11_takeRead 112 = .ok (.iload_n 1, 1) := by decide +kernel
theorem dX11_takeRead_113 : decode cX11_takeRead 113 = .ok (.iaload, 1) := by decide +kernel
theorem dX11_takeRead_114 : decode cX11_takeRead 114 = .ok (.iastore, 1) := by decide +kernel
theorem dX11_takeRead_115 : decode cX11_takeRead 115 = .ok (.aload_n 0, 1) := by decide +kernel
theorem dX11_takeRead_116 : decode cX11_takeRead 116 = .ok (.getfield 28, 3) := by decide +kernel
theorem dX11_takeRead_119 : decode cX11_takeRead 119 = .ok (.bipush 8, 2) := by decide +kernel
theorem dX11_takeRead_121 : decode cX11_takeRead 121 = .ok (.iload_n 1, 1) := by decide +kernel
theorem dX11_takeRead_122 : decode cX11_takeRead 122 = .ok (.iadd, 1) := by decide +kernel
theorem dX11_takeRead_123 : decode cX11_takeRead 123 = .ok (.aload_n 0, 1) := by decide +kernel
theorem dX11_takeRead_124 : decode cX11_takeRead 124 = .ok (.getfield 53, 3) := by decide +kernel
theorem dX11_takeRead_127 : decode cX11_takeRead 127 = .ok (.iload_n 1, 1) := by decide +kernel
theorem dX11_takeRead_128 : decode cX11_takeRead 128 = .ok (.iaload, 1) := by decide +kernel
theorem dX11_takeRead_129 : decode cX11_takeRead 129 = .ok (.iastore, 1) := by decide +kernel
theorem dX11_takeRead_130 : decode cX11_takeRead 130 = .ok (.iinc 1 1, 3) := by decide +kernel
theorem dX11_takeRead_133 : decode cX11_takeRead 133 = .ok (.goto (-74), 3) := by decide +kernel
theorem dX11_takeRead_136 : decode cX11_takeRead 136 = .ok (.iconst 0, 1) := by decide +kernel
theorem dX11_takeRead_137 : decode cX11_takeRead 137 = .ok (.istore_n 1, 1) := by decide +kernel
theorem dX11_takeRead_138 : decode cX11_takeRead 138 = .ok (.iload_n 1, 1) := by decide +kernel
theorem dX11_takeRead_139 : decode cX11_takeRead 139 = .ok (.aload_n 0, 1) := by decide +kernel
theorem dX11_takeRead_140 : decode cX11_takeRead 140 = .ok (.getfield 106, 3) := by decide +kernel
theorem dX11_takeRead_143 : decode cX11_takeRead 143 = .ok (.if_icmp .ge 45, 3) := by decide +kernel
theorem dX11_takeRead_146 : decode cX11_takeRead 146 = .ok (.aload_n 0, 1) := by decide +kernel
theorem dX11_takeRead_147 : decode cX11_takeRead 147 = .ok (.getfield 19, 3) := by decide +kernel
theorem dX11_takeRead_150 : decode cX11_takeRead 150 = .ok (.iload_n 1, 1) := by decide +kernel
theorem dX11_takeRead_151 : decode cX11_takeRead 151 = .ok (.aload_n 0, 1) := by decide +kernel
theorem dX11_takeRead_152 : decode cX11_takeRead 152 = .ok (.getfield 56, 3) := by decide +kernel
theorem dX11_takeRead_155 : decode cX11_takeRead 155 = .ok (.iload_n 1, 1) := by decide +kernel
theorem dX11_takeRead_156 : decode cX11_takeRead 156 = .ok (.iaload, 1) := by decide +kernel
theorem dX11_takeRead_157 : decode cX11_takeRead 157 = .ok (.iastore, 1) := by decide +kernel
theorem dX11_takeRead_158 : decode cX11_takeRead 158 = .ok (.aload_n 0, 1) := by decide +kernel
theorem dX11_takeRead_159 : decode cX11_takeRead 159 = .ok (.getfield 22, 3) := by decide +kernel
theorem dX11_takeRead_162 : decode cX11_takeRead 162 = .ok (.iload_n 1, 1) := by decide +kernel
theorem dX11_takeRead_163 : decode cX11_takeRead 163 = .ok (.aload_n 0, 1) := by decide +kernel
theorem dX11_takeRead_164 : decode cX11_takeRead 164 = .ok (.getfield 59, 3) := by decide +kernel
theorem dX11_takeRead_167 : decode cX11_takeRead 167 = .ok (.iload_n 1, 1) := by decide +kernel
theorem dX11_takeRead_168 : decode cX11_takeRead 168 = .ok (.iaload, 1) := by decide +kernel
theorem dX11_takeRead_169 : decode cX11_takeRead 169 = .ok (.iastore, 1) := by decide +kernel
theorem dX11_takeRead_170 : decode cX11_takeRead 170 = .ok (.aload_n 0, 1) := by decide +kernel
theorem dX11_takeRead_171 : decode cX11_takeRead 171 = .ok (.getfield 25, 3) := by decide +kernel
theorem dX11_takeRead_174 : decode cX11_takeRead 174 = .ok (.iload_n 1, 1) := by decide +kernel
theorem dX11_takeRead_175 : decode cX11_takeRead 175 = .ok (.aload_n 0, 1) := by decide +kernel
theorem dX11_takeRead_176 : decode cX11_takeRead 176 = .ok (.getfield 62, 3) := by decide +kernel
theorem dX11_takeRead_179 : decode cX11_takeRead 179 = .ok (.iload_n 1, 1) := by decide +kernel
theorem dX11_takeRead_180 : decode cX11_takeRead 180 = .ok (.iaload, 1) := by decide +kernel
theorem dX11_takeRead_181 : decode cX11_takeRead 181 = .ok (.iastore, 1) := by decide +kernel
theorem dX11_takeRead_182 : decode cX11_takeRead 182 = .ok (.iinc 1 1, 3) := by decide +kernel
theorem dX11_takeRead_185 : decode cX11_takeRead 185 = .ok (.goto (-47), 3) := by decide +kernel
theorem dX11_takeRead_188 : decode cX11_takeRead 188 = .ok (.return_, 1) := by decide +kernel
set_option maxRecDepth 20000 in
theorem ggX11_office_X11_here : GoodIn wsX11_office wsX11_here := goodIn_r _ [16, 2, 6, 17, 75, 76, 77, 78, 79, 80, 81, 82, 83, 84, 85, 86, 87, 88, 89, 90, 91, 92, 93, 94, 95, 96, 97, 98, 99, 100, 101, 102, 103, 104, 105, 106, 107, 108, 109, 110, 111, 112, 113, 114, 115, 116, 117, 118, 119, 120] (by decide +kernel) (by decide +kernel)
set_option maxRecDepth 20000 in
theorem gX11_office_X11_here : GoodIn wsX11_office (wsV RX11 119 RX11 yX11_here wsX11_here) := goodIn_app (goodIn_of _ (by decide +kernel)) ggX11_office_X11_here
set_option maxRecDepth 20000 in
theorem ggX11_office_X11_takeClause : GoodIn wsX11_office wsX11_takeClause := goodIn_r _ [21, 3, 2, 4, 5, 12, 13, 14, 15, 16, 6, 17, 22, 23, 24, 25, 1, 26, 27, 28, 29, 30, 31, 32, 33, 34, 35, 36, 37, 38, 39, 40, 41, 42, 43, 44, 45, 46, 47, 48, 49, 50, 51, 52, 53, 54, 55, 56, 57, 58, 59, 60, 75, 76, 77, 78, 79, 80, 81, 82, 83, 84, 85, 86, 87, 88, 89, 90, 91, 92, 93, 94, 95, 96, 97, 98, 99, 100, 101, 102, 103, 104, 105, 106, 107, 108, 109, 110, 111, 112, 113, 114, 115, 116, 117, 118, 119, 120] (by decide +kernel) (by decide +kernel)
set_option maxRecDepth 20000 in
theorem gX11_office_X11_takeClause : GoodIn wsX11_office (wsV RX11 162 RX11 yX11_takeClause wsX11_takeClause) := goodIn_app (goodIn_of _ (by decide +kernel)) ggX11_office_X11_takeClause
set_option maxRecDepth 20000 in
theorem ggX11_office_X11_takeRead : GoodIn wsX11_office wsX11_takeRead := goodIn_r _ [64, 3, 65, 66, 4, 11, 5, 67, 68, 69, 49, 70, 50, 71, 51, 52, 53, 72, 58, 73, 59, 74, 60, 75, 76, 77, 78, 79, 80, 81, 82, 83, 84, 85, 86, 87, 88, 89, 90, 91, 92, 93, 94, 95, 96, 97, 98, 99, 100, 101, 102, 103, 104, 105, 106, 107, 108, 109, 110, 111, 112, 113, 114, 115, 116, 117, 118, 119, 120] (by decide +kernel) (by decide +kernel)
set_option maxRecDepth 20000 in
theorem gX11_office_X11_takeRead : GoodIn wsX11_office (wsV RX11 165 RX11 yX11_takeRead wsX11_takeRead) := goodIn_app (goodIn_of _ (by decide +kernel)) ggX11_office_X11_takeRead
theorem dX11_office_0 : decode cX11_office 0 = .ok (.aload_n 0, 1) := by decide +kernel
theorem dX11_office_1 : decode cX11_office 1 = .ok (.iconst (-1), 1) := by decide +kernel
theorem dX11_office_2 : decode cX11_office 2 = .ok (.putfield 34, 3) := by decide +kernel
theorem dX11_office_5 : decode cX11_office 5 = .ok (.aload_n 0, 1) := by decide +kernel
theorem dX11_office_6 : decode cX11_office 6 = .ok (.iconst 0, 1) := by decide +kernel
theorem dX11_office_7 : decode cX11_office 7 = .ok (.putfield 116, 3) := by decide +kernel
theorem dX11_office_10 : decode cX11_office 10 = .ok (.aload_n 0, 1) := by decide +kernel
theorem dX11_office_11 : decode cX11_office 11 = .ok (.getfield 38, 3) := by decide +kernel
theorem dX11_office_14 : decode cX11_office 14 = .ok (.iconst 0, 1) := by decide +kernel
theorem dX11_office_15 : decode cX11_office 15 = .ok (.iconst 0, 1) := by decide +kernel
theorem dX11_office_16 : decode cX11_office 16 = .ok (.iastore, 1) := by decide +kernel
theorem dX11_office_17 : decode cX11_office 17 = .ok (.aload_n 0, 1) := by decide +kernel
theorem dX11_office_18 : decode cX11_office 18 = .ok (.getfield 38, 3) := by decide +kernel
theorem dX11_office_21 : decode cX11_office 21 = .ok (.iconst 1, 1) := by decide +kernel
theorem dX11_office_22 : decode cX11_office 22 = .ok (.iconst 0, 1) := by decide +kernel
theorem dX11_office_23 : decode cX11_office 23 = .ok (.iastore, 1) := by decide +kernel
theorem dX11_office_24 : decode cX11_office 24 = .ok (.aload_n 0, 1) := by decide +kernel
theorem dX11_office_25 : decode cX11_office 25 = .ok (.iconst 0, 1) := by decide +kernel
theorem dX11_office_26 : decode cX11_office 26 = .ok (.putfield 144, 3) := by decide +kernel
theorem dX11_office_29 : decode cX11_office 29 = .ok (.aload_n 0, 1) := by decide +kernel
theorem dX11_office_30 : decode cX11_office 30 = .ok (.iconst 0, 1) := by decide +kernel
theorem dX11_office_31 : decode cX11_office 31 = .ok (.putfield 147, 3) := by decide +kernel
theorem dX11_office_34 : decode cX11_office 34 = .ok (.iconst 0, 1) := by decide +kernel
theorem dX11_office_35 : decode cX11_office 35 = .ok (.istore_n 1, 1) := by decide +kernel
theorem dX11_office_36 : decode cX11_office 36 = .ok (.iload_n 1, 1) := by decide +kernel
theorem dX11_office_37 : decode cX11_office 37 = .ok (.ifCond .ne 18, 3) := by decide +kernel
theorem dX11_office_40 : decode cX11_office 40 = .ok (.aload_n 0, 1) := by decide +kernel
theorem dX11_office_41 : decode cX11_office 41 = .ok (.invokevirtual 119, 3) := by decide +kernel
theorem dX11_office_44 : decode cX11_office 44 = .ok (.ifCond .lt 11, 3) := by decide +kernel
theorem dX11_office_47 : decode cX11_office 47 = .ok (.aload_n 0, 1) := by decide +kernel
theorem dX11_office_48 : decode cX11_office 48 = .ok (.invokevirtual 162, 3) := by decide +kernel
theorem dX11_office_51 : decode cX11_office 51 = .ok (.istore_n 1, 1) := by decide +kernel
theorem dX11_office_52 : decode cX11_office 52 = .ok (.goto (-16), 3) := by decide +kernel
theorem dX11_office_55 : decode cX11_office 55 = .ok (.aload_n 0, 1) := by decide +kernel
theorem dX11_office_56 : decode cX11_office 56 = .ok (.iconst 0, 1) := by decide +kernel
theorem dX11_office_57 : decode cX11_office 57 = .ok (.putfield 112, 3) := by decide +kernel
theorem dX11_office_60 : decode cX11_office 60 = .ok (.iload_n 1, 1) := by decide +kernel
theorem dX11_office_61 : decode cX11_office 61 = .ok (.ifCond .le 8, 3) := by decide +kernel
theorem dX11_office_64 : decode cX11_office 64 = .ok (.bipush (-10), 2) := by decide +kernel
theorem dX11_office_66 : decode cX11_office 66 = .ok (.iload_n 1, 1) := by decide +kernel
theorem dX11_office_67 : decode cX11_office 67 = .ok (.isub, 1) := by decide +kernel
theorem dX11_office_68 : decode cX11_office 68 = .ok (.ireturn, 1) := by decide +kernel
theorem dX11_office_69 : decode cX11_office 69 = .ok (.aload_n 0, 1) := by decide +kernel
theorem dX11_office_70 : decode cX11_office 70 = .ok (.invokevirtual 165, 3) := by decide +kernel
theorem dX11_office_73 : decode cX11_office 73 = .ok (.aload_n 0, 1) := by decide +kernel
theorem dX11_office_74 : decode cX11_office 74 = .ok (.iconst 0, 1) := by decide +kernel
theorem dX11_office_75 : decode cX11_office 75 = .ok (.putfield 168, 3) := by decide +kernel
theorem dX11_office_78 : decode cX11_office 78 = .ok (.aload_n 0, 1) := by decide +kernel
theorem dX11_office_79 : decode cX11_office 79 = .ok (.iconst 0, 1) := by decide +kernel
theorem dX11_office_80 : decode cX11_office 80 = .ok (.putfield 171, 3) := by decide +kernel
theorem dX11_office_83 : decode cX11_office 83 = .ok (.aload_n 0, 1) := by decide +kernel
theorem dX11_office_84 : decode cX11_office 84 = .ok (.iconst 0, 1) := by decide +kernel
theorem dX11_office_85 : decode cX11_office 85 = .ok (.putfield 174, 3) := by decide +kernel
theorem dX11_office_88 : decode cX11_office 88 = .ok (.aload_n 0, 1) := by decide +kernel
theorem dX11_office_89 : decode cX11_office 89 = .ok (.getfield 92, 3) := by decide +kernel
theorem dX11_office_92 : decode cX11_office 92 = .ok (.iconst 0, 1) := by decide +kernel
theorem dX11_office_93 : decode cX11_office 93 = .ok (.iconst 0, 1) := by decide +kernel
theorem dX11_office_94 : decode cX11_office 94 = .ok (.bastore, 1) := by decide +kernel
theorem dX11_office_95 : decode cX11_office 95 = .ok (.aload_n 0, 1) := by decide +kernel
theorem dX11_office_96 : decode cX11_office 96 = .ok (.getfield 92, 3) := by decide +kernel
theorem dX11_office_99 : decode cX11_office 99 = .ok (.iconst 1, 1) := by decide +kernel
theorem dX11_office_100 : decode cX11_office 100 = .ok (.iconst 0, 1) := by decide +kernel
theorem dX11_office_101 : decode cX11_office 101 = .ok (.bastore, 1) := by decide +kernel
theorem dX11_office_102 : decode cX11_office 102 = .ok (.aload_n 0, 1) := by decide +kernel
theorem dX11_office_103 : decode cX11_office 103 = .ok (.getfield 99, 3) := by decide +kernel
theorem dX11_office_106 : decode cX11_office 106 = .ok (.ireturn, 1) := by decide +kernel
theorem dX11_fault_0 : decode cX11_fault 0 = .ok (.aload_n 0, 1) := by decide +kernel
theorem dX11_fault_1 : decode cX11_fault 1 = .ok (.getfield 34, 3) := by decide +kernel
theorem dX11_fault_4 : decode cX11_fault 4 = .ok (.ireturn, 1) := by decide +kernel
