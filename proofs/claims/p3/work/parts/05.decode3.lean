set_option maxRecDepth 20000 in
theorem ggX11_worn_X11_isQuill : GoodIn wsX11_worn wsX11_isQuill := goodIn_r _ [14, 15, 16, 17, 13, 18, 19, 20, 21, 22, 23, 24, 25, 26, 27, 28, 29, 30, 31, 32, 33, 34, 35, 36, 37, 38, 39, 40, 41, 42, 43, 44, 45, 46, 47, 48, 49, 50, 51, 52, 53, 54, 55, 56, 57, 58, 59, 60, 61, 62, 63, 64] (by decide +kernel) (by decide +kernel)
set_option maxRecDepth 20000 in
theorem gX11_worn_X11_isQuill : GoodIn wsX11_worn (wsV RX11 184 RX11 yX11_isQuill wsX11_isQuill) := goodIn_app (goodIn_of _ (by decide +kernel)) ggX11_worn_X11_isQuill
set_option maxRecDepth 20000 in
theorem ggX11_worn_X11_in : GoodIn wsX11_worn wsX11_in := goodIn_r _ [18] (by decide +kernel) (by decide +kernel)
set_option maxRecDepth 20000 in
theorem gX11_worn_X11_in : GoodIn wsX11_worn (va_wsS RX11 102 yX11_in wsX11_in) := goodIn_app (goodIn_of _ (by decide +kernel)) ggX11_worn_X11_in
theorem dX11_worn_0 : decode cX11_worn 0 = .ok (.aload_n 0, 1) := by decide +kernel
theorem dX11_worn_1 : decode cX11_worn 1 = .ok (.iload_n 1, 1) := by decide +kernel
theorem dX11_worn_2 : decode cX11_worn 2 = .ok (.invokevirtual 184, 3) := by decide +kernel
theorem dX11_worn_5 : decode cX11_worn 5 = .ok (.ifCond .ne 6, 3) := by decide +kernel
theorem dX11_worn_8 : decode cX11_worn 8 = .ok (.ldc 188, 2) := by decide +kernel
theorem dX11_worn_10 : decode cX11_worn 10 = .ok (.ireturn, 1) := by decide +kernel
theorem dX11_worn_11 : decode cX11_worn 11 = .ok (.iload_n 2, 1) := by decide +kernel
theorem dX11_worn_12 : decode cX11_worn 12 = .ok (.i2l, 1) := by decide +kernel
theorem dX11_worn_13 : decode cX11_worn 13 = .ok (.lconst 1, 1) := by decide +kernel
theorem dX11_worn_14 : decode cX11_worn 14 = .ok (.ldc2_w 229, 3) := by decide +kernel
theorem dX11_worn_17 : decode cX11_worn 17 = .ok (.invokestatic 102, 3) := by decide +kernel
theorem dX11_worn_20 : decode cX11_worn 20 = .ok (.ifCond .eq 15, 3) := by decide +kernel
theorem dX11_worn_23 : decode cX11_worn 23 = .ok (.iload_n 3, 1) := by decide +kernel
theorem dX11_worn_24 : decode cX11_worn 24 = .ok (.i2l, 1) := by decide +kernel
theorem dX11_worn_25 : decode cX11_worn 25 = .ok (.lconst 0, 1) := by decide +kernel
theorem dX11_worn_26 : decode cX11_worn 26 = .ok (.ldc2_w 313, 3) := by decide +kernel
theorem dX11_worn_29 : decode cX11_worn 29 = .ok (.invokestatic 102, 3) := by decide +kernel
theorem dX11_worn_32 : decode cX11_worn 32 = .ok (.ifCond .ne 6, 3) := by decide +kernel
theorem dX11_worn_35 : decode cX11_worn 35 = .ok (.ldc 111, 2) := by decide +kernel
theorem dX11_worn_37 : decode cX11_worn 37 = .ok (.ireturn, 1) := by decide +kernel
theorem dX11_worn_38 : decode cX11_worn 38 = .ok (.aload_n 0, 1) := by decide +kernel
theorem dX11_worn_39 : decode cX11_worn 39 = .ok (.getfield 168, 3) := by decide +kernel
theorem dX11_worn_42 : decode cX11_worn 42 = .ok (.bipush 6, 2) := by decide +kernel
theorem dX11_worn_44 : decode cX11_worn 44 = .ok (.if_icmp .ne 6, 3) := by decide +kernel
theorem dX11_worn_47 : decode cX11_worn 47 = .ok (.ldc 115, 2) := by decide +kernel
theorem dX11_worn_49 : decode cX11_worn 49 = .ok (.ireturn, 1) := by decide +kernel
theorem dX11_worn_50 : decode cX11_worn 50 = .ok (.aload_n 0, 1) := by decide +kernel
theorem dX11_worn_51 : decode cX11_worn 51 = .ok (.getfield 74, 3) := by decide +kernel
theorem dX11_worn_54 : decode cX11_worn 54 = .ok (.aload_n 0, 1) := by decide +kernel
theorem dX11_worn_55 : decode cX11_worn 55 = .ok (.getfield 168, 3) := by decide +kernel
theorem dX11_worn_58 : decode cX11_worn 58 = .ok (.iload_n 1, 1) := by decide +kernel
theorem dX11_worn_59 : decode cX11_worn 59 = .ok (.iastore, 1) := by decide +kernel
theorem dX11_worn_60 : decode cX11_worn 60 = .ok (.aload_n 0, 1) := by decide +kernel
theorem dX11_worn_61 : decode cX11_worn 61 = .ok (.getfield 77, 3) := by decide +kernel
theorem dX11_worn_64 : decode cX11_worn 64 = .ok (.aload_n 0, 1) := by decide +kernel
theorem dX11_worn_65 : decode cX11_worn 65 = .ok (.getfield 168, 3) := by decide +kernel
theorem dX11_worn_68 : decode cX11_worn 68 = .ok (.iload_n 2, 1) := by decide +kernel
theorem dX11_worn_69 : decode cX11_worn 69 = .ok (.iastore, 1) := by decide +kernel
theorem dX11_worn_70 : decode cX11_worn 70 = .ok (.aload_n 0, 1) := by decide +kernel
theorem dX11_worn_71 : decode cX11_worn 71 = .ok (.getfield 80, 3) := by decide +kernel
theorem dX11_worn_74 : decode cX11_worn 74 = .ok (.aload_n 0, 1) := by decide +kernel
theorem dX11_worn_75 : decode cX11_worn 75 = .ok (.getfield 168, 3) := by decide +kernel
theorem dX11_worn_78 : decode cX11_worn 78 = .ok (.iload_n 3, 1) := by decide +kernel
theorem dX11_worn_79 : decode cX11_worn 79 = .ok (.iastore, 1) := by decide +kernel
theorem dX11_worn_80 : decode cX11_worn 80 = .ok (.aload_n 0, 1) := by decide +kernel
theorem dX11_worn_81 : decode cX11_worn 81 = .ok (.dup, 1) := by decide +kernel
theorem dX11_worn_82 : decode cX11_worn 82 = .ok (.getfield 168, 3) := by decide +kernel
theorem dX11_worn_85 : decode cX11_worn 85 = .ok (.iconst 1, 1) := by decide +kernel
theorem dX11_worn_86 : decode cX11_worn 86 = .ok (.iadd, 1) := by decide +kernel
theorem dX11_worn_87 : decode cX11_worn 87 = .ok (.putfield 168, 3) := by decide +kernel
theorem dX11_worn_90 : decode cX11_worn 90 = .ok (.aload_n 0, 1) := by decide +kernel
theorem dX11_worn_91 : decode cX11_worn 91 = .ok (.getfield 168, 3) := by decide +kernel
theorem dX11_worn_94 : decode cX11_worn 94 = .ok (.ireturn, 1) := by decide +kernel
set_option maxRecDepth 20000 in
theorem ggX11_note_X11_isQuill : GoodIn wsX11_note wsX11_isQuill := goodIn_r _ [12, 13, 14, 15, 11, 16, 17, 18, 19, 20, 21, 22, 23, 24, 25, 26, 27, 28, 29, 30, 31, 32, 33, 34, 35, 36, 37, 38, 39, 40, 41, 42, 43, 44, 45, 46, 47, 48, 49, 50, 51, 52, 53, 54, 55, 56, 57, 58, 59, 60, 61, 62] (by decide +kernel) (by decide +kernel)
set_option maxRecDepth 20000 in
theorem gX11_note_X11_isQuill : GoodIn wsX11_note (wsV RX11 184 RX11 yX11_isQuill wsX11_isQuill) := goodIn_app (goodIn_of _ (by decide +kernel)) ggX11_note_X11_isQuill
set_option maxRecDepth 20000 in
theorem ggX11_note_X11_in : GoodIn wsX11_note wsX11_in := goodIn_r _ [16] (by decide +kernel) (by decide +kernel)
set_option maxRecDepth 20000 in
theorem gX11_note_X11_in : GoodIn wsX11_note (va_wsS RX11 102 yX11_in wsX11_in) := goodIn_app (goodIn_of _ (by decide +kernel)) ggX11_note_X11_in
theorem dX11_note_0 : decode cX11_note 0 = .ok (.aload_n 0, 1) := by decide +kernel
theorem dX11_note_1 : decode cX11_note 1 = .ok (.iload_n 1, 1) := by decide +kernel
theorem dX11_note_2 : decode cX11_note 2 = .ok (.invokevirtual 184, 3) := by decide +kernel
theorem dX11_note_5 : decode cX11_note 5 = .ok (.ifCond .ne 6, 3) := by decide +kernel
theorem dX11_note_8 : decode cX11_note 8 = .ok (.ldc 188, 2) := by decide +kernel
theorem dX11_note_10 : decode cX11_note 10 = .ok (.ireturn, 1) := by decide +kernel
theorem dX11_note_11 : decode cX11_note 11 = .ok (.iload_n 2, 1) := by decide +kernel
theorem dX11_note_12 : decode cX11_note 12 = .ok (.i2l, 1) := by decide +kernel
theorem dX11_note_13 : decode cX11_note 13 = .ok (.lconst 0, 1) := by decide +kernel
theorem dX11_note_14 : decode cX11_note 14 = .ok (.ldc2_w 313, 3) := by decide +kernel
theorem dX11_note_17 : decode cX11_note 17 = .ok (.invokestatic 102, 3) := by decide +kernel
theorem dX11_note_20 : decode cX11_note 20 = .ok (.ifCond .ne 6, 3) := by decide +kernel
theorem dX11_note_23 : decode cX11_note 23 = .ok (.ldc 111, 2) := by decide +kernel
theorem dX11_note_25 : decode cX11_note 25 = .ok (.ireturn, 1) := by decide +kernel
theorem dX11_note_26 : decode cX11_note 26 = .ok (.aload_n 0, 1) := by decide +kernel
theorem dX11_note_27 : decode cX11_note 27 = .ok (.getfield 171, 3) := by decide +kernel
theorem dX11_note_30 : decode cX11_note 30 = .ok (.bipush 15, 2) := by decide +kernel
theorem dX11_note_32 : decode cX11_note 32 = .ok (.if_icmp .ne 6, 3) := by decide +kernel
theorem dX11_note_35 : decode cX11_note 35 = .ok (.ldc 115, 2) := by decide +kernel
theorem dX11_note_37 : decode cX11_note 37 = .ok (.ireturn, 1) := by decide +kernel
theorem dX11_note_38 : decode cX11_note 38 = .ok (.aload_n 0, 1) := by decide +kernel
theorem dX11_note_39 : decode cX11_note 39 = .ok (.getfield 83, 3) := by decide +kernel
theorem dX11_note_42 : decode cX11_note 42 = .ok (.aload_n 0, 1) := by decide +kernel
theorem dX11_note_43 : decode cX11_note 43 = .ok (.getfield 171, 3) := by decide +kernel
theorem dX11_note_46 : decode cX11_note 46 = .ok (.iload_n 1, 1) := by decide +kernel
theorem dX11_note_47 : decode cX11_note 47 = .ok (.iastore, 1) := by decide +kernel
theorem dX11_note_48 : decode cX11_note 48 = .ok (.aload_n 0, 1) := by decide +kernel
theorem dX11_note_49 : decode cX11_note 49 = .ok (.getfield 86, 3) := by decide +kernel
theorem dX11_note_52 : decode cX11_note 52 = .ok (.aload_n 0, 1) := by decide +kernel
theorem dX11_note_53 : decode cX11_note 53 = .ok (.getfield 171, 3) := by decide +kernel
theorem dX11_note_56 : decode cX11_note 56 = .ok (.iload_n 2, 1) := by decide +kernel
theorem dX11_note_57 : decode cX11_note 57 = .ok (.iastore, 1) := by decide +kernel
theorem dX11_note_58 : decode cX11_note 58 = .ok (.aload_n 0, 1) := by decide +kernel
theorem dX11_note_59 : decode cX11_note 59 = .ok (.dup, 1) := by decide +kernel
theorem dX11_note_60 : decode cX11_note 60 = .ok (.getfield 171, 3) := by decide +kernel
theorem dX11_note_63 : decode cX11_note 63 = .ok (.iconst 1, 1) := by decide +kernel
theorem dX11_note_64 : decode cX11_note 64 = .ok (.iadd, 1) := by decide +kernel
theorem dX11_note_65 : decode cX11_note 65 = .ok (.putfield 171, 3) := by decide +kernel
theorem dX11_note_68 : decode cX11_note 68 = .ok (.aload_n 0, 1) := by decide +kernel
theorem dX11_note_69 : decode cX11_note 69 = .ok (.getfield 171, 3) := by decide +kernel
theorem dX11_note_72 : decode cX11_note 72 = .ok (.ireturn, 1) := by decide +kernel
theorem dX11_tear_0 : decode cX11_tear 0 = .ok (.aload_n 0, 1) := by decide +kernel
theorem dX11_tear_1 : decode cX11_tear 1 = .ok (.getfield 168, 3) := by decide +kernel
theorem dX11_tear_4 : decode cX11_tear 4 = .ok (.aload_n 0, 1) := by decide +kernel
theorem dX11_tear_5 : decode cX11_tear 5 = .ok (.getfield 171, 3) := by decide +kernel
theorem dX11_tear_8 : decode cX11_tear 8 = .ok (.iadd, 1) := by decide +kernel
theorem dX11_tear_9 : decode cX11_tear 9 = .ok (.istore_n 1, 1) := by decide +kernel
theorem dX11_tear_10 : decode cX11_tear 10 = .ok (.aload_n 0, 1) := by decide +kernel
theorem dX11_tear_11 : decode cX11_tear 11 = .ok (.iconst 0, 1) := by decide +kernel
theorem dX11_tear_12 : decode cX11_tear 12 = .ok (.putfield 168, 3) := by decide +kernel
theorem dX11_tear_15 : decode cX11_tear 15 = .ok (.aload_n 0, 1) := by decide +kernel
theorem dX11_tear_16 : decode cX11_tear 16 = .ok (.iconst 0, 1) := by decide +kernel
theorem dX11_tear_17 : decode cX11_tear 17 = .ok (.putfield 171, 3) := by decide +kernel
theorem dX11_tear_20 : decode cX11_tear 20 = .ok (.iload_n 1, 1) := by decide +kernel
theorem dX11_tear_21 : decode cX11_tear 21 = .ok (.ireturn, 1) := by decide +kernel
set_option maxRecDepth 20000 in
theorem ggX11_keep_X11_in : GoodIn wsX11_keep wsX11_in := goodIn_r _ [10] (by decide +kernel) (by decide +kernel)
set_option maxRecDepth 20000 in
theorem gX11_keep_X11_in : GoodIn wsX11_keep (va_wsS RX11 102 yX11_in wsX11_in) := goodIn_app (goodIn_of _ (by decide +kernel)) ggX11_keep_X11_in
theorem dX11_keep_0 : decode cX11_keep 0 = .ok (.iload_n 1, 1) := by decide +kernel
theorem dX11_keep_1 : decode cX11_keep 1 = .ok (.i2l, 1) := by decide +kernel
theorem dX11_keep_2 : decode cX11_keep 2 = .ok (.lconst 0, 1) := by decide +kernel
theorem dX11_keep_3 : decode cX11_keep 3 = .ok (.lconst 1, 1) := by decide +kernel
theorem dX11_keep_4 : decode cX11_keep 4 = .ok (.invokestatic 102, 3) := by decide +kernel
theorem dX11_keep_7 : decode cX11_keep 7 = .ok (.ifCond .ne 6, 3) := by decide +kernel
theorem dX11_keep_10 : decode cX11_keep 10 = .ok (.ldc 188, 2) := by decide +kernel
theorem dX11_keep_12 : decode cX11_keep 12 = .ok (.ireturn, 1) := by decide +kernel
theorem dX11_keep_13 : decode cX11_keep 13 = .ok (.iconst 0, 1) := by decide +kernel
theorem dX11_keep_14 : decode cX11_keep 14 = .ok (.istore_n 2, 1) := by decide +kernel
theorem dX11_keep_15 : decode cX11_keep 15 = .ok (.iload_n 2, 1) := by decide +kernel
theorem dX11_keep_16 : decode cX11_keep 16 = .ok (.bipush 34, 2) := by decide +kernel
theorem dX11_keep_18 : decode cX11_keep 18 = .ok (.if_icmp .ge 26, 3) := by decide +kernel
theorem dX11_keep_21 : decode cX11_keep 21 = .ok (.aload_n 0, 1) := by decide +kernel
theorem dX11_keep_22 : decode cX11_keep 22 = .ok (.getfield 89, 3) := by decide +kernel
theorem dX11_keep_25 : decode cX11_keep 25 = .ok (.bipush 35, 2) := by decide +kernel
theorem dX11_keep_27 : decode cX11_keep 27 = .ok (.iload_n 1, 1) := by decide +kernel
theorem dX11_keep_28 : decode cX11_keep 28 = .ok (.imul, 1) := by decide +kernel
theorem dX11_keep_29 : decode cX11_keep 29 = .ok (.iload_n 2, 1) := by decide +kernel
theorem dX11_keep_30 : decode cX11_keep 30 = .ok (.iadd, 1) := by decide +kernel
theorem dX11_keep_31 : decode cX11_keep 31 = .ok (.aload_n 0, 1) := by decide +kernel
theorem dX11_keep_32 : decode cX11_keep 32 = .ok (.getfield 28, 3) := by decide +kernel
theorem dX11_keep_35 : decode cX11_keep 35 = .ok (.iload_n 2, 1) := by decide +kernel
theorem dX11_keep_36 : decode cX11_keep 36 = .ok (.iaload, 1) := by decide +kernel
theorem dX11_keep_37 : decode cX11_keep 37 = .ok (.iastore, 1) := by decide +kernel
theorem dX11_keep_38 : decode cX11_keep 38 = .ok (.iinc 2 1, 3) := by decide +kernel
theorem dX11_keep_41 : decode cX11_keep 41 = .ok (.goto (-26), 3) := by decide +kernel
theorem dX11_keep_44 : decode cX11_keep 44 = .ok (.aload_n 0, 1) := by decide +kernel
theorem dX11_keep_45 : decode cX11_keep 45 = .ok (.getfield 89, 3) := by decide +kernel
theorem dX11_keep_48 : decode cX11_keep 48 = .ok (.bipush 35, 2) := by decide +kernel
theorem dX11_keep_50 : decode cX11_keep 50 = .ok (.iload_n 1, 1) := by decide +kernel
theorem dX11_keep_51 : decode cX11_keep 51 = .ok (.imul, 1) := by decide +kernel
theorem dX11_keep_52 : decode cX11_keep 52 = .ok (.bipush 34, 2) := by decide +kernel
theorem dX11_keep_54 : decode cX11_keep 54 = .ok (.iadd, 1) := by decide +kernel
theorem dX11_keep_55 : decode cX11_keep 55 = .ok (.aload_n 0, 1) := by decide +kernel
theorem dX11_keep_56 : decode cX11_keep 56 = .ok (.getfield 241, 3) := by decide +kernel
theorem dX11_keep_59 : decode cX11_keep 59 = .ok (.iastore, 1) := by decide +kernel
theorem dX11_keep_60 : decode cX11_keep 60 = .ok (.aload_n 0, 1) := by decide +kernel
theorem dX11_keep_61 : decode cX11_keep 61 = .ok (.getfield 92, 3) := by decide +kernel
theorem dX11_keep_64 : decode cX11_keep 64 = .ok (.iload_n 1, 1) := by decide +kernel
theorem dX11_keep_65 : decode cX11_keep 65 = .ok (.iconst 1, 1) := by decide +kernel
theorem dX11_keep_66 : decode cX11_keep 66 = .ok (.bastore, 1) := by decide +kernel
theorem dX11_keep_67 : decode cX11_keep 67 = .ok (.aload_n 0, 1) := by decide +kernel
theorem dX11_keep_68 : decode cX11_keep 68 = .ok (.iconst 0, 1) := by decide +kernel
theorem dX11_keep_69 : decode cX11_keep 69 = .ok (.putfield 174, 3) := by decide +kernel
theorem dX11_keep_72 : decode cX11_keep 72 = .ok (.iconst 1, 1) := by decide +kernel
theorem dX11_keep_73 : decode cX11_keep 73 = .ok (.ireturn, 1) := by decide +kernel
set_option maxRecDepth 20000 in
theorem ggX11_goBack_X11_in : GoodIn wsX11_goBack wsX11_in := goodIn_r _ [11] (by decide +kernel) (by decide +kernel)
set_option maxRecDepth 20000 in
theorem gX11_goBack_X11_in : GoodIn wsX11_goBack (va_wsS RX11 102 yX11_in wsX11_in) := goodIn_app (goodIn_of _ (by decide +kernel)) ggX11_goBack_X11_in
theorem dX11_goBack_0 : decode cX11_goBack 0 = .ok (.iload_n 1, 1) := by decide +kernel
theorem dX11_goBack_1 : decode cX11_goBack 1 = .ok (.i2l, 1) := by decide +kernel
theorem dX11_goBack_2 : decode cX11_goBack 2 = .ok (.lconst 0, 1) := by decide +kernel
theorem dX11_goBack_3 : decode cX11_goBack 3 = .ok (.lconst 1, 1) := by decide +kernel
theorem dX11_goBack_4 : decode cX11_goBack 4 = .ok (.invokestatic 102, 3) := by decide +kernel
theorem dX11_goBack_7 : decode cX11_goBack 7 = .ok (.ifCond .ne 6, 3) := by decide +kernel
theorem dX11_goBack_10 : decode cX11_goBack 10 = .ok (.ldc 188, 2) := by decide +kernel
theorem dX11_goBack_12 : decode cX11_goBack 12 = .ok (.ireturn, 1) := by decide +kernel
theorem dX11_goBack_13 : decode cX11_goBack 13 = .ok (.aload_n 0, 1) := by decide +kernel
theorem dX11_goBack_14 : decode cX11_goBack 14 = .ok (.getfield 92, 3) := by decide +kernel
theorem dX11_goBack_17 : decode cX11_goBack 17 = .ok (.iload_n 1, 1) := by decide +kernel
theorem dX11_goBack_18 : decode cX11_goBack 18 = .ok (.baload, 1) := by decide +kernel
theorem dX11_goBack_19 : decode cX11_goBack 19 = .ok (.ifCond .ne 6, 3) := by decide +kernel
theorem dX11_goBack_22 : decode cX11_goBack 22 = .ok (.ldc 237, 2) := by decide +kernel
theorem dX11_goBack_24 : decode cX11_goBack 24 = .ok (.ireturn, 1) := by decide +kernel
theorem dX11_goBack_25 : decode cX11_goBack 25 = .ok (.iconst 0, 1) := by decide +kernel
theorem dX11_goBack_26 : decode cX11_goBack 26 = .ok (.istore_n 2, 1) := by decide +kernel
theorem dX11_goBack_27 : decode cX11_goBack 27 = .ok (.iload_n 2, 1) := by decide +kernel
theorem dX11_goBack_28 : decode cX11_goBack 28 = .ok (.bipush 34, 2) := by decide +kernel
theorem dX11_goBack_30 : decode cX11_goBack 30 = .ok (.if_icmp .ge 26, 3) := by decide +kernel
theorem dX11_goBack_33 : decode cX11_goBack 33 = .ok (.aload_n 0, 1) := by decide +kernel
theorem dX11_goBack_34 : decode cX11_goBack 34 = .ok (.getfield 28, 3) := by decide +kernel
theorem dX11_goBack_37 : decode cX11_goBack 37 = .ok (.iload_n 2, 1) := by decide +kernel
theorem dX11_goBack_38 : decode cX11_goBack 38 = .ok (.aload_n 0, 1) := by decide +kernel
theorem dX11_goBack_39 : decode cX11_goBack 39 = .ok (.getfield 89, 3) := by decide +kernel
theorem dX11_goBack_42 : decode cX11_goBack 42 = .ok (.bipush 35, 2) := by decide +kernel
theorem dX11_goBack_44 : decode cX11_goBack 44 = .ok (.iload_n 1, 1) := by decide +kernel
theorem dX11_goBack_45 : decode cX11_goBack 45 = .ok (.imul, 1) := by decide +kernel
theorem dX11_goBack_46 : decode cX11_goBack 46 = .ok (.iload_n 2, 1) := by decide +kernel
theorem dX11_goBack_47 : decode cX11_goBack 47 = .ok (.iadd, 1) := by decide +kernel
theorem dX11_goBack_48 : decode cX11_goBack 48 = .ok (.iaload, 1) := by decide +kernel
theorem dX11_goBack_49 : decode cX11_goBack 49 = .ok (.iastore, 1) := by decide +kernel
theorem dX11_goBack_50 : decode cX11_goBack 50 = .ok (.iinc 2 1, 3) := by decide +kernel
theorem dX11_goBack_53 : decode cX11_goBack 53 = .ok (.goto (-26), 3) := by decide +kernel
theorem dX11_goBack_56 : decode cX11_goBack 56 = .ok (.aload_n 0, 1) := by decide +kernel
theorem dX11_goBack_57 : decode cX11_goBack 57 = .ok (.aload_n 0, 1) := by decide +kernel
theorem dX11_goBack_58 : decode cX11_goBack 58 = .ok (.getfield 89, 3) := by decide +kernel
theorem dX11_goBack_61 : decode cX11_goBack 61 = .ok (.bipush 35, 2) := by decide +kernel
theorem dX11_goBack_63 : decode cX11_goBack 63 = .ok (.iload_n 1, 1) := by decide +kernel
theorem dX11_goBack_64 : decode cX11_goBack 64 = .ok (.imul, 1) := by decide +kernel
theorem dX11_goBack_65 : decode cX11_goBack 65 = .ok (.bipush 34, 2) := by decide +kernel
theorem dX11_goBack_67 : decode cX11_goBack 67 = .ok (.iadd, 1) := by decide +kernel
theorem dX11_goBack_68 : decode cX11_goBack 68 = .ok (.iaload, 1) := by decide +kernel
theorem dX11_goBack_69 : decode cX11_goBack 69 = .ok (.putfield 241, 3) := by decide +kernel
theorem dX11_goBack_72 : decode cX11_goBack 72 = .ok (.aload_n 0, 1) := by decide +kernel
theorem dX11_goBack_73 : decode cX11_goBack 73 = .ok (.iconst 0, 1) := by decide +kernel
theorem dX11_goBack_74 : decode cX11_goBack 74 = .ok (.putfield 174, 3) := by decide +kernel
theorem dX11_goBack_77 : decode cX11_goBack 77 = .ok (.iconst 1, 1) := by decide +kernel
theorem dX11_goBack_78 : decode cX11_goBack 78 = .ok (.ireturn, 1) := by decide +kernel
theorem dJ6_bitCount_0f7a4_0 : decode cJ6_bitCount_0f7a4 0 = .ok (.iload_n 0, 1) := by decide +kernel
theorem dJ6_bitCount_0f7a4_1 : decode cJ6_bitCount_0f7a4 1 = .ok (.iload_n 0, 1) := by decide +kernel
theorem dJ6_bitCount_0f7a4_2 : decode cJ6_bitCount_0f7a4 2 = .ok (.iconst 1, 1) := by decide +kernel
theorem dJ6_bitCount_0f7a4_3 : decode cJ6_bitCount_0f7a4 3 = .ok (.iushr, 1) := by decide +kernel
theorem dJ6_bitCount_0f7a4_4 : decode cJ6_bitCount_0f7a4 4 = .ok (.ldc_w 265, 3) := by decide +kernel
theorem dJ6_bitCount_0f7a4_7 : decode cJ6_bitCount_0f7a4 7 = .ok (.iand, 1) := by decide +kernel
theorem dJ6_bitCount_0f7a4_8 : decode cJ6_bitCount_0f7a4 8 = .ok (.isub, 1) := by decide +kernel
theorem dJ6_bitCount_0f7a4_9 : decode cJ6_bitCount_0f7a4 9 = .ok (.istore_n 0, 1) := by decide +kernel
theorem dJ6_bitCount_0f7a4_10 : decode cJ6_bitCount_0f7a4 10 = .ok (.iload_n 0, 1) := by decide +kernel
theorem dJ6_bitCount_0f7a4_11 : decode cJ6_bitCount_0f7a4 11 = .ok (.ldc_w 266, 3) := by decide +kernel
theorem dJ6_bitCount_0f7a4_14 : decode cJ6_bitCount_0f7a4 14 = .ok (.iand, 1) := by decide +kernel
theorem dJ6_bitCount_0f7a4_15 : decode cJ6_bitCount_0f7a4 15 = .ok (.iload_n 0, 1) := by decide +kernel
theorem dJ6_bitCount_0f7a4_16 : decode cJ6_bitCount_0f7a4 16 = .ok (.iconst 2, 1) := by decide +kernel
theorem dJ6_bitCount_0f7a4_17 : decode cJ6_bitCount_0f7a4 17 = .ok (.iushr, 1) := by decide +kernel
theorem dJ6_bitCount_0f7a4_18 : decode cJ6_bitCount_0f7a4 18 = .ok (.ldc_w 266, 3) := by decide +kernel
theorem dJ6_bitCount_0f7a4_21 : decode cJ6_bitCount_0f7a4 21 = .ok (.iand, 1) := by decide +kernel
theorem dJ6_bitCount_0f7a4_22 : decode cJ6_bitCount_0f7a4 22 = .ok (.iadd, 1) := by decide +kernel
theorem dJ6_bitCount_0f7a4_23 : decode cJ6_bitCount_0f7a4 23 = .ok (.istore_n 0, 1) := by decide +kernel
theorem dJ6_bitCount_0f7a4_24 : decode cJ6_bitCount_0f7a4 24 = .ok (.iload_n 0, 1) := by decide +kernel
theorem dJ6_bitCount_0f7a4_25 : decode cJ6_bitCount_0f7a4 25 = .ok (.iload_n 0, 1) := by decide +kernel
theorem dJ6_bitCount_0f7a4_26 : decode cJ6_bitCount_0f7a4 26 = .ok (.iconst 4, 1) := by decide +kernel
theorem dJ6_bitCount_0f7a4_27 : decode cJ6_bitCount_0f7a4 27 = .ok (.iushr, 1) := by decide +kernel
theorem dJ6_bitCount_0f7a4_28 : decode cJ6_bitCount_0f7a4 28 = .ok (.iadd, 1) := by decide +kernel
theorem dJ6_bitCount_0f7a4_29 : decode cJ6_bitCount_0f7a4 29 = .ok (.ldc_w 267, 3) := by decide +kernel
theorem dJ6_bitCount_0f7a4_32 : decode cJ6_bitCount_0f7a4 32 = .ok (.iand, 1) := by decide +kernel
theorem dJ6_bitCount_0f7a4_33 : decode cJ6_bitCount_0f7a4 33 = .ok (.istore_n 0, 1) := by decide +kernel
theorem dJ6_bitCount_0f7a4_34 : decode cJ6_bitCount_0f7a4 34 = .ok (.iload_n 0, 1) := by decide +kernel
theorem dJ6_bitCount_0f7a4_35 : decode cJ6_bitCount_0f7a4 35 = .ok (.iload_n 0, 1) := by decide +kernel
theorem dJ6_bitCount_0f7a4_36 : decode cJ6_bitCount_0f7a4 36 = .ok (.bipush 8, 2) := by decide +kernel
theorem dJ6_bitCount_0f7a4_38 : decode cJ6_bitCount_0f7a4 38 = .ok (.iushr, 1) := by decide +kernel
theorem dJ6_bitCount_0f7a4_39 : decode cJ6_bitCount_0f7a4 39 = .ok (.iadd, 1) := by decide +kernel
theorem dJ6_bitCount_0f7a4_40 : decode cJ6_bitCount_0f7a4 40 = .ok (.istore_n 0, 1) := by decide +kernel
theorem dJ6_bitCount_0f7a4_41 : decode cJ6_bitCount_0f7a4 41 = .ok (.iload_n 0, 1) := by decide +kernel
theorem dJ6_bitCount_0f7a4_42 : decode cJ6_bitCount_0f7a4 42 = .ok (.iload_n 0, 1) := by decide +kernel
theorem dJ6_bitCount_0f7a4_43 : decode cJ6_bitCount_0f7a4 43 = .ok (.bipush 16, 2) := by decide +kernel
theorem dJ6_bitCount_0f7a4_45 : decode cJ6_bitCount_0f7a4 45 = .ok (.iushr, 1) := by decide +kernel
theorem dJ6_bitCount_0f7a4_46 : decode cJ6_bitCount_0f7a4 46 = .ok (.iadd, 1) := by decide +kernel
theorem dJ6_bitCount_0f7a4_47 : decode cJ6_bitCount_0f7a4 47 = .ok (.istore_n 0, 1) := by decide +kernel
theorem dJ6_bitCount_0f7a4_48 : decode cJ6_bitCount_0f7a4 48 = .ok (.iload_n 0, 1) := by decide +kernel
theorem dJ6_bitCount_0f7a4_49 : decode cJ6_bitCount_0f7a4 49 = .ok (.bipush 63, 2) := by decide +kernel
theorem dJ6_bitCount_0f7a4_51 : decode cJ6_bitCount_0f7a4 51 = .ok (.iand, 1) := by decide +kernel
theorem dJ6_bitCount_0f7a4_52 : decode cJ6_bitCount_0f7a4 52 = .ok (.ireturn, 1) := by decide +kernel
theorem dJ9_abs_0f7a4_0 : decode cJ9_abs_0f7a4 0 = .ok (.iload_n 0, 1) := by decide +kernel
theorem dJ9_abs_0f7a4_1 : decode cJ9_abs_0f7a4 1 = .ok (.ifCond .ge 8, 3) := by decide +kernel
theorem dJ9_abs_0f7a4_4 : decode cJ9_abs_0f7a4 4 = .ok (.iload_n 0, 1) := by decide +kernel
theorem dJ9_abs_0f7a4_5 : decode cJ9_abs_0f7a4 5 = .ok (.ineg, 1) := by decide +kernel
theorem dJ9_abs_0f7a4_6 : decode cJ9_abs_0f7a4 6 = .ok (.goto 4, 3) := by decide +kernel
theorem dJ9_abs_0f7a4_9 : decode cJ9_abs_0f7a4 9 = .ok (.iload_n 0, 1) := by decide +kernel
theorem dJ9_abs_0f7a4_10 : decode cJ9_abs_0f7a4 10 = .ok (.ireturn, 1) := by decide +kernel
theorem dJ9_max_7cf53_0 : decode cJ9_max_7cf53 0 = .ok (.iload_n 0, 1) := by decide +kernel
theorem dJ9_max_7cf53_1 : decode cJ9_max_7cf53 1 = .ok (.iload_n 1, 1) := by decide +kernel
theorem dJ9_max_7cf53_2 : decode cJ9_max_7cf53 2 = .ok (.if_icmp .lt 7, 3) := by decide +kernel
theorem dJ9_max_7cf53_5 : decode cJ9_max_7cf53 5 = .ok (.iload_n 0, 1) := by decide +kernel
theorem dJ9_max_7cf53_6 : decode cJ9_max_7cf53 6 = .ok (.goto 4, 3) := by decide +kernel
theorem dJ9_max_7cf53_9 : decode cJ9_max_7cf53 9 = .ok (.iload_n 1, 1) := by decide +kernel
theorem dJ9_max_7cf53_10 : decode cJ9_max_7cf53 10 = .ok (.ireturn, 1) := by decide +kernel
theorem dJ9_min_7cf53_0 : decode cJ9_min_7cf53 0 = .ok (.iload_n 0, 1) := by decide +kernel
theorem dJ9_min_7cf53_1 : decode cJ9_min_7cf53 1 = .ok (.iload_n 1, 1) := by decide +kernel
theorem dJ9_min_7cf53_2 : decode cJ9_min_7cf53 2 = .ok (.if_icmp .gt 7, 3) := by decide +kernel
theorem dJ9_min_7cf53_5 : decode cJ9_min_7cf53 5 = .ok (.iload_n 0, 1) := by decide +kernel
theorem dJ9_min_7cf53_6 : decode cJ9_min_7cf53 6 = .ok (.goto 4, 3) := by decide +kernel
theorem dJ9_min_7cf53_9 : decode cJ9_min_7cf53 9 = .ok (.iload_n 1, 1) := by decide +kernel
theorem dJ9_min_7cf53_10 : decode cJ9_min_7cf53 10 = .ok (.ireturn, 1) := by decide +kernel
abbrev vwCl : List vw_C := [(RX0, TX0, 3), (RX1, TX1, 8), (RX2, TX2, 5), (RX3, TX3, 3), (RX4, TX4, 3), (RX5, TX5, 13), (RX6, TX6, 7), (RX7, TX7, 7), (RX8, TX8, 6), (RX9, TX9, 3), (RX10, TX10, 14), (RX11, TX11, 46)]
